set_option maxHeartbeats 4000000 in
set_option maxRecDepth 100000 in
/-- reference: numberTo -/
theorem y_numberTo2 (l : Launch) (D : va_G) (cA : Nat → ClassId) (sa : Nat → Nat) (w0 : Nat) (ed : Nat) (nb : Nat) (ol : Nat) (v0 : Nat) (v1 : Nat) (v2 : Nat) (v3 : Nat) (v4 : Nat) (v9 : Nat) (v13 : Nat) (v27 : Nat) (v28 : Nat) (v29 : Nat) (v30 : Nat) (v31 : Nat) (v32 : Nat) (v33 : Nat) (v34 : Nat) (v35 : Nat) (v36 : Nat) (v37 : Nat) (g8 : Int32) (g11 : Int32) (g12 : Int32) (g19 : Int32) (g20 : Int32) (g21 : Int32) (g22 : Int32) (g23 : Int32) (g26 : Int32) (g5 : Int64) (g6 : Int64) (g25 : Int64) (ln : Nat) (cd : Nat) (tk : Int32) (kw : Int32) (ti : Nat) (ct : Nat) (fb : Nat → Int32) (fkw : Nat → Int64) (gP : Nat → Nat) (gR : Nat → Nat) (gS : Nat → Int32) (gK : Nat → Int32) (gV : Nat → Int64) (cn : Nat) (pq : Nat) (en : Nat) (dy : Nat) (fp : Nat → Int32) (lo : Nat) (hi : Nat) (sz : Nat) (hln : ln ≤ 700) (hct : ct ≤ 701) (hti : ti < ct) (hTX : TX fb ln ct gP gR gS gV gK) (hBY : BYn ln fb) (hTK : TKR (gK ti) (gV ti) (fb (gP ti)) tk kw g19 g25) (hKW : KW 15 fkw) (hhi : hi < 2147483648) (hlo : lo ≤ hi) (hcn : cn ≤ 10) (hpq : pq ≤ 8) (hen : en ≤ 60) (hdy : dy ≤ 20000) (hri : RI cn pq en dy fp) : Met l yX10_numberTo wsX10_numberTo ({ frames := 3, cells := 0, slots := 0, locals := 66 }) (va_Pc [.ref w0, .int 2, .int (nI lo), .int (nI hi)] (Wd D cA sa [(oX10 w0 v0 v1 v2 v3 v4 g5 g6 (nI ed) g8 v9 (nI nb) g11 g12 v13 (nI ln) (nI (gP ti)) (nI (gR (ti + 1))) tk kw g19 g20 g21 g22 g23 (nI cd) g25 g26 v27 v28 v29 v30 v31 v32 v33 v34 v35 v36 v37 (nI ol)), (v9, .inl (cA 0, 700, .inl fb)), (v13, .inl (cA 1, 15, .inr (.inl fkw))), (v1, .inl (cA 0, 326, .inl fp))] sz)) (va_Qi (fun (r : Int32) (u9 : Int32) => u9 = r ∧ (r = 0 ∨ r = 1)) (fun (u9 : Int32) t => ∃ tj : Nat, ∃ z17 : Int32, ∃ z18 : Int32, ∃ z19 : Int32, ∃ z20 : Int32, ∃ z21 : Int32, ∃ z26 : Int32, ∃ z25 : Int64, ∃ zp : Nat → Int32, tj < ct ∧ gP tj ≤ ln ∧ ti ≤ tj ∧ TKR (gK tj) (gV tj) (fb (gP tj)) z17 z18 z19 z25 ∧ RI cn pq en dy zp ∧ (u9 = 1 → tj = ti + 1) ∧ (u9 = 1 → z20 = g20) ∧ (u9 = 1 → z21 = g21) ∧ (u9 = 1 → gP ti + 1 ≤ gP tj) ∧ (u9 = 1 → nmE (lN lo) (lN hi) (gK ti) (gV ti) = none) ∧ (u9 = 1 → UpV 2 fp zp (gV ti)) ∧ (u9 = 0 → NmF lo hi (gK ti) (gV ti) z20) ∧ (u9 = 0 → z21 = gS ti) ∧ Wq D (va_A [(oX10 w0 v0 v1 v2 v3 v4 g5 g6 (nI ed) g8 v9 (nI nb) g11 g12 v13 (nI ln) (nI (gP ti)) (nI (gR (ti + 1))) tk kw g19 g20 g21 g22 g23 (nI cd) g25 g26 v27 v28 v29 v30 v31 v32 v33 v34 v35 v36 v37 (nI ol)), (v9, .inl (cA 0, 700, .inl fb)), (v13, .inl (cA 1, 15, .inr (.inl fkw))), (v1, .inl (cA 0, 326, .inl fp))] sz) [(oX10 w0 v0 v1 v2 v3 v4 g5 g6 (nI ed) g8 v9 (nI nb) g11 g12 v13 (nI ln) (nI (gP tj)) (nI (gR (tj + 1))) z17 z18 z19 z20 z21 g22 g23 (nI cd) z25 z26 v27 v28 v29 v30 v31 v32 v33 v34 v35 v36 v37 (nI ol)), (v9, .inl (cA 0, 700, .inl fb)), (v13, .inl (cA 1, 15, .inr (.inl fkw))), (v1, .inl (cA 0, 326, .inl zp))] t) (va_A [(oX10 w0 v0 v1 v2 v3 v4 g5 g6 (nI ed) g8 v9 (nI nb) g11 g12 v13 (nI ln) (nI (gP ti)) (nI (gR (ti + 1))) tk kw g19 g20 g21 g22 g23 (nI cd) g25 g26 v27 v28 v29 v30 v31 v32 v33 v34 v35 v36 v37 (nI ol)), (v9, .inl (cA 0, 700, .inl fb)), (v13, .inl (cA 1, 15, .inr (.inl fkw))), (v1, .inl (cA 0, 326, .inl fp))] sz)) 0 0 (va_A [(oX10 w0 v0 v1 v2 v3 v4 g5 g6 (nI ed) g8 v9 (nI nb) g11 g12 v13 (nI ln) (nI (gP ti)) (nI (gR (ti + 1))) tk kw g19 g20 g21 g22 g23 (nI cd) g25 g26 v27 v28 v29 v30 v31 v32 v33 v34 v35 v36 v37 (nI ol)), (v9, .inl (cA 0, 700, .inl fb)), (v13, .inl (cA 1, 15, .inr (.inl fkw))), (v1, .inl (cA 0, 326, .inl fp))] sz) := by
  refine Met.ofW (cc := cX10_numberTo) (maxL := 4) (ret := (some .boolean)) (by decide) rfl ?_
  intro p e s m args below meth c s₁ B hml hv
  obtain ⟨rfl, hsz, hP, hK, hD0, hC, hZ⟩ := hv
  have hx := B.exec
  have hb := B.bytes
  have hr := B.returns
  have hts := atoms_spec (ws := wsX10_numberTo) B.pre
  have hown : s.vm.findClass RX10 = some m.cls := findClass_of_methodNamed B.named
  have hlocks := B.notSynchronized
  subst hsz
  have hD := hD0.self (sz := s.heap.size)
  generalize hAe : va_A [(oX10 w0 v0 v1 v2 v3 v4 g5 g6 (nI ed) g8 v9 (nI nb) g11 g12 v13 (nI ln) (nI (gP ti)) (nI (gR (ti + 1))) tk kw g19 g20 g21 g22 g23 (nI cd) g25 g26 v27 v28 v29 v30 v31 v32 v33 v34 v35 v36 v37 (nI ol)), (v9, .inl (cA 0, 700, .inl fb)), (v13, .inl (cA 1, 15, .inr (.inl fkw))), (v1, .inl (cA 0, 326, .inl fp))] s.heap.size = A at hD hZ ⊢
  have hA : ∀ q : Nat, s.heap.size ≤ q → A q := fun q h => by rw [← hAe]; exact Or.inr h
  have hS : va_S A s.heap s.heap [] := va_S.rf
  have hP : va_P D vwCl [(oX10 w0 v0 v1 v2 v3 v4 g5 g6 (nI ed) g8 v9 (nI nb) g11 g12 v13 (nI ln) (nI (gP ti)) (nI (gR (ti + 1))) tk kw g19 g20 g21 g22 g23 (nI cd) g25 g26 v27 v28 v29 v30 v31 v32 v33 v34 v35 v36 v37 (nI ol)), (v9, .inl (cA 0, 700, .inl fb)), (v13, .inl (cA 1, 15, .inr (.inl fkw))), (v1, .inl (cA 0, 326, .inl fp))] s.heap := hP
  have hl := lv_entry ([.ref w0, .int 2, .int (nI lo), .int (nI hi)]) (n := 4) (Nat.le_of_ble_eq_true rfl)
  rw [lg_entry_eq]
  generalize (lg_sl ([.ref w0, .int 2, .int (nI lo), .int (nI hi)]) ++ List.replicate (4 - (lg_sl ([.ref w0, .int 2, .int (nI lo), .int (nI hi)])).length) Slot.unset).toArray = ls at hl ⊢
  have hl : lv_has ls 4 [(0, .ref w0), (1, .int 2), (2, .int (nI lo)), (3, .int (nI hi))] := hl
  have inX10 : ∀ w ∈ u_ws RX10 TX10 39, w ∈ wsX10_numberTo := by decide +kernel
  have hle9 := TX.le hTX hti
  refine lv_aload_n hx hb dX10_numberTo_0 rfl (lv_at hl 0 rfl) ?_
  refine lv_iload_n hx hb dX10_numberTo_1 rfl (lv_at hl 2 rfl) ?_
  refine lv_iload_n hx hb dX10_numberTo_2 rfl (lv_at hl 3 rfl) ?_
  obtain ⟨hPc, hDc, hFc⟩ := PDq.cut (wc := [(oX10 w0 v0 v1 v2 v3 v4 g5 g6 (nI ed) g8 v9 (nI nb) g11 g12 v13 (nI ln) (nI (gP ti)) (nI (gR (ti + 1))) tk kw g19 g20 g21 g22 g23 (nI cd) g25 g26 v27 v28 v29 v30 v31 v32 v33 v34 v35 v36 v37 (nI ol)), (v9, .inl (cA 0, 700, .inl fb)), (v13, .inl (cA 1, 15, .inr (.inl fkw)))]) hP hD hS hA [0, 1, 2] (by decide) rfl
  refine va_calli (va_runV (As := [.int (nI lo), .int (nI hi)]) (rest := []) ⟨hx, hb, hml, hown, hts⟩ (y_number l D cA sa w0 ed nb ol v0 v1 v2 v3 v4 v9 v13 v27 v28 v29 v30 v31 v32 v33 v34 v35 v36 v37 g8 g11 g12 g19 g20 g21 g22 g23 g26 g5 g6 g25 ln cd tk kw ti ct fb fkw gP gR gS gK gV lo hi s.heap.size hln hct hti hTX hBY hTK hKW hhi hlo) (cwV 2 hts gX10_numberTo_X10_number rfl rfl rfl (by decide +kernel) ⟨(Nat.le_of_ble_eq_true rfl), (Nat.le_of_ble_eq_true rfl)⟩) ⟨Wd.blind, va_recv hK hPc (ci := 11) (q0 := 0) rfl rfl, fun U hU hW => ⟨rfl, Wd.call hPc hDc hK hC hZ hS hFc U hU hW⟩⟩ rfl rfl hl.1 rfl (lv_room (Nat.le_of_ble_eq_true rfl)) dX10_numberTo_3 ⟨(Nat.le_of_ble_eq_true rfl), (Nat.le_of_ble_eq_true rfl)⟩) hS (fun q _ h => hFc q h) hFc (fun rn1 u t H1 locs ht hvm hw hB hz1 hk1 hS => ?_)
  obtain ⟨qn2, zn3, zn4, zn5, zn6, zn7, zn8, zn9, hn10, hn11, hn12, hn13, hn14, hn15, hn16, hn17, hn18, hn19, hn20, hn21, hn22, hP1, hD1⟩ := hB
  rw [ht] at hP1
  obtain ⟨hP, hD⟩ := PDq.join (w := [(v1, .inl (cA 0, 326, .inl fp)), (oX10 w0 v0 v1 v2 v3 v4 g5 g6 (nI ed) g8 v9 (nI nb) g11 g12 v13 (nI ln) (nI (gP qn2)) (nI (gR (qn2 + 1))) zn3 zn4 zn5 zn6 zn7 g22 g23 (nI cd) zn9 zn8 v27 v28 v29 v30 v31 v32 v33 v34 v35 v36 v37 (nI ol)), (v9, .inl (cA 0, 700, .inl fb)), (v13, .inl (cA 1, 15, .inr (.inl fkw)))]) 1 hP hD [0, 1, 2] [3] rfl rfl (by decide) (by decide) hk1 hFc hP1 hD1 rfl
  generalize H1 = H at hP hS ⊢
  rcases hw.2 with hr9 | hr9
  · skip
    have hn21 := hn21 (hw.1.trans hr9)
    have hn22 := hn22 (hw.1.trans hr9)
    subst hr9
    refine lv_if_ne (tgt := 11) hx hb dX10_numberTo_6 (by decide) (fun c9 => absurd c9 (by decide)) (fun c23 => ?_)
    refine lv_iconst (v := 0) hx hb dX10_numberTo_9 (by decide) ?_
    obtain ⟨hP9, hD9⟩ := PDq.sub (ws' := [(oX10 w0 v0 v1 v2 v3 v4 g5 g6 (nI ed) g8 v9 (nI nb) g11 g12 v13 (nI ln) (nI (gP qn2)) (nI (gR (qn2 + 1))) zn3 zn4 zn5 zn6 zn7 g22 g23 (nI cd) zn9 zn8 v27 v28 v29 v30 v31 v32 v33 v34 v35 v36 v37 (nI ol)), (v9, .inl (cA 0, 700, .inl fb)), (v13, .inl (cA 1, 15, .inr (.inl fkw))), (v1, .inl (cA 0, 326, .inl fp))]) hP hD [1, 2, 3, 0] (by decide) rfl
    refine W.widen (k := 0) (n := 0) (Nat.le_of_ble_eq_true rfl) (Nat.le_of_ble_eq_true rfl) ?_
    exact (W.zret (v := 0) hx hb hr (by first | rfl | decide) (fun t ht hW => ⟨⟨0, 0, rfl, ⟨rfl, by decide⟩, qn2, zn3, zn4, zn5, zn6, zn7, zn8, zn9, fp, hn10, hn11, hn12, hn13, hri, (fun h9 => absurd h9 (by decide)), (fun h9 => absurd h9 (by decide)), (fun h9 => absurd h9 (by decide)), (fun h9 => absurd h9 (by decide)), (fun h9 => absurd h9 (by decide)), (fun h9 => absurd h9 (by decide)), (fun _ => hn21), (fun _ => hn22), by rw [ht]; exact hP9, hD9⟩, hS.F ht⟩) hS.2.2 dX10_numberTo_10)
  · skip
    have hn14 := hn14 (hw.1.trans hr9)
    subst hn14
    obtain ⟨hP, hD⟩ : PDq D A [(v1, .inl (cA 0, 326, .inl fp)), (oX10 w0 v0 v1 v2 v3 v4 g5 g6 (nI ed) g8 v9 (nI nb) g11 g12 v13 (nI ln) (nI (gP (ti + 1))) (nI (gR ((ti + 1) + 1))) zn3 zn4 zn5 zn6 zn7 g22 g23 (nI cd) zn9 zn8 v27 v28 v29 v30 v31 v32 v33 v34 v35 v36 v37 (nI ol)), (v9, .inl (cA 0, 700, .inl fb)), (v13, .inl (cA 1, 15, .inr (.inl fkw)))] H := ⟨hP, hD⟩
    have hn15 := hn15 (hw.1.trans hr9)
    obtain rfl : g20 = zn6 := hn15.symm
    obtain ⟨hP, hD⟩ : PDq D A [(v1, .inl (cA 0, 326, .inl fp)), (oX10 w0 v0 v1 v2 v3 v4 g5 g6 (nI ed) g8 v9 (nI nb) g11 g12 v13 (nI ln) (nI (gP (ti + 1))) (nI (gR ((ti + 1) + 1))) zn3 zn4 zn5 g20 zn7 g22 g23 (nI cd) zn9 zn8 v27 v28 v29 v30 v31 v32 v33 v34 v35 v36 v37 (nI ol)), (v9, .inl (cA 0, 700, .inl fb)), (v13, .inl (cA 1, 15, .inr (.inl fkw)))] H := ⟨hP, hD⟩
    have hn16 := hn16 (hw.1.trans hr9)
    obtain rfl : g21 = zn7 := hn16.symm
    obtain ⟨hP, hD⟩ : PDq D A [(v1, .inl (cA 0, 326, .inl fp)), (oX10 w0 v0 v1 v2 v3 v4 g5 g6 (nI ed) g8 v9 (nI nb) g11 g12 v13 (nI ln) (nI (gP (ti + 1))) (nI (gR ((ti + 1) + 1))) zn3 zn4 zn5 g20 g21 g22 g23 (nI cd) zn9 zn8 v27 v28 v29 v30 v31 v32 v33 v34 v35 v36 v37 (nI ol)), (v9, .inl (cA 0, 700, .inl fb)), (v13, .inl (cA 1, 15, .inr (.inl fkw)))] H := ⟨hP, hD⟩
    have hn17 := hn17 (hw.1.trans hr9)
    have hn18 := hn18 (hw.1.trans hr9)
    have hn19 := hn19 (hw.1.trans hr9)
    have hn20 := hn20 (hw.1.trans hr9)
    obtain ⟨kn24, hn25, hn26, hn9⟩ := hn20
    subst hn9
    obtain ⟨hP, hD⟩ : PDq D A [(v1, .inl (cA 0, 326, .inl fp)), (oX10 w0 v0 v1 v2 v3 v4 g5 g6 (nI ed) g8 v9 (nI nb) g11 g12 v13 (nI ln) (nI (gP (ti + 1))) (nI (gR ((ti + 1) + 1))) zn3 zn4 zn5 g20 g21 g22 g23 (nI cd) zn9 (nI kn24) v27 v28 v29 v30 v31 v32 v33 v34 v35 v36 v37 (nI ol)), (v9, .inl (cA 0, 700, .inl fb)), (v13, .inl (cA 1, 15, .inr (.inl fkw)))] H := ⟨hP, hD⟩
    subst hr9
    refine lv_if_ne (tgt := 11) hx hb dX10_numberTo_6 (by decide) (fun c27 => ?_) (fun c9 => absurd c9 (by decide))
    refine lv_aload_n hx hb dX10_numberTo_11 rfl (lv_at hl 0 rfl) ?_
    refine va_get (D := D) (ci := 11) (v := .ref v1) (C := RX10) (T := TX10) (N := 39) hx hb hts inX10 hown hK hP 1 rfl rfl 1 (by decide) (hts (.fieldLink RX10 13 "EscrowDeskModel" "parsed" "[I") (by decide +kernel)) (fun _ h9 => h9) rfl dX10_numberTo_12 ?_
    refine lv_iload_n hx hb dX10_numberTo_15 rfl (lv_at hl 1 rfl) ?_
    refine lv_aload_n hx hb dX10_numberTo_16 rfl (lv_at hl 0 rfl) ?_
    refine va_get (D := D) (ci := 11) (v := .int (nI kn24)) (C := RX10) (T := TX10) (N := 39) hx hb hts inX10 hown hK hP 1 rfl rfl 26 (by decide) (hts (.fieldLink RX10 156 "EscrowDeskModel" "numberRead" "I") (by decide +kernel)) (fun _ h9 => h9) rfl dX10_numberTo_17 ?_
    refine va_iast hx hb hK hP hD hS 0 0 rfl rfl (vp_in_iff.mpr (by decide)) dX10_numberTo_20 (fun H locs hP hD hS => ?_)
    obtain ⟨hP, hD⟩ : PDq D A [(v1, .inl (cA 0, 326, .inl (upd fp 2 (nI kn24)))), (oX10 w0 v0 v1 v2 v3 v4 g5 g6 (nI ed) g8 v9 (nI nb) g11 g12 v13 (nI ln) (nI (gP (ti + 1))) (nI (gR ((ti + 1) + 1))) zn3 zn4 zn5 g20 g21 g22 g23 (nI cd) zn9 (nI kn24) v27 v28 v29 v30 v31 v32 v33 v34 v35 v36 v37 (nI ol)), (v9, .inl (cA 0, 700, .inl fb)), (v13, .inl (cA 1, 15, .inr (.inl fkw)))] H := ⟨hP, hD⟩
    have hn29 : RI cn pq en dy (upd fp 2 (nI kn24)) := RI.put hri 2 (nI kn24) (by decide) (by decide) (by decide) (by decide) (by decide)
    have hn30 : Upp 2 (nI kn24) fp (upd fp 2 (nI kn24)) := rfl
    have hn31 : Rpp (upd fp 2 (nI kn24)) := rfl
    generalize (upd fp 2 (nI kn24)) = fn28 at hP hD hn29 hn30 hn31
    obtain ⟨hP, hD⟩ : PDq D A [(v1, .inl (cA 0, 326, .inl fn28)), (oX10 w0 v0 v1 v2 v3 v4 g5 g6 (nI ed) g8 v9 (nI nb) g11 g12 v13 (nI ln) (nI (gP (ti + 1))) (nI (gR ((ti + 1) + 1))) zn3 zn4 zn5 g20 g21 g22 g23 (nI cd) zn9 (nI kn24) v27 v28 v29 v30 v31 v32 v33 v34 v35 v36 v37 (nI ol)), (v9, .inl (cA 0, 700, .inl fb)), (v13, .inl (cA 1, 15, .inr (.inl fkw)))] H := ⟨hP, hD⟩
    refine lv_iconst (v := 1) hx hb dX10_numberTo_21 (by decide) ?_
    obtain ⟨hP9, hD9⟩ := PDq.sub (ws' := [(oX10 w0 v0 v1 v2 v3 v4 g5 g6 (nI ed) g8 v9 (nI nb) g11 g12 v13 (nI ln) (nI (gP (ti + 1))) (nI (gR ((ti + 1) + 1))) zn3 zn4 zn5 g20 g21 g22 g23 (nI cd) zn9 (nI kn24) v27 v28 v29 v30 v31 v32 v33 v34 v35 v36 v37 (nI ol)), (v9, .inl (cA 0, 700, .inl fb)), (v13, .inl (cA 1, 15, .inr (.inl fkw))), (v1, .inl (cA 0, 326, .inl fn28))]) hP hD [1, 2, 3, 0] (by decide) rfl
    refine W.widen (k := 0) (n := 0) (Nat.le_of_ble_eq_true rfl) (Nat.le_of_ble_eq_true rfl) ?_
    exact (W.zret (v := 1) hx hb hr (by first | rfl | decide) (fun t ht hW => ⟨⟨1, 1, rfl, ⟨rfl, by decide⟩, (ti + 1), zn3, zn4, zn5, g20, g21, (nI kn24), zn9, fn28, hn10, hn11, hn12, hn13, hn29, (fun _ => rfl), (fun _ => rfl), (fun _ => rfl), (fun _ => hn17), (fun _ => hn18), (fun _ => (UpV.of hn30 hn19)), (fun h9 => absurd h9 (by decide)), (fun h9 => absurd h9 (by decide)), by rw [ht]; exact hP9, hD9⟩, hS.F ht⟩) hS.2.2 dX10_numberTo_22)

set_option maxHeartbeats 4000000 in
set_option maxRecDepth 100000 in
/-- reference: numberTo -/
theorem y_numberTo3 (l : Launch) (D : va_G) (cA : Nat → ClassId) (sa : Nat → Nat) (w0 : Nat) (ed : Nat) (nb : Nat) (ol : Nat) (v0 : Nat) (v1 : Nat) (v2 : Nat) (v3 : Nat) (v4 : Nat) (v9 : Nat) (v13 : Nat) (v27 : Nat) (v28 : Nat) (v29 : Nat) (v30 : Nat) (v31 : Nat) (v32 : Nat) (v33 : Nat) (v34 : Nat) (v35 : Nat) (v36 : Nat) (v37 : Nat) (g8 : Int32) (g11 : Int32) (g12 : Int32) (g19 : Int32) (g20 : Int32) (g21 : Int32) (g22 : Int32) (g23 : Int32) (g26 : Int32) (g5 : Int64) (g6 : Int64) (g25 : Int64) (ln : Nat) (cd : Nat) (tk : Int32) (kw : Int32) (ti : Nat) (ct : Nat) (fb : Nat → Int32) (fkw : Nat → Int64) (gP : Nat → Nat) (gR : Nat → Nat) (gS : Nat → Int32) (gK : Nat → Int32) (gV : Nat → Int64) (cn : Nat) (pq : Nat) (en : Nat) (dy : Nat) (fp : Nat → Int32) (lo : Nat) (hi : Nat) (sz : Nat) (hln : ln ≤ 700) (hct : ct ≤ 701) (hti : ti < ct) (hTX : TX fb ln ct gP gR gS gV gK) (hBY : BYn ln fb) (hTK : TKR (gK ti) (gV ti) (fb (gP ti)) tk kw g19 g25) (hKW : KW 15 fkw) (hhi : hi < 2147483648) (hlo : lo ≤ hi) (hcn : cn ≤ 10) (hpq : pq ≤ 8) (hen : en ≤ 60) (hdy : dy ≤ 20000) (hri : RI cn pq en dy fp) : Met l yX10_numberTo wsX10_numberTo ({ frames := 3, cells := 0, slots := 0, locals := 66 }) (va_Pc [.ref w0, .int 3, .int (nI lo), .int (nI hi)] (Wd D cA sa [(oX10 w0 v0 v1 v2 v3 v4 g5 g6 (nI ed) g8 v9 (nI nb) g11 g12 v13 (nI ln) (nI (gP ti)) (nI (gR (ti + 1))) tk kw g19 g20 g21 g22 g23 (nI cd) g25 g26 v27 v28 v29 v30 v31 v32 v33 v34 v35 v36 v37 (nI ol)), (v9, .inl (cA 0, 700, .inl fb)), (v13, .inl (cA 1, 15, .inr (.inl fkw))), (v1, .inl (cA 0, 326, .inl fp))] sz)) (va_Qi (fun (r : Int32) (u9 : Int32) => u9 = r ∧ (r = 0 ∨ r = 1)) (fun (u9 : Int32) t => ∃ tj : Nat, ∃ z17 : Int32, ∃ z18 : Int32, ∃ z19 : Int32, ∃ z20 : Int32, ∃ z21 : Int32, ∃ z26 : Int32, ∃ z25 : Int64, ∃ zp : Nat → Int32, tj < ct ∧ gP tj ≤ ln ∧ ti ≤ tj ∧ TKR (gK tj) (gV tj) (fb (gP tj)) z17 z18 z19 z25 ∧ RI cn pq en dy zp ∧ (u9 = 1 → tj = ti + 1) ∧ (u9 = 1 → z20 = g20) ∧ (u9 = 1 → z21 = g21) ∧ (u9 = 1 → gP ti + 1 ≤ gP tj) ∧ (u9 = 1 → nmE (lN lo) (lN hi) (gK ti) (gV ti) = none) ∧ (u9 = 1 → UpV 3 fp zp (gV ti)) ∧ (u9 = 0 → NmF lo hi (gK ti) (gV ti) z20) ∧ (u9 = 0 → z21 = gS ti) ∧ Wq D (va_A [(oX10 w0 v0 v1 v2 v3 v4 g5 g6 (nI ed) g8 v9 (nI nb) g11 g12 v13 (nI ln) (nI (gP ti)) (nI (gR (ti + 1))) tk kw g19 g20 g21 g22 g23 (nI cd) g25 g26 v27 v28 v29 v30 v31 v32 v33 v34 v35 v36 v37 (nI ol)), (v9, .inl (cA 0, 700, .inl fb)), (v13, .inl (cA 1, 15, .inr (.inl fkw))), (v1, .inl (cA 0, 326, .inl fp))] sz) [(oX10 w0 v0 v1 v2 v3 v4 g5 g6 (nI ed) g8 v9 (nI nb) g11 g12 v13 (nI ln) (nI (gP tj)) (nI (gR (tj + 1))) z17 z18 z19 z20 z21 g22 g23 (nI cd) z25 z26 v27 v28 v29 v30 v31 v32 v33 v34 v35 v36 v37 (nI ol)), (v9, .inl (cA 0, 700, .inl fb)), (v13, .inl (cA 1, 15, .inr (.inl fkw))), (v1, .inl (cA 0, 326, .inl zp))] t) (va_A [(oX10 w0 v0 v1 v2 v3 v4 g5 g6 (nI ed) g8 v9 (nI nb) g11 g12 v13 (nI ln) (nI (gP ti)) (nI (gR (ti + 1))) tk kw g19 g20 g21 g22 g23 (nI cd) g25 g26 v27 v28 v29 v30 v31 v32 v33 v34 v35 v36 v37 (nI ol)), (v9, .inl (cA 0, 700, .inl fb)), (v13, .inl (cA 1, 15, .inr (.inl fkw))), (v1, .inl (cA 0, 326, .inl fp))] sz)) 0 0 (va_A [(oX10 w0 v0 v1 v2 v3 v4 g5 g6 (nI ed) g8 v9 (nI nb) g11 g12 v13 (nI ln) (nI (gP ti)) (nI (gR (ti + 1))) tk kw g19 g20 g21 g22 g23 (nI cd) g25 g26 v27 v28 v29 v30 v31 v32 v33 v34 v35 v36 v37 (nI ol)), (v9, .inl (cA 0, 700, .inl fb)), (v13, .inl (cA 1, 15, .inr (.inl fkw))), (v1, .inl (cA 0, 326, .inl fp))] sz) := by
  refine Met.ofW (cc := cX10_numberTo) (maxL := 4) (ret := (some .boolean)) (by decide) rfl ?_
  intro p e s m args below meth c s₁ B hml hv
  obtain ⟨rfl, hsz, hP, hK, hD0, hC, hZ⟩ := hv
  have hx := B.exec
  have hb := B.bytes
  have hr := B.returns
  have hts := atoms_spec (ws := wsX10_numberTo) B.pre
  have hown : s.vm.findClass RX10 = some m.cls := findClass_of_methodNamed B.named
  have hlocks := B.notSynchronized
  subst hsz
  have hD := hD0.self (sz := s.heap.size)
  generalize hAe : va_A [(oX10 w0 v0 v1 v2 v3 v4 g5 g6 (nI ed) g8 v9 (nI nb) g11 g12 v13 (nI ln) (nI (gP ti)) (nI (gR (ti + 1))) tk kw g19 g20 g21 g22 g23 (nI cd) g25 g26 v27 v28 v29 v30 v31 v32 v33 v34 v35 v36 v37 (nI ol)), (v9, .inl (cA 0, 700, .inl fb)), (v13, .inl (cA 1, 15, .inr (.inl fkw))), (v1, .inl (cA 0, 326, .inl fp))] s.heap.size = A at hD hZ ⊢
  have hA : ∀ q : Nat, s.heap.size ≤ q → A q := fun q h => by rw [← hAe]; exact Or.inr h
  have hS : va_S A s.heap s.heap [] := va_S.rf
  have hP : va_P D vwCl [(oX10 w0 v0 v1 v2 v3 v4 g5 g6 (nI ed) g8 v9 (nI nb) g11 g12 v13 (nI ln) (nI (gP ti)) (nI (gR (ti + 1))) tk kw g19 g20 g21 g22 g23 (nI cd) g25 g26 v27 v28 v29 v30 v31 v32 v33 v34 v35 v36 v37 (nI ol)), (v9, .inl (cA 0, 700, .inl fb)), (v13, .inl (cA 1, 15, .inr (.inl fkw))), (v1, .inl (cA 0, 326, .inl fp))] s.heap := hP
  have hl := lv_entry ([.ref w0, .int 3, .int (nI lo), .int (nI hi)]) (n := 4) (Nat.le_of_ble_eq_true rfl)
  rw [lg_entry_eq]
  generalize (lg_sl ([.ref w0, .int 3, .int (nI lo), .int (nI hi)]) ++ List.replicate (4 - (lg_sl ([.ref w0, .int 3, .int (nI lo), .int (nI hi)])).length) Slot.unset).toArray = ls at hl ⊢
  have hl : lv_has ls 4 [(0, .ref w0), (1, .int 3), (2, .int (nI lo)), (3, .int (nI hi))] := hl
  have inX10 : ∀ w ∈ u_ws RX10 TX10 39, w ∈ wsX10_numberTo := by decide +kernel
  have hle9 := TX.le hTX hti
  refine lv_aload_n hx hb dX10_numberTo_0 rfl (lv_at hl 0 rfl) ?_
  refine lv_iload_n hx hb dX10_numberTo_1 rfl (lv_at hl 2 rfl) ?_
  refine lv_iload_n hx hb dX10_numberTo_2 rfl (lv_at hl 3 rfl) ?_
  obtain ⟨hPc, hDc, hFc⟩ := PDq.cut (wc := [(oX10 w0 v0 v1 v2 v3 v4 g5 g6 (nI ed) g8 v9 (nI nb) g11 g12 v13 (nI ln) (nI (gP ti)) (nI (gR (ti + 1))) tk kw g19 g20 g21 g22 g23 (nI cd) g25 g26 v27 v28 v29 v30 v31 v32 v33 v34 v35 v36 v37 (nI ol)), (v9, .inl (cA 0, 700, .inl fb)), (v13, .inl (cA 1, 15, .inr (.inl fkw)))]) hP hD hS hA [0, 1, 2] (by decide) rfl
  refine va_calli (va_runV (As := [.int (nI lo), .int (nI hi)]) (rest := []) ⟨hx, hb, hml, hown, hts⟩ (y_number l D cA sa w0 ed nb ol v0 v1 v2 v3 v4 v9 v13 v27 v28 v29 v30 v31 v32 v33 v34 v35 v36 v37 g8 g11 g12 g19 g20 g21 g22 g23 g26 g5 g6 g25 ln cd tk kw ti ct fb fkw gP gR gS gK gV lo hi s.heap.size hln hct hti hTX hBY hTK hKW hhi hlo) (cwV 2 hts gX10_numberTo_X10_number rfl rfl rfl (by decide +kernel) ⟨(Nat.le_of_ble_eq_true rfl), (Nat.le_of_ble_eq_true rfl)⟩) ⟨Wd.blind, va_recv hK hPc (ci := 11) (q0 := 0) rfl rfl, fun U hU hW => ⟨rfl, Wd.call hPc hDc hK hC hZ hS hFc U hU hW⟩⟩ rfl rfl hl.1 rfl (lv_room (Nat.le_of_ble_eq_true rfl)) dX10_numberTo_3 ⟨(Nat.le_of_ble_eq_true rfl), (Nat.le_of_ble_eq_true rfl)⟩) hS (fun q _ h => hFc q h) hFc (fun rn1 u t H1 locs ht hvm hw hB hz1 hk1 hS => ?_)
  obtain ⟨qn2, zn3, zn4, zn5, zn6, zn7, zn8, zn9, hn10, hn11, hn12, hn13, hn14, hn15, hn16, hn17, hn18, hn19, hn20, hn21, hn22, hP1, hD1⟩ := hB
  rw [ht] at hP1
  obtain ⟨hP, hD⟩ := PDq.join (w := [(v1, .inl (cA 0, 326, .inl fp)), (oX10 w0 v0 v1 v2 v3 v4 g5 g6 (nI ed) g8 v9 (nI nb) g11 g12 v13 (nI ln) (nI (gP qn2)) (nI (gR (qn2 + 1))) zn3 zn4 zn5 zn6 zn7 g22 g23 (nI cd) zn9 zn8 v27 v28 v29 v30 v31 v32 v33 v34 v35 v36 v37 (nI ol)), (v9, .inl (cA 0, 700, .inl fb)), (v13, .inl (cA 1, 15, .inr (.inl fkw)))]) 1 hP hD [0, 1, 2] [3] rfl rfl (by decide) (by decide) hk1 hFc hP1 hD1 rfl
  generalize H1 = H at hP hS ⊢
  rcases hw.2 with hr9 | hr9
  · skip
    have hn21 := hn21 (hw.1.trans hr9)
    have hn22 := hn22 (hw.1.trans hr9)
    subst hr9
    refine lv_if_ne (tgt := 11) hx hb dX10_numberTo_6 (by decide) (fun c9 => absurd c9 (by decide)) (fun c23 => ?_)
    refine lv_iconst (v := 0) hx hb dX10_numberTo_9 (by decide) ?_
    obtain ⟨hP9, hD9⟩ := PDq.sub (ws' := [(oX10 w0 v0 v1 v2 v3 v4 g5 g6 (nI ed) g8 v9 (nI nb) g11 g12 v13 (nI ln) (nI (gP qn2)) (nI (gR (qn2 + 1))) zn3 zn4 zn5 zn6 zn7 g22 g23 (nI cd) zn9 zn8 v27 v28 v29 v30 v31 v32 v33 v34 v35 v36 v37 (nI ol)), (v9, .inl (cA 0, 700, .inl fb)), (v13, .inl (cA 1, 15, .inr (.inl fkw))), (v1, .inl (cA 0, 326, .inl fp))]) hP hD [1, 2, 3, 0] (by decide) rfl
    refine W.widen (k := 0) (n := 0) (Nat.le_of_ble_eq_true rfl) (Nat.le_of_ble_eq_true rfl) ?_
    exact (W.zret (v := 0) hx hb hr (by first | rfl | decide) (fun t ht hW => ⟨⟨0, 0, rfl, ⟨rfl, by decide⟩, qn2, zn3, zn4, zn5, zn6, zn7, zn8, zn9, fp, hn10, hn11, hn12, hn13, hri, (fun h9 => absurd h9 (by decide)), (fun h9 => absurd h9 (by decide)), (fun h9 => absurd h9 (by decide)), (fun h9 => absurd h9 (by decide)), (fun h9 => absurd h9 (by decide)), (fun h9 => absurd h9 (by decide)), (fun _ => hn21), (fun _ => hn22), by rw [ht]; exact hP9, hD9⟩, hS.F ht⟩) hS.2.2 dX10_numberTo_10)
  · skip
    have hn14 := hn14 (hw.1.trans hr9)
    subst hn14
    obtain ⟨hP, hD⟩ : PDq D A [(v1, .inl (cA 0, 326, .inl fp)), (oX10 w0 v0 v1 v2 v3 v4 g5 g6 (nI ed) g8 v9 (nI nb) g11 g12 v13 (nI ln) (nI (gP (ti + 1))) (nI (gR ((ti + 1) + 1))) zn3 zn4 zn5 zn6 zn7 g22 g23 (nI cd) zn9 zn8 v27 v28 v29 v30 v31 v32 v33 v34 v35 v36 v37 (nI ol)), (v9, .inl (cA 0, 700, .inl fb)), (v13, .inl (cA 1, 15, .inr (.inl fkw)))] H := ⟨hP, hD⟩
    have hn15 := hn15 (hw.1.trans hr9)
    obtain rfl : g20 = zn6 := hn15.symm
    obtain ⟨hP, hD⟩ : PDq D A [(v1, .inl (cA 0, 326, .inl fp)), (oX10 w0 v0 v1 v2 v3 v4 g5 g6 (nI ed) g8 v9 (nI nb) g11 g12 v13 (nI ln) (nI (gP (ti + 1))) (nI (gR ((ti + 1) + 1))) zn3 zn4 zn5 g20 zn7 g22 g23 (nI cd) zn9 zn8 v27 v28 v29 v30 v31 v32 v33 v34 v35 v36 v37 (nI ol)), (v9, .inl (cA 0, 700, .inl fb)), (v13, .inl (cA 1, 15, .inr (.inl fkw)))] H := ⟨hP, hD⟩
    have hn16 := hn16 (hw.1.trans hr9)
    obtain rfl : g21 = zn7 := hn16.symm
    obtain ⟨hP, hD⟩ : PDq D A [(v1, .inl (cA 0, 326, .inl fp)), (oX10 w0 v0 v1 v2 v3 v4 g5 g6 (nI ed) g8 v9 (nI nb) g11 g12 v13 (nI ln) (nI (gP (ti + 1))) (nI (gR ((ti + 1) + 1))) zn3 zn4 zn5 g20 g21 g22 g23 (nI cd) zn9 zn8 v27 v28 v29 v30 v31 v32 v33 v34 v35 v36 v37 (nI ol)), (v9, .inl (cA 0, 700, .inl fb)), (v13, .inl (cA 1, 15, .inr (.inl fkw)))] H := ⟨hP, hD⟩
    have hn17 := hn17 (hw.1.trans hr9)
    have hn18 := hn18 (hw.1.trans hr9)
    have hn19 := hn19 (hw.1.trans hr9)
    have hn20 := hn20 (hw.1.trans hr9)
    obtain ⟨kn24, hn25, hn26, hn9⟩ := hn20
    subst hn9
    obtain ⟨hP, hD⟩ : PDq D A [(v1, .inl (cA 0, 326, .inl fp)), (oX10 w0 v0 v1 v2 v3 v4 g5 g6 (nI ed) g8 v9 (nI nb) g11 g12 v13 (nI ln) (nI (gP (ti + 1))) (nI (gR ((ti + 1) + 1))) zn3 zn4 zn5 g20 g21 g22 g23 (nI cd) zn9 (nI kn24) v27 v28 v29 v30 v31 v32 v33 v34 v35 v36 v37 (nI ol)), (v9, .inl (cA 0, 700, .inl fb)), (v13, .inl (cA 1, 15, .inr (.inl fkw)))] H := ⟨hP, hD⟩
    subst hr9
    refine lv_if_ne (tgt := 11) hx hb dX10_numberTo_6 (by decide) (fun c27 => ?_) (fun c9 => absurd c9 (by decide))
    refine lv_aload_n hx hb dX10_numberTo_11 rfl (lv_at hl 0 rfl) ?_
    refine va_get (D := D) (ci := 11) (v := .ref v1) (C := RX10) (T := TX10) (N := 39) hx hb hts inX10 hown hK hP 1 rfl rfl 1 (by decide) (hts (.fieldLink RX10 13 "EscrowDeskModel" "parsed" "[I") (by decide +kernel)) (fun _ h9 => h9) rfl dX10_numberTo_12 ?_
    refine lv_iload_n hx hb dX10_numberTo_15 rfl (lv_at hl 1 rfl) ?_
    refine lv_aload_n hx hb dX10_numberTo_16 rfl (lv_at hl 0 rfl) ?_
    refine va_get (D := D) (ci := 11) (v := .int (nI kn24)) (C := RX10) (T := TX10) (N := 39) hx hb hts inX10 hown hK hP 1 rfl rfl 26 (by decide) (hts (.fieldLink RX10 156 "EscrowDeskModel" "numberRead" "I") (by decide +kernel)) (fun _ h9 => h9) rfl dX10_numberTo_17 ?_
    refine va_iast hx hb hK hP hD hS 0 0 rfl rfl (vp_in_iff.mpr (by decide)) dX10_numberTo_20 (fun H locs hP hD hS => ?_)
    obtain ⟨hP, hD⟩ : PDq D A [(v1, .inl (cA 0, 326, .inl (upd fp 3 (nI kn24)))), (oX10 w0 v0 v1 v2 v3 v4 g5 g6 (nI ed) g8 v9 (nI nb) g11 g12 v13 (nI ln) (nI (gP (ti + 1))) (nI (gR ((ti + 1) + 1))) zn3 zn4 zn5 g20 g21 g22 g23 (nI cd) zn9 (nI kn24) v27 v28 v29 v30 v31 v32 v33 v34 v35 v36 v37 (nI ol)), (v9, .inl (cA 0, 700, .inl fb)), (v13, .inl (cA 1, 15, .inr (.inl fkw)))] H := ⟨hP, hD⟩
    have hn29 : RI cn pq en dy (upd fp 3 (nI kn24)) := RI.put hri 3 (nI kn24) (by decide) (by decide) (by decide) (by decide) (by decide)
    have hn30 : Upp 3 (nI kn24) fp (upd fp 3 (nI kn24)) := rfl
    have hn31 : Rpp (upd fp 3 (nI kn24)) := rfl
    generalize (upd fp 3 (nI kn24)) = fn28 at hP hD hn29 hn30 hn31
    obtain ⟨hP, hD⟩ : PDq D A [(v1, .inl (cA 0, 326, .inl fn28)), (oX10 w0 v0 v1 v2 v3 v4 g5 g6 (nI ed) g8 v9 (nI nb) g11 g12 v13 (nI ln) (nI (gP (ti + 1))) (nI (gR ((ti + 1) + 1))) zn3 zn4 zn5 g20 g21 g22 g23 (nI cd) zn9 (nI kn24) v27 v28 v29 v30 v31 v32 v33 v34 v35 v36 v37 (nI ol)), (v9, .inl (cA 0, 700, .inl fb)), (v13, .inl (cA 1, 15, .inr (.inl fkw)))] H := ⟨hP, hD⟩
    refine lv_iconst (v := 1) hx hb dX10_numberTo_21 (by decide) ?_
    obtain ⟨hP9, hD9⟩ := PDq.sub (ws' := [(oX10 w0 v0 v1 v2 v3 v4 g5 g6 (nI ed) g8 v9 (nI nb) g11 g12 v13 (nI ln) (nI (gP (ti + 1))) (nI (gR ((ti + 1) + 1))) zn3 zn4 zn5 g20 g21 g22 g23 (nI cd) zn9 (nI kn24) v27 v28 v29 v30 v31 v32 v33 v34 v35 v36 v37 (nI ol)), (v9, .inl (cA 0, 700, .inl fb)), (v13, .inl (cA 1, 15, .inr (.inl fkw))), (v1, .inl (cA 0, 326, .inl fn28))]) hP hD [1, 2, 3, 0] (by decide) rfl
    refine W.widen (k := 0) (n := 0) (Nat.le_of_ble_eq_true rfl) (Nat.le_of_ble_eq_true rfl) ?_
    exact (W.zret (v := 1) hx hb hr (by first | rfl | decide) (fun t ht hW => ⟨⟨1, 1, rfl, ⟨rfl, by decide⟩, (ti + 1), zn3, zn4, zn5, g20, g21, (nI kn24), zn9, fn28, hn10, hn11, hn12, hn13, hn29, (fun _ => rfl), (fun _ => rfl), (fun _ => rfl), (fun _ => hn17), (fun _ => hn18), (fun _ => (UpV.of hn30 hn19)), (fun h9 => absurd h9 (by decide)), (fun h9 => absurd h9 (by decide)), by rw [ht]; exact hP9, hD9⟩, hS.F ht⟩) hS.2.2 dX10_numberTo_22)

set_option maxHeartbeats 4000000 in
set_option maxRecDepth 100000 in
/-- reference: numberTo -/
theorem y_numberToM (l : Launch) (D : va_G) (cA : Nat → ClassId) (sa : Nat → Nat) (w0 : Nat) (ed : Nat) (nb : Nat) (ol : Nat) (v0 : Nat) (v1 : Nat) (v2 : Nat) (v3 : Nat) (v4 : Nat) (v9 : Nat) (v13 : Nat) (v27 : Nat) (v28 : Nat) (v29 : Nat) (v30 : Nat) (v31 : Nat) (v32 : Nat) (v33 : Nat) (v34 : Nat) (v35 : Nat) (v36 : Nat) (v37 : Nat) (g8 : Int32) (g11 : Int32) (g12 : Int32) (g19 : Int32) (g20 : Int32) (g21 : Int32) (g22 : Int32) (g23 : Int32) (g26 : Int32) (g5 : Int64) (g6 : Int64) (g25 : Int64) (ln : Nat) (cd : Nat) (tk : Int32) (kw : Int32) (ti : Nat) (ct : Nat) (fb : Nat → Int32) (fkw : Nat → Int64) (gP : Nat → Nat) (gR : Nat → Nat) (gS : Nat → Int32) (gK : Nat → Int32) (gV : Nat → Int64) (cn : Nat) (pq : Nat) (en : Nat) (dy : Nat) (fp : Nat → Int32) (lo : Nat) (hi : Nat) (ix : Nat) (sz : Nat) (hln : ln ≤ 700) (hct : ct ≤ 701) (hti : ti < ct) (hTX : TX fb ln ct gP gR gS gV gK) (hBY : BYn ln fb) (hTK : TKR (gK ti) (gV ti) (fb (gP ti)) tk kw g19 g25) (hKW : KW 15 fkw) (hhi : hi < 2147483648) (hlo : lo ≤ hi) (hcn : cn ≤ 10) (hpq : pq ≤ 8) (hen : en ≤ 60) (hdy : dy ≤ 20000) (hri : RI cn pq en dy fp) (hix : 16 ≤ ix) (hix2 : ix < 326) : Met l yX10_numberTo wsX10_numberTo ({ frames := 3, cells := 0, slots := 0, locals := 66 }) (va_Pc [.ref w0, .int (nI ix), .int (nI lo), .int (nI hi)] (Wd D cA sa [(oX10 w0 v0 v1 v2 v3 v4 g5 g6 (nI ed) g8 v9 (nI nb) g11 g12 v13 (nI ln) (nI (gP ti)) (nI (gR (ti + 1))) tk kw g19 g20 g21 g22 g23 (nI cd) g25 g26 v27 v28 v29 v30 v31 v32 v33 v34 v35 v36 v37 (nI ol)), (v9, .inl (cA 0, 700, .inl fb)), (v13, .inl (cA 1, 15, .inr (.inl fkw))), (v1, .inl (cA 0, 326, .inl fp))] sz)) (va_Qi (fun (r : Int32) (u9 : Int32) => u9 = r ∧ (r = 0 ∨ r = 1)) (fun (u9 : Int32) t => ∃ tj : Nat, ∃ z17 : Int32, ∃ z18 : Int32, ∃ z19 : Int32, ∃ z20 : Int32, ∃ z21 : Int32, ∃ z26 : Int32, ∃ z25 : Int64, ∃ zp : Nat → Int32, tj < ct ∧ gP tj ≤ ln ∧ ti ≤ tj ∧ TKR (gK tj) (gV tj) (fb (gP tj)) z17 z18 z19 z25 ∧ RI cn pq en dy zp ∧ (u9 = 1 → tj = ti + 1) ∧ (u9 = 1 → z20 = g20) ∧ (u9 = 1 → z21 = g21) ∧ (u9 = 1 → gP ti + 1 ≤ gP tj) ∧ (u9 = 1 → nmE (lN lo) (lN hi) (gK ti) (gV ti) = none) ∧ (u9 = 1 → UpV ix fp zp (gV ti)) ∧ (u9 = 0 → NmF lo hi (gK ti) (gV ti) z20) ∧ (u9 = 0 → z21 = gS ti) ∧ Wq D (va_A [(oX10 w0 v0 v1 v2 v3 v4 g5 g6 (nI ed) g8 v9 (nI nb) g11 g12 v13 (nI ln) (nI (gP ti)) (nI (gR (ti + 1))) tk kw g19 g20 g21 g22 g23 (nI cd) g25 g26 v27 v28 v29 v30 v31 v32 v33 v34 v35 v36 v37 (nI ol)), (v9, .inl (cA 0, 700, .inl fb)), (v13, .inl (cA 1, 15, .inr (.inl fkw))), (v1, .inl (cA 0, 326, .inl fp))] sz) [(oX10 w0 v0 v1 v2 v3 v4 g5 g6 (nI ed) g8 v9 (nI nb) g11 g12 v13 (nI ln) (nI (gP tj)) (nI (gR (tj + 1))) z17 z18 z19 z20 z21 g22 g23 (nI cd) z25 z26 v27 v28 v29 v30 v31 v32 v33 v34 v35 v36 v37 (nI ol)), (v9, .inl (cA 0, 700, .inl fb)), (v13, .inl (cA 1, 15, .inr (.inl fkw))), (v1, .inl (cA 0, 326, .inl zp))] t) (va_A [(oX10 w0 v0 v1 v2 v3 v4 g5 g6 (nI ed) g8 v9 (nI nb) g11 g12 v13 (nI ln) (nI (gP ti)) (nI (gR (ti + 1))) tk kw g19 g20 g21 g22 g23 (nI cd) g25 g26 v27 v28 v29 v30 v31 v32 v33 v34 v35 v36 v37 (nI ol)), (v9, .inl (cA 0, 700, .inl fb)), (v13, .inl (cA 1, 15, .inr (.inl fkw))), (v1, .inl (cA 0, 326, .inl fp))] sz)) 0 0 (va_A [(oX10 w0 v0 v1 v2 v3 v4 g5 g6 (nI ed) g8 v9 (nI nb) g11 g12 v13 (nI ln) (nI (gP ti)) (nI (gR (ti + 1))) tk kw g19 g20 g21 g22 g23 (nI cd) g25 g26 v27 v28 v29 v30 v31 v32 v33 v34 v35 v36 v37 (nI ol)), (v9, .inl (cA 0, 700, .inl fb)), (v13, .inl (cA 1, 15, .inr (.inl fkw))), (v1, .inl (cA 0, 326, .inl fp))] sz) := by
  refine Met.ofW (cc := cX10_numberTo) (maxL := 4) (ret := (some .boolean)) (by decide) rfl ?_
  intro p e s m args below meth c s₁ B hml hv
  obtain ⟨rfl, hsz, hP, hK, hD0, hC, hZ⟩ := hv
  have hx := B.exec
  have hb := B.bytes
  have hr := B.returns
  have hts := atoms_spec (ws := wsX10_numberTo) B.pre
  have hown : s.vm.findClass RX10 = some m.cls := findClass_of_methodNamed B.named
  have hlocks := B.notSynchronized
  subst hsz
  have hD := hD0.self (sz := s.heap.size)
  generalize hAe : va_A [(oX10 w0 v0 v1 v2 v3 v4 g5 g6 (nI ed) g8 v9 (nI nb) g11 g12 v13 (nI ln) (nI (gP ti)) (nI (gR (ti + 1))) tk kw g19 g20 g21 g22 g23 (nI cd) g25 g26 v27 v28 v29 v30 v31 v32 v33 v34 v35 v36 v37 (nI ol)), (v9, .inl (cA 0, 700, .inl fb)), (v13, .inl (cA 1, 15, .inr (.inl fkw))), (v1, .inl (cA 0, 326, .inl fp))] s.heap.size = A at hD hZ ⊢
  have hA : ∀ q : Nat, s.heap.size ≤ q → A q := fun q h => by rw [← hAe]; exact Or.inr h
  have hS : va_S A s.heap s.heap [] := va_S.rf
  have hP : va_P D vwCl [(oX10 w0 v0 v1 v2 v3 v4 g5 g6 (nI ed) g8 v9 (nI nb) g11 g12 v13 (nI ln) (nI (gP ti)) (nI (gR (ti + 1))) tk kw g19 g20 g21 g22 g23 (nI cd) g25 g26 v27 v28 v29 v30 v31 v32 v33 v34 v35 v36 v37 (nI ol)), (v9, .inl (cA 0, 700, .inl fb)), (v13, .inl (cA 1, 15, .inr (.inl fkw))), (v1, .inl (cA 0, 326, .inl fp))] s.heap := hP
  have hl := lv_entry ([.ref w0, .int (nI ix), .int (nI lo), .int (nI hi)]) (n := 4) (Nat.le_of_ble_eq_true rfl)
  rw [lg_entry_eq]
  generalize (lg_sl ([.ref w0, .int (nI ix), .int (nI lo), .int (nI hi)]) ++ List.replicate (4 - (lg_sl ([.ref w0, .int (nI ix), .int (nI lo), .int (nI hi)])).length) Slot.unset).toArray = ls at hl ⊢
  have hl : lv_has ls 4 [(0, .ref w0), (1, .int (nI ix)), (2, .int (nI lo)), (3, .int (nI hi))] := hl
  have inX10 : ∀ w ∈ u_ws RX10 TX10 39, w ∈ wsX10_numberTo := by decide +kernel
  have hle9 := TX.le hTX hti
  refine lv_aload_n hx hb dX10_numberTo_0 rfl (lv_at hl 0 rfl) ?_
  refine lv_iload_n hx hb dX10_numberTo_1 rfl (lv_at hl 2 rfl) ?_
  refine lv_iload_n hx hb dX10_numberTo_2 rfl (lv_at hl 3 rfl) ?_
  obtain ⟨hPc, hDc, hFc⟩ := PDq.cut (wc := [(oX10 w0 v0 v1 v2 v3 v4 g5 g6 (nI ed) g8 v9 (nI nb) g11 g12 v13 (nI ln) (nI (gP ti)) (nI (gR (ti + 1))) tk kw g19 g20 g21 g22 g23 (nI cd) g25 g26 v27 v28 v29 v30 v31 v32 v33 v34 v35 v36 v37 (nI ol)), (v9, .inl (cA 0, 700, .inl fb)), (v13, .inl (cA 1, 15, .inr (.inl fkw)))]) hP hD hS hA [0, 1, 2] (by decide) rfl
  refine va_calli (va_runV (As := [.int (nI lo), .int (nI hi)]) (rest := []) ⟨hx, hb, hml, hown, hts⟩ (y_number l D cA sa w0 ed nb ol v0 v1 v2 v3 v4 v9 v13 v27 v28 v29 v30 v31 v32 v33 v34 v35 v36 v37 g8 g11 g12 g19 g20 g21 g22 g23 g26 g5 g6 g25 ln cd tk kw ti ct fb fkw gP gR gS gK gV lo hi s.heap.size hln hct hti hTX hBY hTK hKW hhi hlo) (cwV 2 hts gX10_numberTo_X10_number rfl rfl rfl (by decide +kernel) ⟨(Nat.le_of_ble_eq_true rfl), (Nat.le_of_ble_eq_true rfl)⟩) ⟨Wd.blind, va_recv hK hPc (ci := 11) (q0 := 0) rfl rfl, fun U hU hW => ⟨rfl, Wd.call hPc hDc hK hC hZ hS hFc U hU hW⟩⟩ rfl rfl hl.1 rfl (lv_room (Nat.le_of_ble_eq_true rfl)) dX10_numberTo_3 ⟨(Nat.le_of_ble_eq_true rfl), (Nat.le_of_ble_eq_true rfl)⟩) hS (fun q _ h => hFc q h) hFc (fun rn1 u t H1 locs ht hvm hw hB hz1 hk1 hS => ?_)
  obtain ⟨qn2, zn3, zn4, zn5, zn6, zn7, zn8, zn9, hn10, hn11, hn12, hn13, hn14, hn15, hn16, hn17, hn18, hn19, hn20, hn21, hn22, hP1, hD1⟩ := hB
  rw [ht] at hP1
  obtain ⟨hP, hD⟩ := PDq.join (w := [(v1, .inl (cA 0, 326, .inl fp)), (oX10 w0 v0 v1 v2 v3 v4 g5 g6 (nI ed) g8 v9 (nI nb) g11 g12 v13 (nI ln) (nI (gP qn2)) (nI (gR (qn2 + 1))) zn3 zn4 zn5 zn6 zn7 g22 g23 (nI cd) zn9 zn8 v27 v28 v29 v30 v31 v32 v33 v34 v35 v36 v37 (nI ol)), (v9, .inl (cA 0, 700, .inl fb)), (v13, .inl (cA 1, 15, .inr (.inl fkw)))]) 1 hP hD [0, 1, 2] [3] rfl rfl (by decide) (by decide) hk1 hFc hP1 hD1 rfl
  generalize H1 = H at hP hS ⊢
  rcases hw.2 with hr9 | hr9
  · skip
    have hn21 := hn21 (hw.1.trans hr9)
    have hn22 := hn22 (hw.1.trans hr9)
    subst hr9
    refine lv_if_ne (tgt := 11) hx hb dX10_numberTo_6 (by decide) (fun c9 => absurd c9 (by decide)) (fun c23 => ?_)
    refine lv_iconst (v := 0) hx hb dX10_numberTo_9 (by decide) ?_
    obtain ⟨hP9, hD9⟩ := PDq.sub (ws' := [(oX10 w0 v0 v1 v2 v3 v4 g5 g6 (nI ed) g8 v9 (nI nb) g11 g12 v13 (nI ln) (nI (gP qn2)) (nI (gR (qn2 + 1))) zn3 zn4 zn5 zn6 zn7 g22 g23 (nI cd) zn9 zn8 v27 v28 v29 v30 v31 v32 v33 v34 v35 v36 v37 (nI ol)), (v9, .inl (cA 0, 700, .inl fb)), (v13, .inl (cA 1, 15, .inr (.inl fkw))), (v1, .inl (cA 0, 326, .inl fp))]) hP hD [1, 2, 3, 0] (by decide) rfl
    refine W.widen (k := 0) (n := 0) (Nat.le_of_ble_eq_true rfl) (Nat.le_of_ble_eq_true rfl) ?_
    exact (W.zret (v := 0) hx hb hr (by first | rfl | decide) (fun t ht hW => ⟨⟨0, 0, rfl, ⟨rfl, by decide⟩, qn2, zn3, zn4, zn5, zn6, zn7, zn8, zn9, fp, hn10, hn11, hn12, hn13, hri, (fun h9 => absurd h9 (by decide)), (fun h9 => absurd h9 (by decide)), (fun h9 => absurd h9 (by decide)), (fun h9 => absurd h9 (by decide)), (fun h9 => absurd h9 (by decide)), (fun h9 => absurd h9 (by decide)), (fun _ => hn21), (fun _ => hn22), by rw [ht]; exact hP9, hD9⟩, hS.F ht⟩) hS.2.2 dX10_numberTo_10)
  · skip
    have hn14 := hn14 (hw.1.trans hr9)
    subst hn14
    obtain ⟨hP, hD⟩ : PDq D A [(v1, .inl (cA 0, 326, .inl fp)), (oX10 w0 v0 v1 v2 v3 v4 g5 g6 (nI ed) g8 v9 (nI nb) g11 g12 v13 (nI ln) (nI (gP (ti + 1))) (nI (gR ((ti + 1) + 1))) zn3 zn4 zn5 zn6 zn7 g22 g23 (nI cd) zn9 zn8 v27 v28 v29 v30 v31 v32 v33 v34 v35 v36 v37 (nI ol)), (v9, .inl (cA 0, 700, .inl fb)), (v13, .inl (cA 1, 15, .inr (.inl fkw)))] H := ⟨hP, hD⟩
    have hn15 := hn15 (hw.1.trans hr9)
    obtain rfl : g20 = zn6 := hn15.symm
    obtain ⟨hP, hD⟩ : PDq D A [(v1, .inl (cA 0, 326, .inl fp)), (oX10 w0 v0 v1 v2 v3 v4 g5 g6 (nI ed) g8 v9 (nI nb) g11 g12 v13 (nI ln) (nI (gP (ti + 1))) (nI (gR ((ti + 1) + 1))) zn3 zn4 zn5 g20 zn7 g22 g23 (nI cd) zn9 zn8 v27 v28 v29 v30 v31 v32 v33 v34 v35 v36 v37 (nI ol)), (v9, .inl (cA 0, 700, .inl fb)), (v13, .inl (cA 1, 15, .inr (.inl fkw)))] H := ⟨hP, hD⟩
    have hn16 := hn16 (hw.1.trans hr9)
    obtain rfl : g21 = zn7 := hn16.symm
    obtain ⟨hP, hD⟩ : PDq D A [(v1, .inl (cA 0, 326, .inl fp)), (oX10 w0 v0 v1 v2 v3 v4 g5 g6 (nI ed) g8 v9 (nI nb) g11 g12 v13 (nI ln) (nI (gP (ti + 1))) (nI (gR ((ti + 1) + 1))) zn3 zn4 zn5 g20 g21 g22 g23 (nI cd) zn9 zn8 v27 v28 v29 v30 v31 v32 v33 v34 v35 v36 v37 (nI ol)), (v9, .inl (cA 0, 700, .inl fb)), (v13, .inl (cA 1, 15, .inr (.inl fkw)))] H := ⟨hP, hD⟩
    have hn17 := hn17 (hw.1.trans hr9)
    have hn18 := hn18 (hw.1.trans hr9)
    have hn19 := hn19 (hw.1.trans hr9)
    have hn20 := hn20 (hw.1.trans hr9)
    obtain ⟨kn24, hn25, hn26, hn9⟩ := hn20
    subst hn9
    obtain ⟨hP, hD⟩ : PDq D A [(v1, .inl (cA 0, 326, .inl fp)), (oX10 w0 v0 v1 v2 v3 v4 g5 g6 (nI ed) g8 v9 (nI nb) g11 g12 v13 (nI ln) (nI (gP (ti + 1))) (nI (gR ((ti + 1) + 1))) zn3 zn4 zn5 g20 g21 g22 g23 (nI cd) zn9 (nI kn24) v27 v28 v29 v30 v31 v32 v33 v34 v35 v36 v37 (nI ol)), (v9, .inl (cA 0, 700, .inl fb)), (v13, .inl (cA 1, 15, .inr (.inl fkw)))] H := ⟨hP, hD⟩
    subst hr9
    refine lv_if_ne (tgt := 11) hx hb dX10_numberTo_6 (by decide) (fun c27 => ?_) (fun c9 => absurd c9 (by decide))
    refine lv_aload_n hx hb dX10_numberTo_11 rfl (lv_at hl 0 rfl) ?_
    refine va_get (D := D) (ci := 11) (v := .ref v1) (C := RX10) (T := TX10) (N := 39) hx hb hts inX10 hown hK hP 1 rfl rfl 1 (by decide) (hts (.fieldLink RX10 13 "EscrowDeskModel" "parsed" "[I") (by decide +kernel)) (fun _ h9 => h9) rfl dX10_numberTo_12 ?_
    refine lv_iload_n hx hb dX10_numberTo_15 rfl (lv_at hl 1 rfl) ?_
    refine lv_aload_n hx hb dX10_numberTo_16 rfl (lv_at hl 0 rfl) ?_
    refine va_get (D := D) (ci := 11) (v := .int (nI kn24)) (C := RX10) (T := TX10) (N := 39) hx hb hts inX10 hown hK hP 1 rfl rfl 26 (by decide) (hts (.fieldLink RX10 156 "EscrowDeskModel" "numberRead" "I") (by decide +kernel)) (fun _ h9 => h9) rfl dX10_numberTo_17 ?_
    refine va_iast hx hb hK hP hD hS 0 0 rfl rfl (vp_in_nI (n := ix) (N := 326) (show ix < 326 by omega) (by decide)) dX10_numberTo_20 (fun H locs hP hD hS => ?_)
    obtain ⟨hP, hD⟩ : PDq D A [(v1, .inl (cA 0, 326, .inl (upd fp (((nI ix)).toNatClampNeg) (nI kn24)))), (oX10 w0 v0 v1 v2 v3 v4 g5 g6 (nI ed) g8 v9 (nI nb) g11 g12 v13 (nI ln) (nI (gP (ti + 1))) (nI (gR ((ti + 1) + 1))) zn3 zn4 zn5 g20 g21 g22 g23 (nI cd) zn9 (nI kn24) v27 v28 v29 v30 v31 v32 v33 v34 v35 v36 v37 (nI ol)), (v9, .inl (cA 0, 700, .inl fb)), (v13, .inl (cA 1, 15, .inr (.inl fkw)))] H := ⟨hP, hD⟩
    have hn29 : RI cn pq en dy (upd fp (((nI ix)).toNatClampNeg) (nI kn24)) := RI.putI hri ix (nI kn24) (by omega) (by omega)
    have hn30 : Upp ix (nI kn24) fp (upd fp (((nI ix)).toNatClampNeg) (nI kn24)) := Upp.of (by omega)
    have hn31 : Rpp (upd fp (((nI ix)).toNatClampNeg) (nI kn24)) := rfl
    generalize (upd fp (((nI ix)).toNatClampNeg) (nI kn24)) = fn28 at hP hD hn29 hn30 hn31
    obtain ⟨hP, hD⟩ : PDq D A [(v1, .inl (cA 0, 326, .inl fn28)), (oX10 w0 v0 v1 v2 v3 v4 g5 g6 (nI ed) g8 v9 (nI nb) g11 g12 v13 (nI ln) (nI (gP (ti + 1))) (nI (gR ((ti + 1) + 1))) zn3 zn4 zn5 g20 g21 g22 g23 (nI cd) zn9 (nI kn24) v27 v28 v29 v30 v31 v32 v33 v34 v35 v36 v37 (nI ol)), (v9, .inl (cA 0, 700, .inl fb)), (v13, .inl (cA 1, 15, .inr (.inl fkw)))] H := ⟨hP, hD⟩
    refine lv_iconst (v := 1) hx hb dX10_numberTo_21 (by decide) ?_
    obtain ⟨hP9, hD9⟩ := PDq.sub (ws' := [(oX10 w0 v0 v1 v2 v3 v4 g5 g6 (nI ed) g8 v9 (nI nb) g11 g12 v13 (nI ln) (nI (gP (ti + 1))) (nI (gR ((ti + 1) + 1))) zn3 zn4 zn5 g20 g21 g22 g23 (nI cd) zn9 (nI kn24) v27 v28 v29 v30 v31 v32 v33 v34 v35 v36 v37 (nI ol)), (v9, .inl (cA 0, 700, .inl fb)), (v13, .inl (cA 1, 15, .inr (.inl fkw))), (v1, .inl (cA 0, 326, .inl fn28))]) hP hD [1, 2, 3, 0] (by decide) rfl
    refine W.widen (k := 0) (n := 0) (Nat.le_of_ble_eq_true rfl) (Nat.le_of_ble_eq_true rfl) ?_
    exact (W.zret (v := 1) hx hb hr (by first | rfl | decide) (fun t ht hW => ⟨⟨1, 1, rfl, ⟨rfl, by decide⟩, (ti + 1), zn3, zn4, zn5, g20, g21, (nI kn24), zn9, fn28, hn10, hn11, hn12, hn13, hn29, (fun _ => rfl), (fun _ => rfl), (fun _ => rfl), (fun _ => hn17), (fun _ => hn18), (fun _ => (UpV.of hn30 hn19)), (fun h9 => absurd h9 (by decide)), (fun h9 => absurd h9 (by decide)), by rw [ht]; exact hP9, hD9⟩, hS.F ht⟩) hS.2.2 dX10_numberTo_22)

set_option maxHeartbeats 4000000 in
set_option maxRecDepth 100000 in
/-- reference: find -/
theorem y_find10 (l : Launch) (D : va_G) (cA : Nat → ClassId) (sa : Nat → Nat) (h0 : Nat) (k : Nat) (w : Int64) (l9 : Nat → Int64) (sz : Nat) (hk : k ≤ 10) : Met l yX10_find wsX10_find ({ frames := 0, cells := 0, slots := 0, locals := 0 }) (va_Pc [.ref h0, .int (nI k), .long w] (Wd D cA sa [(h0, .inl (cA 1, 10, .inr (.inl l9)))] sz)) (va_Qi (fun (r : Int32) (_ : Unit) => (r = -1 ∧ ∀ j, j < k → l9 j ≠ w) ∨ ∃ n, n < k ∧ r = nI n ∧ l9 n = w ∧ Nof n w l9) (fun (_ : Unit) t => Wq D (va_A [(h0, .inl (cA 1, 10, .inr (.inl l9)))] sz) [(h0, .inl (cA 1, 10, .inr (.inl l9)))] t) (va_A [(h0, .inl (cA 1, 10, .inr (.inl l9)))] sz)) 0 0 (va_A [(h0, .inl (cA 1, 10, .inr (.inl l9)))] sz) := by
  refine Met.ofW (cc := cX10_find) (maxL := 5) (ret := (some .int)) (by decide) rfl ?_
  intro p e s m args below meth c s₁ B hml hv
  obtain ⟨rfl, hsz, hP, hK, hD0, hC, hZ⟩ := hv
  have hx := B.exec
  have hb := B.bytes
  have hr := B.returns
  have hts := atoms_spec (ws := wsX10_find) B.pre
  have hown : s.vm.findClass RX10 = some m.cls := findClass_of_methodNamed B.named
  have hlocks := B.notSynchronized
  subst hsz
  have hD := hD0.self (sz := s.heap.size)
  generalize hAe : va_A [(h0, .inl (cA 1, 10, .inr (.inl l9)))] s.heap.size = A at hD hZ ⊢
  have hA : ∀ q : Nat, s.heap.size ≤ q → A q := fun q h => by rw [← hAe]; exact Or.inr h
  have hS : va_S A s.heap s.heap [] := va_S.rf
  have hP : va_P D vwCl [(h0, .inl (cA 1, 10, .inr (.inl l9)))] s.heap := hP
  have hl := lv_entry ([.ref h0, .int (nI k), .long w]) (n := 5) (Nat.le_of_ble_eq_true rfl)
  rw [lg_entry_eq]
  generalize (lg_sl ([.ref h0, .int (nI k), .long w]) ++ List.replicate (5 - (lg_sl ([.ref h0, .int (nI k), .long w])).length) Slot.unset).toArray = ls at hl ⊢
  have hl : lv_has ls 5 [(0, .ref h0), (1, .int (nI k)), (2, .long w)] := hl
  refine lv_iconst (v := 0) hx hb dX10_find_0 (by decide) ?_
  refine lv_istore (lv' := [(4, .int 0), (0, .ref h0), (1, .int (nI k)), (2, .long w)]) hx hb dX10_find_1 hl (by decide) rfl (fun ls hl => ?_)
  have loop1 : ∀ (n1 i1 : Nat) (H : Heap) (locs : List Loc) (ls : Array Slot), i1 + n1 = k → Nof i1 w l9 → va_P D vwCl [(h0, .inl (cA 1, 10, .inr (.inl l9)))] H → va_D A [(h0, .inl (cA 1, 10, .inr (.inl l9)))] → va_S A s.heap H locs → lv_has ls 5 [(4, .int (nI i1)), (0, .ref h0), (1, .int (nI k)), (2, .long w)] → W p l e (headSpec wsX10_find ({ frames := 0, cells := 0, slots := 0, locals := 0 } : Room)).room s m ([.ref h0, .int (nI k), .long w] : List Value).toArray below meth c H locs 0 0 (MQ below (va_Qi (fun (r : Int32) (_ : Unit) => (r = -1 ∧ ∀ j, j < k → l9 j ≠ w) ∨ ∃ n, n < k ∧ r = nI n ∧ l9 n = w ∧ Nof n w l9) (fun (_ : Unit) t => Wq D A [(h0, .inl (cA 1, 10, .inr (.inl l9)))] t) A) ([.ref h0, .int (nI k), .long w] : List Value).toArray s 0 0 A) (F0 m 3 ls []) := by
    intro n1
    induction n1 with
    | zero =>
      intro i1 H locs ls hi1 hv0_1 hP hD hS hl
      obtain rfl : k = i1 := by omega
      refine lv_iload hx hb dX10_find_3 (lv_at hl 0 rfl) ?_
      refine lv_iload_n hx hb dX10_find_5 rfl (lv_at hl 2 rfl) ?_
      refine lv_icmp_ge (tgt := 27) hx hb dX10_find_6 (by decide) (fun c1 => ?_) (fun c9 => absurd (nI_le (a := k) (b := k) (show k ≤ k by omega) (by omega)) c9)
      refine lv_iconst (v := (-1)) hx hb dX10_find_27 (by decide) ?_
      obtain ⟨hP9, hD9⟩ := PDq.sub (ws' := [(h0, .inl (cA 1, 10, .inr (.inl l9)))]) hP hD [0] (by decide) rfl
      refine W.widen (k := 0) (n := 0) (Nat.le_of_ble_eq_true rfl) (Nat.le_of_ble_eq_true rfl) ?_
      exact (W.iret (v := (-1)) hx hb hr (fun t ht hW => ⟨⟨(-1), (), rfl, (Or.inl ⟨rfl, hv0_1⟩), by rw [ht]; exact hP9, hD9⟩, hS.F ht⟩) hS.2.2 dX10_find_28)
    | succ n1 ih1 =>
      intro i1 H locs ls hi1 hv0_1 hP hD hS hl
      refine lv_iload hx hb dX10_find_3 (lv_at hl 0 rfl) ?_
      refine lv_iload_n hx hb dX10_find_5 rfl (lv_at hl 2 rfl) ?_
      refine lv_icmp_ge (tgt := 27) hx hb dX10_find_6 (by decide) (fun c9 => absurd c9 (nI_ge (a := i1) (b := k) (show i1 < k by omega) (by omega))) (fun c2 => ?_)
      refine lv_aload_n hx hb dX10_find_9 rfl (lv_at hl 1 rfl) ?_
      refine lv_iload hx hb dX10_find_10 (lv_at hl 0 rfl) ?_
      refine va_lald hx hb hK hP 0 1 rfl rfl (vp_in_nI (n := i1) (N := 10) (show i1 < 10 by omega) (by decide)) dX10_find_12 ?_
      refine lv_topl (fun yn3 eyn3 => ?_)
      obtain rfl : yn3 = (l9 i1) := eyn3.trans (by rw [nI_clamp (by omega)])
      refine lv_lload_n hx hb dX10_find_13 rfl (lv_at hl 3 rfl) ?_
      refine W.lcmp hx hb dX10_find_14 ?_
      refine lv_if_ne (tgt := 21) hx hb dX10_find_15 (by decide) (fun c4 => ?_) (fun c4 => ?_)
      · skip
        refine lv_iinc (v := (nI (i1 + 1))) (lv' := [(4, .int (nI (i1 + 1))), (0, .ref h0), (1, .int (nI k)), (2, .long w)]) hx hb dX10_find_21 hl (k := 0) rfl (nI_1 _) (by decide) rfl (fun ls hl => ?_)
        refine lv_goto (tgt := 3) hx hb dX10_find_24 (by decide) ?_
        obtain ⟨hP9, hD9⟩ := PDq.sub (ws' := [(h0, .inl (cA 1, 10, .inr (.inl l9)))]) hP hD [0] (by decide) rfl
        exact ih1 (i1 + 1)  H _ ls (by omega) (Nof.step hv0_1 c4) hP9 hD9 hS (lv_sub hl [0, 1, 2, 3] rfl)
      · skip
        refine lv_iload hx hb dX10_find_18 (lv_at hl 0 rfl) ?_
        obtain ⟨hP9, hD9⟩ := PDq.sub (ws' := [(h0, .inl (cA 1, 10, .inr (.inl l9)))]) hP hD [0] (by decide) rfl
        refine W.widen (k := 0) (n := 0) (Nat.le_of_ble_eq_true rfl) (Nat.le_of_ble_eq_true rfl) ?_
        exact (W.iret (v := (nI i1)) hx hb hr (fun t ht hW => ⟨⟨(nI i1), (), rfl, (Or.inr ⟨i1, by omega, rfl, lg_eq0 c4, hv0_1⟩), by rw [ht]; exact hP9, hD9⟩, hS.F ht⟩) hS.2.2 dX10_find_20)
  obtain ⟨hP9, hD9⟩ := PDq.sub (ws' := [(h0, .inl (cA 1, 10, .inr (.inl l9)))]) hP hD [0] (by decide) rfl
  exact loop1 (k - 0) 0  _ _ ls (by omega) (Nof.zero w l9) hP9 hD9 hS (lv_sub hl [0, 1, 2, 3] rfl)

set_option maxHeartbeats 4000000 in
set_option maxRecDepth 100000 in
/-- reference: find -/
theorem y_find8 (l : Launch) (D : va_G) (cA : Nat → ClassId) (sa : Nat → Nat) (h0 : Nat) (k : Nat) (w : Int64) (l9 : Nat → Int64) (sz : Nat) (hk : k ≤ 8) : Met l yX10_find wsX10_find ({ frames := 0, cells := 0, slots := 0, locals := 0 }) (va_Pc [.ref h0, .int (nI k), .long w] (Wd D cA sa [(h0, .inl (cA 1, 8, .inr (.inl l9)))] sz)) (va_Qi (fun (r : Int32) (_ : Unit) => (r = -1 ∧ ∀ j, j < k → l9 j ≠ w) ∨ ∃ n, n < k ∧ r = nI n ∧ l9 n = w ∧ Nof n w l9) (fun (_ : Unit) t => Wq D (va_A [(h0, .inl (cA 1, 8, .inr (.inl l9)))] sz) [(h0, .inl (cA 1, 8, .inr (.inl l9)))] t) (va_A [(h0, .inl (cA 1, 8, .inr (.inl l9)))] sz)) 0 0 (va_A [(h0, .inl (cA 1, 8, .inr (.inl l9)))] sz) := by
  refine Met.ofW (cc := cX10_find) (maxL := 5) (ret := (some .int)) (by decide) rfl ?_
  intro p e s m args below meth c s₁ B hml hv
  obtain ⟨rfl, hsz, hP, hK, hD0, hC, hZ⟩ := hv
  have hx := B.exec
  have hb := B.bytes
  have hr := B.returns
  have hts := atoms_spec (ws := wsX10_find) B.pre
  have hown : s.vm.findClass RX10 = some m.cls := findClass_of_methodNamed B.named
  have hlocks := B.notSynchronized
  subst hsz
  have hD := hD0.self (sz := s.heap.size)
  generalize hAe : va_A [(h0, .inl (cA 1, 8, .inr (.inl l9)))] s.heap.size = A at hD hZ ⊢
  have hA : ∀ q : Nat, s.heap.size ≤ q → A q := fun q h => by rw [← hAe]; exact Or.inr h
  have hS : va_S A s.heap s.heap [] := va_S.rf
  have hP : va_P D vwCl [(h0, .inl (cA 1, 8, .inr (.inl l9)))] s.heap := hP
  have hl := lv_entry ([.ref h0, .int (nI k), .long w]) (n := 5) (Nat.le_of_ble_eq_true rfl)
  rw [lg_entry_eq]
  generalize (lg_sl ([.ref h0, .int (nI k), .long w]) ++ List.replicate (5 - (lg_sl ([.ref h0, .int (nI k), .long w])).length) Slot.unset).toArray = ls at hl ⊢
  have hl : lv_has ls 5 [(0, .ref h0), (1, .int (nI k)), (2, .long w)] := hl
  refine lv_iconst (v := 0) hx hb dX10_find_0 (by decide) ?_
  refine lv_istore (lv' := [(4, .int 0), (0, .ref h0), (1, .int (nI k)), (2, .long w)]) hx hb dX10_find_1 hl (by decide) rfl (fun ls hl => ?_)
  have loop1 : ∀ (n1 i1 : Nat) (H : Heap) (locs : List Loc) (ls : Array Slot), i1 + n1 = k → Nof i1 w l9 → va_P D vwCl [(h0, .inl (cA 1, 8, .inr (.inl l9)))] H → va_D A [(h0, .inl (cA 1, 8, .inr (.inl l9)))] → va_S A s.heap H locs → lv_has ls 5 [(4, .int (nI i1)), (0, .ref h0), (1, .int (nI k)), (2, .long w)] → W p l e (headSpec wsX10_find ({ frames := 0, cells := 0, slots := 0, locals := 0 } : Room)).room s m ([.ref h0, .int (nI k), .long w] : List Value).toArray below meth c H locs 0 0 (MQ below (va_Qi (fun (r : Int32) (_ : Unit) => (r = -1 ∧ ∀ j, j < k → l9 j ≠ w) ∨ ∃ n, n < k ∧ r = nI n ∧ l9 n = w ∧ Nof n w l9) (fun (_ : Unit) t => Wq D A [(h0, .inl (cA 1, 8, .inr (.inl l9)))] t) A) ([.ref h0, .int (nI k), .long w] : List Value).toArray s 0 0 A) (F0 m 3 ls []) := by
    intro n1
    induction n1 with
    | zero =>
      intro i1 H locs ls hi1 hv0_1 hP hD hS hl
      obtain rfl : k = i1 := by omega
      refine lv_iload hx hb dX10_find_3 (lv_at hl 0 rfl) ?_
      refine lv_iload_n hx hb dX10_find_5 rfl (lv_at hl 2 rfl) ?_
      refine lv_icmp_ge (tgt := 27) hx hb dX10_find_6 (by decide) (fun c1 => ?_) (fun c9 => absurd (nI_le (a := k) (b := k) (show k ≤ k by omega) (by omega)) c9)
      refine lv_iconst (v := (-1)) hx hb dX10_find_27 (by decide) ?_
      obtain ⟨hP9, hD9⟩ := PDq.sub (ws' := [(h0, .inl (cA 1, 8, .inr (.inl l9)))]) hP hD [0] (by decide) rfl
      refine W.widen (k := 0) (n := 0) (Nat.le_of_ble_eq_true rfl) (Nat.le_of_ble_eq_true rfl) ?_
      exact (W.iret (v := (-1)) hx hb hr (fun t ht hW => ⟨⟨(-1), (), rfl, (Or.inl ⟨rfl, hv0_1⟩), by rw [ht]; exact hP9, hD9⟩, hS.F ht⟩) hS.2.2 dX10_find_28)
    | succ n1 ih1 =>
      intro i1 H locs ls hi1 hv0_1 hP hD hS hl
      refine lv_iload hx hb dX10_find_3 (lv_at hl 0 rfl) ?_
      refine lv_iload_n hx hb dX10_find_5 rfl (lv_at hl 2 rfl) ?_
      refine lv_icmp_ge (tgt := 27) hx hb dX10_find_6 (by decide) (fun c9 => absurd c9 (nI_ge (a := i1) (b := k) (show i1 < k by omega) (by omega))) (fun c2 => ?_)
      refine lv_aload_n hx hb dX10_find_9 rfl (lv_at hl 1 rfl) ?_
      refine lv_iload hx hb dX10_find_10 (lv_at hl 0 rfl) ?_
      refine va_lald hx hb hK hP 0 1 rfl rfl (vp_in_nI (n := i1) (N := 8) (show i1 < 8 by omega) (by decide)) dX10_find_12 ?_
      refine lv_topl (fun yn3 eyn3 => ?_)
      obtain rfl : yn3 = (l9 i1) := eyn3.trans (by rw [nI_clamp (by omega)])
      refine lv_lload_n hx hb dX10_find_13 rfl (lv_at hl 3 rfl) ?_
      refine W.lcmp hx hb dX10_find_14 ?_
      refine lv_if_ne (tgt := 21) hx hb dX10_find_15 (by decide) (fun c4 => ?_) (fun c4 => ?_)
      · skip
        refine lv_iinc (v := (nI (i1 + 1))) (lv' := [(4, .int (nI (i1 + 1))), (0, .ref h0), (1, .int (nI k)), (2, .long w)]) hx hb dX10_find_21 hl (k := 0) rfl (nI_1 _) (by decide) rfl (fun ls hl => ?_)
        refine lv_goto (tgt := 3) hx hb dX10_find_24 (by decide) ?_
        obtain ⟨hP9, hD9⟩ := PDq.sub (ws' := [(h0, .inl (cA 1, 8, .inr (.inl l9)))]) hP hD [0] (by decide) rfl
        exact ih1 (i1 + 1)  H _ ls (by omega) (Nof.step hv0_1 c4) hP9 hD9 hS (lv_sub hl [0, 1, 2, 3] rfl)
      · skip
        refine lv_iload hx hb dX10_find_18 (lv_at hl 0 rfl) ?_
        obtain ⟨hP9, hD9⟩ := PDq.sub (ws' := [(h0, .inl (cA 1, 8, .inr (.inl l9)))]) hP hD [0] (by decide) rfl
        refine W.widen (k := 0) (n := 0) (Nat.le_of_ble_eq_true rfl) (Nat.le_of_ble_eq_true rfl) ?_
        exact (W.iret (v := (nI i1)) hx hb hr (fun t ht hW => ⟨⟨(nI i1), (), rfl, (Or.inr ⟨i1, by omega, rfl, lg_eq0 c4, hv0_1⟩), by rw [ht]; exact hP9, hD9⟩, hS.F ht⟩) hS.2.2 dX10_find_20)
  obtain ⟨hP9, hD9⟩ := PDq.sub (ws' := [(h0, .inl (cA 1, 8, .inr (.inl l9)))]) hP hD [0] (by decide) rfl
  exact loop1 (k - 0) 0  _ _ ls (by omega) (Nof.zero w l9) hP9 hD9 hS (lv_sub hl [0, 1, 2, 3] rfl)

set_option maxHeartbeats 4000000 in
set_option maxRecDepth 100000 in
/-- reference: proofFact -/
theorem y_proofFact (l : Launch) (D : va_G) (cA : Nat → ClassId) (sa : Nat → Nat) (w0 : Nat) (ed : Nat) (nb : Nat) (ol : Nat) (v0 : Nat) (v1 : Nat) (v2 : Nat) (v3 : Nat) (v4 : Nat) (v9 : Nat) (v13 : Nat) (v27 : Nat) (v28 : Nat) (v29 : Nat) (v30 : Nat) (v31 : Nat) (v32 : Nat) (v33 : Nat) (v34 : Nat) (v35 : Nat) (v36 : Nat) (v37 : Nat) (g8 : Int32) (g11 : Int32) (g12 : Int32) (g19 : Int32) (g20 : Int32) (g21 : Int32) (g23 : Int32) (g26 : Int32) (g5 : Int64) (g6 : Int64) (g25 : Int64) (ln : Nat) (cd : Nat) (tk : Int32) (kw : Int32) (ti : Nat) (ct : Nat) (fb : Nat → Int32) (fkw : Nat → Int64) (gP : Nat → Nat) (gR : Nat → Nat) (gS : Nat → Int32) (gK : Nat → Int32) (gV : Nat → Int64) (cn : Nat) (pq : Nat) (en : Nat) (dy : Nat) (fp : Nat → Int32) (sl : Nat) (o9 : Nat) (l28 : Nat → Int64) (l30 : Nat → Int64) (fc : Nat → Int32) (ml : List Int64) (pl : List Int64) (og : Int32) (sz : Nat) (hln : ln ≤ 700) (hct : ct ≤ 701) (hti : ti < ct) (hTX : TX fb ln ct gP gR gS gV gK) (hBY : BYn ln fb) (hTK : TKR (gK ti) (gV ti) (fb (gP ti)) tk kw g19 g25) (hKW : KW 15 fkw) (hcn : cn ≤ 10) (hpq : pq ≤ 8) (hen : en ≤ 60) (hdy : dy ≤ 20000) (hri : RI cn pq en dy fp) (hcd : 2 * cd + sl ≤ gP ti) (hNM : NL ml cn l28) (hNP : NL pl pq l30) (hk : gK ti = 18) : Met l yX10_proofFact wsX10_proofFact ({ frames := 2, cells := 0, slots := 0, locals := 44 }) (va_Pc [.ref w0] (Wd D cA sa [(oX10 w0 v0 v1 v2 v3 v4 g5 g6 (nI ed) g8 v9 (nI nb) g11 g12 v13 (nI ln) (nI (gP ti)) (nI (gR (ti + 1))) tk kw g19 g20 g21 og g23 (nI cd) g25 g26 v27 v28 v29 v30 v31 v32 v33 v34 v35 v36 v37 (nI ol)), (v1, .inl (cA 0, 326, .inl fp)), (v9, .inl (cA 0, 700, .inl fb)), (v13, .inl (cA 1, 15, .inr (.inl fkw))), (v28, .inl (cA 1, 10, .inr (.inl l28))), (v30, .inl (cA 1, 8, .inr (.inl l30))), (v32, .inl (cA 0, 400, .inl fc))] sz)) (va_Qi (fun (r : Int32) (u9 : Int32) => u9 = r ∧ (r = 0 ∨ r = 1)) (fun (u9 : Int32) t => ∃ tj : Nat, ∃ z17 : Int32, ∃ z18 : Int32, ∃ z19 : Int32, ∃ z20 : Int32, ∃ z21 : Int32, ∃ z26 : Int32, ∃ z25 : Int64, ∃ cd2 : Nat, ∃ pq2 : Nat, ∃ zp : Nat → Int32, ∃ zc : Nat → Int32, ∃ zl : Nat → Int64, ∃ zpl : List Int64, tj < ct ∧ gP tj ≤ ln ∧ ti ≤ tj ∧ TKR (gK tj) (gV tj) (fb (gP tj)) z17 z18 z19 z25 ∧ pq2 ≤ 8 ∧ RI cn pq2 en dy zp ∧ NL zpl pq2 zl ∧ (u9 = 1 → z20 = g20) ∧ (u9 = 1 → z21 = g21) ∧ (u9 = 1 → ti + 1 ≤ tj) ∧ (u9 = 1 → cd ≤ cd2) ∧ (u9 = 1 → 2 * cd2 + sl ≤ gP tj) ∧ (u9 = 1 → Kp cd fc zc) ∧ (u9 = 1 → Sg cd cd2 zc) ∧ (u9 = 1 → PRx gK gS gV ml 0 o9 ti pl (.inr (tj, zpl))) ∧ (u9 = 1 → CR9 gK gV 0 ti tj ml pl zpl cd cd2 fc zc) ∧ (u9 = 1 → K14 fp zp) ∧ (u9 = 0 → PRx gK gS gV ml 0 o9 ti pl (.inl (z20, z21))) ∧ Wq D (va_A [(oX10 w0 v0 v1 v2 v3 v4 g5 g6 (nI ed) g8 v9 (nI nb) g11 g12 v13 (nI ln) (nI (gP ti)) (nI (gR (ti + 1))) tk kw g19 g20 g21 og g23 (nI cd) g25 g26 v27 v28 v29 v30 v31 v32 v33 v34 v35 v36 v37 (nI ol)), (v1, .inl (cA 0, 326, .inl fp)), (v9, .inl (cA 0, 700, .inl fb)), (v13, .inl (cA 1, 15, .inr (.inl fkw))), (v28, .inl (cA 1, 10, .inr (.inl l28))), (v30, .inl (cA 1, 8, .inr (.inl l30))), (v32, .inl (cA 0, 400, .inl fc))] sz) [(oX10 w0 v0 v1 v2 v3 v4 g5 g6 (nI ed) g8 v9 (nI nb) g11 g12 v13 (nI ln) (nI (gP tj)) (nI (gR (tj + 1))) z17 z18 z19 z20 z21 og g23 (nI cd2) z25 z26 v27 v28 v29 v30 v31 v32 v33 v34 v35 v36 v37 (nI ol)), (v1, .inl (cA 0, 326, .inl zp)), (v9, .inl (cA 0, 700, .inl fb)), (v13, .inl (cA 1, 15, .inr (.inl fkw))), (v28, .inl (cA 1, 10, .inr (.inl l28))), (v30, .inl (cA 1, 8, .inr (.inl zl))), (v32, .inl (cA 0, 400, .inl zc))] t) (va_A [(oX10 w0 v0 v1 v2 v3 v4 g5 g6 (nI ed) g8 v9 (nI nb) g11 g12 v13 (nI ln) (nI (gP ti)) (nI (gR (ti + 1))) tk kw g19 g20 g21 og g23 (nI cd) g25 g26 v27 v28 v29 v30 v31 v32 v33 v34 v35 v36 v37 (nI ol)), (v1, .inl (cA 0, 326, .inl fp)), (v9, .inl (cA 0, 700, .inl fb)), (v13, .inl (cA 1, 15, .inr (.inl fkw))), (v28, .inl (cA 1, 10, .inr (.inl l28))), (v30, .inl (cA 1, 8, .inr (.inl l30))), (v32, .inl (cA 0, 400, .inl fc))] sz)) 0 0 (va_A [(oX10 w0 v0 v1 v2 v3 v4 g5 g6 (nI ed) g8 v9 (nI nb) g11 g12 v13 (nI ln) (nI (gP ti)) (nI (gR (ti + 1))) tk kw g19 g20 g21 og g23 (nI cd) g25 g26 v27 v28 v29 v30 v31 v32 v33 v34 v35 v36 v37 (nI ol)), (v1, .inl (cA 0, 326, .inl fp)), (v9, .inl (cA 0, 700, .inl fb)), (v13, .inl (cA 1, 15, .inr (.inl fkw))), (v28, .inl (cA 1, 10, .inr (.inl l28))), (v30, .inl (cA 1, 8, .inr (.inl l30))), (v32, .inl (cA 0, 400, .inl fc))] sz) := by
  refine Met.ofW (cc := cX10_proofFact) (maxL := 2) (ret := (some .boolean)) (by decide) rfl ?_
  intro p e s m args below meth c s₁ B hml hv
  obtain ⟨rfl, hsz, hP, hK, hD0, hC, hZ⟩ := hv
  have hx := B.exec
  have hb := B.bytes
  have hr := B.returns
  have hts := atoms_spec (ws := wsX10_proofFact) B.pre
  have hown : s.vm.findClass RX10 = some m.cls := findClass_of_methodNamed B.named
  have hlocks := B.notSynchronized
  subst hsz
  have hD := hD0.self (sz := s.heap.size)
  generalize hAe : va_A [(oX10 w0 v0 v1 v2 v3 v4 g5 g6 (nI ed) g8 v9 (nI nb) g11 g12 v13 (nI ln) (nI (gP ti)) (nI (gR (ti + 1))) tk kw g19 g20 g21 og g23 (nI cd) g25 g26 v27 v28 v29 v30 v31 v32 v33 v34 v35 v36 v37 (nI ol)), (v1, .inl (cA 0, 326, .inl fp)), (v9, .inl (cA 0, 700, .inl fb)), (v13, .inl (cA 1, 15, .inr (.inl fkw))), (v28, .inl (cA 1, 10, .inr (.inl l28))), (v30, .inl (cA 1, 8, .inr (.inl l30))), (v32, .inl (cA 0, 400, .inl fc))] s.heap.size = A at hD hZ ⊢
  have hA : ∀ q : Nat, s.heap.size ≤ q → A q := fun q h => by rw [← hAe]; exact Or.inr h
  have hS : va_S A s.heap s.heap [] := va_S.rf
  have hP : va_P D vwCl [(oX10 w0 v0 v1 v2 v3 v4 g5 g6 (nI ed) g8 v9 (nI nb) g11 g12 v13 (nI ln) (nI (gP ti)) (nI (gR (ti + 1))) tk kw g19 g20 g21 og g23 (nI cd) g25 g26 v27 v28 v29 v30 v31 v32 v33 v34 v35 v36 v37 (nI ol)), (v1, .inl (cA 0, 326, .inl fp)), (v9, .inl (cA 0, 700, .inl fb)), (v13, .inl (cA 1, 15, .inr (.inl fkw))), (v28, .inl (cA 1, 10, .inr (.inl l28))), (v30, .inl (cA 1, 8, .inr (.inl l30))), (v32, .inl (cA 0, 400, .inl fc))] s.heap := hP
  have hl := lv_entry ([.ref w0]) (n := 2) (Nat.le_of_ble_eq_true rfl)
  rw [lg_entry_eq]
  generalize (lg_sl ([.ref w0]) ++ List.replicate (2 - (lg_sl ([.ref w0])).length) Slot.unset).toArray = ls at hl ⊢
  have hl : lv_has ls 2 [(0, .ref w0)] := hl
  have inX10 : ∀ w ∈ u_ws RX10 TX10 39, w ∈ wsX10_proofFact := by decide +kernel
  have hle9 := TX.le hTX hti
  refine lv_aload_n hx hb dX10_proofFact_0 rfl (lv_at hl 0 rfl) ?_
  have hn1 := TX.go2 hTX (show ti < ct by omega) (by rw [hk]; decide)
  have hn1a := TX.le hTX (show ti < ct by omega)
  have hn1b := TX.le hTX hn1.1
  obtain ⟨hPc, hDc, hFc⟩ := PDq.cut (wc := [(oX10 w0 v0 v1 v2 v3 v4 g5 g6 (nI ed) g8 v9 (nI nb) g11 g12 v13 (nI ln) (nI (gP ti)) (nI (gR (ti + 1))) tk kw g19 g20 g21 og g23 (nI cd) g25 g26 v27 v28 v29 v30 v31 v32 v33 v34 v35 v36 v37 (nI ol)), (v9, .inl (cA 0, 700, .inl fb)), (v13, .inl (cA 1, 15, .inr (.inl fkw)))]) hP hD hS hA [0, 2, 3] (by decide) rfl
  refine va_calli (va_runV (As := []) (rest := []) ⟨hx, hb, hml, hown, hts⟩ (y_advance l D cA sa w0 ed nb ol v0 v1 v2 v3 v4 v9 v13 v27 v28 v29 v30 v31 v32 v33 v34 v35 v36 v37 g8 g11 g12 (nI (gP ti)) tk kw g19 g20 g21 og g23 (nI cd) g26 g5 g6 g25 ln (gR (ti + 1)) fb fkw (gP (ti + 1)) (gR ((ti + 1) + 1)) (gK (ti + 1)) (gV (ti + 1)) s.heap.size hln (by omega) hKW hBY (TX.t hTX hn1.1)) (cwV 0 hts gX10_proofFact_X10_advance rfl rfl rfl (by decide +kernel) ⟨(Nat.le_of_ble_eq_true rfl), (Nat.le_of_ble_eq_true rfl)⟩) ⟨Wd.blind, va_recv hK hPc (ci := 11) (q0 := 0) rfl rfl, fun U hU hW => ⟨rfl, Wd.call hPc hDc hK hC hZ hS hFc U hU hW⟩⟩ rfl rfl hl.1 rfl (lv_room (Nat.le_of_ble_eq_true rfl)) dX10_proofFact_1 ⟨(Nat.le_of_ble_eq_true rfl), (Nat.le_of_ble_eq_true rfl)⟩) hS (fun q _ h => hFc q h) hFc (fun rn2 u t H1 locs ht hvm hw hB hz1 hk1 hS => ?_)
  obtain ⟨zn3, zn4, zn5, zn6, hn7, hP1, hD1⟩ := hB
  rw [ht] at hP1
  obtain ⟨hP, hD⟩ := PDq.join (w := [(v1, .inl (cA 0, 326, .inl fp)), (v28, .inl (cA 1, 10, .inr (.inl l28))), (v30, .inl (cA 1, 8, .inr (.inl l30))), (v32, .inl (cA 0, 400, .inl fc)), (oX10 w0 v0 v1 v2 v3 v4 g5 g6 (nI ed) g8 v9 (nI nb) g11 g12 v13 (nI ln) (nI (gP (ti + 1))) (nI (gR ((ti + 1) + 1))) zn3 zn4 zn5 g20 g21 og g23 (nI cd) zn6 g26 v27 v28 v29 v30 v31 v32 v33 v34 v35 v36 v37 (nI ol)), (v9, .inl (cA 0, 700, .inl fb)), (v13, .inl (cA 1, 15, .inr (.inl fkw)))]) 4 hP hD [0, 2, 3] [1, 4, 5, 6] rfl rfl (by decide) (by decide) hk1 hFc hP1 hD1 rfl
  generalize H1 = H at hP hS ⊢
  obtain rfl : rn2 = 1 := hw
  refine lv_pop hx hb dX10_proofFact_4 rfl ?_
  refine lv_aload_n hx hb dX10_proofFact_5 rfl (lv_at hl 0 rfl) ?_
  obtain ⟨hPc, hDc, hFc⟩ := PDq.cut (wc := [(oX10 w0 v0 v1 v2 v3 v4 g5 g6 (nI ed) g8 v9 (nI nb) g11 g12 v13 (nI ln) (nI (gP (ti + 1))) (nI (gR ((ti + 1) + 1))) zn3 zn4 zn5 g20 g21 og g23 (nI cd) zn6 g26 v27 v28 v29 v30 v31 v32 v33 v34 v35 v36 v37 (nI ol))]) hP hD hS hA [4] (by decide) rfl
  refine va_calli (va_runV (As := []) (rest := []) ⟨hx, hb, hml, hown, hts⟩ (y_isName l D cA sa w0 ed nb ol v0 v1 v2 v3 v4 v9 v13 v27 v28 v29 v30 v31 v32 v33 v34 v35 v36 v37 g8 g11 g12 zn5 g20 g21 og g23 g26 g5 g6 zn6 ln cd zn3 zn4 (ti + 1) ct fb gP gR gS gK gV H.size hln hct hn1.1 hTX hBY hn7) (cwV 0 hts gX10_proofFact_X10_isName rfl rfl rfl (by decide +kernel) ⟨(Nat.le_of_ble_eq_true rfl), (Nat.le_of_ble_eq_true rfl)⟩) ⟨Wd.blind, va_recv hK hPc (ci := 11) (q0 := 0) rfl rfl, fun U hU hW => ⟨rfl, Wd.call hPc hDc hK hC hZ hS hFc U hU hW⟩⟩ rfl rfl hl.1 rfl (lv_room (Nat.le_of_ble_eq_true rfl)) dX10_proofFact_6 ⟨(Nat.le_of_ble_eq_true rfl), (Nat.le_of_ble_eq_true rfl)⟩) hS (fun q _ h => hFc q h) hFc (fun rn8 u t H1 locs ht hvm hw hB hz1 hk1 hS => ?_)
  obtain ⟨hP1, hD1⟩ := hB
  rw [ht] at hP1
  obtain ⟨hP, hD⟩ := PDq.join (w := [(v1, .inl (cA 0, 326, .inl fp)), (v28, .inl (cA 1, 10, .inr (.inl l28))), (v30, .inl (cA 1, 8, .inr (.inl l30))), (v32, .inl (cA 0, 400, .inl fc)), (v9, .inl (cA 0, 700, .inl fb)), (v13, .inl (cA 1, 15, .inr (.inl fkw))), (oX10 w0 v0 v1 v2 v3 v4 g5 g6 (nI ed) g8 v9 (nI nb) g11 g12 v13 (nI ln) (nI (gP (ti + 1))) (nI (gR ((ti + 1) + 1))) zn3 zn4 zn5 g20 g21 og g23 (nI cd) zn6 g26 v27 v28 v29 v30 v31 v32 v33 v34 v35 v36 v37 (nI ol))]) 6 hP hD [4] [0, 1, 2, 3, 5, 6] rfl rfl (by decide) (by decide) hk1 hFc hP1 hD1 rfl
  generalize H1 = H at hP hS ⊢
  rcases hw with ⟨hr9, hn9⟩ | ⟨hr9, hn9⟩
  · skip
    subst hr9
    refine lv_if_ne (tgt := 18) hx hb dX10_proofFact_9 (by decide) (fun c10 => ?_) (fun c9 => absurd c9 (by decide))
    obtain rfl : zn6 = gV (ti + 1) := TKR.wd hn7 hn9
    obtain ⟨hP, hD⟩ : PDq D A [(v1, .inl (cA 0, 326, .inl fp)), (v28, .inl (cA 1, 10, .inr (.inl l28))), (v30, .inl (cA 1, 8, .inr (.inl l30))), (v32, .inl (cA 0, 400, .inl fc)), (v9, .inl (cA 0, 700, .inl fb)), (v13, .inl (cA 1, 15, .inr (.inl fkw))), (oX10 w0 v0 v1 v2 v3 v4 g5 g6 (nI ed) g8 v9 (nI nb) g11 g12 v13 (nI ln) (nI (gP (ti + 1))) (nI (gR ((ti + 1) + 1))) zn3 zn4 zn5 g20 g21 og g23 (nI cd) (gV (ti + 1)) g26 v27 v28 v29 v30 v31 v32 v33 v34 v35 v36 v37 (nI ol))] H := ⟨hP, hD⟩
    refine lv_aload_n hx hb dX10_proofFact_18 rfl (lv_at hl 0 rfl) ?_
    refine va_get (D := D) (ci := 11) (v := .ref v30) (C := RX10) (T := TX10) (N := 39) hx hb hts inX10 hown hK hP 6 rfl rfl 30 (by decide) (hts (.fieldLink RX10 45 "EscrowDeskModel" "proofsRead" "[J") (by decide +kernel)) (fun _ h9 => h9) rfl dX10_proofFact_19 ?_
    refine lv_aload_n hx hb dX10_proofFact_22 rfl (lv_at hl 0 rfl) ?_
    refine va_get (D := D) (ci := 11) (v := .ref v1) (C := RX10) (T := TX10) (N := 39) hx hb hts inX10 hown hK hP 6 rfl rfl 1 (by decide) (hts (.fieldLink RX10 13 "EscrowDeskModel" "parsed" "[I") (by decide +kernel)) (fun _ h9 => h9) rfl dX10_proofFact_23 ?_
    refine lv_bipush (v := 14) hx hb dX10_proofFact_26 (by decide) ?_
    refine va_iald hx hb hK hP 0 0 rfl rfl (vp_in_iff.mpr (by decide)) dX10_proofFact_28 ?_
    refine lv_topi (fun yn11 eyn11 => ?_)
    obtain rfl : yn11 = (nI pq) := eyn11.trans hri.2.1
    refine lv_aload_n hx hb dX10_proofFact_29 rfl (lv_at hl 0 rfl) ?_
    refine va_get (D := D) (ci := 11) (v := .long (gV (ti + 1))) (C := RX10) (T := TX10) (N := 39) hx hb hts inX10 hown hK hP 6 rfl rfl 25 (by decide) (hts (.fieldLink RX10 123 "EscrowDeskModel" "word" "J") (by decide +kernel)) (fun _ h9 => h9) rfl dX10_proofFact_30 ?_
    obtain ⟨hPc, hDc, hFc⟩ := PDq.cut (wc := [(v30, .inl (cA 1, 8, .inr (.inl l30)))]) hP hD hS hA [2] (by decide) rfl
    refine va_calli (va_runS (As := [.ref v30, .int (nI pq), .long (gV (ti + 1))]) (rest := []) ⟨hx, hb, hml, hown, hts⟩ (y_find8 l D cA sa v30 pq (gV (ti + 1)) l30 H.size hpq) (va_cwS 3 hts gX10_proofFact_X10_find rfl rfl rfl (by decide +kernel) ⟨(Nat.le_of_ble_eq_true rfl), (Nat.le_of_ble_eq_true rfl)⟩) ⟨Wd.blind, fun U hU hW => ⟨rfl, Wd.call hPc hDc hK hC hZ hS hFc U hU hW⟩⟩ rfl rfl hl.1 rfl (lv_room (Nat.le_of_ble_eq_true rfl)) dX10_proofFact_33 ⟨(Nat.le_of_ble_eq_true rfl), (Nat.le_of_ble_eq_true rfl)⟩) hS (fun q _ h => hFc q h) hFc (fun rn12 u t H1 locs ht hvm hw hB hz1 hk1 hS => ?_)
    obtain ⟨hP1, hD1⟩ := hB
    rw [ht] at hP1
    obtain ⟨hP, hD⟩ := PDq.join (w := [(v1, .inl (cA 0, 326, .inl fp)), (v28, .inl (cA 1, 10, .inr (.inl l28))), (v32, .inl (cA 0, 400, .inl fc)), (v9, .inl (cA 0, 700, .inl fb)), (v13, .inl (cA 1, 15, .inr (.inl fkw))), (oX10 w0 v0 v1 v2 v3 v4 g5 g6 (nI ed) g8 v9 (nI nb) g11 g12 v13 (nI ln) (nI (gP (ti + 1))) (nI (gR ((ti + 1) + 1))) zn3 zn4 zn5 g20 g21 og g23 (nI cd) (gV (ti + 1)) g26 v27 v28 v29 v30 v31 v32 v33 v34 v35 v36 v37 (nI ol)), (v30, .inl (cA 1, 8, .inr (.inl l30)))]) 6 hP hD [2] [0, 1, 3, 4, 5, 6] rfl rfl (by decide) (by decide) hk1 hFc hP1 hD1 rfl
    generalize H1 = H at hP hS ⊢
    rcases hw with ⟨hr9, hn13⟩ | ⟨kn14, hn15, hr9, hn13, hn16⟩
    · skip
      subst hr9
      have hn13 := NL.not hNP hn13
      refine lv_istore_n (lv' := [(1, .int (-1)), (0, .ref w0)]) hx hb dX10_proofFact_36 rfl hl (by decide) rfl (fun ls hl => ?_)
      refine lv_iload_n hx hb dX10_proofFact_37 rfl (lv_at hl 0 rfl) ?_
      refine lv_iconst (v := (-1)) hx hb dX10_proofFact_38 (by decide) ?_
      refine lv_icmp_ne (tgt := 89) hx hb dX10_proofFact_39 (by decide) (fun c9 => absurd c9 (by decide)) (fun c18 => ?_)
      refine lv_aload_n hx hb dX10_proofFact_42 rfl (lv_at hl 1 rfl) ?_
      refine va_get (D := D) (ci := 11) (v := .ref v1) (C := RX10) (T := TX10) (N := 39) hx hb hts inX10 hown hK hP 5 rfl rfl 1 (by decide) (hts (.fieldLink RX10 13 "EscrowDeskModel" "parsed" "[I") (by decide +kernel)) (fun _ h9 => h9) rfl dX10_proofFact_43 ?_
      refine lv_bipush (v := 14) hx hb dX10_proofFact_46 (by decide) ?_
      refine va_iald hx hb hK hP 0 0 rfl rfl (vp_in_iff.mpr (by decide)) dX10_proofFact_48 ?_
      refine lv_topi (fun yn19 eyn19 => ?_)
      obtain rfl : yn19 = (nI pq) := eyn19.trans hri.2.1
      refine lv_bipush (v := 8) hx hb dX10_proofFact_49 (by decide) ?_
      refine lv_icmp_ne (tgt := 60) hx hb dX10_proofFact_51 (by decide) (fun c20 => ?_) (fun c20 => ?_)
      · skip
        have hn21 : ¬ pq = 8 := fun h9 => c20 ((nI_eq (a := pq) (b := 8) (by omega) (by omega)).mpr h9)
        refine lv_aload_n hx hb dX10_proofFact_60 rfl (lv_at hl 1 rfl) ?_
        refine va_get (D := D) (ci := 11) (v := .ref v1) (C := RX10) (T := TX10) (N := 39) hx hb hts inX10 hown hK hP 5 rfl rfl 1 (by decide) (hts (.fieldLink RX10 13 "EscrowDeskModel" "parsed" "[I") (by decide +kernel)) (fun _ h9 => h9) rfl dX10_proofFact_61 ?_
        refine lv_bipush (v := 14) hx hb dX10_proofFact_64 (by decide) ?_
        refine va_iald hx hb hK hP 0 0 rfl rfl (vp_in_iff.mpr (by decide)) dX10_proofFact_66 ?_
        refine lv_topi (fun yn22 eyn22 => ?_)
        obtain rfl : yn22 = (nI pq) := eyn22.trans hri.2.1
        refine lv_istore_n (lv' := [(1, .int (nI pq)), (0, .ref w0)]) hx hb dX10_proofFact_67 rfl hl (by decide) rfl (fun ls hl => ?_)
        refine lv_aload_n hx hb dX10_proofFact_68 rfl (lv_at hl 1 rfl) ?_
        refine va_get (D := D) (ci := 11) (v := .ref v30) (C := RX10) (T := TX10) (N := 39) hx hb hts inX10 hown hK hP 5 rfl rfl 30 (by decide) (hts (.fieldLink RX10 45 "EscrowDeskModel" "proofsRead" "[J") (by decide +kernel)) (fun _ h9 => h9) rfl dX10_proofFact_69 ?_
        refine lv_iload_n hx hb dX10_proofFact_72 rfl (lv_at hl 0 rfl) ?_
        refine lv_aload_n hx hb dX10_proofFact_73 rfl (lv_at hl 1 rfl) ?_
        refine va_get (D := D) (ci := 11) (v := .long (gV (ti + 1))) (C := RX10) (T := TX10) (N := 39) hx hb hts inX10 hown hK hP 5 rfl rfl 25 (by decide) (hts (.fieldLink RX10 123 "EscrowDeskModel" "word" "J") (by decide +kernel)) (fun _ h9 => h9) rfl dX10_proofFact_74 ?_
        refine va_last hx hb hK hP hD hS 6 1 rfl rfl (vp_in_nI (n := pq) (N := 8) (show pq < 8 by omega) (by decide)) dX10_proofFact_77 (fun H locs hP hD hS => ?_)
        obtain ⟨hP, hD⟩ : PDq D A [(v1, .inl (cA 0, 326, .inl fp)), (v28, .inl (cA 1, 10, .inr (.inl l28))), (v32, .inl (cA 0, 400, .inl fc)), (v9, .inl (cA 0, 700, .inl fb)), (v13, .inl (cA 1, 15, .inr (.inl fkw))), (oX10 w0 v0 v1 v2 v3 v4 g5 g6 (nI ed) g8 v9 (nI nb) g11 g12 v13 (nI ln) (nI (gP (ti + 1))) (nI (gR ((ti + 1) + 1))) zn3 zn4 zn5 g20 g21 og g23 (nI cd) (gV (ti + 1)) g26 v27 v28 v29 v30 v31 v32 v33 v34 v35 v36 v37 (nI ol)), (v30, .inl (cA 1, 8, .inr (.inl (vp_updL l30 (((nI pq)).toNatClampNeg) (gV (ti + 1))))))] H := ⟨hP, hD⟩
        have hn24 : NL (pl ++ [(gV (ti + 1))]) (pq + 1) (vp_updL l30 (((nI pq)).toNatClampNeg) (gV (ti + 1))) := (by rw [nI_clamp (by omega)]; exact NL.put hNP _)
        generalize (vp_updL l30 (((nI pq)).toNatClampNeg) (gV (ti + 1))) = fn23 at hP hD hn24
        obtain ⟨hP, hD⟩ : PDq D A [(v1, .inl (cA 0, 326, .inl fp)), (v28, .inl (cA 1, 10, .inr (.inl l28))), (v32, .inl (cA 0, 400, .inl fc)), (v9, .inl (cA 0, 700, .inl fb)), (v13, .inl (cA 1, 15, .inr (.inl fkw))), (oX10 w0 v0 v1 v2 v3 v4 g5 g6 (nI ed) g8 v9 (nI nb) g11 g12 v13 (nI ln) (nI (gP (ti + 1))) (nI (gR ((ti + 1) + 1))) zn3 zn4 zn5 g20 g21 og g23 (nI cd) (gV (ti + 1)) g26 v27 v28 v29 v30 v31 v32 v33 v34 v35 v36 v37 (nI ol)), (v30, .inl (cA 1, 8, .inr (.inl fn23)))] H := ⟨hP, hD⟩
        refine lv_aload_n hx hb dX10_proofFact_78 rfl (lv_at hl 1 rfl) ?_
        refine va_get (D := D) (ci := 11) (v := .ref v1) (C := RX10) (T := TX10) (N := 39) hx hb hts inX10 hown hK hP 5 rfl rfl 1 (by decide) (hts (.fieldLink RX10 13 "EscrowDeskModel" "parsed" "[I") (by decide +kernel)) (fun _ h9 => h9) rfl dX10_proofFact_79 ?_
        refine lv_bipush (v := 14) hx hb dX10_proofFact_82 (by decide) ?_
        refine lv_dup2_11 hx hb dX10_proofFact_84 rfl rfl ?_
        refine va_iald hx hb hK hP 0 0 rfl rfl (vp_in_iff.mpr (by decide)) dX10_proofFact_85 ?_
        refine lv_topi (fun yn25 eyn25 => ?_)
        obtain rfl : yn25 = (nI pq) := eyn25.trans hri.2.1
        refine lv_iconst (v := 1) hx hb dX10_proofFact_86 (by decide) ?_
        refine lv_iadd hx hb dX10_proofFact_87 ?_
        refine lv_topi (fun yn26 eyn26 => ?_)
        obtain rfl : yn26 = (nI (pq + 1)) := eyn26.trans (nI_add pq 1)
        refine va_iast hx hb hK hP hD hS 0 0 rfl rfl (vp_in_iff.mpr (by decide)) dX10_proofFact_88 (fun H locs hP hD hS => ?_)
        obtain ⟨hP, hD⟩ : PDq D A [(v1, .inl (cA 0, 326, .inl (upd fp 14 (nI (pq + 1))))), (v28, .inl (cA 1, 10, .inr (.inl l28))), (v32, .inl (cA 0, 400, .inl fc)), (v9, .inl (cA 0, 700, .inl fb)), (v13, .inl (cA 1, 15, .inr (.inl fkw))), (oX10 w0 v0 v1 v2 v3 v4 g5 g6 (nI ed) g8 v9 (nI nb) g11 g12 v13 (nI ln) (nI (gP (ti + 1))) (nI (gR ((ti + 1) + 1))) zn3 zn4 zn5 g20 g21 og g23 (nI cd) (gV (ti + 1)) g26 v27 v28 v29 v30 v31 v32 v33 v34 v35 v36 v37 (nI ol)), (v30, .inl (cA 1, 8, .inr (.inl fn23)))] H := ⟨hP, hD⟩
        have hn28 : RI cn (pq + 1) en dy (upd fp 14 (nI (pq + 1))) := RI.prf hri (pq + 1)
        have hn29 : Upp 14 (nI (pq + 1)) fp (upd fp 14 (nI (pq + 1))) := rfl
        have hn30 : Rpp (upd fp 14 (nI (pq + 1))) := rfl
        generalize (upd fp 14 (nI (pq + 1))) = fn27 at hP hD hn28 hn29 hn30
        obtain ⟨hP, hD⟩ : PDq D A [(v1, .inl (cA 0, 326, .inl fn27)), (v28, .inl (cA 1, 10, .inr (.inl l28))), (v32, .inl (cA 0, 400, .inl fc)), (v9, .inl (cA 0, 700, .inl fb)), (v13, .inl (cA 1, 15, .inr (.inl fkw))), (oX10 w0 v0 v1 v2 v3 v4 g5 g6 (nI ed) g8 v9 (nI nb) g11 g12 v13 (nI ln) (nI (gP (ti + 1))) (nI (gR ((ti + 1) + 1))) zn3 zn4 zn5 g20 g21 og g23 (nI cd) (gV (ti + 1)) g26 v27 v28 v29 v30 v31 v32 v33 v34 v35 v36 v37 (nI ol)), (v30, .inl (cA 1, 8, .inr (.inl fn23)))] H := ⟨hP, hD⟩
        refine lv_aload_n hx hb dX10_proofFact_89 rfl (lv_at hl 1 rfl) ?_
        refine lv_ldc (v := 100000) hx hb hown (hts (.constant RX10 201 100000) (by decide +kernel)) dX10_proofFact_90 ?_
        refine lv_iload_n hx hb dX10_proofFact_92 rfl (lv_at hl 0 rfl) ?_
        refine lv_iadd hx hb dX10_proofFact_93 ?_
        refine lv_topi (fun yn31 eyn31 => ?_)
        obtain rfl : yn31 = (nI (100000 + pq)) := eyn31.trans (nI_add 100000 pq)
        obtain ⟨hPc, hDc, hFc⟩ := PDq.cut (wc := [(oX10 w0 v0 v1 v2 v3 v4 g5 g6 (nI ed) g8 v9 (nI nb) g11 g12 v13 (nI ln) (nI (gP (ti + 1))) (nI (gR ((ti + 1) + 1))) zn3 zn4 zn5 g20 g21 og g23 (nI cd) (gV (ti + 1)) g26 v27 v28 v29 v30 v31 v32 v33 v34 v35 v36 v37 (nI ol)), (v32, .inl (cA 0, 400, .inl fc))]) hP hD hS hA [5, 2] (by decide) rfl
        refine va_calli (va_runV (As := [.int (nI (100000 + pq))]) (rest := []) ⟨hx, hb, hml, hown, hts⟩ (r_emit l D cA sa w0 ed nb ol v0 v1 v2 v3 v4 v9 v13 v27 v28 v29 v30 v31 v32 v33 v34 v35 v36 v37 g8 g11 g12 (nI ln) (nI (gP (ti + 1))) (nI (gR ((ti + 1) + 1))) zn3 zn4 zn5 g20 g21 og g23 g26 g5 g6 (gV (ti + 1)) cd (nI (100000 + pq)) fc H.size (by omega)) (cwV 1 hts gX10_proofFact_X10_emit rfl rfl rfl (by decide +kernel) ⟨(Nat.le_of_ble_eq_true rfl), (Nat.le_of_ble_eq_true rfl)⟩) ⟨Wd.blind, va_recv hK hPc (ci := 11) (q0 := 0) rfl rfl, fun U hU hW => ⟨rfl, Wd.call hPc hDc hK hC hZ hS hFc U hU hW⟩⟩ rfl rfl hl.1 rfl (lv_room (Nat.le_of_ble_eq_true rfl)) dX10_proofFact_94 ⟨(Nat.le_of_ble_eq_true rfl), (Nat.le_of_ble_eq_true rfl)⟩) hS (fun q _ h => hFc q h) hFc (fun rn32 u t H1 locs ht hvm hw hB hz1 hk1 hS => ?_)
        obtain ⟨fn33, hn34, hP1, hD1⟩ := hB
        rw [ht] at hP1
        obtain ⟨hP, hD⟩ := PDq.join (w := [(v1, .inl (cA 0, 326, .inl fn27)), (v28, .inl (cA 1, 10, .inr (.inl l28))), (v9, .inl (cA 0, 700, .inl fb)), (v13, .inl (cA 1, 15, .inr (.inl fkw))), (v30, .inl (cA 1, 8, .inr (.inl fn23))), (oX10 w0 v0 v1 v2 v3 v4 g5 g6 (nI ed) g8 v9 (nI nb) g11 g12 v13 (nI ln) (nI (gP (ti + 1))) (nI (gR ((ti + 1) + 1))) zn3 zn4 zn5 g20 g21 og g23 (nI (cd + 1)) (gV (ti + 1)) g26 v27 v28 v29 v30 v31 v32 v33 v34 v35 v36 v37 (nI ol)), (v32, .inl (cA 0, 400, .inl fn33))]) 5 hP hD [5, 2] [0, 1, 3, 4, 6] rfl rfl (by decide) (by decide) hk1 hFc hP1 hD1 rfl
        generalize H1 = H at hP hS ⊢
        obtain rfl : rn32 = 1 := hw
        refine lv_pop hx hb dX10_proofFact_97 rfl ?_
        refine lv_aload_n hx hb dX10_proofFact_98 rfl (lv_at hl 1 rfl) ?_
        have hn35 := TX.go hTX (show ti + 1 < ct by omega) (by rw [hn9]; decide)
        have hn35a := TX.le hTX (show ti + 1 < ct by omega)
        have hn35b := TX.le hTX hn35.1
        obtain ⟨hPc, hDc, hFc⟩ := PDq.cut (wc := [(oX10 w0 v0 v1 v2 v3 v4 g5 g6 (nI ed) g8 v9 (nI nb) g11 g12 v13 (nI ln) (nI (gP (ti + 1))) (nI (gR ((ti + 1) + 1))) zn3 zn4 zn5 g20 g21 og g23 (nI (cd + 1)) (gV (ti + 1)) g26 v27 v28 v29 v30 v31 v32 v33 v34 v35 v36 v37 (nI ol)), (v9, .inl (cA 0, 700, .inl fb)), (v13, .inl (cA 1, 15, .inr (.inl fkw)))]) hP hD hS hA [5, 2, 3] (by decide) rfl
        refine va_calli (va_runV (As := []) (rest := []) ⟨hx, hb, hml, hown, hts⟩ (y_advance l D cA sa w0 ed nb ol v0 v1 v2 v3 v4 v9 v13 v27 v28 v29 v30 v31 v32 v33 v34 v35 v36 v37 g8 g11 g12 (nI (gP (ti + 1))) zn3 zn4 zn5 g20 g21 og g23 (nI (cd + 1)) g26 g5 g6 (gV (ti + 1)) ln (gR ((ti + 1) + 1)) fb fkw (gP (ti + 1 + 1)) (gR ((ti + 1 + 1) + 1)) (gK (ti + 1 + 1)) (gV (ti + 1 + 1)) H.size hln (by omega) hKW hBY (TX.t hTX hn35.1)) (cwV 0 hts gX10_proofFact_X10_advance rfl rfl rfl (by decide +kernel) ⟨(Nat.le_of_ble_eq_true rfl), (Nat.le_of_ble_eq_true rfl)⟩) ⟨Wd.blind, va_recv hK hPc (ci := 11) (q0 := 0) rfl rfl, fun U hU hW => ⟨rfl, Wd.call hPc hDc hK hC hZ hS hFc U hU hW⟩⟩ rfl rfl hl.1 rfl (lv_room (Nat.le_of_ble_eq_true rfl)) dX10_proofFact_99 ⟨(Nat.le_of_ble_eq_true rfl), (Nat.le_of_ble_eq_true rfl)⟩) hS (fun q _ h => hFc q h) hFc (fun rn36 u t H1 locs ht hvm hw hB hz1 hk1 hS => ?_)
        obtain ⟨zn37, zn38, zn39, zn40, hn41, hP1, hD1⟩ := hB
        rw [ht] at hP1
        obtain ⟨hP, hD⟩ := PDq.join (w := [(v1, .inl (cA 0, 326, .inl fn27)), (v28, .inl (cA 1, 10, .inr (.inl l28))), (v30, .inl (cA 1, 8, .inr (.inl fn23))), (v32, .inl (cA 0, 400, .inl fn33)), (oX10 w0 v0 v1 v2 v3 v4 g5 g6 (nI ed) g8 v9 (nI nb) g11 g12 v13 (nI ln) (nI (gP (ti + 1 + 1))) (nI (gR ((ti + 1 + 1) + 1))) zn37 zn38 zn39 g20 g21 og g23 (nI (cd + 1)) zn40 g26 v27 v28 v29 v30 v31 v32 v33 v34 v35 v36 v37 (nI ol)), (v9, .inl (cA 0, 700, .inl fb)), (v13, .inl (cA 1, 15, .inr (.inl fkw)))]) 4 hP hD [5, 2, 3] [0, 1, 4, 6] rfl rfl (by decide) (by decide) hk1 hFc hP1 hD1 rfl
        generalize H1 = H at hP hS ⊢
        obtain rfl : rn36 = 1 := hw
        obtain ⟨hP9, hD9⟩ := PDq.sub (ws' := [(oX10 w0 v0 v1 v2 v3 v4 g5 g6 (nI ed) g8 v9 (nI nb) g11 g12 v13 (nI ln) (nI (gP (ti + 1 + 1))) (nI (gR ((ti + 1 + 1) + 1))) zn37 zn38 zn39 g20 g21 og g23 (nI (cd + 1)) zn40 g26 v27 v28 v29 v30 v31 v32 v33 v34 v35 v36 v37 (nI ol)), (v1, .inl (cA 0, 326, .inl fn27)), (v9, .inl (cA 0, 700, .inl fb)), (v13, .inl (cA 1, 15, .inr (.inl fkw))), (v28, .inl (cA 1, 10, .inr (.inl l28))), (v30, .inl (cA 1, 8, .inr (.inl fn23))), (v32, .inl (cA 0, 400, .inl fn33))]) hP hD [4, 0, 5, 6, 1, 2, 3] (by decide) rfl
        refine W.widen (k := 0) (n := 0) (Nat.le_of_ble_eq_true rfl) (Nat.le_of_ble_eq_true rfl) ?_
        exact (W.zret (v := 1) hx hb hr (by first | rfl | decide) (fun t ht hW => ⟨⟨1, 1, rfl, ⟨rfl, by decide⟩, (ti + 1 + 1), zn37, zn38, zn39, g20, g21, g26, zn40, (cd + 1), (pq + 1), fn27, fn33, fn23, (pl ++ [(gV (ti + 1))]), hn35.1, (by omega), (by omega), hn41, (by omega), hn28, hn24, (fun _ => rfl), (fun _ => rfl), (fun _ => (by omega)), (fun _ => (by omega)), (fun _ => (by omega)), (fun _ => (Em.kp hn34)), (fun _ => (Sg.leaf hn34 (nI_pos (by omega)))), (fun _ => (P_proofN hk hn9 hn13 (by have q9 := hNP.1; omega))), (fun _ => (CR9.one (C_two hk (Or.inr (Or.inl rfl))) hn34 (ER_18 (List.mem_append_right _ List.mem_cons_self) (by have q9 := hn24.1; omega) ((fi9_new hn13).trans hNP.1) rfl).1 (ER_18 (List.mem_append_right _ List.mem_cons_self) (by have q9 := hn24.1; omega) ((fi9_new hn13).trans hNP.1) rfl).2 ⟨[(gV (ti + 1))], rfl⟩ rfl)), (fun _ => (K14.put hn29)), (fun h9 => absurd h9 (by decide)), by rw [ht]; exact hP9, hD9⟩, hS.F ht⟩) hS.2.2 dX10_proofFact_102)
      · skip
        have hn42 : pq = 8 := (nI_eq (a := pq) (b := 8) (by omega) (by omega)).mp c20
        refine lv_aload_n hx hb dX10_proofFact_54 rfl (lv_at hl 1 rfl) ?_
        refine lv_iconst (v := 5) hx hb dX10_proofFact_55 (by decide) ?_
        obtain ⟨hPc, hDc, hFc⟩ := PDq.cut (wc := [(oX10 w0 v0 v1 v2 v3 v4 g5 g6 (nI ed) g8 v9 (nI nb) g11 g12 v13 (nI ln) (nI (gP (ti + 1))) (nI (gR ((ti + 1) + 1))) zn3 zn4 zn5 g20 g21 og g23 (nI cd) (gV (ti + 1)) g26 v27 v28 v29 v30 v31 v32 v33 v34 v35 v36 v37 (nI ol))]) hP hD hS hA [5] (by decide) rfl
        refine va_calli (va_runV (As := [.int 5]) (rest := []) ⟨hx, hb, hml, hown, hts⟩ (y_fail l D cA sa w0 ed nb ol v0 v1 v2 v3 v4 v9 v13 v27 v28 v29 v30 v31 v32 v33 v34 v35 v36 v37 g8 g11 g12 zn5 g20 g21 og g23 g26 g5 g6 (gV (ti + 1)) ln cd zn3 zn4 (ti + 1) ct fb gP gR gS gK gV 5 H.size hln hct hn1.1 hTX hBY hn7) (cwV 1 hts gX10_proofFact_X10_fail rfl rfl rfl (by decide +kernel) ⟨(Nat.le_of_ble_eq_true rfl), (Nat.le_of_ble_eq_true rfl)⟩) ⟨Wd.blind, va_recv hK hPc (ci := 11) (q0 := 0) rfl rfl, fun U hU hW => ⟨rfl, Wd.call hPc hDc hK hC hZ hS hFc U hU hW⟩⟩ rfl rfl hl.1 rfl (lv_room (Nat.le_of_ble_eq_true rfl)) dX10_proofFact_56 ⟨(Nat.le_of_ble_eq_true rfl), (Nat.le_of_ble_eq_true rfl)⟩) hS (fun q _ h => hFc q h) hFc (fun rn43 u t H1 locs ht hvm hw hB hz1 hk1 hS => ?_)
        obtain ⟨zn44, hn45, hP1, hD1⟩ := hB
        rw [ht] at hP1
        obtain ⟨hP, hD⟩ := PDq.join (w := [(v1, .inl (cA 0, 326, .inl fp)), (v28, .inl (cA 1, 10, .inr (.inl l28))), (v32, .inl (cA 0, 400, .inl fc)), (v9, .inl (cA 0, 700, .inl fb)), (v13, .inl (cA 1, 15, .inr (.inl fkw))), (v30, .inl (cA 1, 8, .inr (.inl l30))), (oX10 w0 v0 v1 v2 v3 v4 g5 g6 (nI ed) g8 v9 (nI nb) g11 g12 v13 (nI ln) (nI (gP (ti + 1))) (nI (gR ((ti + 1) + 1))) zn3 zn4 zn5 zn44 (nI (gP (ti + 1))) og g23 (nI cd) (gV (ti + 1)) g26 v27 v28 v29 v30 v31 v32 v33 v34 v35 v36 v37 (nI ol))]) 6 hP hD [5] [0, 1, 2, 3, 4, 6] rfl rfl (by decide) (by decide) hk1 hFc hP1 hD1 rfl
        generalize H1 = H at hP hS ⊢
        obtain rfl : rn43 = 0 := hw
        obtain ⟨hP9, hD9⟩ := PDq.sub (ws' := [(oX10 w0 v0 v1 v2 v3 v4 g5 g6 (nI ed) g8 v9 (nI nb) g11 g12 v13 (nI ln) (nI (gP (ti + 1))) (nI (gR ((ti + 1) + 1))) zn3 zn4 zn5 zn44 (nI (gP (ti + 1))) og g23 (nI cd) (gV (ti + 1)) g26 v27 v28 v29 v30 v31 v32 v33 v34 v35 v36 v37 (nI ol)), (v1, .inl (cA 0, 326, .inl fp)), (v9, .inl (cA 0, 700, .inl fb)), (v13, .inl (cA 1, 15, .inr (.inl fkw))), (v28, .inl (cA 1, 10, .inr (.inl l28))), (v30, .inl (cA 1, 8, .inr (.inl l30))), (v32, .inl (cA 0, 400, .inl fc))]) hP hD [6, 0, 3, 4, 1, 5, 2] (by decide) rfl
        refine W.widen (k := 0) (n := 0) (Nat.le_of_ble_eq_true rfl) (Nat.le_of_ble_eq_true rfl) ?_
        exact (W.zret (v := 0) hx hb hr (by first | rfl | decide) (fun t ht hW => ⟨⟨0, 0, rfl, ⟨rfl, by decide⟩, (ti + 1), zn3, zn4, zn5, zn44, (nI (gP (ti + 1))), g26, (gV (ti + 1)), cd, pq, fp, fc, l30, pl, hn1.1, (by omega), (by omega), hn7, hpq, hri, hNP, (fun h9 => absurd h9 (by decide)), (fun h9 => absurd h9 (by decide)), (fun h9 => absurd h9 (by decide)), (fun h9 => absurd h9 (by decide)), (fun h9 => absurd h9 (by decide)), (fun h9 => absurd h9 (by decide)), (fun h9 => absurd h9 (by decide)), (fun h9 => absurd h9 (by decide)), (fun h9 => absurd h9 (by decide)), (fun h9 => absurd h9 (by decide)), (fun _ => (P_proofFx hk hn9 hn13 (by have q9 := hNP.1; omega) hn45 (TX.s hTX (show ti + 1 < ct by omega)))), by rw [ht]; exact hP9, hD9⟩, hS.F ht⟩) hS.2.2 dX10_proofFact_59)
    · skip
      subst hr9
      have hn17 := NL.fi hNP hn15 hn13 hn16
      have hn13 := NL.mem hNP hn15 hn13
      refine lv_istore_n (lv' := [(1, .int (nI kn14)), (0, .ref w0)]) hx hb dX10_proofFact_36 rfl hl (by decide) rfl (fun ls hl => ?_)
      refine lv_iload_n hx hb dX10_proofFact_37 rfl (lv_at hl 0 rfl) ?_
      refine lv_iconst (v := (-1)) hx hb dX10_proofFact_38 (by decide) ?_
      refine lv_icmp_ne (tgt := 89) hx hb dX10_proofFact_39 (by decide) (fun c46 => ?_) (fun c9 => absurd c9 (nI_neg (n := kn14) (by omega) (by decide)))
      refine lv_aload_n hx hb dX10_proofFact_89 rfl (lv_at hl 1 rfl) ?_
      refine lv_ldc (v := 100000) hx hb hown (hts (.constant RX10 201 100000) (by decide +kernel)) dX10_proofFact_90 ?_
      refine lv_iload_n hx hb dX10_proofFact_92 rfl (lv_at hl 0 rfl) ?_
      refine lv_iadd hx hb dX10_proofFact_93 ?_
      refine lv_topi (fun yn47 eyn47 => ?_)
      obtain rfl : yn47 = (nI (100000 + kn14)) := eyn47.trans (nI_add 100000 kn14)
      obtain ⟨hPc, hDc, hFc⟩ := PDq.cut (wc := [(oX10 w0 v0 v1 v2 v3 v4 g5 g6 (nI ed) g8 v9 (nI nb) g11 g12 v13 (nI ln) (nI (gP (ti + 1))) (nI (gR ((ti + 1) + 1))) zn3 zn4 zn5 g20 g21 og g23 (nI cd) (gV (ti + 1)) g26 v27 v28 v29 v30 v31 v32 v33 v34 v35 v36 v37 (nI ol)), (v32, .inl (cA 0, 400, .inl fc))]) hP hD hS hA [5, 2] (by decide) rfl
      refine va_calli (va_runV (As := [.int (nI (100000 + kn14))]) (rest := []) ⟨hx, hb, hml, hown, hts⟩ (r_emit l D cA sa w0 ed nb ol v0 v1 v2 v3 v4 v9 v13 v27 v28 v29 v30 v31 v32 v33 v34 v35 v36 v37 g8 g11 g12 (nI ln) (nI (gP (ti + 1))) (nI (gR ((ti + 1) + 1))) zn3 zn4 zn5 g20 g21 og g23 g26 g5 g6 (gV (ti + 1)) cd (nI (100000 + kn14)) fc H.size (by omega)) (cwV 1 hts gX10_proofFact_X10_emit rfl rfl rfl (by decide +kernel) ⟨(Nat.le_of_ble_eq_true rfl), (Nat.le_of_ble_eq_true rfl)⟩) ⟨Wd.blind, va_recv hK hPc (ci := 11) (q0 := 0) rfl rfl, fun U hU hW => ⟨rfl, Wd.call hPc hDc hK hC hZ hS hFc U hU hW⟩⟩ rfl rfl hl.1 rfl (lv_room (Nat.le_of_ble_eq_true rfl)) dX10_proofFact_94 ⟨(Nat.le_of_ble_eq_true rfl), (Nat.le_of_ble_eq_true rfl)⟩) hS (fun q _ h => hFc q h) hFc (fun rn48 u t H1 locs ht hvm hw hB hz1 hk1 hS => ?_)
      obtain ⟨fn49, hn50, hP1, hD1⟩ := hB
      rw [ht] at hP1
      obtain ⟨hP, hD⟩ := PDq.join (w := [(v1, .inl (cA 0, 326, .inl fp)), (v28, .inl (cA 1, 10, .inr (.inl l28))), (v9, .inl (cA 0, 700, .inl fb)), (v13, .inl (cA 1, 15, .inr (.inl fkw))), (v30, .inl (cA 1, 8, .inr (.inl l30))), (oX10 w0 v0 v1 v2 v3 v4 g5 g6 (nI ed) g8 v9 (nI nb) g11 g12 v13 (nI ln) (nI (gP (ti + 1))) (nI (gR ((ti + 1) + 1))) zn3 zn4 zn5 g20 g21 og g23 (nI (cd + 1)) (gV (ti + 1)) g26 v27 v28 v29 v30 v31 v32 v33 v34 v35 v36 v37 (nI ol)), (v32, .inl (cA 0, 400, .inl fn49))]) 5 hP hD [5, 2] [0, 1, 3, 4, 6] rfl rfl (by decide) (by decide) hk1 hFc hP1 hD1 rfl
      generalize H1 = H at hP hS ⊢
      obtain rfl : rn48 = 1 := hw
      refine lv_pop hx hb dX10_proofFact_97 rfl ?_
      refine lv_aload_n hx hb dX10_proofFact_98 rfl (lv_at hl 1 rfl) ?_
      have hn51 := TX.go hTX (show ti + 1 < ct by omega) (by rw [hn9]; decide)
      have hn51a := TX.le hTX (show ti + 1 < ct by omega)
      have hn51b := TX.le hTX hn51.1
      obtain ⟨hPc, hDc, hFc⟩ := PDq.cut (wc := [(oX10 w0 v0 v1 v2 v3 v4 g5 g6 (nI ed) g8 v9 (nI nb) g11 g12 v13 (nI ln) (nI (gP (ti + 1))) (nI (gR ((ti + 1) + 1))) zn3 zn4 zn5 g20 g21 og g23 (nI (cd + 1)) (gV (ti + 1)) g26 v27 v28 v29 v30 v31 v32 v33 v34 v35 v36 v37 (nI ol)), (v9, .inl (cA 0, 700, .inl fb)), (v13, .inl (cA 1, 15, .inr (.inl fkw)))]) hP hD hS hA [5, 2, 3] (by decide) rfl
      refine va_calli (va_runV (As := []) (rest := []) ⟨hx, hb, hml, hown, hts⟩ (y_advance l D cA sa w0 ed nb ol v0 v1 v2 v3 v4 v9 v13 v27 v28 v29 v30 v31 v32 v33 v34 v35 v36 v37 g8 g11 g12 (nI (gP (ti + 1))) zn3 zn4 zn5 g20 g21 og g23 (nI (cd + 1)) g26 g5 g6 (gV (ti + 1)) ln (gR ((ti + 1) + 1)) fb fkw (gP (ti + 1 + 1)) (gR ((ti + 1 + 1) + 1)) (gK (ti + 1 + 1)) (gV (ti + 1 + 1)) H.size hln (by omega) hKW hBY (TX.t hTX hn51.1)) (cwV 0 hts gX10_proofFact_X10_advance rfl rfl rfl (by decide +kernel) ⟨(Nat.le_of_ble_eq_true rfl), (Nat.le_of_ble_eq_true rfl)⟩) ⟨Wd.blind, va_recv hK hPc (ci := 11) (q0 := 0) rfl rfl, fun U hU hW => ⟨rfl, Wd.call hPc hDc hK hC hZ hS hFc U hU hW⟩⟩ rfl rfl hl.1 rfl (lv_room (Nat.le_of_ble_eq_true rfl)) dX10_proofFact_99 ⟨(Nat.le_of_ble_eq_true rfl), (Nat.le_of_ble_eq_true rfl)⟩) hS (fun q _ h => hFc q h) hFc (fun rn52 u t H1 locs ht hvm hw hB hz1 hk1 hS => ?_)
      obtain ⟨zn53, zn54, zn55, zn56, hn57, hP1, hD1⟩ := hB
      rw [ht] at hP1
      obtain ⟨hP, hD⟩ := PDq.join (w := [(v1, .inl (cA 0, 326, .inl fp)), (v28, .inl (cA 1, 10, .inr (.inl l28))), (v30, .inl (cA 1, 8, .inr (.inl l30))), (v32, .inl (cA 0, 400, .inl fn49)), (oX10 w0 v0 v1 v2 v3 v4 g5 g6 (nI ed) g8 v9 (nI nb) g11 g12 v13 (nI ln) (nI (gP (ti + 1 + 1))) (nI (gR ((ti + 1 + 1) + 1))) zn53 zn54 zn55 g20 g21 og g23 (nI (cd + 1)) zn56 g26 v27 v28 v29 v30 v31 v32 v33 v34 v35 v36 v37 (nI ol)), (v9, .inl (cA 0, 700, .inl fb)), (v13, .inl (cA 1, 15, .inr (.inl fkw)))]) 4 hP hD [5, 2, 3] [0, 1, 4, 6] rfl rfl (by decide) (by decide) hk1 hFc hP1 hD1 rfl
      generalize H1 = H at hP hS ⊢
      obtain rfl : rn52 = 1 := hw
      obtain ⟨hP9, hD9⟩ := PDq.sub (ws' := [(oX10 w0 v0 v1 v2 v3 v4 g5 g6 (nI ed) g8 v9 (nI nb) g11 g12 v13 (nI ln) (nI (gP (ti + 1 + 1))) (nI (gR ((ti + 1 + 1) + 1))) zn53 zn54 zn55 g20 g21 og g23 (nI (cd + 1)) zn56 g26 v27 v28 v29 v30 v31 v32 v33 v34 v35 v36 v37 (nI ol)), (v1, .inl (cA 0, 326, .inl fp)), (v9, .inl (cA 0, 700, .inl fb)), (v13, .inl (cA 1, 15, .inr (.inl fkw))), (v28, .inl (cA 1, 10, .inr (.inl l28))), (v30, .inl (cA 1, 8, .inr (.inl l30))), (v32, .inl (cA 0, 400, .inl fn49))]) hP hD [4, 0, 5, 6, 1, 2, 3] (by decide) rfl
      refine W.widen (k := 0) (n := 0) (Nat.le_of_ble_eq_true rfl) (Nat.le_of_ble_eq_true rfl) ?_
      exact (W.zret (v := 1) hx hb hr (by first | rfl | decide) (fun t ht hW => ⟨⟨1, 1, rfl, ⟨rfl, by decide⟩, (ti + 1 + 1), zn53, zn54, zn55, g20, g21, g26, zn56, (cd + 1), pq, fp, fn49, l30, pl, hn51.1, (by omega), (by omega), hn57, hpq, hri, hNP, (fun _ => rfl), (fun _ => rfl), (fun _ => (by omega)), (fun _ => (by omega)), (fun _ => (by omega)), (fun _ => (Em.kp hn50)), (fun _ => (Sg.leaf hn50 (nI_pos (by omega)))), (fun _ => (P_proofO hk hn9 hn13)), (fun _ => (CR9.one (C_two hk (Or.inr (Or.inl rfl))) hn50 (ER_18 hn13 (by have q9 := hNP.1; omega) hn17 rfl).1 (ER_18 hn13 (by have q9 := hNP.1; omega) hn17 rfl).2 (Ext9.rf pl) rfl)), (fun _ => (K14.rf fp)), (fun h9 => absurd h9 (by decide)), by rw [ht]; exact hP9, hD9⟩, hS.F ht⟩) hS.2.2 dX10_proofFact_102)
  · skip
    subst hr9
    refine lv_if_ne (tgt := 18) hx hb dX10_proofFact_9 (by decide) (fun c9 => absurd c9 (by decide)) (fun c58 => ?_)
    refine lv_aload_n hx hb dX10_proofFact_12 rfl (lv_at hl 0 rfl) ?_
    refine lv_iconst (v := 2) hx hb dX10_proofFact_13 (by decide) ?_
    obtain ⟨hPc, hDc, hFc⟩ := PDq.cut (wc := [(oX10 w0 v0 v1 v2 v3 v4 g5 g6 (nI ed) g8 v9 (nI nb) g11 g12 v13 (nI ln) (nI (gP (ti + 1))) (nI (gR ((ti + 1) + 1))) zn3 zn4 zn5 g20 g21 og g23 (nI cd) zn6 g26 v27 v28 v29 v30 v31 v32 v33 v34 v35 v36 v37 (nI ol))]) hP hD hS hA [6] (by decide) rfl
    refine va_calli (va_runV (As := [.int 2]) (rest := []) ⟨hx, hb, hml, hown, hts⟩ (y_fail l D cA sa w0 ed nb ol v0 v1 v2 v3 v4 v9 v13 v27 v28 v29 v30 v31 v32 v33 v34 v35 v36 v37 g8 g11 g12 zn5 g20 g21 og g23 g26 g5 g6 zn6 ln cd zn3 zn4 (ti + 1) ct fb gP gR gS gK gV 2 H.size hln hct hn1.1 hTX hBY hn7) (cwV 1 hts gX10_proofFact_X10_fail rfl rfl rfl (by decide +kernel) ⟨(Nat.le_of_ble_eq_true rfl), (Nat.le_of_ble_eq_true rfl)⟩) ⟨Wd.blind, va_recv hK hPc (ci := 11) (q0 := 0) rfl rfl, fun U hU hW => ⟨rfl, Wd.call hPc hDc hK hC hZ hS hFc U hU hW⟩⟩ rfl rfl hl.1 rfl (lv_room (Nat.le_of_ble_eq_true rfl)) dX10_proofFact_14 ⟨(Nat.le_of_ble_eq_true rfl), (Nat.le_of_ble_eq_true rfl)⟩) hS (fun q _ h => hFc q h) hFc (fun rn59 u t H1 locs ht hvm hw hB hz1 hk1 hS => ?_)
    obtain ⟨zn60, hn61, hP1, hD1⟩ := hB
    rw [ht] at hP1
    obtain ⟨hP, hD⟩ := PDq.join (w := [(v1, .inl (cA 0, 326, .inl fp)), (v28, .inl (cA 1, 10, .inr (.inl l28))), (v30, .inl (cA 1, 8, .inr (.inl l30))), (v32, .inl (cA 0, 400, .inl fc)), (v9, .inl (cA 0, 700, .inl fb)), (v13, .inl (cA 1, 15, .inr (.inl fkw))), (oX10 w0 v0 v1 v2 v3 v4 g5 g6 (nI ed) g8 v9 (nI nb) g11 g12 v13 (nI ln) (nI (gP (ti + 1))) (nI (gR ((ti + 1) + 1))) zn3 zn4 zn5 zn60 (nI (gP (ti + 1))) og g23 (nI cd) zn6 g26 v27 v28 v29 v30 v31 v32 v33 v34 v35 v36 v37 (nI ol))]) 6 hP hD [6] [0, 1, 2, 3, 4, 5] rfl rfl (by decide) (by decide) hk1 hFc hP1 hD1 rfl
    generalize H1 = H at hP hS ⊢
    obtain rfl : rn59 = 0 := hw
    obtain ⟨hP9, hD9⟩ := PDq.sub (ws' := [(oX10 w0 v0 v1 v2 v3 v4 g5 g6 (nI ed) g8 v9 (nI nb) g11 g12 v13 (nI ln) (nI (gP (ti + 1))) (nI (gR ((ti + 1) + 1))) zn3 zn4 zn5 zn60 (nI (gP (ti + 1))) og g23 (nI cd) zn6 g26 v27 v28 v29 v30 v31 v32 v33 v34 v35 v36 v37 (nI ol)), (v1, .inl (cA 0, 326, .inl fp)), (v9, .inl (cA 0, 700, .inl fb)), (v13, .inl (cA 1, 15, .inr (.inl fkw))), (v28, .inl (cA 1, 10, .inr (.inl l28))), (v30, .inl (cA 1, 8, .inr (.inl l30))), (v32, .inl (cA 0, 400, .inl fc))]) hP hD [6, 0, 4, 5, 1, 2, 3] (by decide) rfl
    refine W.widen (k := 0) (n := 0) (Nat.le_of_ble_eq_true rfl) (Nat.le_of_ble_eq_true rfl) ?_
    exact (W.zret (v := 0) hx hb hr (by first | rfl | decide) (fun t ht hW => ⟨⟨0, 0, rfl, ⟨rfl, by decide⟩, (ti + 1), zn3, zn4, zn5, zn60, (nI (gP (ti + 1))), g26, zn6, cd, pq, fp, fc, l30, pl, hn1.1, (by omega), (by omega), hn7, hpq, hri, hNP, (fun h9 => absurd h9 (by decide)), (fun h9 => absurd h9 (by decide)), (fun h9 => absurd h9 (by decide)), (fun h9 => absurd h9 (by decide)), (fun h9 => absurd h9 (by decide)), (fun h9 => absurd h9 (by decide)), (fun h9 => absurd h9 (by decide)), (fun h9 => absurd h9 (by decide)), (fun h9 => absurd h9 (by decide)), (fun h9 => absurd h9 (by decide)), (fun _ => (P_proofEx hk hn9 hn61 (TX.s hTX (show ti + 1 < ct by omega)))), by rw [ht]; exact hP9, hD9⟩, hS.F ht⟩) hS.2.2 dX10_proofFact_17)

set_option maxHeartbeats 4000000 in
set_option maxRecDepth 100000 in
/-- reference: doneFact -/
theorem y_doneFact (l : Launch) (D : va_G) (cA : Nat → ClassId) (sa : Nat → Nat) (w0 : Nat) (ed : Nat) (nb : Nat) (ol : Nat) (v0 : Nat) (v1 : Nat) (v2 : Nat) (v3 : Nat) (v4 : Nat) (v9 : Nat) (v13 : Nat) (v27 : Nat) (v28 : Nat) (v29 : Nat) (v30 : Nat) (v31 : Nat) (v32 : Nat) (v33 : Nat) (v34 : Nat) (v35 : Nat) (v36 : Nat) (v37 : Nat) (g8 : Int32) (g11 : Int32) (g12 : Int32) (g19 : Int32) (g20 : Int32) (g21 : Int32) (g23 : Int32) (g26 : Int32) (g5 : Int64) (g6 : Int64) (g25 : Int64) (ln : Nat) (cd : Nat) (tk : Int32) (kw : Int32) (ti : Nat) (ct : Nat) (fb : Nat → Int32) (fkw : Nat → Int64) (gP : Nat → Nat) (gR : Nat → Nat) (gS : Nat → Int32) (gK : Nat → Int32) (gV : Nat → Int64) (cn : Nat) (pq : Nat) (en : Nat) (dy : Nat) (fp : Nat → Int32) (sl : Nat) (o9 : Nat) (l28 : Nat → Int64) (l30 : Nat → Int64) (fc : Nat → Int32) (ml : List Int64) (pl : List Int64) (og : Int32) (sz : Nat) (hln : ln ≤ 700) (hct : ct ≤ 701) (hti : ti < ct) (hTX : TX fb ln ct gP gR gS gV gK) (hBY : BYn ln fb) (hTK : TKR (gK ti) (gV ti) (fb (gP ti)) tk kw g19 g25) (hKW : KW 15 fkw) (hcn : cn ≤ 10) (hpq : pq ≤ 8) (hen : en ≤ 60) (hdy : dy ≤ 20000) (hri : RI cn pq en dy fp) (hcd : 2 * cd + sl ≤ gP ti) (hNM : NL ml cn l28) (hNP : NL pl pq l30) (hk : gK ti = 19) : Met l yX10_doneFact wsX10_doneFact ({ frames := 2, cells := 0, slots := 0, locals := 44 }) (va_Pc [.ref w0] (Wd D cA sa [(oX10 w0 v0 v1 v2 v3 v4 g5 g6 (nI ed) g8 v9 (nI nb) g11 g12 v13 (nI ln) (nI (gP ti)) (nI (gR (ti + 1))) tk kw g19 g20 g21 og g23 (nI cd) g25 g26 v27 v28 v29 v30 v31 v32 v33 v34 v35 v36 v37 (nI ol)), (v1, .inl (cA 0, 326, .inl fp)), (v9, .inl (cA 0, 700, .inl fb)), (v13, .inl (cA 1, 15, .inr (.inl fkw))), (v28, .inl (cA 1, 10, .inr (.inl l28))), (v30, .inl (cA 1, 8, .inr (.inl l30))), (v32, .inl (cA 0, 400, .inl fc))] sz)) (va_Qi (fun (r : Int32) (u9 : Int32) => u9 = r ∧ (r = 0 ∨ r = 1)) (fun (u9 : Int32) t => ∃ tj : Nat, ∃ z17 : Int32, ∃ z18 : Int32, ∃ z19 : Int32, ∃ z20 : Int32, ∃ z21 : Int32, ∃ z26 : Int32, ∃ z25 : Int64, ∃ cd2 : Nat, ∃ pq2 : Nat, ∃ zp : Nat → Int32, ∃ zc : Nat → Int32, ∃ zl : Nat → Int64, ∃ zpl : List Int64, tj < ct ∧ gP tj ≤ ln ∧ ti ≤ tj ∧ TKR (gK tj) (gV tj) (fb (gP tj)) z17 z18 z19 z25 ∧ pq2 ≤ 8 ∧ RI cn pq2 en dy zp ∧ NL zpl pq2 zl ∧ (u9 = 1 → z20 = g20) ∧ (u9 = 1 → z21 = g21) ∧ (u9 = 1 → ti + 1 ≤ tj) ∧ (u9 = 1 → cd ≤ cd2) ∧ (u9 = 1 → 2 * cd2 + sl ≤ gP tj) ∧ (u9 = 1 → Kp cd fc zc) ∧ (u9 = 1 → Sg cd cd2 zc) ∧ (u9 = 1 → PRx gK gS gV ml 0 o9 ti pl (.inr (tj, zpl))) ∧ (u9 = 1 → CR9 gK gV 0 ti tj ml pl zpl cd cd2 fc zc) ∧ (u9 = 1 → K14 fp zp) ∧ (u9 = 0 → PRx gK gS gV ml 0 o9 ti pl (.inl (z20, z21))) ∧ Wq D (va_A [(oX10 w0 v0 v1 v2 v3 v4 g5 g6 (nI ed) g8 v9 (nI nb) g11 g12 v13 (nI ln) (nI (gP ti)) (nI (gR (ti + 1))) tk kw g19 g20 g21 og g23 (nI cd) g25 g26 v27 v28 v29 v30 v31 v32 v33 v34 v35 v36 v37 (nI ol)), (v1, .inl (cA 0, 326, .inl fp)), (v9, .inl (cA 0, 700, .inl fb)), (v13, .inl (cA 1, 15, .inr (.inl fkw))), (v28, .inl (cA 1, 10, .inr (.inl l28))), (v30, .inl (cA 1, 8, .inr (.inl l30))), (v32, .inl (cA 0, 400, .inl fc))] sz) [(oX10 w0 v0 v1 v2 v3 v4 g5 g6 (nI ed) g8 v9 (nI nb) g11 g12 v13 (nI ln) (nI (gP tj)) (nI (gR (tj + 1))) z17 z18 z19 z20 z21 og g23 (nI cd2) z25 z26 v27 v28 v29 v30 v31 v32 v33 v34 v35 v36 v37 (nI ol)), (v1, .inl (cA 0, 326, .inl zp)), (v9, .inl (cA 0, 700, .inl fb)), (v13, .inl (cA 1, 15, .inr (.inl fkw))), (v28, .inl (cA 1, 10, .inr (.inl l28))), (v30, .inl (cA 1, 8, .inr (.inl zl))), (v32, .inl (cA 0, 400, .inl zc))] t) (va_A [(oX10 w0 v0 v1 v2 v3 v4 g5 g6 (nI ed) g8 v9 (nI nb) g11 g12 v13 (nI ln) (nI (gP ti)) (nI (gR (ti + 1))) tk kw g19 g20 g21 og g23 (nI cd) g25 g26 v27 v28 v29 v30 v31 v32 v33 v34 v35 v36 v37 (nI ol)), (v1, .inl (cA 0, 326, .inl fp)), (v9, .inl (cA 0, 700, .inl fb)), (v13, .inl (cA 1, 15, .inr (.inl fkw))), (v28, .inl (cA 1, 10, .inr (.inl l28))), (v30, .inl (cA 1, 8, .inr (.inl l30))), (v32, .inl (cA 0, 400, .inl fc))] sz)) 0 0 (va_A [(oX10 w0 v0 v1 v2 v3 v4 g5 g6 (nI ed) g8 v9 (nI nb) g11 g12 v13 (nI ln) (nI (gP ti)) (nI (gR (ti + 1))) tk kw g19 g20 g21 og g23 (nI cd) g25 g26 v27 v28 v29 v30 v31 v32 v33 v34 v35 v36 v37 (nI ol)), (v1, .inl (cA 0, 326, .inl fp)), (v9, .inl (cA 0, 700, .inl fb)), (v13, .inl (cA 1, 15, .inr (.inl fkw))), (v28, .inl (cA 1, 10, .inr (.inl l28))), (v30, .inl (cA 1, 8, .inr (.inl l30))), (v32, .inl (cA 0, 400, .inl fc))] sz) := by
  refine Met.ofW (cc := cX10_doneFact) (maxL := 2) (ret := (some .boolean)) (by decide) rfl ?_
  intro p e s m args below meth c s₁ B hml hv
  obtain ⟨rfl, hsz, hP, hK, hD0, hC, hZ⟩ := hv
  have hx := B.exec
  have hb := B.bytes
  have hr := B.returns
  have hts := atoms_spec (ws := wsX10_doneFact) B.pre
  have hown : s.vm.findClass RX10 = some m.cls := findClass_of_methodNamed B.named
  have hlocks := B.notSynchronized
  subst hsz
  have hD := hD0.self (sz := s.heap.size)
  generalize hAe : va_A [(oX10 w0 v0 v1 v2 v3 v4 g5 g6 (nI ed) g8 v9 (nI nb) g11 g12 v13 (nI ln) (nI (gP ti)) (nI (gR (ti + 1))) tk kw g19 g20 g21 og g23 (nI cd) g25 g26 v27 v28 v29 v30 v31 v32 v33 v34 v35 v36 v37 (nI ol)), (v1, .inl (cA 0, 326, .inl fp)), (v9, .inl (cA 0, 700, .inl fb)), (v13, .inl (cA 1, 15, .inr (.inl fkw))), (v28, .inl (cA 1, 10, .inr (.inl l28))), (v30, .inl (cA 1, 8, .inr (.inl l30))), (v32, .inl (cA 0, 400, .inl fc))] s.heap.size = A at hD hZ ⊢
  have hA : ∀ q : Nat, s.heap.size ≤ q → A q := fun q h => by rw [← hAe]; exact Or.inr h
  have hS : va_S A s.heap s.heap [] := va_S.rf
  have hP : va_P D vwCl [(oX10 w0 v0 v1 v2 v3 v4 g5 g6 (nI ed) g8 v9 (nI nb) g11 g12 v13 (nI ln) (nI (gP ti)) (nI (gR (ti + 1))) tk kw g19 g20 g21 og g23 (nI cd) g25 g26 v27 v28 v29 v30 v31 v32 v33 v34 v35 v36 v37 (nI ol)), (v1, .inl (cA 0, 326, .inl fp)), (v9, .inl (cA 0, 700, .inl fb)), (v13, .inl (cA 1, 15, .inr (.inl fkw))), (v28, .inl (cA 1, 10, .inr (.inl l28))), (v30, .inl (cA 1, 8, .inr (.inl l30))), (v32, .inl (cA 0, 400, .inl fc))] s.heap := hP
  have hl := lv_entry ([.ref w0]) (n := 2) (Nat.le_of_ble_eq_true rfl)
  rw [lg_entry_eq]
  generalize (lg_sl ([.ref w0]) ++ List.replicate (2 - (lg_sl ([.ref w0])).length) Slot.unset).toArray = ls at hl ⊢
  have hl : lv_has ls 2 [(0, .ref w0)] := hl
  have inX10 : ∀ w ∈ u_ws RX10 TX10 39, w ∈ wsX10_doneFact := by decide +kernel
  have hle9 := TX.le hTX hti
  refine lv_aload_n hx hb dX10_doneFact_0 rfl (lv_at hl 0 rfl) ?_
  have hn1 := TX.go2 hTX (show ti < ct by omega) (by rw [hk]; decide)
  have hn1a := TX.le hTX (show ti < ct by omega)
  have hn1b := TX.le hTX hn1.1
  obtain ⟨hPc, hDc, hFc⟩ := PDq.cut (wc := [(oX10 w0 v0 v1 v2 v3 v4 g5 g6 (nI ed) g8 v9 (nI nb) g11 g12 v13 (nI ln) (nI (gP ti)) (nI (gR (ti + 1))) tk kw g19 g20 g21 og g23 (nI cd) g25 g26 v27 v28 v29 v30 v31 v32 v33 v34 v35 v36 v37 (nI ol)), (v9, .inl (cA 0, 700, .inl fb)), (v13, .inl (cA 1, 15, .inr (.inl fkw)))]) hP hD hS hA [0, 2, 3] (by decide) rfl
  refine va_calli (va_runV (As := []) (rest := []) ⟨hx, hb, hml, hown, hts⟩ (y_advance l D cA sa w0 ed nb ol v0 v1 v2 v3 v4 v9 v13 v27 v28 v29 v30 v31 v32 v33 v34 v35 v36 v37 g8 g11 g12 (nI (gP ti)) tk kw g19 g20 g21 og g23 (nI cd) g26 g5 g6 g25 ln (gR (ti + 1)) fb fkw (gP (ti + 1)) (gR ((ti + 1) + 1)) (gK (ti + 1)) (gV (ti + 1)) s.heap.size hln (by omega) hKW hBY (TX.t hTX hn1.1)) (cwV 0 hts gX10_doneFact_X10_advance rfl rfl rfl (by decide +kernel) ⟨(Nat.le_of_ble_eq_true rfl), (Nat.le_of_ble_eq_true rfl)⟩) ⟨Wd.blind, va_recv hK hPc (ci := 11) (q0 := 0) rfl rfl, fun U hU hW => ⟨rfl, Wd.call hPc hDc hK hC hZ hS hFc U hU hW⟩⟩ rfl rfl hl.1 rfl (lv_room (Nat.le_of_ble_eq_true rfl)) dX10_doneFact_1 ⟨(Nat.le_of_ble_eq_true rfl), (Nat.le_of_ble_eq_true rfl)⟩) hS (fun q _ h => hFc q h) hFc (fun rn2 u t H1 locs ht hvm hw hB hz1 hk1 hS => ?_)
  obtain ⟨zn3, zn4, zn5, zn6, hn7, hP1, hD1⟩ := hB
  rw [ht] at hP1
  obtain ⟨hP, hD⟩ := PDq.join (w := [(v1, .inl (cA 0, 326, .inl fp)), (v28, .inl (cA 1, 10, .inr (.inl l28))), (v30, .inl (cA 1, 8, .inr (.inl l30))), (v32, .inl (cA 0, 400, .inl fc)), (oX10 w0 v0 v1 v2 v3 v4 g5 g6 (nI ed) g8 v9 (nI nb) g11 g12 v13 (nI ln) (nI (gP (ti + 1))) (nI (gR ((ti + 1) + 1))) zn3 zn4 zn5 g20 g21 og g23 (nI cd) zn6 g26 v27 v28 v29 v30 v31 v32 v33 v34 v35 v36 v37 (nI ol)), (v9, .inl (cA 0, 700, .inl fb)), (v13, .inl (cA 1, 15, .inr (.inl fkw)))]) 4 hP hD [0, 2, 3] [1, 4, 5, 6] rfl rfl (by decide) (by decide) hk1 hFc hP1 hD1 rfl
  generalize H1 = H at hP hS ⊢
  obtain rfl : rn2 = 1 := hw
  refine lv_pop hx hb dX10_doneFact_4 rfl ?_
  refine lv_aload_n hx hb dX10_doneFact_5 rfl (lv_at hl 0 rfl) ?_
  obtain ⟨hPc, hDc, hFc⟩ := PDq.cut (wc := [(oX10 w0 v0 v1 v2 v3 v4 g5 g6 (nI ed) g8 v9 (nI nb) g11 g12 v13 (nI ln) (nI (gP (ti + 1))) (nI (gR ((ti + 1) + 1))) zn3 zn4 zn5 g20 g21 og g23 (nI cd) zn6 g26 v27 v28 v29 v30 v31 v32 v33 v34 v35 v36 v37 (nI ol))]) hP hD hS hA [4] (by decide) rfl
  refine va_calli (va_runV (As := []) (rest := []) ⟨hx, hb, hml, hown, hts⟩ (y_isName l D cA sa w0 ed nb ol v0 v1 v2 v3 v4 v9 v13 v27 v28 v29 v30 v31 v32 v33 v34 v35 v36 v37 g8 g11 g12 zn5 g20 g21 og g23 g26 g5 g6 zn6 ln cd zn3 zn4 (ti + 1) ct fb gP gR gS gK gV H.size hln hct hn1.1 hTX hBY hn7) (cwV 0 hts gX10_doneFact_X10_isName rfl rfl rfl (by decide +kernel) ⟨(Nat.le_of_ble_eq_true rfl), (Nat.le_of_ble_eq_true rfl)⟩) ⟨Wd.blind, va_recv hK hPc (ci := 11) (q0 := 0) rfl rfl, fun U hU hW => ⟨rfl, Wd.call hPc hDc hK hC hZ hS hFc U hU hW⟩⟩ rfl rfl hl.1 rfl (lv_room (Nat.le_of_ble_eq_true rfl)) dX10_doneFact_6 ⟨(Nat.le_of_ble_eq_true rfl), (Nat.le_of_ble_eq_true rfl)⟩) hS (fun q _ h => hFc q h) hFc (fun rn8 u t H1 locs ht hvm hw hB hz1 hk1 hS => ?_)
  obtain ⟨hP1, hD1⟩ := hB
  rw [ht] at hP1
  obtain ⟨hP, hD⟩ := PDq.join (w := [(v1, .inl (cA 0, 326, .inl fp)), (v28, .inl (cA 1, 10, .inr (.inl l28))), (v30, .inl (cA 1, 8, .inr (.inl l30))), (v32, .inl (cA 0, 400, .inl fc)), (v9, .inl (cA 0, 700, .inl fb)), (v13, .inl (cA 1, 15, .inr (.inl fkw))), (oX10 w0 v0 v1 v2 v3 v4 g5 g6 (nI ed) g8 v9 (nI nb) g11 g12 v13 (nI ln) (nI (gP (ti + 1))) (nI (gR ((ti + 1) + 1))) zn3 zn4 zn5 g20 g21 og g23 (nI cd) zn6 g26 v27 v28 v29 v30 v31 v32 v33 v34 v35 v36 v37 (nI ol))]) 6 hP hD [4] [0, 1, 2, 3, 5, 6] rfl rfl (by decide) (by decide) hk1 hFc hP1 hD1 rfl
  generalize H1 = H at hP hS ⊢
  rcases hw with ⟨hr9, hn9⟩ | ⟨hr9, hn9⟩
  · skip
    subst hr9
    refine lv_if_ne (tgt := 18) hx hb dX10_doneFact_9 (by decide) (fun c10 => ?_) (fun c9 => absurd c9 (by decide))
    obtain rfl : zn6 = gV (ti + 1) := TKR.wd hn7 hn9
    obtain ⟨hP, hD⟩ : PDq D A [(v1, .inl (cA 0, 326, .inl fp)), (v28, .inl (cA 1, 10, .inr (.inl l28))), (v30, .inl (cA 1, 8, .inr (.inl l30))), (v32, .inl (cA 0, 400, .inl fc)), (v9, .inl (cA 0, 700, .inl fb)), (v13, .inl (cA 1, 15, .inr (.inl fkw))), (oX10 w0 v0 v1 v2 v3 v4 g5 g6 (nI ed) g8 v9 (nI nb) g11 g12 v13 (nI ln) (nI (gP (ti + 1))) (nI (gR ((ti + 1) + 1))) zn3 zn4 zn5 g20 g21 og g23 (nI cd) (gV (ti + 1)) g26 v27 v28 v29 v30 v31 v32 v33 v34 v35 v36 v37 (nI ol))] H := ⟨hP, hD⟩
    refine lv_aload_n hx hb dX10_doneFact_18 rfl (lv_at hl 0 rfl) ?_
    refine va_get (D := D) (ci := 11) (v := .ref v28) (C := RX10) (T := TX10) (N := 39) hx hb hts inX10 hown hK hP 6 rfl rfl 28 (by decide) (hts (.fieldLink RX10 39 "EscrowDeskModel" "namesRead" "[J") (by decide +kernel)) (fun _ h9 => h9) rfl dX10_doneFact_19 ?_
    refine lv_aload_n hx hb dX10_doneFact_22 rfl (lv_at hl 0 rfl) ?_
    refine va_get (D := D) (ci := 11) (v := .ref v1) (C := RX10) (T := TX10) (N := 39) hx hb hts inX10 hown hK hP 6 rfl rfl 1 (by decide) (hts (.fieldLink RX10 13 "EscrowDeskModel" "parsed" "[I") (by decide +kernel)) (fun _ h9 => h9) rfl dX10_doneFact_23 ?_
    refine lv_bipush (v := 13) hx hb dX10_doneFact_26 (by decide) ?_
    refine va_iald hx hb hK hP 0 0 rfl rfl (vp_in_iff.mpr (by decide)) dX10_doneFact_28 ?_
    refine lv_topi (fun yn11 eyn11 => ?_)
    obtain rfl : yn11 = (nI cn) := eyn11.trans hri.1
    refine lv_aload_n hx hb dX10_doneFact_29 rfl (lv_at hl 0 rfl) ?_
    refine va_get (D := D) (ci := 11) (v := .long (gV (ti + 1))) (C := RX10) (T := TX10) (N := 39) hx hb hts inX10 hown hK hP 6 rfl rfl 25 (by decide) (hts (.fieldLink RX10 123 "EscrowDeskModel" "word" "J") (by decide +kernel)) (fun _ h9 => h9) rfl dX10_doneFact_30 ?_
    obtain ⟨hPc, hDc, hFc⟩ := PDq.cut (wc := [(v28, .inl (cA 1, 10, .inr (.inl l28)))]) hP hD hS hA [1] (by decide) rfl
    refine va_calli (va_runS (As := [.ref v28, .int (nI cn), .long (gV (ti + 1))]) (rest := []) ⟨hx, hb, hml, hown, hts⟩ (y_find10 l D cA sa v28 cn (gV (ti + 1)) l28 H.size hcn) (va_cwS 3 hts gX10_doneFact_X10_find rfl rfl rfl (by decide +kernel) ⟨(Nat.le_of_ble_eq_true rfl), (Nat.le_of_ble_eq_true rfl)⟩) ⟨Wd.blind, fun U hU hW => ⟨rfl, Wd.call hPc hDc hK hC hZ hS hFc U hU hW⟩⟩ rfl rfl hl.1 rfl (lv_room (Nat.le_of_ble_eq_true rfl)) dX10_doneFact_33 ⟨(Nat.le_of_ble_eq_true rfl), (Nat.le_of_ble_eq_true rfl)⟩) hS (fun q _ h => hFc q h) hFc (fun rn12 u t H1 locs ht hvm hw hB hz1 hk1 hS => ?_)
    obtain ⟨hP1, hD1⟩ := hB
    rw [ht] at hP1
    obtain ⟨hP, hD⟩ := PDq.join (w := [(v1, .inl (cA 0, 326, .inl fp)), (v30, .inl (cA 1, 8, .inr (.inl l30))), (v32, .inl (cA 0, 400, .inl fc)), (v9, .inl (cA 0, 700, .inl fb)), (v13, .inl (cA 1, 15, .inr (.inl fkw))), (oX10 w0 v0 v1 v2 v3 v4 g5 g6 (nI ed) g8 v9 (nI nb) g11 g12 v13 (nI ln) (nI (gP (ti + 1))) (nI (gR ((ti + 1) + 1))) zn3 zn4 zn5 g20 g21 og g23 (nI cd) (gV (ti + 1)) g26 v27 v28 v29 v30 v31 v32 v33 v34 v35 v36 v37 (nI ol)), (v28, .inl (cA 1, 10, .inr (.inl l28)))]) 6 hP hD [1] [0, 2, 3, 4, 5, 6] rfl rfl (by decide) (by decide) hk1 hFc hP1 hD1 rfl
    generalize H1 = H at hP hS ⊢
    rcases hw with ⟨hr9, hn13⟩ | ⟨kn14, hn15, hr9, hn13, hn16⟩
    · skip
      subst hr9
      have hn13 := NL.not hNM hn13
      refine lv_istore_n (lv' := [(1, .int (-1)), (0, .ref w0)]) hx hb dX10_doneFact_36 rfl hl (by decide) rfl (fun ls hl => ?_)
      refine lv_iload_n hx hb dX10_doneFact_37 rfl (lv_at hl 0 rfl) ?_
      refine lv_iconst (v := (-1)) hx hb dX10_doneFact_38 (by decide) ?_
      refine lv_icmp_ne (tgt := 48) hx hb dX10_doneFact_39 (by decide) (fun c9 => absurd c9 (by decide)) (fun c18 => ?_)
      refine lv_aload_n hx hb dX10_doneFact_42 rfl (lv_at hl 1 rfl) ?_
      refine lv_iconst (v := 4) hx hb dX10_doneFact_43 (by decide) ?_
      obtain ⟨hPc, hDc, hFc⟩ := PDq.cut (wc := [(oX10 w0 v0 v1 v2 v3 v4 g5 g6 (nI ed) g8 v9 (nI nb) g11 g12 v13 (nI ln) (nI (gP (ti + 1))) (nI (gR ((ti + 1) + 1))) zn3 zn4 zn5 g20 g21 og g23 (nI cd) (gV (ti + 1)) g26 v27 v28 v29 v30 v31 v32 v33 v34 v35 v36 v37 (nI ol))]) hP hD hS hA [5] (by decide) rfl
      refine va_calli (va_runV (As := [.int 4]) (rest := []) ⟨hx, hb, hml, hown, hts⟩ (y_fail l D cA sa w0 ed nb ol v0 v1 v2 v3 v4 v9 v13 v27 v28 v29 v30 v31 v32 v33 v34 v35 v36 v37 g8 g11 g12 zn5 g20 g21 og g23 g26 g5 g6 (gV (ti + 1)) ln cd zn3 zn4 (ti + 1) ct fb gP gR gS gK gV 4 H.size hln hct hn1.1 hTX hBY hn7) (cwV 1 hts gX10_doneFact_X10_fail rfl rfl rfl (by decide +kernel) ⟨(Nat.le_of_ble_eq_true rfl), (Nat.le_of_ble_eq_true rfl)⟩) ⟨Wd.blind, va_recv hK hPc (ci := 11) (q0 := 0) rfl rfl, fun U hU hW => ⟨rfl, Wd.call hPc hDc hK hC hZ hS hFc U hU hW⟩⟩ rfl rfl hl.1 rfl (lv_room (Nat.le_of_ble_eq_true rfl)) dX10_doneFact_44 ⟨(Nat.le_of_ble_eq_true rfl), (Nat.le_of_ble_eq_true rfl)⟩) hS (fun q _ h => hFc q h) hFc (fun rn19 u t H1 locs ht hvm hw hB hz1 hk1 hS => ?_)
      obtain ⟨zn20, hn21, hP1, hD1⟩ := hB
      rw [ht] at hP1
      obtain ⟨hP, hD⟩ := PDq.join (w := [(v1, .inl (cA 0, 326, .inl fp)), (v30, .inl (cA 1, 8, .inr (.inl l30))), (v32, .inl (cA 0, 400, .inl fc)), (v9, .inl (cA 0, 700, .inl fb)), (v13, .inl (cA 1, 15, .inr (.inl fkw))), (v28, .inl (cA 1, 10, .inr (.inl l28))), (oX10 w0 v0 v1 v2 v3 v4 g5 g6 (nI ed) g8 v9 (nI nb) g11 g12 v13 (nI ln) (nI (gP (ti + 1))) (nI (gR ((ti + 1) + 1))) zn3 zn4 zn5 zn20 (nI (gP (ti + 1))) og g23 (nI cd) (gV (ti + 1)) g26 v27 v28 v29 v30 v31 v32 v33 v34 v35 v36 v37 (nI ol))]) 6 hP hD [5] [0, 1, 2, 3, 4, 6] rfl rfl (by decide) (by decide) hk1 hFc hP1 hD1 rfl
      generalize H1 = H at hP hS ⊢
      obtain rfl : rn19 = 0 := hw
      obtain ⟨hP9, hD9⟩ := PDq.sub (ws' := [(oX10 w0 v0 v1 v2 v3 v4 g5 g6 (nI ed) g8 v9 (nI nb) g11 g12 v13 (nI ln) (nI (gP (ti + 1))) (nI (gR ((ti + 1) + 1))) zn3 zn4 zn5 zn20 (nI (gP (ti + 1))) og g23 (nI cd) (gV (ti + 1)) g26 v27 v28 v29 v30 v31 v32 v33 v34 v35 v36 v37 (nI ol)), (v1, .inl (cA 0, 326, .inl fp)), (v9, .inl (cA 0, 700, .inl fb)), (v13, .inl (cA 1, 15, .inr (.inl fkw))), (v28, .inl (cA 1, 10, .inr (.inl l28))), (v30, .inl (cA 1, 8, .inr (.inl l30))), (v32, .inl (cA 0, 400, .inl fc))]) hP hD [6, 0, 3, 4, 5, 1, 2] (by decide) rfl
      refine W.widen (k := 0) (n := 0) (Nat.le_of_ble_eq_true rfl) (Nat.le_of_ble_eq_true rfl) ?_
      exact (W.zret (v := 0) hx hb hr (by first | rfl | decide) (fun t ht hW => ⟨⟨0, 0, rfl, ⟨rfl, by decide⟩, (ti + 1), zn3, zn4, zn5, zn20, (nI (gP (ti + 1))), g26, (gV (ti + 1)), cd, pq, fp, fc, l30, pl, hn1.1, (by omega), (by omega), hn7, hpq, hri, hNP, (fun h9 => absurd h9 (by decide)), (fun h9 => absurd h9 (by decide)), (fun h9 => absurd h9 (by decide)), (fun h9 => absurd h9 (by decide)), (fun h9 => absurd h9 (by decide)), (fun h9 => absurd h9 (by decide)), (fun h9 => absurd h9 (by decide)), (fun h9 => absurd h9 (by decide)), (fun h9 => absurd h9 (by decide)), (fun h9 => absurd h9 (by decide)), (fun _ => (P_doneFx hk hn9 hn13 hn21 (TX.s hTX (show ti + 1 < ct by omega)))), by rw [ht]; exact hP9, hD9⟩, hS.F ht⟩) hS.2.2 dX10_doneFact_47)
    · skip
      subst hr9
      have hn17 := NL.fi hNM hn15 hn13 hn16
      have hn13 := NL.mem hNM hn15 hn13
      refine lv_istore_n (lv' := [(1, .int (nI kn14)), (0, .ref w0)]) hx hb dX10_doneFact_36 rfl hl (by decide) rfl (fun ls hl => ?_)
      refine lv_iload_n hx hb dX10_doneFact_37 rfl (lv_at hl 0 rfl) ?_
      refine lv_iconst (v := (-1)) hx hb dX10_doneFact_38 (by decide) ?_
      refine lv_icmp_ne (tgt := 48) hx hb dX10_doneFact_39 (by decide) (fun c22 => ?_) (fun c9 => absurd c9 (nI_neg (n := kn14) (by omega) (by decide)))
      refine lv_aload_n hx hb dX10_doneFact_48 rfl (lv_at hl 1 rfl) ?_
      refine lv_ldc (v := 200000) hx hb hown (hts (.constant RX10 202 200000) (by decide +kernel)) dX10_doneFact_49 ?_
      refine lv_iload_n hx hb dX10_doneFact_51 rfl (lv_at hl 0 rfl) ?_
      refine lv_iadd hx hb dX10_doneFact_52 ?_
      refine lv_topi (fun yn23 eyn23 => ?_)
      obtain rfl : yn23 = (nI (200000 + kn14)) := eyn23.trans (nI_add 200000 kn14)
      obtain ⟨hPc, hDc, hFc⟩ := PDq.cut (wc := [(oX10 w0 v0 v1 v2 v3 v4 g5 g6 (nI ed) g8 v9 (nI nb) g11 g12 v13 (nI ln) (nI (gP (ti + 1))) (nI (gR ((ti + 1) + 1))) zn3 zn4 zn5 g20 g21 og g23 (nI cd) (gV (ti + 1)) g26 v27 v28 v29 v30 v31 v32 v33 v34 v35 v36 v37 (nI ol)), (v32, .inl (cA 0, 400, .inl fc))]) hP hD hS hA [5, 2] (by decide) rfl
      refine va_calli (va_runV (As := [.int (nI (200000 + kn14))]) (rest := []) ⟨hx, hb, hml, hown, hts⟩ (r_emit l D cA sa w0 ed nb ol v0 v1 v2 v3 v4 v9 v13 v27 v28 v29 v30 v31 v32 v33 v34 v35 v36 v37 g8 g11 g12 (nI ln) (nI (gP (ti + 1))) (nI (gR ((ti + 1) + 1))) zn3 zn4 zn5 g20 g21 og g23 g26 g5 g6 (gV (ti + 1)) cd (nI (200000 + kn14)) fc H.size (by omega)) (cwV 1 hts gX10_doneFact_X10_emit rfl rfl rfl (by decide +kernel) ⟨(Nat.le_of_ble_eq_true rfl), (Nat.le_of_ble_eq_true rfl)⟩) ⟨Wd.blind, va_recv hK hPc (ci := 11) (q0 := 0) rfl rfl, fun U hU hW => ⟨rfl, Wd.call hPc hDc hK hC hZ hS hFc U hU hW⟩⟩ rfl rfl hl.1 rfl (lv_room (Nat.le_of_ble_eq_true rfl)) dX10_doneFact_53 ⟨(Nat.le_of_ble_eq_true rfl), (Nat.le_of_ble_eq_true rfl)⟩) hS (fun q _ h => hFc q h) hFc (fun rn24 u t H1 locs ht hvm hw hB hz1 hk1 hS => ?_)
      obtain ⟨fn25, hn26, hP1, hD1⟩ := hB
      rw [ht] at hP1
      obtain ⟨hP, hD⟩ := PDq.join (w := [(v1, .inl (cA 0, 326, .inl fp)), (v30, .inl (cA 1, 8, .inr (.inl l30))), (v9, .inl (cA 0, 700, .inl fb)), (v13, .inl (cA 1, 15, .inr (.inl fkw))), (v28, .inl (cA 1, 10, .inr (.inl l28))), (oX10 w0 v0 v1 v2 v3 v4 g5 g6 (nI ed) g8 v9 (nI nb) g11 g12 v13 (nI ln) (nI (gP (ti + 1))) (nI (gR ((ti + 1) + 1))) zn3 zn4 zn5 g20 g21 og g23 (nI (cd + 1)) (gV (ti + 1)) g26 v27 v28 v29 v30 v31 v32 v33 v34 v35 v36 v37 (nI ol)), (v32, .inl (cA 0, 400, .inl fn25))]) 5 hP hD [5, 2] [0, 1, 3, 4, 6] rfl rfl (by decide) (by decide) hk1 hFc hP1 hD1 rfl
      generalize H1 = H at hP hS ⊢
      obtain rfl : rn24 = 1 := hw
      refine lv_pop hx hb dX10_doneFact_56 rfl ?_
      refine lv_aload_n hx hb dX10_doneFact_57 rfl (lv_at hl 1 rfl) ?_
      have hn27 := TX.go hTX (show ti + 1 < ct by omega) (by rw [hn9]; decide)
      have hn27a := TX.le hTX (show ti + 1 < ct by omega)
      have hn27b := TX.le hTX hn27.1
      obtain ⟨hPc, hDc, hFc⟩ := PDq.cut (wc := [(oX10 w0 v0 v1 v2 v3 v4 g5 g6 (nI ed) g8 v9 (nI nb) g11 g12 v13 (nI ln) (nI (gP (ti + 1))) (nI (gR ((ti + 1) + 1))) zn3 zn4 zn5 g20 g21 og g23 (nI (cd + 1)) (gV (ti + 1)) g26 v27 v28 v29 v30 v31 v32 v33 v34 v35 v36 v37 (nI ol)), (v9, .inl (cA 0, 700, .inl fb)), (v13, .inl (cA 1, 15, .inr (.inl fkw)))]) hP hD hS hA [5, 2, 3] (by decide) rfl
      refine va_calli (va_runV (As := []) (rest := []) ⟨hx, hb, hml, hown, hts⟩ (y_advance l D cA sa w0 ed nb ol v0 v1 v2 v3 v4 v9 v13 v27 v28 v29 v30 v31 v32 v33 v34 v35 v36 v37 g8 g11 g12 (nI (gP (ti + 1))) zn3 zn4 zn5 g20 g21 og g23 (nI (cd + 1)) g26 g5 g6 (gV (ti + 1)) ln (gR ((ti + 1) + 1)) fb fkw (gP (ti + 1 + 1)) (gR ((ti + 1 + 1) + 1)) (gK (ti + 1 + 1)) (gV (ti + 1 + 1)) H.size hln (by omega) hKW hBY (TX.t hTX hn27.1)) (cwV 0 hts gX10_doneFact_X10_advance rfl rfl rfl (by decide +kernel) ⟨(Nat.le_of_ble_eq_true rfl), (Nat.le_of_ble_eq_true rfl)⟩) ⟨Wd.blind, va_recv hK hPc (ci := 11) (q0 := 0) rfl rfl, fun U hU hW => ⟨rfl, Wd.call hPc hDc hK hC hZ hS hFc U hU hW⟩⟩ rfl rfl hl.1 rfl (lv_room (Nat.le_of_ble_eq_true rfl)) dX10_doneFact_58 ⟨(Nat.le_of_ble_eq_true rfl), (Nat.le_of_ble_eq_true rfl)⟩) hS (fun q _ h => hFc q h) hFc (fun rn28 u t H1 locs ht hvm hw hB hz1 hk1 hS => ?_)
      obtain ⟨zn29, zn30, zn31, zn32, hn33, hP1, hD1⟩ := hB
      rw [ht] at hP1
      obtain ⟨hP, hD⟩ := PDq.join (w := [(v1, .inl (cA 0, 326, .inl fp)), (v30, .inl (cA 1, 8, .inr (.inl l30))), (v28, .inl (cA 1, 10, .inr (.inl l28))), (v32, .inl (cA 0, 400, .inl fn25)), (oX10 w0 v0 v1 v2 v3 v4 g5 g6 (nI ed) g8 v9 (nI nb) g11 g12 v13 (nI ln) (nI (gP (ti + 1 + 1))) (nI (gR ((ti + 1 + 1) + 1))) zn29 zn30 zn31 g20 g21 og g23 (nI (cd + 1)) zn32 g26 v27 v28 v29 v30 v31 v32 v33 v34 v35 v36 v37 (nI ol)), (v9, .inl (cA 0, 700, .inl fb)), (v13, .inl (cA 1, 15, .inr (.inl fkw)))]) 4 hP hD [5, 2, 3] [0, 1, 4, 6] rfl rfl (by decide) (by decide) hk1 hFc hP1 hD1 rfl
      generalize H1 = H at hP hS ⊢
      obtain rfl : rn28 = 1 := hw
      obtain ⟨hP9, hD9⟩ := PDq.sub (ws' := [(oX10 w0 v0 v1 v2 v3 v4 g5 g6 (nI ed) g8 v9 (nI nb) g11 g12 v13 (nI ln) (nI (gP (ti + 1 + 1))) (nI (gR ((ti + 1 + 1) + 1))) zn29 zn30 zn31 g20 g21 og g23 (nI (cd + 1)) zn32 g26 v27 v28 v29 v30 v31 v32 v33 v34 v35 v36 v37 (nI ol)), (v1, .inl (cA 0, 326, .inl fp)), (v9, .inl (cA 0, 700, .inl fb)), (v13, .inl (cA 1, 15, .inr (.inl fkw))), (v28, .inl (cA 1, 10, .inr (.inl l28))), (v30, .inl (cA 1, 8, .inr (.inl l30))), (v32, .inl (cA 0, 400, .inl fn25))]) hP hD [4, 0, 5, 6, 2, 1, 3] (by decide) rfl
      refine W.widen (k := 0) (n := 0) (Nat.le_of_ble_eq_true rfl) (Nat.le_of_ble_eq_true rfl) ?_
      exact (W.zret (v := 1) hx hb hr (by first | rfl | decide) (fun t ht hW => ⟨⟨1, 1, rfl, ⟨rfl, by decide⟩, (ti + 1 + 1), zn29, zn30, zn31, g20, g21, g26, zn32, (cd + 1), pq, fp, fn25, l30, pl, hn27.1, (by omega), (by omega), hn33, hpq, hri, hNP, (fun _ => rfl), (fun _ => rfl), (fun _ => (by omega)), (fun _ => (by omega)), (fun _ => (by omega)), (fun _ => (Em.kp hn26)), (fun _ => (Sg.leaf hn26 (nI_pos (by omega)))), (fun _ => (P_done hk hn9 hn13)), (fun _ => (CR9.one (C_two hk (Or.inr (Or.inr (Or.inl rfl)))) hn26 (ER_19 hn13 (by have q9 := hNM.1; omega) hn17 rfl).1 (ER_19 hn13 (by have q9 := hNM.1; omega) hn17 rfl).2 (Ext9.rf pl) rfl)), (fun _ => (K14.rf fp)), (fun h9 => absurd h9 (by decide)), by rw [ht]; exact hP9, hD9⟩, hS.F ht⟩) hS.2.2 dX10_doneFact_61)
  · skip
    subst hr9
    refine lv_if_ne (tgt := 18) hx hb dX10_doneFact_9 (by decide) (fun c9 => absurd c9 (by decide)) (fun c34 => ?_)
    refine lv_aload_n hx hb dX10_doneFact_12 rfl (lv_at hl 0 rfl) ?_
    refine lv_iconst (v := 2) hx hb dX10_doneFact_13 (by decide) ?_
    obtain ⟨hPc, hDc, hFc⟩ := PDq.cut (wc := [(oX10 w0 v0 v1 v2 v3 v4 g5 g6 (nI ed) g8 v9 (nI nb) g11 g12 v13 (nI ln) (nI (gP (ti + 1))) (nI (gR ((ti + 1) + 1))) zn3 zn4 zn5 g20 g21 og g23 (nI cd) zn6 g26 v27 v28 v29 v30 v31 v32 v33 v34 v35 v36 v37 (nI ol))]) hP hD hS hA [6] (by decide) rfl
    refine va_calli (va_runV (As := [.int 2]) (rest := []) ⟨hx, hb, hml, hown, hts⟩ (y_fail l D cA sa w0 ed nb ol v0 v1 v2 v3 v4 v9 v13 v27 v28 v29 v30 v31 v32 v33 v34 v35 v36 v37 g8 g11 g12 zn5 g20 g21 og g23 g26 g5 g6 zn6 ln cd zn3 zn4 (ti + 1) ct fb gP gR gS gK gV 2 H.size hln hct hn1.1 hTX hBY hn7) (cwV 1 hts gX10_doneFact_X10_fail rfl rfl rfl (by decide +kernel) ⟨(Nat.le_of_ble_eq_true rfl), (Nat.le_of_ble_eq_true rfl)⟩) ⟨Wd.blind, va_recv hK hPc (ci := 11) (q0 := 0) rfl rfl, fun U hU hW => ⟨rfl, Wd.call hPc hDc hK hC hZ hS hFc U hU hW⟩⟩ rfl rfl hl.1 rfl (lv_room (Nat.le_of_ble_eq_true rfl)) dX10_doneFact_14 ⟨(Nat.le_of_ble_eq_true rfl), (Nat.le_of_ble_eq_true rfl)⟩) hS (fun q _ h => hFc q h) hFc (fun rn35 u t H1 locs ht hvm hw hB hz1 hk1 hS => ?_)
    obtain ⟨zn36, hn37, hP1, hD1⟩ := hB
    rw [ht] at hP1
    obtain ⟨hP, hD⟩ := PDq.join (w := [(v1, .inl (cA 0, 326, .inl fp)), (v28, .inl (cA 1, 10, .inr (.inl l28))), (v30, .inl (cA 1, 8, .inr (.inl l30))), (v32, .inl (cA 0, 400, .inl fc)), (v9, .inl (cA 0, 700, .inl fb)), (v13, .inl (cA 1, 15, .inr (.inl fkw))), (oX10 w0 v0 v1 v2 v3 v4 g5 g6 (nI ed) g8 v9 (nI nb) g11 g12 v13 (nI ln) (nI (gP (ti + 1))) (nI (gR ((ti + 1) + 1))) zn3 zn4 zn5 zn36 (nI (gP (ti + 1))) og g23 (nI cd) zn6 g26 v27 v28 v29 v30 v31 v32 v33 v34 v35 v36 v37 (nI ol))]) 6 hP hD [6] [0, 1, 2, 3, 4, 5] rfl rfl (by decide) (by decide) hk1 hFc hP1 hD1 rfl
    generalize H1 = H at hP hS ⊢
    obtain rfl : rn35 = 0 := hw
    obtain ⟨hP9, hD9⟩ := PDq.sub (ws' := [(oX10 w0 v0 v1 v2 v3 v4 g5 g6 (nI ed) g8 v9 (nI nb) g11 g12 v13 (nI ln) (nI (gP (ti + 1))) (nI (gR ((ti + 1) + 1))) zn3 zn4 zn5 zn36 (nI (gP (ti + 1))) og g23 (nI cd) zn6 g26 v27 v28 v29 v30 v31 v32 v33 v34 v35 v36 v37 (nI ol)), (v1, .inl (cA 0, 326, .inl fp)), (v9, .inl (cA 0, 700, .inl fb)), (v13, .inl (cA 1, 15, .inr (.inl fkw))), (v28, .inl (cA 1, 10, .inr (.inl l28))), (v30, .inl (cA 1, 8, .inr (.inl l30))), (v32, .inl (cA 0, 400, .inl fc))]) hP hD [6, 0, 4, 5, 1, 2, 3] (by decide) rfl
    refine W.widen (k := 0) (n := 0) (Nat.le_of_ble_eq_true rfl) (Nat.le_of_ble_eq_true rfl) ?_
    exact (W.zret (v := 0) hx hb hr (by first | rfl | decide) (fun t ht hW => ⟨⟨0, 0, rfl, ⟨rfl, by decide⟩, (ti + 1), zn3, zn4, zn5, zn36, (nI (gP (ti + 1))), g26, zn6, cd, pq, fp, fc, l30, pl, hn1.1, (by omega), (by omega), hn7, hpq, hri, hNP, (fun h9 => absurd h9 (by decide)), (fun h9 => absurd h9 (by decide)), (fun h9 => absurd h9 (by decide)), (fun h9 => absurd h9 (by decide)), (fun h9 => absurd h9 (by decide)), (fun h9 => absurd h9 (by decide)), (fun h9 => absurd h9 (by decide)), (fun h9 => absurd h9 (by decide)), (fun h9 => absurd h9 (by decide)), (fun h9 => absurd h9 (by decide)), (fun _ => (P_doneEx hk hn9 hn37 (TX.s hTX (show ti + 1 < ct by omega)))), by rw [ht]; exact hP9, hD9⟩, hS.F ht⟩) hS.2.2 dX10_doneFact_17)

set_option maxHeartbeats 4000000 in
set_option maxRecDepth 100000 in
/-- reference: numberFact -/
theorem y_numberFact0 (l : Launch) (D : va_G) (cA : Nat → ClassId) (sa : Nat → Nat) (w0 : Nat) (ed : Nat) (nb : Nat) (ol : Nat) (v0 : Nat) (v1 : Nat) (v2 : Nat) (v3 : Nat) (v4 : Nat) (v9 : Nat) (v13 : Nat) (v27 : Nat) (v28 : Nat) (v29 : Nat) (v30 : Nat) (v31 : Nat) (v32 : Nat) (v33 : Nat) (v34 : Nat) (v35 : Nat) (v36 : Nat) (v37 : Nat) (g8 : Int32) (g11 : Int32) (g12 : Int32) (g19 : Int32) (g20 : Int32) (g21 : Int32) (g23 : Int32) (g26 : Int32) (g5 : Int64) (g6 : Int64) (g25 : Int64) (ln : Nat) (cd : Nat) (tk : Int32) (kw : Int32) (ti : Nat) (ct : Nat) (fb : Nat → Int32) (fkw : Nat → Int64) (gP : Nat → Nat) (gR : Nat → Nat) (gS : Nat → Int32) (gK : Nat → Int32) (gV : Nat → Int64) (cn : Nat) (pq : Nat) (en : Nat) (dy : Nat) (fp : Nat → Int32) (sl : Nat) (o9 : Nat) (l28 : Nat → Int64) (l30 : Nat → Int64) (fc : Nat → Int32) (ml : List Int64) (pl : List Int64) (og : Int32) (sz : Nat) (hln : ln ≤ 700) (hct : ct ≤ 701) (hti : ti < ct) (hTX : TX fb ln ct gP gR gS gV gK) (hBY : BYn ln fb) (hTK : TKR (gK ti) (gV ti) (fb (gP ti)) tk kw g19 g25) (hKW : KW 15 fkw) (hcn : cn ≤ 10) (hpq : pq ≤ 8) (hen : en ≤ 60) (hdy : dy ≤ 20000) (hri : RI cn pq en dy fp) (hcd : 2 * cd + sl ≤ gP ti) (hNM : NL ml cn l28) (hNP : NL pl pq l30) (hk : gK ti = 17) : Met l yX10_numberFact wsX10_numberFact ({ frames := 3, cells := 0, slots := 0, locals := 66 }) (va_Pc [.ref w0, .int 0, .int 999] (Wd D cA sa [(oX10 w0 v0 v1 v2 v3 v4 g5 g6 (nI ed) g8 v9 (nI nb) g11 g12 v13 (nI ln) (nI (gP ti)) (nI (gR (ti + 1))) tk kw g19 g20 g21 og g23 (nI cd) g25 g26 v27 v28 v29 v30 v31 v32 v33 v34 v35 v36 v37 (nI ol)), (v1, .inl (cA 0, 326, .inl fp)), (v9, .inl (cA 0, 700, .inl fb)), (v13, .inl (cA 1, 15, .inr (.inl fkw))), (v28, .inl (cA 1, 10, .inr (.inl l28))), (v30, .inl (cA 1, 8, .inr (.inl l30))), (v32, .inl (cA 0, 400, .inl fc))] sz)) (va_Qi (fun (r : Int32) (u9 : Int32) => u9 = r ∧ (r = 0 ∨ r = 1)) (fun (u9 : Int32) t => ∃ tj : Nat, ∃ z17 : Int32, ∃ z18 : Int32, ∃ z19 : Int32, ∃ z20 : Int32, ∃ z21 : Int32, ∃ z26 : Int32, ∃ z25 : Int64, ∃ cd2 : Nat, ∃ pq2 : Nat, ∃ zp : Nat → Int32, ∃ zc : Nat → Int32, ∃ zl : Nat → Int64, ∃ zpl : List Int64, tj < ct ∧ gP tj ≤ ln ∧ ti ≤ tj ∧ TKR (gK tj) (gV tj) (fb (gP tj)) z17 z18 z19 z25 ∧ pq2 ≤ 8 ∧ RI cn pq2 en dy zp ∧ NL zpl pq2 zl ∧ (u9 = 1 → z20 = g20) ∧ (u9 = 1 → z21 = g21) ∧ (u9 = 1 → ti + 1 ≤ tj) ∧ (u9 = 1 → cd ≤ cd2) ∧ (u9 = 1 → 2 * cd2 + sl ≤ gP tj) ∧ (u9 = 1 → Kp cd fc zc) ∧ (u9 = 1 → Sg cd cd2 zc) ∧ (u9 = 1 → PRx gK gS gV ml 0 o9 ti pl (.inr (tj, zpl))) ∧ (u9 = 1 → CR9 gK gV 0 ti tj ml pl zpl cd cd2 fc zc) ∧ (u9 = 1 → K14 fp zp) ∧ (u9 = 0 → PRx gK gS gV ml 0 o9 ti pl (.inl (z20, z21))) ∧ Wq D (va_A [(oX10 w0 v0 v1 v2 v3 v4 g5 g6 (nI ed) g8 v9 (nI nb) g11 g12 v13 (nI ln) (nI (gP ti)) (nI (gR (ti + 1))) tk kw g19 g20 g21 og g23 (nI cd) g25 g26 v27 v28 v29 v30 v31 v32 v33 v34 v35 v36 v37 (nI ol)), (v1, .inl (cA 0, 326, .inl fp)), (v9, .inl (cA 0, 700, .inl fb)), (v13, .inl (cA 1, 15, .inr (.inl fkw))), (v28, .inl (cA 1, 10, .inr (.inl l28))), (v30, .inl (cA 1, 8, .inr (.inl l30))), (v32, .inl (cA 0, 400, .inl fc))] sz) [(oX10 w0 v0 v1 v2 v3 v4 g5 g6 (nI ed) g8 v9 (nI nb) g11 g12 v13 (nI ln) (nI (gP tj)) (nI (gR (tj + 1))) z17 z18 z19 z20 z21 og g23 (nI cd2) z25 z26 v27 v28 v29 v30 v31 v32 v33 v34 v35 v36 v37 (nI ol)), (v1, .inl (cA 0, 326, .inl zp)), (v9, .inl (cA 0, 700, .inl fb)), (v13, .inl (cA 1, 15, .inr (.inl fkw))), (v28, .inl (cA 1, 10, .inr (.inl l28))), (v30, .inl (cA 1, 8, .inr (.inl zl))), (v32, .inl (cA 0, 400, .inl zc))] t) (va_A [(oX10 w0 v0 v1 v2 v3 v4 g5 g6 (nI ed) g8 v9 (nI nb) g11 g12 v13 (nI ln) (nI (gP ti)) (nI (gR (ti + 1))) tk kw g19 g20 g21 og g23 (nI cd) g25 g26 v27 v28 v29 v30 v31 v32 v33 v34 v35 v36 v37 (nI ol)), (v1, .inl (cA 0, 326, .inl fp)), (v9, .inl (cA 0, 700, .inl fb)), (v13, .inl (cA 1, 15, .inr (.inl fkw))), (v28, .inl (cA 1, 10, .inr (.inl l28))), (v30, .inl (cA 1, 8, .inr (.inl l30))), (v32, .inl (cA 0, 400, .inl fc))] sz)) 0 0 (va_A [(oX10 w0 v0 v1 v2 v3 v4 g5 g6 (nI ed) g8 v9 (nI nb) g11 g12 v13 (nI ln) (nI (gP ti)) (nI (gR (ti + 1))) tk kw g19 g20 g21 og g23 (nI cd) g25 g26 v27 v28 v29 v30 v31 v32 v33 v34 v35 v36 v37 (nI ol)), (v1, .inl (cA 0, 326, .inl fp)), (v9, .inl (cA 0, 700, .inl fb)), (v13, .inl (cA 1, 15, .inr (.inl fkw))), (v28, .inl (cA 1, 10, .inr (.inl l28))), (v30, .inl (cA 1, 8, .inr (.inl l30))), (v32, .inl (cA 0, 400, .inl fc))] sz) := by
  refine Met.ofW (cc := cX10_numberFact) (maxL := 3) (ret := (some .boolean)) (by decide) rfl ?_
  intro p e s m args below meth c s₁ B hml hv
  obtain ⟨rfl, hsz, hP, hK, hD0, hC, hZ⟩ := hv
  have hx := B.exec
  have hb := B.bytes
  have hr := B.returns
  have hts := atoms_spec (ws := wsX10_numberFact) B.pre
  have hown : s.vm.findClass RX10 = some m.cls := findClass_of_methodNamed B.named
  have hlocks := B.notSynchronized
  subst hsz
  have hD := hD0.self (sz := s.heap.size)
  generalize hAe : va_A [(oX10 w0 v0 v1 v2 v3 v4 g5 g6 (nI ed) g8 v9 (nI nb) g11 g12 v13 (nI ln) (nI (gP ti)) (nI (gR (ti + 1))) tk kw g19 g20 g21 og g23 (nI cd) g25 g26 v27 v28 v29 v30 v31 v32 v33 v34 v35 v36 v37 (nI ol)), (v1, .inl (cA 0, 326, .inl fp)), (v9, .inl (cA 0, 700, .inl fb)), (v13, .inl (cA 1, 15, .inr (.inl fkw))), (v28, .inl (cA 1, 10, .inr (.inl l28))), (v30, .inl (cA 1, 8, .inr (.inl l30))), (v32, .inl (cA 0, 400, .inl fc))] s.heap.size = A at hD hZ ⊢
  have hA : ∀ q : Nat, s.heap.size ≤ q → A q := fun q h => by rw [← hAe]; exact Or.inr h
  have hS : va_S A s.heap s.heap [] := va_S.rf
  have hP : va_P D vwCl [(oX10 w0 v0 v1 v2 v3 v4 g5 g6 (nI ed) g8 v9 (nI nb) g11 g12 v13 (nI ln) (nI (gP ti)) (nI (gR (ti + 1))) tk kw g19 g20 g21 og g23 (nI cd) g25 g26 v27 v28 v29 v30 v31 v32 v33 v34 v35 v36 v37 (nI ol)), (v1, .inl (cA 0, 326, .inl fp)), (v9, .inl (cA 0, 700, .inl fb)), (v13, .inl (cA 1, 15, .inr (.inl fkw))), (v28, .inl (cA 1, 10, .inr (.inl l28))), (v30, .inl (cA 1, 8, .inr (.inl l30))), (v32, .inl (cA 0, 400, .inl fc))] s.heap := hP
  have hl := lv_entry ([.ref w0, .int 0, .int 999]) (n := 3) (Nat.le_of_ble_eq_true rfl)
  rw [lg_entry_eq]
  generalize (lg_sl ([.ref w0, .int 0, .int 999]) ++ List.replicate (3 - (lg_sl ([.ref w0, .int 0, .int 999])).length) Slot.unset).toArray = ls at hl ⊢
  have hl : lv_has ls 3 [(0, .ref w0), (1, .int 0), (2, .int 999)] := hl
  have inX10 : ∀ w ∈ u_ws RX10 TX10 39, w ∈ wsX10_numberFact := by decide +kernel
  have hle9 := TX.le hTX hti
  refine lv_aload_n hx hb dX10_numberFact_0 rfl (lv_at hl 0 rfl) ?_
  have hn1 := TX.go2 hTX (show ti < ct by omega) (by rw [hk]; decide)
  have hn1a := TX.le hTX (show ti < ct by omega)
  have hn1b := TX.le hTX hn1.1
  obtain ⟨hPc, hDc, hFc⟩ := PDq.cut (wc := [(oX10 w0 v0 v1 v2 v3 v4 g5 g6 (nI ed) g8 v9 (nI nb) g11 g12 v13 (nI ln) (nI (gP ti)) (nI (gR (ti + 1))) tk kw g19 g20 g21 og g23 (nI cd) g25 g26 v27 v28 v29 v30 v31 v32 v33 v34 v35 v36 v37 (nI ol)), (v9, .inl (cA 0, 700, .inl fb)), (v13, .inl (cA 1, 15, .inr (.inl fkw)))]) hP hD hS hA [0, 2, 3] (by decide) rfl
  refine va_calli (va_runV (As := []) (rest := []) ⟨hx, hb, hml, hown, hts⟩ (y_advance l D cA sa w0 ed nb ol v0 v1 v2 v3 v4 v9 v13 v27 v28 v29 v30 v31 v32 v33 v34 v35 v36 v37 g8 g11 g12 (nI (gP ti)) tk kw g19 g20 g21 og g23 (nI cd) g26 g5 g6 g25 ln (gR (ti + 1)) fb fkw (gP (ti + 1)) (gR ((ti + 1) + 1)) (gK (ti + 1)) (gV (ti + 1)) s.heap.size hln (by omega) hKW hBY (TX.t hTX hn1.1)) (cwV 0 hts gX10_numberFact_X10_advance rfl rfl rfl (by decide +kernel) ⟨(Nat.le_of_ble_eq_true rfl), (Nat.le_of_ble_eq_true rfl)⟩) ⟨Wd.blind, va_recv hK hPc (ci := 11) (q0 := 0) rfl rfl, fun U hU hW => ⟨rfl, Wd.call hPc hDc hK hC hZ hS hFc U hU hW⟩⟩ rfl rfl hl.1 rfl (lv_room (Nat.le_of_ble_eq_true rfl)) dX10_numberFact_1 ⟨(Nat.le_of_ble_eq_true rfl), (Nat.le_of_ble_eq_true rfl)⟩) hS (fun q _ h => hFc q h) hFc (fun rn2 u t H1 locs ht hvm hw hB hz1 hk1 hS => ?_)
  obtain ⟨zn3, zn4, zn5, zn6, hn7, hP1, hD1⟩ := hB
  rw [ht] at hP1
  obtain ⟨hP, hD⟩ := PDq.join (w := [(v1, .inl (cA 0, 326, .inl fp)), (v28, .inl (cA 1, 10, .inr (.inl l28))), (v30, .inl (cA 1, 8, .inr (.inl l30))), (v32, .inl (cA 0, 400, .inl fc)), (oX10 w0 v0 v1 v2 v3 v4 g5 g6 (nI ed) g8 v9 (nI nb) g11 g12 v13 (nI ln) (nI (gP (ti + 1))) (nI (gR ((ti + 1) + 1))) zn3 zn4 zn5 g20 g21 og g23 (nI cd) zn6 g26 v27 v28 v29 v30 v31 v32 v33 v34 v35 v36 v37 (nI ol)), (v9, .inl (cA 0, 700, .inl fb)), (v13, .inl (cA 1, 15, .inr (.inl fkw)))]) 4 hP hD [0, 2, 3] [1, 4, 5, 6] rfl rfl (by decide) (by decide) hk1 hFc hP1 hD1 rfl
  generalize H1 = H at hP hS ⊢
  obtain rfl : rn2 = 1 := hw
  refine lv_pop hx hb dX10_numberFact_4 rfl ?_
  refine lv_aload_n hx hb dX10_numberFact_5 rfl (lv_at hl 0 rfl) ?_
  refine lv_iconst (v := 0) hx hb dX10_numberFact_6 (by decide) ?_
  refine lv_iload_n hx hb dX10_numberFact_7 rfl (lv_at hl 2 rfl) ?_
  obtain ⟨hPc, hDc, hFc⟩ := PDq.cut (wc := [(oX10 w0 v0 v1 v2 v3 v4 g5 g6 (nI ed) g8 v9 (nI nb) g11 g12 v13 (nI ln) (nI (gP (ti + 1))) (nI (gR ((ti + 1) + 1))) zn3 zn4 zn5 g20 g21 og g23 (nI cd) zn6 g26 v27 v28 v29 v30 v31 v32 v33 v34 v35 v36 v37 (nI ol)), (v9, .inl (cA 0, 700, .inl fb)), (v13, .inl (cA 1, 15, .inr (.inl fkw)))]) hP hD hS hA [4, 5, 6] (by decide) rfl
  refine va_calli (va_runV (As := [.int 0, .int 999]) (rest := []) ⟨hx, hb, hml, hown, hts⟩ (y_number l D cA sa w0 ed nb ol v0 v1 v2 v3 v4 v9 v13 v27 v28 v29 v30 v31 v32 v33 v34 v35 v36 v37 g8 g11 g12 zn5 g20 g21 og g23 g26 g5 g6 zn6 ln cd zn3 zn4 (ti + 1) ct fb fkw gP gR gS gK gV 0 999 H.size hln hct hn1.1 hTX hBY hn7 hKW (by omega) (by omega)) (cwV 2 hts gX10_numberFact_X10_number rfl rfl rfl (by decide +kernel) ⟨(Nat.le_of_ble_eq_true rfl), (Nat.le_of_ble_eq_true rfl)⟩) ⟨Wd.blind, va_recv hK hPc (ci := 11) (q0 := 0) rfl rfl, fun U hU hW => ⟨rfl, Wd.call hPc hDc hK hC hZ hS hFc U hU hW⟩⟩ rfl rfl hl.1 rfl (lv_room (Nat.le_of_ble_eq_true rfl)) dX10_numberFact_8 ⟨(Nat.le_of_ble_eq_true rfl), (Nat.le_of_ble_eq_true rfl)⟩) hS (fun q _ h => hFc q h) hFc (fun rn8 u t H1 locs ht hvm hw hB hz1 hk1 hS => ?_)
  obtain ⟨qn9, zn10, zn11, zn12, zn13, zn14, zn15, zn16, hn17, hn18, hn19, hn20, hn21, hn22, hn23, hn24, hn25, hn26, hn27, hn28, hn29, hP1, hD1⟩ := hB
  rw [ht] at hP1
  obtain ⟨hP, hD⟩ := PDq.join (w := [(v1, .inl (cA 0, 326, .inl fp)), (v28, .inl (cA 1, 10, .inr (.inl l28))), (v30, .inl (cA 1, 8, .inr (.inl l30))), (v32, .inl (cA 0, 400, .inl fc)), (oX10 w0 v0 v1 v2 v3 v4 g5 g6 (nI ed) g8 v9 (nI nb) g11 g12 v13 (nI ln) (nI (gP qn9)) (nI (gR (qn9 + 1))) zn10 zn11 zn12 zn13 zn14 og g23 (nI cd) zn16 zn15 v27 v28 v29 v30 v31 v32 v33 v34 v35 v36 v37 (nI ol)), (v9, .inl (cA 0, 700, .inl fb)), (v13, .inl (cA 1, 15, .inr (.inl fkw)))]) 4 hP hD [4, 5, 6] [0, 1, 2, 3] rfl rfl (by decide) (by decide) hk1 hFc hP1 hD1 rfl
  generalize H1 = H at hP hS ⊢
  rcases hw.2 with hr9 | hr9
  · skip
    have hn28 := hn28 (hw.1.trans hr9)
    have hn29 := hn29 (hw.1.trans hr9)
    subst hr9
    refine lv_if_eq (tgt := 34) hx hb dX10_numberFact_11 (by decide) (fun c30 => ?_) (fun c9 => absurd c9 (by decide))
    refine lv_iconst (v := 0) hx hb dX10_numberFact_34 (by decide) ?_
    obtain ⟨hP9, hD9⟩ := PDq.sub (ws' := [(oX10 w0 v0 v1 v2 v3 v4 g5 g6 (nI ed) g8 v9 (nI nb) g11 g12 v13 (nI ln) (nI (gP qn9)) (nI (gR (qn9 + 1))) zn10 zn11 zn12 zn13 zn14 og g23 (nI cd) zn16 zn15 v27 v28 v29 v30 v31 v32 v33 v34 v35 v36 v37 (nI ol)), (v1, .inl (cA 0, 326, .inl fp)), (v9, .inl (cA 0, 700, .inl fb)), (v13, .inl (cA 1, 15, .inr (.inl fkw))), (v28, .inl (cA 1, 10, .inr (.inl l28))), (v30, .inl (cA 1, 8, .inr (.inl l30))), (v32, .inl (cA 0, 400, .inl fc))]) hP hD [4, 0, 5, 6, 1, 2, 3] (by decide) rfl
    refine W.widen (k := 0) (n := 0) (Nat.le_of_ble_eq_true rfl) (Nat.le_of_ble_eq_true rfl) ?_
    exact (W.zret (v := 0) hx hb hr (by first | rfl | decide) (fun t ht hW => ⟨⟨0, 0, rfl, ⟨rfl, by decide⟩, qn9, zn10, zn11, zn12, zn13, zn14, zn15, zn16, cd, pq, fp, fc, l30, pl, hn17, hn18, (by omega), hn20, hpq, hri, hNP, (fun h9 => absurd h9 (by decide)), (fun h9 => absurd h9 (by decide)), (fun h9 => absurd h9 (by decide)), (fun h9 => absurd h9 (by decide)), (fun h9 => absurd h9 (by decide)), (fun h9 => absurd h9 (by decide)), (fun h9 => absurd h9 (by decide)), (fun h9 => absurd h9 (by decide)), (fun h9 => absurd h9 (by decide)), (fun h9 => absurd h9 (by decide)), (fun _ => (P_dayEx hk hn28 hn29)), by rw [ht]; exact hP9, hD9⟩, hS.F ht⟩) hS.2.2 dX10_numberFact_35)
  · skip
    have hn21 := hn21 (hw.1.trans hr9)
    subst hn21
    obtain ⟨hP, hD⟩ : PDq D A [(v1, .inl (cA 0, 326, .inl fp)), (v28, .inl (cA 1, 10, .inr (.inl l28))), (v30, .inl (cA 1, 8, .inr (.inl l30))), (v32, .inl (cA 0, 400, .inl fc)), (oX10 w0 v0 v1 v2 v3 v4 g5 g6 (nI ed) g8 v9 (nI nb) g11 g12 v13 (nI ln) (nI (gP ((ti + 1) + 1))) (nI (gR (((ti + 1) + 1) + 1))) zn10 zn11 zn12 zn13 zn14 og g23 (nI cd) zn16 zn15 v27 v28 v29 v30 v31 v32 v33 v34 v35 v36 v37 (nI ol)), (v9, .inl (cA 0, 700, .inl fb)), (v13, .inl (cA 1, 15, .inr (.inl fkw)))] H := ⟨hP, hD⟩
    have hn22 := hn22 (hw.1.trans hr9)
    obtain rfl : g20 = zn13 := hn22.symm
    obtain ⟨hP, hD⟩ : PDq D A [(v1, .inl (cA 0, 326, .inl fp)), (v28, .inl (cA 1, 10, .inr (.inl l28))), (v30, .inl (cA 1, 8, .inr (.inl l30))), (v32, .inl (cA 0, 400, .inl fc)), (oX10 w0 v0 v1 v2 v3 v4 g5 g6 (nI ed) g8 v9 (nI nb) g11 g12 v13 (nI ln) (nI (gP ((ti + 1) + 1))) (nI (gR (((ti + 1) + 1) + 1))) zn10 zn11 zn12 g20 zn14 og g23 (nI cd) zn16 zn15 v27 v28 v29 v30 v31 v32 v33 v34 v35 v36 v37 (nI ol)), (v9, .inl (cA 0, 700, .inl fb)), (v13, .inl (cA 1, 15, .inr (.inl fkw)))] H := ⟨hP, hD⟩
    have hn23 := hn23 (hw.1.trans hr9)
    obtain rfl : g21 = zn14 := hn23.symm
    obtain ⟨hP, hD⟩ : PDq D A [(v1, .inl (cA 0, 326, .inl fp)), (v28, .inl (cA 1, 10, .inr (.inl l28))), (v30, .inl (cA 1, 8, .inr (.inl l30))), (v32, .inl (cA 0, 400, .inl fc)), (oX10 w0 v0 v1 v2 v3 v4 g5 g6 (nI ed) g8 v9 (nI nb) g11 g12 v13 (nI ln) (nI (gP ((ti + 1) + 1))) (nI (gR (((ti + 1) + 1) + 1))) zn10 zn11 zn12 g20 g21 og g23 (nI cd) zn16 zn15 v27 v28 v29 v30 v31 v32 v33 v34 v35 v36 v37 (nI ol)), (v9, .inl (cA 0, 700, .inl fb)), (v13, .inl (cA 1, 15, .inr (.inl fkw)))] H := ⟨hP, hD⟩
    have hn24 := hn24 (hw.1.trans hr9)
    have hn25 := hn25 (hw.1.trans hr9)
    have hn26 := hn26 (hw.1.trans hr9)
    have hn27 := hn27 (hw.1.trans hr9)
    obtain ⟨kn31, hn32, hn33, hn9⟩ := hn27
    subst hn9
    obtain ⟨hP, hD⟩ : PDq D A [(v1, .inl (cA 0, 326, .inl fp)), (v28, .inl (cA 1, 10, .inr (.inl l28))), (v30, .inl (cA 1, 8, .inr (.inl l30))), (v32, .inl (cA 0, 400, .inl fc)), (oX10 w0 v0 v1 v2 v3 v4 g5 g6 (nI ed) g8 v9 (nI nb) g11 g12 v13 (nI ln) (nI (gP ((ti + 1) + 1))) (nI (gR (((ti + 1) + 1) + 1))) zn10 zn11 zn12 g20 g21 og g23 (nI cd) zn16 (nI kn31) v27 v28 v29 v30 v31 v32 v33 v34 v35 v36 v37 (nI ol)), (v9, .inl (cA 0, 700, .inl fb)), (v13, .inl (cA 1, 15, .inr (.inl fkw)))] H := ⟨hP, hD⟩
    subst hr9
    refine lv_if_eq (tgt := 34) hx hb dX10_numberFact_11 (by decide) (fun c9 => absurd c9 (by decide)) (fun c34 => ?_)
    refine lv_aload_n hx hb dX10_numberFact_14 rfl (lv_at hl 0 rfl) ?_
    refine lv_ldc (v := 100000) hx hb hown (hts (.constant RX10 201 100000) (by decide +kernel)) dX10_numberFact_15 ?_
    refine lv_iload_n hx hb dX10_numberFact_17 rfl (lv_at hl 1 rfl) ?_
    refine lv_imul hx hb dX10_numberFact_18 ?_
    refine lv_topi (fun yn35 eyn35 => ?_)
    obtain rfl : yn35 = 0 := eyn35.trans (by first | rfl | decide +kernel)
    refine lv_aload_n hx hb dX10_numberFact_19 rfl (lv_at hl 0 rfl) ?_
    refine va_get (D := D) (ci := 11) (v := .int (nI kn31)) (C := RX10) (T := TX10) (N := 39) hx hb hts inX10 hown hK hP 4 rfl rfl 26 (by decide) (hts (.fieldLink RX10 156 "EscrowDeskModel" "numberRead" "I") (by decide +kernel)) (fun _ h9 => h9) rfl dX10_numberFact_20 ?_
    refine lv_iadd hx hb dX10_numberFact_23 ?_
    refine lv_topi (fun yn36 eyn36 => ?_)
    obtain rfl : yn36 = (nI (0 + kn31)) := eyn36.trans (nI_add 0 kn31)
    obtain ⟨hPc, hDc, hFc⟩ := PDq.cut (wc := [(oX10 w0 v0 v1 v2 v3 v4 g5 g6 (nI ed) g8 v9 (nI nb) g11 g12 v13 (nI ln) (nI (gP ((ti + 1) + 1))) (nI (gR (((ti + 1) + 1) + 1))) zn10 zn11 zn12 g20 g21 og g23 (nI cd) zn16 (nI kn31) v27 v28 v29 v30 v31 v32 v33 v34 v35 v36 v37 (nI ol)), (v32, .inl (cA 0, 400, .inl fc))]) hP hD hS hA [4, 3] (by decide) rfl
    refine va_calli (va_runV (As := [.int (nI (0 + kn31))]) (rest := []) ⟨hx, hb, hml, hown, hts⟩ (r_emit l D cA sa w0 ed nb ol v0 v1 v2 v3 v4 v9 v13 v27 v28 v29 v30 v31 v32 v33 v34 v35 v36 v37 g8 g11 g12 (nI ln) (nI (gP ((ti + 1) + 1))) (nI (gR (((ti + 1) + 1) + 1))) zn10 zn11 zn12 g20 g21 og g23 (nI kn31) g5 g6 zn16 cd (nI (0 + kn31)) fc H.size (by omega)) (cwV 1 hts gX10_numberFact_X10_emit rfl rfl rfl (by decide +kernel) ⟨(Nat.le_of_ble_eq_true rfl), (Nat.le_of_ble_eq_true rfl)⟩) ⟨Wd.blind, va_recv hK hPc (ci := 11) (q0 := 0) rfl rfl, fun U hU hW => ⟨rfl, Wd.call hPc hDc hK hC hZ hS hFc U hU hW⟩⟩ rfl rfl hl.1 rfl (lv_room (Nat.le_of_ble_eq_true rfl)) dX10_numberFact_24 ⟨(Nat.le_of_ble_eq_true rfl), (Nat.le_of_ble_eq_true rfl)⟩) hS (fun q _ h => hFc q h) hFc (fun rn37 u t H1 locs ht hvm hw hB hz1 hk1 hS => ?_)
    obtain ⟨fn38, hn39, hP1, hD1⟩ := hB
    rw [ht] at hP1
    obtain ⟨hP, hD⟩ := PDq.join (w := [(v1, .inl (cA 0, 326, .inl fp)), (v28, .inl (cA 1, 10, .inr (.inl l28))), (v30, .inl (cA 1, 8, .inr (.inl l30))), (v9, .inl (cA 0, 700, .inl fb)), (v13, .inl (cA 1, 15, .inr (.inl fkw))), (oX10 w0 v0 v1 v2 v3 v4 g5 g6 (nI ed) g8 v9 (nI nb) g11 g12 v13 (nI ln) (nI (gP ((ti + 1) + 1))) (nI (gR (((ti + 1) + 1) + 1))) zn10 zn11 zn12 g20 g21 og g23 (nI (cd + 1)) zn16 (nI kn31) v27 v28 v29 v30 v31 v32 v33 v34 v35 v36 v37 (nI ol)), (v32, .inl (cA 0, 400, .inl fn38))]) 5 hP hD [4, 3] [0, 1, 2, 5, 6] rfl rfl (by decide) (by decide) hk1 hFc hP1 hD1 rfl
    generalize H1 = H at hP hS ⊢
    obtain rfl : rn37 = 1 := hw
    refine lv_if_eq (tgt := 34) hx hb dX10_numberFact_27 (by decide) (fun c9 => absurd c9 (by decide)) (fun c40 => ?_)
    refine lv_iconst (v := 1) hx hb dX10_numberFact_30 (by decide) ?_
    refine lv_goto (tgt := 35) hx hb dX10_numberFact_31 (by decide) ?_
    obtain ⟨hP9, hD9⟩ := PDq.sub (ws' := [(oX10 w0 v0 v1 v2 v3 v4 g5 g6 (nI ed) g8 v9 (nI nb) g11 g12 v13 (nI ln) (nI (gP ((ti + 1) + 1))) (nI (gR (((ti + 1) + 1) + 1))) zn10 zn11 zn12 g20 g21 og g23 (nI (cd + 1)) zn16 (nI kn31) v27 v28 v29 v30 v31 v32 v33 v34 v35 v36 v37 (nI ol)), (v1, .inl (cA 0, 326, .inl fp)), (v9, .inl (cA 0, 700, .inl fb)), (v13, .inl (cA 1, 15, .inr (.inl fkw))), (v28, .inl (cA 1, 10, .inr (.inl l28))), (v30, .inl (cA 1, 8, .inr (.inl l30))), (v32, .inl (cA 0, 400, .inl fn38))]) hP hD [5, 0, 3, 4, 1, 2, 6] (by decide) rfl
    refine W.widen (k := 0) (n := 0) (Nat.le_of_ble_eq_true rfl) (Nat.le_of_ble_eq_true rfl) ?_
    exact (W.zret (v := 1) hx hb hr (by first | rfl | decide) (fun t ht hW => ⟨⟨1, 1, rfl, ⟨rfl, by decide⟩, ((ti + 1) + 1), zn10, zn11, zn12, g20, g21, (nI kn31), zn16, (cd + 1), pq, fp, fn38, l30, pl, hn17, hn18, (by omega), hn20, hpq, hri, hNP, (fun _ => rfl), (fun _ => rfl), (fun _ => (by omega)), (fun _ => (by omega)), (fun _ => (by omega)), (fun _ => (Em.kp hn39)), (fun _ => (Sg.leaf hn39 (nI_pos (by omega)))), (fun _ => (P_day hk hn25)), (fun _ => (CR9.one (C_two hk (Or.inl rfl)) hn39 (ER_17 hn25 (by decide) hn26 rfl).1 (ER_17 hn25 (by decide) hn26 rfl).2 (Ext9.rf pl) rfl)), (fun _ => (K14.rf fp)), (fun h9 => absurd h9 (by decide)), by rw [ht]; exact hP9, hD9⟩, hS.F ht⟩) hS.2.2 dX10_numberFact_35)

set_option maxHeartbeats 4000000 in
set_option maxRecDepth 100000 in
/-- reference: numberFact -/
theorem y_numberFact3 (l : Launch) (D : va_G) (cA : Nat → ClassId) (sa : Nat → Nat) (w0 : Nat) (ed : Nat) (nb : Nat) (ol : Nat) (v0 : Nat) (v1 : Nat) (v2 : Nat) (v3 : Nat) (v4 : Nat) (v9 : Nat) (v13 : Nat) (v27 : Nat) (v28 : Nat) (v29 : Nat) (v30 : Nat) (v31 : Nat) (v32 : Nat) (v33 : Nat) (v34 : Nat) (v35 : Nat) (v36 : Nat) (v37 : Nat) (g8 : Int32) (g11 : Int32) (g12 : Int32) (g19 : Int32) (g20 : Int32) (g21 : Int32) (g23 : Int32) (g26 : Int32) (g5 : Int64) (g6 : Int64) (g25 : Int64) (ln : Nat) (cd : Nat) (tk : Int32) (kw : Int32) (ti : Nat) (ct : Nat) (fb : Nat → Int32) (fkw : Nat → Int64) (gP : Nat → Nat) (gR : Nat → Nat) (gS : Nat → Int32) (gK : Nat → Int32) (gV : Nat → Int64) (cn : Nat) (pq : Nat) (en : Nat) (dy : Nat) (fp : Nat → Int32) (sl : Nat) (o9 : Nat) (l28 : Nat → Int64) (l30 : Nat → Int64) (fc : Nat → Int32) (ml : List Int64) (pl : List Int64) (og : Int32) (sz : Nat) (hln : ln ≤ 700) (hct : ct ≤ 701) (hti : ti < ct) (hTX : TX fb ln ct gP gR gS gV gK) (hBY : BYn ln fb) (hTK : TKR (gK ti) (gV ti) (fb (gP ti)) tk kw g19 g25) (hKW : KW 15 fkw) (hcn : cn ≤ 10) (hpq : pq ≤ 8) (hen : en ≤ 60) (hdy : dy ≤ 20000) (hri : RI cn pq en dy fp) (hcd : 2 * cd + sl ≤ gP ti) (hNM : NL ml cn l28) (hNP : NL pl pq l30) (hk : gK ti = 20) : Met l yX10_numberFact wsX10_numberFact ({ frames := 3, cells := 0, slots := 0, locals := 66 }) (va_Pc [.ref w0, .int 3, .int 99999] (Wd D cA sa [(oX10 w0 v0 v1 v2 v3 v4 g5 g6 (nI ed) g8 v9 (nI nb) g11 g12 v13 (nI ln) (nI (gP ti)) (nI (gR (ti + 1))) tk kw g19 g20 g21 og g23 (nI cd) g25 g26 v27 v28 v29 v30 v31 v32 v33 v34 v35 v36 v37 (nI ol)), (v1, .inl (cA 0, 326, .inl fp)), (v9, .inl (cA 0, 700, .inl fb)), (v13, .inl (cA 1, 15, .inr (.inl fkw))), (v28, .inl (cA 1, 10, .inr (.inl l28))), (v30, .inl (cA 1, 8, .inr (.inl l30))), (v32, .inl (cA 0, 400, .inl fc))] sz)) (va_Qi (fun (r : Int32) (u9 : Int32) => u9 = r ∧ (r = 0 ∨ r = 1)) (fun (u9 : Int32) t => ∃ tj : Nat, ∃ z17 : Int32, ∃ z18 : Int32, ∃ z19 : Int32, ∃ z20 : Int32, ∃ z21 : Int32, ∃ z26 : Int32, ∃ z25 : Int64, ∃ cd2 : Nat, ∃ pq2 : Nat, ∃ zp : Nat → Int32, ∃ zc : Nat → Int32, ∃ zl : Nat → Int64, ∃ zpl : List Int64, tj < ct ∧ gP tj ≤ ln ∧ ti ≤ tj ∧ TKR (gK tj) (gV tj) (fb (gP tj)) z17 z18 z19 z25 ∧ pq2 ≤ 8 ∧ RI cn pq2 en dy zp ∧ NL zpl pq2 zl ∧ (u9 = 1 → z20 = g20) ∧ (u9 = 1 → z21 = g21) ∧ (u9 = 1 → ti + 1 ≤ tj) ∧ (u9 = 1 → cd ≤ cd2) ∧ (u9 = 1 → 2 * cd2 + sl ≤ gP tj) ∧ (u9 = 1 → Kp cd fc zc) ∧ (u9 = 1 → Sg cd cd2 zc) ∧ (u9 = 1 → PRx gK gS gV ml 0 o9 ti pl (.inr (tj, zpl))) ∧ (u9 = 1 → CR9 gK gV 0 ti tj ml pl zpl cd cd2 fc zc) ∧ (u9 = 1 → K14 fp zp) ∧ (u9 = 0 → PRx gK gS gV ml 0 o9 ti pl (.inl (z20, z21))) ∧ Wq D (va_A [(oX10 w0 v0 v1 v2 v3 v4 g5 g6 (nI ed) g8 v9 (nI nb) g11 g12 v13 (nI ln) (nI (gP ti)) (nI (gR (ti + 1))) tk kw g19 g20 g21 og g23 (nI cd) g25 g26 v27 v28 v29 v30 v31 v32 v33 v34 v35 v36 v37 (nI ol)), (v1, .inl (cA 0, 326, .inl fp)), (v9, .inl (cA 0, 700, .inl fb)), (v13, .inl (cA 1, 15, .inr (.inl fkw))), (v28, .inl (cA 1, 10, .inr (.inl l28))), (v30, .inl (cA 1, 8, .inr (.inl l30))), (v32, .inl (cA 0, 400, .inl fc))] sz) [(oX10 w0 v0 v1 v2 v3 v4 g5 g6 (nI ed) g8 v9 (nI nb) g11 g12 v13 (nI ln) (nI (gP tj)) (nI (gR (tj + 1))) z17 z18 z19 z20 z21 og g23 (nI cd2) z25 z26 v27 v28 v29 v30 v31 v32 v33 v34 v35 v36 v37 (nI ol)), (v1, .inl (cA 0, 326, .inl zp)), (v9, .inl (cA 0, 700, .inl fb)), (v13, .inl (cA 1, 15, .inr (.inl fkw))), (v28, .inl (cA 1, 10, .inr (.inl l28))), (v30, .inl (cA 1, 8, .inr (.inl zl))), (v32, .inl (cA 0, 400, .inl zc))] t) (va_A [(oX10 w0 v0 v1 v2 v3 v4 g5 g6 (nI ed) g8 v9 (nI nb) g11 g12 v13 (nI ln) (nI (gP ti)) (nI (gR (ti + 1))) tk kw g19 g20 g21 og g23 (nI cd) g25 g26 v27 v28 v29 v30 v31 v32 v33 v34 v35 v36 v37 (nI ol)), (v1, .inl (cA 0, 326, .inl fp)), (v9, .inl (cA 0, 700, .inl fb)), (v13, .inl (cA 1, 15, .inr (.inl fkw))), (v28, .inl (cA 1, 10, .inr (.inl l28))), (v30, .inl (cA 1, 8, .inr (.inl l30))), (v32, .inl (cA 0, 400, .inl fc))] sz)) 0 0 (va_A [(oX10 w0 v0 v1 v2 v3 v4 g5 g6 (nI ed) g8 v9 (nI nb) g11 g12 v13 (nI ln) (nI (gP ti)) (nI (gR (ti + 1))) tk kw g19 g20 g21 og g23 (nI cd) g25 g26 v27 v28 v29 v30 v31 v32 v33 v34 v35 v36 v37 (nI ol)), (v1, .inl (cA 0, 326, .inl fp)), (v9, .inl (cA 0, 700, .inl fb)), (v13, .inl (cA 1, 15, .inr (.inl fkw))), (v28, .inl (cA 1, 10, .inr (.inl l28))), (v30, .inl (cA 1, 8, .inr (.inl l30))), (v32, .inl (cA 0, 400, .inl fc))] sz) := by
  refine Met.ofW (cc := cX10_numberFact) (maxL := 3) (ret := (some .boolean)) (by decide) rfl ?_
  intro p e s m args below meth c s₁ B hml hv
  obtain ⟨rfl, hsz, hP, hK, hD0, hC, hZ⟩ := hv
  have hx := B.exec
  have hb := B.bytes
  have hr := B.returns
  have hts := atoms_spec (ws := wsX10_numberFact) B.pre
  have hown : s.vm.findClass RX10 = some m.cls := findClass_of_methodNamed B.named
  have hlocks := B.notSynchronized
  subst hsz
  have hD := hD0.self (sz := s.heap.size)
  generalize hAe : va_A [(oX10 w0 v0 v1 v2 v3 v4 g5 g6 (nI ed) g8 v9 (nI nb) g11 g12 v13 (nI ln) (nI (gP ti)) (nI (gR (ti + 1))) tk kw g19 g20 g21 og g23 (nI cd) g25 g26 v27 v28 v29 v30 v31 v32 v33 v34 v35 v36 v37 (nI ol)), (v1, .inl (cA 0, 326, .inl fp)), (v9, .inl (cA 0, 700, .inl fb)), (v13, .inl (cA 1, 15, .inr (.inl fkw))), (v28, .inl (cA 1, 10, .inr (.inl l28))), (v30, .inl (cA 1, 8, .inr (.inl l30))), (v32, .inl (cA 0, 400, .inl fc))] s.heap.size = A at hD hZ ⊢
  have hA : ∀ q : Nat, s.heap.size ≤ q → A q := fun q h => by rw [← hAe]; exact Or.inr h
  have hS : va_S A s.heap s.heap [] := va_S.rf
  have hP : va_P D vwCl [(oX10 w0 v0 v1 v2 v3 v4 g5 g6 (nI ed) g8 v9 (nI nb) g11 g12 v13 (nI ln) (nI (gP ti)) (nI (gR (ti + 1))) tk kw g19 g20 g21 og g23 (nI cd) g25 g26 v27 v28 v29 v30 v31 v32 v33 v34 v35 v36 v37 (nI ol)), (v1, .inl (cA 0, 326, .inl fp)), (v9, .inl (cA 0, 700, .inl fb)), (v13, .inl (cA 1, 15, .inr (.inl fkw))), (v28, .inl (cA 1, 10, .inr (.inl l28))), (v30, .inl (cA 1, 8, .inr (.inl l30))), (v32, .inl (cA 0, 400, .inl fc))] s.heap := hP
  have hl := lv_entry ([.ref w0, .int 3, .int 99999]) (n := 3) (Nat.le_of_ble_eq_true rfl)
  rw [lg_entry_eq]
  generalize (lg_sl ([.ref w0, .int 3, .int 99999]) ++ List.replicate (3 - (lg_sl ([.ref w0, .int 3, .int 99999])).length) Slot.unset).toArray = ls at hl ⊢
  have hl : lv_has ls 3 [(0, .ref w0), (1, .int 3), (2, .int 99999)] := hl
  have inX10 : ∀ w ∈ u_ws RX10 TX10 39, w ∈ wsX10_numberFact := by decide +kernel
  have hle9 := TX.le hTX hti
  refine lv_aload_n hx hb dX10_numberFact_0 rfl (lv_at hl 0 rfl) ?_
  have hn1 := TX.go2 hTX (show ti < ct by omega) (by rw [hk]; decide)
  have hn1a := TX.le hTX (show ti < ct by omega)
  have hn1b := TX.le hTX hn1.1
  obtain ⟨hPc, hDc, hFc⟩ := PDq.cut (wc := [(oX10 w0 v0 v1 v2 v3 v4 g5 g6 (nI ed) g8 v9 (nI nb) g11 g12 v13 (nI ln) (nI (gP ti)) (nI (gR (ti + 1))) tk kw g19 g20 g21 og g23 (nI cd) g25 g26 v27 v28 v29 v30 v31 v32 v33 v34 v35 v36 v37 (nI ol)), (v9, .inl (cA 0, 700, .inl fb)), (v13, .inl (cA 1, 15, .inr (.inl fkw)))]) hP hD hS hA [0, 2, 3] (by decide) rfl
  refine va_calli (va_runV (As := []) (rest := []) ⟨hx, hb, hml, hown, hts⟩ (y_advance l D cA sa w0 ed nb ol v0 v1 v2 v3 v4 v9 v13 v27 v28 v29 v30 v31 v32 v33 v34 v35 v36 v37 g8 g11 g12 (nI (gP ti)) tk kw g19 g20 g21 og g23 (nI cd) g26 g5 g6 g25 ln (gR (ti + 1)) fb fkw (gP (ti + 1)) (gR ((ti + 1) + 1)) (gK (ti + 1)) (gV (ti + 1)) s.heap.size hln (by omega) hKW hBY (TX.t hTX hn1.1)) (cwV 0 hts gX10_numberFact_X10_advance rfl rfl rfl (by decide +kernel) ⟨(Nat.le_of_ble_eq_true rfl), (Nat.le_of_ble_eq_true rfl)⟩) ⟨Wd.blind, va_recv hK hPc (ci := 11) (q0 := 0) rfl rfl, fun U hU hW => ⟨rfl, Wd.call hPc hDc hK hC hZ hS hFc U hU hW⟩⟩ rfl rfl hl.1 rfl (lv_room (Nat.le_of_ble_eq_true rfl)) dX10_numberFact_1 ⟨(Nat.le_of_ble_eq_true rfl), (Nat.le_of_ble_eq_true rfl)⟩) hS (fun q _ h => hFc q h) hFc (fun rn2 u t H1 locs ht hvm hw hB hz1 hk1 hS => ?_)
  obtain ⟨zn3, zn4, zn5, zn6, hn7, hP1, hD1⟩ := hB
  rw [ht] at hP1
  obtain ⟨hP, hD⟩ := PDq.join (w := [(v1, .inl (cA 0, 326, .inl fp)), (v28, .inl (cA 1, 10, .inr (.inl l28))), (v30, .inl (cA 1, 8, .inr (.inl l30))), (v32, .inl (cA 0, 400, .inl fc)), (oX10 w0 v0 v1 v2 v3 v4 g5 g6 (nI ed) g8 v9 (nI nb) g11 g12 v13 (nI ln) (nI (gP (ti + 1))) (nI (gR ((ti + 1) + 1))) zn3 zn4 zn5 g20 g21 og g23 (nI cd) zn6 g26 v27 v28 v29 v30 v31 v32 v33 v34 v35 v36 v37 (nI ol)), (v9, .inl (cA 0, 700, .inl fb)), (v13, .inl (cA 1, 15, .inr (.inl fkw)))]) 4 hP hD [0, 2, 3] [1, 4, 5, 6] rfl rfl (by decide) (by decide) hk1 hFc hP1 hD1 rfl
  generalize H1 = H at hP hS ⊢
  obtain rfl : rn2 = 1 := hw
  refine lv_pop hx hb dX10_numberFact_4 rfl ?_
  refine lv_aload_n hx hb dX10_numberFact_5 rfl (lv_at hl 0 rfl) ?_
  refine lv_iconst (v := 0) hx hb dX10_numberFact_6 (by decide) ?_
  refine lv_iload_n hx hb dX10_numberFact_7 rfl (lv_at hl 2 rfl) ?_
  obtain ⟨hPc, hDc, hFc⟩ := PDq.cut (wc := [(oX10 w0 v0 v1 v2 v3 v4 g5 g6 (nI ed) g8 v9 (nI nb) g11 g12 v13 (nI ln) (nI (gP (ti + 1))) (nI (gR ((ti + 1) + 1))) zn3 zn4 zn5 g20 g21 og g23 (nI cd) zn6 g26 v27 v28 v29 v30 v31 v32 v33 v34 v35 v36 v37 (nI ol)), (v9, .inl (cA 0, 700, .inl fb)), (v13, .inl (cA 1, 15, .inr (.inl fkw)))]) hP hD hS hA [4, 5, 6] (by decide) rfl
  refine va_calli (va_runV (As := [.int 0, .int 99999]) (rest := []) ⟨hx, hb, hml, hown, hts⟩ (y_number l D cA sa w0 ed nb ol v0 v1 v2 v3 v4 v9 v13 v27 v28 v29 v30 v31 v32 v33 v34 v35 v36 v37 g8 g11 g12 zn5 g20 g21 og g23 g26 g5 g6 zn6 ln cd zn3 zn4 (ti + 1) ct fb fkw gP gR gS gK gV 0 99999 H.size hln hct hn1.1 hTX hBY hn7 hKW (by omega) (by omega)) (cwV 2 hts gX10_numberFact_X10_number rfl rfl rfl (by decide +kernel) ⟨(Nat.le_of_ble_eq_true rfl), (Nat.le_of_ble_eq_true rfl)⟩) ⟨Wd.blind, va_recv hK hPc (ci := 11) (q0 := 0) rfl rfl, fun U hU hW => ⟨rfl, Wd.call hPc hDc hK hC hZ hS hFc U hU hW⟩⟩ rfl rfl hl.1 rfl (lv_room (Nat.le_of_ble_eq_true rfl)) dX10_numberFact_8 ⟨(Nat.le_of_ble_eq_true rfl), (Nat.le_of_ble_eq_true rfl)⟩) hS (fun q _ h => hFc q h) hFc (fun rn8 u t H1 locs ht hvm hw hB hz1 hk1 hS => ?_)
  obtain ⟨qn9, zn10, zn11, zn12, zn13, zn14, zn15, zn16, hn17, hn18, hn19, hn20, hn21, hn22, hn23, hn24, hn25, hn26, hn27, hn28, hn29, hP1, hD1⟩ := hB
  rw [ht] at hP1
  obtain ⟨hP, hD⟩ := PDq.join (w := [(v1, .inl (cA 0, 326, .inl fp)), (v28, .inl (cA 1, 10, .inr (.inl l28))), (v30, .inl (cA 1, 8, .inr (.inl l30))), (v32, .inl (cA 0, 400, .inl fc)), (oX10 w0 v0 v1 v2 v3 v4 g5 g6 (nI ed) g8 v9 (nI nb) g11 g12 v13 (nI ln) (nI (gP qn9)) (nI (gR (qn9 + 1))) zn10 zn11 zn12 zn13 zn14 og g23 (nI cd) zn16 zn15 v27 v28 v29 v30 v31 v32 v33 v34 v35 v36 v37 (nI ol)), (v9, .inl (cA 0, 700, .inl fb)), (v13, .inl (cA 1, 15, .inr (.inl fkw)))]) 4 hP hD [4, 5, 6] [0, 1, 2, 3] rfl rfl (by decide) (by decide) hk1 hFc hP1 hD1 rfl
  generalize H1 = H at hP hS ⊢
  rcases hw.2 with hr9 | hr9
  · skip
    have hn28 := hn28 (hw.1.trans hr9)
    have hn29 := hn29 (hw.1.trans hr9)
    subst hr9
    refine lv_if_eq (tgt := 34) hx hb dX10_numberFact_11 (by decide) (fun c30 => ?_) (fun c9 => absurd c9 (by decide))
    refine lv_iconst (v := 0) hx hb dX10_numberFact_34 (by decide) ?_
    obtain ⟨hP9, hD9⟩ := PDq.sub (ws' := [(oX10 w0 v0 v1 v2 v3 v4 g5 g6 (nI ed) g8 v9 (nI nb) g11 g12 v13 (nI ln) (nI (gP qn9)) (nI (gR (qn9 + 1))) zn10 zn11 zn12 zn13 zn14 og g23 (nI cd) zn16 zn15 v27 v28 v29 v30 v31 v32 v33 v34 v35 v36 v37 (nI ol)), (v1, .inl (cA 0, 326, .inl fp)), (v9, .inl (cA 0, 700, .inl fb)), (v13, .inl (cA 1, 15, .inr (.inl fkw))), (v28, .inl (cA 1, 10, .inr (.inl l28))), (v30, .inl (cA 1, 8, .inr (.inl l30))), (v32, .inl (cA 0, 400, .inl fc))]) hP hD [4, 0, 5, 6, 1, 2, 3] (by decide) rfl
    refine W.widen (k := 0) (n := 0) (Nat.le_of_ble_eq_true rfl) (Nat.le_of_ble_eq_true rfl) ?_
    exact (W.zret (v := 0) hx hb hr (by first | rfl | decide) (fun t ht hW => ⟨⟨0, 0, rfl, ⟨rfl, by decide⟩, qn9, zn10, zn11, zn12, zn13, zn14, zn15, zn16, cd, pq, fp, fc, l30, pl, hn17, hn18, (by omega), hn20, hpq, hri, hNP, (fun h9 => absurd h9 (by decide)), (fun h9 => absurd h9 (by decide)), (fun h9 => absurd h9 (by decide)), (fun h9 => absurd h9 (by decide)), (fun h9 => absurd h9 (by decide)), (fun h9 => absurd h9 (by decide)), (fun h9 => absurd h9 (by decide)), (fun h9 => absurd h9 (by decide)), (fun h9 => absurd h9 (by decide)), (fun h9 => absurd h9 (by decide)), (fun _ => (P_sumEx hk hn28 hn29)), by rw [ht]; exact hP9, hD9⟩, hS.F ht⟩) hS.2.2 dX10_numberFact_35)
  · skip
    have hn21 := hn21 (hw.1.trans hr9)
    subst hn21
    obtain ⟨hP, hD⟩ : PDq D A [(v1, .inl (cA 0, 326, .inl fp)), (v28, .inl (cA 1, 10, .inr (.inl l28))), (v30, .inl (cA 1, 8, .inr (.inl l30))), (v32, .inl (cA 0, 400, .inl fc)), (oX10 w0 v0 v1 v2 v3 v4 g5 g6 (nI ed) g8 v9 (nI nb) g11 g12 v13 (nI ln) (nI (gP ((ti + 1) + 1))) (nI (gR (((ti + 1) + 1) + 1))) zn10 zn11 zn12 zn13 zn14 og g23 (nI cd) zn16 zn15 v27 v28 v29 v30 v31 v32 v33 v34 v35 v36 v37 (nI ol)), (v9, .inl (cA 0, 700, .inl fb)), (v13, .inl (cA 1, 15, .inr (.inl fkw)))] H := ⟨hP, hD⟩
    have hn22 := hn22 (hw.1.trans hr9)
    obtain rfl : g20 = zn13 := hn22.symm
    obtain ⟨hP, hD⟩ : PDq D A [(v1, .inl (cA 0, 326, .inl fp)), (v28, .inl (cA 1, 10, .inr (.inl l28))), (v30, .inl (cA 1, 8, .inr (.inl l30))), (v32, .inl (cA 0, 400, .inl fc)), (oX10 w0 v0 v1 v2 v3 v4 g5 g6 (nI ed) g8 v9 (nI nb) g11 g12 v13 (nI ln) (nI (gP ((ti + 1) + 1))) (nI (gR (((ti + 1) + 1) + 1))) zn10 zn11 zn12 g20 zn14 og g23 (nI cd) zn16 zn15 v27 v28 v29 v30 v31 v32 v33 v34 v35 v36 v37 (nI ol)), (v9, .inl (cA 0, 700, .inl fb)), (v13, .inl (cA 1, 15, .inr (.inl fkw)))] H := ⟨hP, hD⟩
    have hn23 := hn23 (hw.1.trans hr9)
    obtain rfl : g21 = zn14 := hn23.symm
    obtain ⟨hP, hD⟩ : PDq D A [(v1, .inl (cA 0, 326, .inl fp)), (v28, .inl (cA 1, 10, .inr (.inl l28))), (v30, .inl (cA 1, 8, .inr (.inl l30))), (v32, .inl (cA 0, 400, .inl fc)), (oX10 w0 v0 v1 v2 v3 v4 g5 g6 (nI ed) g8 v9 (nI nb) g11 g12 v13 (nI ln) (nI (gP ((ti + 1) + 1))) (nI (gR (((ti + 1) + 1) + 1))) zn10 zn11 zn12 g20 g21 og g23 (nI cd) zn16 zn15 v27 v28 v29 v30 v31 v32 v33 v34 v35 v36 v37 (nI ol)), (v9, .inl (cA 0, 700, .inl fb)), (v13, .inl (cA 1, 15, .inr (.inl fkw)))] H := ⟨hP, hD⟩
    have hn24 := hn24 (hw.1.trans hr9)
    have hn25 := hn25 (hw.1.trans hr9)
    have hn26 := hn26 (hw.1.trans hr9)
    have hn27 := hn27 (hw.1.trans hr9)
    obtain ⟨kn31, hn32, hn33, hn9⟩ := hn27
    subst hn9
    obtain ⟨hP, hD⟩ : PDq D A [(v1, .inl (cA 0, 326, .inl fp)), (v28, .inl (cA 1, 10, .inr (.inl l28))), (v30, .inl (cA 1, 8, .inr (.inl l30))), (v32, .inl (cA 0, 400, .inl fc)), (oX10 w0 v0 v1 v2 v3 v4 g5 g6 (nI ed) g8 v9 (nI nb) g11 g12 v13 (nI ln) (nI (gP ((ti + 1) + 1))) (nI (gR (((ti + 1) + 1) + 1))) zn10 zn11 zn12 g20 g21 og g23 (nI cd) zn16 (nI kn31) v27 v28 v29 v30 v31 v32 v33 v34 v35 v36 v37 (nI ol)), (v9, .inl (cA 0, 700, .inl fb)), (v13, .inl (cA 1, 15, .inr (.inl fkw)))] H := ⟨hP, hD⟩
    subst hr9
    refine lv_if_eq (tgt := 34) hx hb dX10_numberFact_11 (by decide) (fun c9 => absurd c9 (by decide)) (fun c34 => ?_)
    refine lv_aload_n hx hb dX10_numberFact_14 rfl (lv_at hl 0 rfl) ?_
    refine lv_ldc (v := 100000) hx hb hown (hts (.constant RX10 201 100000) (by decide +kernel)) dX10_numberFact_15 ?_
    refine lv_iload_n hx hb dX10_numberFact_17 rfl (lv_at hl 1 rfl) ?_
    refine lv_imul hx hb dX10_numberFact_18 ?_
    refine lv_topi (fun yn35 eyn35 => ?_)
    obtain rfl : yn35 = 300000 := eyn35.trans (by first | rfl | decide +kernel)
    refine lv_aload_n hx hb dX10_numberFact_19 rfl (lv_at hl 0 rfl) ?_
    refine va_get (D := D) (ci := 11) (v := .int (nI kn31)) (C := RX10) (T := TX10) (N := 39) hx hb hts inX10 hown hK hP 4 rfl rfl 26 (by decide) (hts (.fieldLink RX10 156 "EscrowDeskModel" "numberRead" "I") (by decide +kernel)) (fun _ h9 => h9) rfl dX10_numberFact_20 ?_
    refine lv_iadd hx hb dX10_numberFact_23 ?_
    refine lv_topi (fun yn36 eyn36 => ?_)
    obtain rfl : yn36 = (nI (300000 + kn31)) := eyn36.trans (nI_add 300000 kn31)
    obtain ⟨hPc, hDc, hFc⟩ := PDq.cut (wc := [(oX10 w0 v0 v1 v2 v3 v4 g5 g6 (nI ed) g8 v9 (nI nb) g11 g12 v13 (nI ln) (nI (gP ((ti + 1) + 1))) (nI (gR (((ti + 1) + 1) + 1))) zn10 zn11 zn12 g20 g21 og g23 (nI cd) zn16 (nI kn31) v27 v28 v29 v30 v31 v32 v33 v34 v35 v36 v37 (nI ol)), (v32, .inl (cA 0, 400, .inl fc))]) hP hD hS hA [4, 3] (by decide) rfl
    refine va_calli (va_runV (As := [.int (nI (300000 + kn31))]) (rest := []) ⟨hx, hb, hml, hown, hts⟩ (r_emit l D cA sa w0 ed nb ol v0 v1 v2 v3 v4 v9 v13 v27 v28 v29 v30 v31 v32 v33 v34 v35 v36 v37 g8 g11 g12 (nI ln) (nI (gP ((ti + 1) + 1))) (nI (gR (((ti + 1) + 1) + 1))) zn10 zn11 zn12 g20 g21 og g23 (nI kn31) g5 g6 zn16 cd (nI (300000 + kn31)) fc H.size (by omega)) (cwV 1 hts gX10_numberFact_X10_emit rfl rfl rfl (by decide +kernel) ⟨(Nat.le_of_ble_eq_true rfl), (Nat.le_of_ble_eq_true rfl)⟩) ⟨Wd.blind, va_recv hK hPc (ci := 11) (q0 := 0) rfl rfl, fun U hU hW => ⟨rfl, Wd.call hPc hDc hK hC hZ hS hFc U hU hW⟩⟩ rfl rfl hl.1 rfl (lv_room (Nat.le_of_ble_eq_true rfl)) dX10_numberFact_24 ⟨(Nat.le_of_ble_eq_true rfl), (Nat.le_of_ble_eq_true rfl)⟩) hS (fun q _ h => hFc q h) hFc (fun rn37 u t H1 locs ht hvm hw hB hz1 hk1 hS => ?_)
    obtain ⟨fn38, hn39, hP1, hD1⟩ := hB
    rw [ht] at hP1
    obtain ⟨hP, hD⟩ := PDq.join (w := [(v1, .inl (cA 0, 326, .inl fp)), (v28, .inl (cA 1, 10, .inr (.inl l28))), (v30, .inl (cA 1, 8, .inr (.inl l30))), (v9, .inl (cA 0, 700, .inl fb)), (v13, .inl (cA 1, 15, .inr (.inl fkw))), (oX10 w0 v0 v1 v2 v3 v4 g5 g6 (nI ed) g8 v9 (nI nb) g11 g12 v13 (nI ln) (nI (gP ((ti + 1) + 1))) (nI (gR (((ti + 1) + 1) + 1))) zn10 zn11 zn12 g20 g21 og g23 (nI (cd + 1)) zn16 (nI kn31) v27 v28 v29 v30 v31 v32 v33 v34 v35 v36 v37 (nI ol)), (v32, .inl (cA 0, 400, .inl fn38))]) 5 hP hD [4, 3] [0, 1, 2, 5, 6] rfl rfl (by decide) (by decide) hk1 hFc hP1 hD1 rfl
    generalize H1 = H at hP hS ⊢
    obtain rfl : rn37 = 1 := hw
    refine lv_if_eq (tgt := 34) hx hb dX10_numberFact_27 (by decide) (fun c9 => absurd c9 (by decide)) (fun c40 => ?_)
    refine lv_iconst (v := 1) hx hb dX10_numberFact_30 (by decide) ?_
    refine lv_goto (tgt := 35) hx hb dX10_numberFact_31 (by decide) ?_
    obtain ⟨hP9, hD9⟩ := PDq.sub (ws' := [(oX10 w0 v0 v1 v2 v3 v4 g5 g6 (nI ed) g8 v9 (nI nb) g11 g12 v13 (nI ln) (nI (gP ((ti + 1) + 1))) (nI (gR (((ti + 1) + 1) + 1))) zn10 zn11 zn12 g20 g21 og g23 (nI (cd + 1)) zn16 (nI kn31) v27 v28 v29 v30 v31 v32 v33 v34 v35 v36 v37 (nI ol)), (v1, .inl (cA 0, 326, .inl fp)), (v9, .inl (cA 0, 700, .inl fb)), (v13, .inl (cA 1, 15, .inr (.inl fkw))), (v28, .inl (cA 1, 10, .inr (.inl l28))), (v30, .inl (cA 1, 8, .inr (.inl l30))), (v32, .inl (cA 0, 400, .inl fn38))]) hP hD [5, 0, 3, 4, 1, 2, 6] (by decide) rfl
    refine W.widen (k := 0) (n := 0) (Nat.le_of_ble_eq_true rfl) (Nat.le_of_ble_eq_true rfl) ?_
    exact (W.zret (v := 1) hx hb hr (by first | rfl | decide) (fun t ht hW => ⟨⟨1, 1, rfl, ⟨rfl, by decide⟩, ((ti + 1) + 1), zn10, zn11, zn12, g20, g21, (nI kn31), zn16, (cd + 1), pq, fp, fn38, l30, pl, hn17, hn18, (by omega), hn20, hpq, hri, hNP, (fun _ => rfl), (fun _ => rfl), (fun _ => (by omega)), (fun _ => (by omega)), (fun _ => (by omega)), (fun _ => (Em.kp hn39)), (fun _ => (Sg.leaf hn39 (nI_pos (by omega)))), (fun _ => (P_sum hk hn25)), (fun _ => (CR9.one (C_two hk (Or.inr (Or.inr (Or.inr rfl)))) hn39 (ER_20 hn25 (by decide) hn26 rfl).1 (ER_20 hn25 (by decide) hn26 rfl).2 (Ext9.rf pl) rfl)), (fun _ => (K14.rf fp)), (fun h9 => absurd h9 (by decide)), by rw [ht]; exact hP9, hD9⟩, hS.F ht⟩) hS.2.2 dX10_numberFact_35)

set_option maxHeartbeats 4000000 in
set_option maxRecDepth 100000 in
/-- reference: plainFact -/
theorem y_plainFact4 (l : Launch) (D : va_G) (cA : Nat → ClassId) (sa : Nat → Nat) (w0 : Nat) (ed : Nat) (nb : Nat) (ol : Nat) (v0 : Nat) (v1 : Nat) (v2 : Nat) (v3 : Nat) (v4 : Nat) (v9 : Nat) (v13 : Nat) (v27 : Nat) (v28 : Nat) (v29 : Nat) (v30 : Nat) (v31 : Nat) (v32 : Nat) (v33 : Nat) (v34 : Nat) (v35 : Nat) (v36 : Nat) (v37 : Nat) (g8 : Int32) (g11 : Int32) (g12 : Int32) (g19 : Int32) (g20 : Int32) (g21 : Int32) (g23 : Int32) (g26 : Int32) (g5 : Int64) (g6 : Int64) (g25 : Int64) (ln : Nat) (cd : Nat) (tk : Int32) (kw : Int32) (ti : Nat) (ct : Nat) (fb : Nat → Int32) (fkw : Nat → Int64) (gP : Nat → Nat) (gR : Nat → Nat) (gS : Nat → Int32) (gK : Nat → Int32) (gV : Nat → Int64) (cn : Nat) (pq : Nat) (en : Nat) (dy : Nat) (fp : Nat → Int32) (sl : Nat) (o9 : Nat) (l28 : Nat → Int64) (l30 : Nat → Int64) (fc : Nat → Int32) (ml : List Int64) (pl : List Int64) (og : Int32) (sz : Nat) (hln : ln ≤ 700) (hct : ct ≤ 701) (hti : ti < ct) (hTX : TX fb ln ct gP gR gS gV gK) (hBY : BYn ln fb) (hTK : TKR (gK ti) (gV ti) (fb (gP ti)) tk kw g19 g25) (hKW : KW 15 fkw) (hcn : cn ≤ 10) (hpq : pq ≤ 8) (hen : en ≤ 60) (hdy : dy ≤ 20000) (hri : RI cn pq en dy fp) (hcd : 2 * cd + sl ≤ gP ti) (hNM : NL ml cn l28) (hNP : NL pl pq l30) (hk : gK ti = 21) : Met l yX10_plainFact wsX10_plainFact ({ frames := 2, cells := 0, slots := 0, locals := 44 }) (va_Pc [.ref w0, .int 4] (Wd D cA sa [(oX10 w0 v0 v1 v2 v3 v4 g5 g6 (nI ed) g8 v9 (nI nb) g11 g12 v13 (nI ln) (nI (gP ti)) (nI (gR (ti + 1))) tk kw g19 g20 g21 og g23 (nI cd) g25 g26 v27 v28 v29 v30 v31 v32 v33 v34 v35 v36 v37 (nI ol)), (v1, .inl (cA 0, 326, .inl fp)), (v9, .inl (cA 0, 700, .inl fb)), (v13, .inl (cA 1, 15, .inr (.inl fkw))), (v28, .inl (cA 1, 10, .inr (.inl l28))), (v30, .inl (cA 1, 8, .inr (.inl l30))), (v32, .inl (cA 0, 400, .inl fc))] sz)) (va_Qi (fun (r : Int32) (u9 : Int32) => u9 = r ∧ (r = 0 ∨ r = 1)) (fun (u9 : Int32) t => ∃ tj : Nat, ∃ z17 : Int32, ∃ z18 : Int32, ∃ z19 : Int32, ∃ z20 : Int32, ∃ z21 : Int32, ∃ z26 : Int32, ∃ z25 : Int64, ∃ cd2 : Nat, ∃ pq2 : Nat, ∃ zp : Nat → Int32, ∃ zc : Nat → Int32, ∃ zl : Nat → Int64, ∃ zpl : List Int64, tj < ct ∧ gP tj ≤ ln ∧ ti ≤ tj ∧ TKR (gK tj) (gV tj) (fb (gP tj)) z17 z18 z19 z25 ∧ pq2 ≤ 8 ∧ RI cn pq2 en dy zp ∧ NL zpl pq2 zl ∧ (u9 = 1 → z20 = g20) ∧ (u9 = 1 → z21 = g21) ∧ (u9 = 1 → ti + 1 ≤ tj) ∧ (u9 = 1 → cd ≤ cd2) ∧ (u9 = 1 → 2 * cd2 + sl ≤ gP tj) ∧ (u9 = 1 → Kp cd fc zc) ∧ (u9 = 1 → Sg cd cd2 zc) ∧ (u9 = 1 → PRx gK gS gV ml 0 o9 ti pl (.inr (tj, zpl))) ∧ (u9 = 1 → CR9 gK gV 0 ti tj ml pl zpl cd cd2 fc zc) ∧ (u9 = 1 → K14 fp zp) ∧ (u9 = 0 → PRx gK gS gV ml 0 o9 ti pl (.inl (z20, z21))) ∧ Wq D (va_A [(oX10 w0 v0 v1 v2 v3 v4 g5 g6 (nI ed) g8 v9 (nI nb) g11 g12 v13 (nI ln) (nI (gP ti)) (nI (gR (ti + 1))) tk kw g19 g20 g21 og g23 (nI cd) g25 g26 v27 v28 v29 v30 v31 v32 v33 v34 v35 v36 v37 (nI ol)), (v1, .inl (cA 0, 326, .inl fp)), (v9, .inl (cA 0, 700, .inl fb)), (v13, .inl (cA 1, 15, .inr (.inl fkw))), (v28, .inl (cA 1, 10, .inr (.inl l28))), (v30, .inl (cA 1, 8, .inr (.inl l30))), (v32, .inl (cA 0, 400, .inl fc))] sz) [(oX10 w0 v0 v1 v2 v3 v4 g5 g6 (nI ed) g8 v9 (nI nb) g11 g12 v13 (nI ln) (nI (gP tj)) (nI (gR (tj + 1))) z17 z18 z19 z20 z21 og g23 (nI cd2) z25 z26 v27 v28 v29 v30 v31 v32 v33 v34 v35 v36 v37 (nI ol)), (v1, .inl (cA 0, 326, .inl zp)), (v9, .inl (cA 0, 700, .inl fb)), (v13, .inl (cA 1, 15, .inr (.inl fkw))), (v28, .inl (cA 1, 10, .inr (.inl l28))), (v30, .inl (cA 1, 8, .inr (.inl zl))), (v32, .inl (cA 0, 400, .inl zc))] t) (va_A [(oX10 w0 v0 v1 v2 v3 v4 g5 g6 (nI ed) g8 v9 (nI nb) g11 g12 v13 (nI ln) (nI (gP ti)) (nI (gR (ti + 1))) tk kw g19 g20 g21 og g23 (nI cd) g25 g26 v27 v28 v29 v30 v31 v32 v33 v34 v35 v36 v37 (nI ol)), (v1, .inl (cA 0, 326, .inl fp)), (v9, .inl (cA 0, 700, .inl fb)), (v13, .inl (cA 1, 15, .inr (.inl fkw))), (v28, .inl (cA 1, 10, .inr (.inl l28))), (v30, .inl (cA 1, 8, .inr (.inl l30))), (v32, .inl (cA 0, 400, .inl fc))] sz)) 0 0 (va_A [(oX10 w0 v0 v1 v2 v3 v4 g5 g6 (nI ed) g8 v9 (nI nb) g11 g12 v13 (nI ln) (nI (gP ti)) (nI (gR (ti + 1))) tk kw g19 g20 g21 og g23 (nI cd) g25 g26 v27 v28 v29 v30 v31 v32 v33 v34 v35 v36 v37 (nI ol)), (v1, .inl (cA 0, 326, .inl fp)), (v9, .inl (cA 0, 700, .inl fb)), (v13, .inl (cA 1, 15, .inr (.inl fkw))), (v28, .inl (cA 1, 10, .inr (.inl l28))), (v30, .inl (cA 1, 8, .inr (.inl l30))), (v32, .inl (cA 0, 400, .inl fc))] sz) := by
  refine Met.ofW (cc := cX10_plainFact) (maxL := 2) (ret := (some .boolean)) (by decide) rfl ?_
  intro p e s m args below meth c s₁ B hml hv
  obtain ⟨rfl, hsz, hP, hK, hD0, hC, hZ⟩ := hv
  have hx := B.exec
  have hb := B.bytes
  have hr := B.returns
  have hts := atoms_spec (ws := wsX10_plainFact) B.pre
  have hown : s.vm.findClass RX10 = some m.cls := findClass_of_methodNamed B.named
  have hlocks := B.notSynchronized
  subst hsz
  have hD := hD0.self (sz := s.heap.size)
  generalize hAe : va_A [(oX10 w0 v0 v1 v2 v3 v4 g5 g6 (nI ed) g8 v9 (nI nb) g11 g12 v13 (nI ln) (nI (gP ti)) (nI (gR (ti + 1))) tk kw g19 g20 g21 og g23 (nI cd) g25 g26 v27 v28 v29 v30 v31 v32 v33 v34 v35 v36 v37 (nI ol)), (v1, .inl (cA 0, 326, .inl fp)), (v9, .inl (cA 0, 700, .inl fb)), (v13, .inl (cA 1, 15, .inr (.inl fkw))), (v28, .inl (cA 1, 10, .inr (.inl l28))), (v30, .inl (cA 1, 8, .inr (.inl l30))), (v32, .inl (cA 0, 400, .inl fc))] s.heap.size = A at hD hZ ⊢
  have hA : ∀ q : Nat, s.heap.size ≤ q → A q := fun q h => by rw [← hAe]; exact Or.inr h
  have hS : va_S A s.heap s.heap [] := va_S.rf
  have hP : va_P D vwCl [(oX10 w0 v0 v1 v2 v3 v4 g5 g6 (nI ed) g8 v9 (nI nb) g11 g12 v13 (nI ln) (nI (gP ti)) (nI (gR (ti + 1))) tk kw g19 g20 g21 og g23 (nI cd) g25 g26 v27 v28 v29 v30 v31 v32 v33 v34 v35 v36 v37 (nI ol)), (v1, .inl (cA 0, 326, .inl fp)), (v9, .inl (cA 0, 700, .inl fb)), (v13, .inl (cA 1, 15, .inr (.inl fkw))), (v28, .inl (cA 1, 10, .inr (.inl l28))), (v30, .inl (cA 1, 8, .inr (.inl l30))), (v32, .inl (cA 0, 400, .inl fc))] s.heap := hP
  have hl := lv_entry ([.ref w0, .int 4]) (n := 2) (Nat.le_of_ble_eq_true rfl)
  rw [lg_entry_eq]
  generalize (lg_sl ([.ref w0, .int 4]) ++ List.replicate (2 - (lg_sl ([.ref w0, .int 4])).length) Slot.unset).toArray = ls at hl ⊢
  have hl : lv_has ls 2 [(0, .ref w0), (1, .int 4)] := hl
  have hle9 := TX.le hTX hti
  refine lv_aload_n hx hb dX10_plainFact_0 rfl (lv_at hl 0 rfl) ?_
  refine lv_ldc (v := 100000) hx hb hown (hts (.constant RX10 201 100000) (by decide +kernel)) dX10_plainFact_1 ?_
  refine lv_iload_n hx hb dX10_plainFact_3 rfl (lv_at hl 1 rfl) ?_
  refine lv_imul hx hb dX10_plainFact_4 ?_
  refine lv_topi (fun yn1 eyn1 => ?_)
  obtain rfl : yn1 = 400000 := eyn1.trans (by first | rfl | decide +kernel)
  obtain ⟨hPc, hDc, hFc⟩ := PDq.cut (wc := [(oX10 w0 v0 v1 v2 v3 v4 g5 g6 (nI ed) g8 v9 (nI nb) g11 g12 v13 (nI ln) (nI (gP ti)) (nI (gR (ti + 1))) tk kw g19 g20 g21 og g23 (nI cd) g25 g26 v27 v28 v29 v30 v31 v32 v33 v34 v35 v36 v37 (nI ol)), (v32, .inl (cA 0, 400, .inl fc))]) hP hD hS hA [0, 6] (by decide) rfl
  refine va_calli (va_runV (As := [.int 400000]) (rest := []) ⟨hx, hb, hml, hown, hts⟩ (r_emit l D cA sa w0 ed nb ol v0 v1 v2 v3 v4 v9 v13 v27 v28 v29 v30 v31 v32 v33 v34 v35 v36 v37 g8 g11 g12 (nI ln) (nI (gP ti)) (nI (gR (ti + 1))) tk kw g19 g20 g21 og g23 g26 g5 g6 g25 cd 400000 fc s.heap.size (by omega)) (cwV 1 hts gX10_plainFact_X10_emit rfl rfl rfl (by decide +kernel) ⟨(Nat.le_of_ble_eq_true rfl), (Nat.le_of_ble_eq_true rfl)⟩) ⟨Wd.blind, va_recv hK hPc (ci := 11) (q0 := 0) rfl rfl, fun U hU hW => ⟨rfl, Wd.call hPc hDc hK hC hZ hS hFc U hU hW⟩⟩ rfl rfl hl.1 rfl (lv_room (Nat.le_of_ble_eq_true rfl)) dX10_plainFact_5 ⟨(Nat.le_of_ble_eq_true rfl), (Nat.le_of_ble_eq_true rfl)⟩) hS (fun q _ h => hFc q h) hFc (fun rn2 u t H1 locs ht hvm hw hB hz1 hk1 hS => ?_)
  obtain ⟨fn3, hn4, hP1, hD1⟩ := hB
  rw [ht] at hP1
  obtain ⟨hP, hD⟩ := PDq.join (w := [(v1, .inl (cA 0, 326, .inl fp)), (v9, .inl (cA 0, 700, .inl fb)), (v13, .inl (cA 1, 15, .inr (.inl fkw))), (v28, .inl (cA 1, 10, .inr (.inl l28))), (v30, .inl (cA 1, 8, .inr (.inl l30))), (oX10 w0 v0 v1 v2 v3 v4 g5 g6 (nI ed) g8 v9 (nI nb) g11 g12 v13 (nI ln) (nI (gP ti)) (nI (gR (ti + 1))) tk kw g19 g20 g21 og g23 (nI (cd + 1)) g25 g26 v27 v28 v29 v30 v31 v32 v33 v34 v35 v36 v37 (nI ol)), (v32, .inl (cA 0, 400, .inl fn3))]) 5 hP hD [0, 6] [1, 2, 3, 4, 5] rfl rfl (by decide) (by decide) hk1 hFc hP1 hD1 rfl
  generalize H1 = H at hP hS ⊢
  obtain rfl : rn2 = 1 := hw
  refine lv_pop hx hb dX10_plainFact_8 rfl ?_
  refine lv_aload_n hx hb dX10_plainFact_9 rfl (lv_at hl 0 rfl) ?_
  have hn5 := TX.go2 hTX (show ti < ct by omega) (by rw [hk]; decide)
  have hn5a := TX.le hTX (show ti < ct by omega)
  have hn5b := TX.le hTX hn5.1
  obtain ⟨hPc, hDc, hFc⟩ := PDq.cut (wc := [(oX10 w0 v0 v1 v2 v3 v4 g5 g6 (nI ed) g8 v9 (nI nb) g11 g12 v13 (nI ln) (nI (gP ti)) (nI (gR (ti + 1))) tk kw g19 g20 g21 og g23 (nI (cd + 1)) g25 g26 v27 v28 v29 v30 v31 v32 v33 v34 v35 v36 v37 (nI ol)), (v9, .inl (cA 0, 700, .inl fb)), (v13, .inl (cA 1, 15, .inr (.inl fkw)))]) hP hD hS hA [5, 1, 2] (by decide) rfl
  refine va_calli (va_runV (As := []) (rest := []) ⟨hx, hb, hml, hown, hts⟩ (y_advance l D cA sa w0 ed nb ol v0 v1 v2 v3 v4 v9 v13 v27 v28 v29 v30 v31 v32 v33 v34 v35 v36 v37 g8 g11 g12 (nI (gP ti)) tk kw g19 g20 g21 og g23 (nI (cd + 1)) g26 g5 g6 g25 ln (gR (ti + 1)) fb fkw (gP (ti + 1)) (gR ((ti + 1) + 1)) (gK (ti + 1)) (gV (ti + 1)) H.size hln (by omega) hKW hBY (TX.t hTX hn5.1)) (cwV 0 hts gX10_plainFact_X10_advance rfl rfl rfl (by decide +kernel) ⟨(Nat.le_of_ble_eq_true rfl), (Nat.le_of_ble_eq_true rfl)⟩) ⟨Wd.blind, va_recv hK hPc (ci := 11) (q0 := 0) rfl rfl, fun U hU hW => ⟨rfl, Wd.call hPc hDc hK hC hZ hS hFc U hU hW⟩⟩ rfl rfl hl.1 rfl (lv_room (Nat.le_of_ble_eq_true rfl)) dX10_plainFact_10 ⟨(Nat.le_of_ble_eq_true rfl), (Nat.le_of_ble_eq_true rfl)⟩) hS (fun q _ h => hFc q h) hFc (fun rn6 u t H1 locs ht hvm hw hB hz1 hk1 hS => ?_)
  obtain ⟨zn7, zn8, zn9, zn10, hn11, hP1, hD1⟩ := hB
  rw [ht] at hP1
  obtain ⟨hP, hD⟩ := PDq.join (w := [(v1, .inl (cA 0, 326, .inl fp)), (v28, .inl (cA 1, 10, .inr (.inl l28))), (v30, .inl (cA 1, 8, .inr (.inl l30))), (v32, .inl (cA 0, 400, .inl fn3)), (oX10 w0 v0 v1 v2 v3 v4 g5 g6 (nI ed) g8 v9 (nI nb) g11 g12 v13 (nI ln) (nI (gP (ti + 1))) (nI (gR ((ti + 1) + 1))) zn7 zn8 zn9 g20 g21 og g23 (nI (cd + 1)) zn10 g26 v27 v28 v29 v30 v31 v32 v33 v34 v35 v36 v37 (nI ol)), (v9, .inl (cA 0, 700, .inl fb)), (v13, .inl (cA 1, 15, .inr (.inl fkw)))]) 4 hP hD [5, 1, 2] [0, 3, 4, 6] rfl rfl (by decide) (by decide) hk1 hFc hP1 hD1 rfl
  generalize H1 = H at hP hS ⊢
  obtain rfl : rn6 = 1 := hw
  obtain ⟨hP9, hD9⟩ := PDq.sub (ws' := [(oX10 w0 v0 v1 v2 v3 v4 g5 g6 (nI ed) g8 v9 (nI nb) g11 g12 v13 (nI ln) (nI (gP (ti + 1))) (nI (gR ((ti + 1) + 1))) zn7 zn8 zn9 g20 g21 og g23 (nI (cd + 1)) zn10 g26 v27 v28 v29 v30 v31 v32 v33 v34 v35 v36 v37 (nI ol)), (v1, .inl (cA 0, 326, .inl fp)), (v9, .inl (cA 0, 700, .inl fb)), (v13, .inl (cA 1, 15, .inr (.inl fkw))), (v28, .inl (cA 1, 10, .inr (.inl l28))), (v30, .inl (cA 1, 8, .inr (.inl l30))), (v32, .inl (cA 0, 400, .inl fn3))]) hP hD [4, 0, 5, 6, 1, 2, 3] (by decide) rfl
  refine W.widen (k := 0) (n := 0) (Nat.le_of_ble_eq_true rfl) (Nat.le_of_ble_eq_true rfl) ?_
  exact (W.zret (v := 1) hx hb hr (by first | rfl | decide) (fun t ht hW => ⟨⟨1, 1, rfl, ⟨rfl, by decide⟩, (ti + 1), zn7, zn8, zn9, g20, g21, g26, zn10, (cd + 1), pq, fp, fn3, l30, pl, hn5.1, (by omega), (by omega), hn11, hpq, hri, hNP, (fun _ => rfl), (fun _ => rfl), (fun _ => (by omega)), (fun _ => (by omega)), (fun _ => (by omega)), (fun _ => (Em.kp hn4)), (fun _ => (Sg.leaf hn4 (by decide))), (fun _ => (P_plain (Or.inl hk))), (fun _ => (CR9.one (C_plain (Or.inl hk)) hn4 (by rw [hk]; exact (E_pl (o := 0) (Or.inl rfl)).1) (by rw [hk]; rfl) (Ext9.rf pl) rfl)), (fun _ => (K14.rf fp)), (fun h9 => absurd h9 (by decide)), by rw [ht]; exact hP9, hD9⟩, hS.F ht⟩) hS.2.2 dX10_plainFact_13)

set_option maxHeartbeats 4000000 in
set_option maxRecDepth 100000 in
/-- reference: plainFact -/
theorem y_plainFact5 (l : Launch) (D : va_G) (cA : Nat → ClassId) (sa : Nat → Nat) (w0 : Nat) (ed : Nat) (nb : Nat) (ol : Nat) (v0 : Nat) (v1 : Nat) (v2 : Nat) (v3 : Nat) (v4 : Nat) (v9 : Nat) (v13 : Nat) (v27 : Nat) (v28 : Nat) (v29 : Nat) (v30 : Nat) (v31 : Nat) (v32 : Nat) (v33 : Nat) (v34 : Nat) (v35 : Nat) (v36 : Nat) (v37 : Nat) (g8 : Int32) (g11 : Int32) (g12 : Int32) (g19 : Int32) (g20 : Int32) (g21 : Int32) (g23 : Int32) (g26 : Int32) (g5 : Int64) (g6 : Int64) (g25 : Int64) (ln : Nat) (cd : Nat) (tk : Int32) (kw : Int32) (ti : Nat) (ct : Nat) (fb : Nat → Int32) (fkw : Nat → Int64) (gP : Nat → Nat) (gR : Nat → Nat) (gS : Nat → Int32) (gK : Nat → Int32) (gV : Nat → Int64) (cn : Nat) (pq : Nat) (en : Nat) (dy : Nat) (fp : Nat → Int32) (sl : Nat) (o9 : Nat) (l28 : Nat → Int64) (l30 : Nat → Int64) (fc : Nat → Int32) (ml : List Int64) (pl : List Int64) (og : Int32) (sz : Nat) (hln : ln ≤ 700) (hct : ct ≤ 701) (hti : ti < ct) (hTX : TX fb ln ct gP gR gS gV gK) (hBY : BYn ln fb) (hTK : TKR (gK ti) (gV ti) (fb (gP ti)) tk kw g19 g25) (hKW : KW 15 fkw) (hcn : cn ≤ 10) (hpq : pq ≤ 8) (hen : en ≤ 60) (hdy : dy ≤ 20000) (hri : RI cn pq en dy fp) (hcd : 2 * cd + sl ≤ gP ti) (hNM : NL ml cn l28) (hNP : NL pl pq l30) (hk : gK ti = 22) : Met l yX10_plainFact wsX10_plainFact ({ frames := 2, cells := 0, slots := 0, locals := 44 }) (va_Pc [.ref w0, .int 5] (Wd D cA sa [(oX10 w0 v0 v1 v2 v3 v4 g5 g6 (nI ed) g8 v9 (nI nb) g11 g12 v13 (nI ln) (nI (gP ti)) (nI (gR (ti + 1))) tk kw g19 g20 g21 og g23 (nI cd) g25 g26 v27 v28 v29 v30 v31 v32 v33 v34 v35 v36 v37 (nI ol)), (v1, .inl (cA 0, 326, .inl fp)), (v9, .inl (cA 0, 700, .inl fb)), (v13, .inl (cA 1, 15, .inr (.inl fkw))), (v28, .inl (cA 1, 10, .inr (.inl l28))), (v30, .inl (cA 1, 8, .inr (.inl l30))), (v32, .inl (cA 0, 400, .inl fc))] sz)) (va_Qi (fun (r : Int32) (u9 : Int32) => u9 = r ∧ (r = 0 ∨ r = 1)) (fun (u9 : Int32) t => ∃ tj : Nat, ∃ z17 : Int32, ∃ z18 : Int32, ∃ z19 : Int32, ∃ z20 : Int32, ∃ z21 : Int32, ∃ z26 : Int32, ∃ z25 : Int64, ∃ cd2 : Nat, ∃ pq2 : Nat, ∃ zp : Nat → Int32, ∃ zc : Nat → Int32, ∃ zl : Nat → Int64, ∃ zpl : List Int64, tj < ct ∧ gP tj ≤ ln ∧ ti ≤ tj ∧ TKR (gK tj) (gV tj) (fb (gP tj)) z17 z18 z19 z25 ∧ pq2 ≤ 8 ∧ RI cn pq2 en dy zp ∧ NL zpl pq2 zl ∧ (u9 = 1 → z20 = g20) ∧ (u9 = 1 → z21 = g21) ∧ (u9 = 1 → ti + 1 ≤ tj) ∧ (u9 = 1 → cd ≤ cd2) ∧ (u9 = 1 → 2 * cd2 + sl ≤ gP tj) ∧ (u9 = 1 → Kp cd fc zc) ∧ (u9 = 1 → Sg cd cd2 zc) ∧ (u9 = 1 → PRx gK gS gV ml 0 o9 ti pl (.inr (tj, zpl))) ∧ (u9 = 1 → CR9 gK gV 0 ti tj ml pl zpl cd cd2 fc zc) ∧ (u9 = 1 → K14 fp zp) ∧ (u9 = 0 → PRx gK gS gV ml 0 o9 ti pl (.inl (z20, z21))) ∧ Wq D (va_A [(oX10 w0 v0 v1 v2 v3 v4 g5 g6 (nI ed) g8 v9 (nI nb) g11 g12 v13 (nI ln) (nI (gP ti)) (nI (gR (ti + 1))) tk kw g19 g20 g21 og g23 (nI cd) g25 g26 v27 v28 v29 v30 v31 v32 v33 v34 v35 v36 v37 (nI ol)), (v1, .inl (cA 0, 326, .inl fp)), (v9, .inl (cA 0, 700, .inl fb)), (v13, .inl (cA 1, 15, .inr (.inl fkw))), (v28, .inl (cA 1, 10, .inr (.inl l28))), (v30, .inl (cA 1, 8, .inr (.inl l30))), (v32, .inl (cA 0, 400, .inl fc))] sz) [(oX10 w0 v0 v1 v2 v3 v4 g5 g6 (nI ed) g8 v9 (nI nb) g11 g12 v13 (nI ln) (nI (gP tj)) (nI (gR (tj + 1))) z17 z18 z19 z20 z21 og g23 (nI cd2) z25 z26 v27 v28 v29 v30 v31 v32 v33 v34 v35 v36 v37 (nI ol)), (v1, .inl (cA 0, 326, .inl zp)), (v9, .inl (cA 0, 700, .inl fb)), (v13, .inl (cA 1, 15, .inr (.inl fkw))), (v28, .inl (cA 1, 10, .inr (.inl l28))), (v30, .inl (cA 1, 8, .inr (.inl zl))), (v32, .inl (cA 0, 400, .inl zc))] t) (va_A [(oX10 w0 v0 v1 v2 v3 v4 g5 g6 (nI ed) g8 v9 (nI nb) g11 g12 v13 (nI ln) (nI (gP ti)) (nI (gR (ti + 1))) tk kw g19 g20 g21 og g23 (nI cd) g25 g26 v27 v28 v29 v30 v31 v32 v33 v34 v35 v36 v37 (nI ol)), (v1, .inl (cA 0, 326, .inl fp)), (v9, .inl (cA 0, 700, .inl fb)), (v13, .inl (cA 1, 15, .inr (.inl fkw))), (v28, .inl (cA 1, 10, .inr (.inl l28))), (v30, .inl (cA 1, 8, .inr (.inl l30))), (v32, .inl (cA 0, 400, .inl fc))] sz)) 0 0 (va_A [(oX10 w0 v0 v1 v2 v3 v4 g5 g6 (nI ed) g8 v9 (nI nb) g11 g12 v13 (nI ln) (nI (gP ti)) (nI (gR (ti + 1))) tk kw g19 g20 g21 og g23 (nI cd) g25 g26 v27 v28 v29 v30 v31 v32 v33 v34 v35 v36 v37 (nI ol)), (v1, .inl (cA 0, 326, .inl fp)), (v9, .inl (cA 0, 700, .inl fb)), (v13, .inl (cA 1, 15, .inr (.inl fkw))), (v28, .inl (cA 1, 10, .inr (.inl l28))), (v30, .inl (cA 1, 8, .inr (.inl l30))), (v32, .inl (cA 0, 400, .inl fc))] sz) := by
  refine Met.ofW (cc := cX10_plainFact) (maxL := 2) (ret := (some .boolean)) (by decide) rfl ?_
  intro p e s m args below meth c s₁ B hml hv
  obtain ⟨rfl, hsz, hP, hK, hD0, hC, hZ⟩ := hv
  have hx := B.exec
  have hb := B.bytes
  have hr := B.returns
  have hts := atoms_spec (ws := wsX10_plainFact) B.pre
  have hown : s.vm.findClass RX10 = some m.cls := findClass_of_methodNamed B.named
  have hlocks := B.notSynchronized
  subst hsz
  have hD := hD0.self (sz := s.heap.size)
  generalize hAe : va_A [(oX10 w0 v0 v1 v2 v3 v4 g5 g6 (nI ed) g8 v9 (nI nb) g11 g12 v13 (nI ln) (nI (gP ti)) (nI (gR (ti + 1))) tk kw g19 g20 g21 og g23 (nI cd) g25 g26 v27 v28 v29 v30 v31 v32 v33 v34 v35 v36 v37 (nI ol)), (v1, .inl (cA 0, 326, .inl fp)), (v9, .inl (cA 0, 700, .inl fb)), (v13, .inl (cA 1, 15, .inr (.inl fkw))), (v28, .inl (cA 1, 10, .inr (.inl l28))), (v30, .inl (cA 1, 8, .inr (.inl l30))), (v32, .inl (cA 0, 400, .inl fc))] s.heap.size = A at hD hZ ⊢
  have hA : ∀ q : Nat, s.heap.size ≤ q → A q := fun q h => by rw [← hAe]; exact Or.inr h
  have hS : va_S A s.heap s.heap [] := va_S.rf
  have hP : va_P D vwCl [(oX10 w0 v0 v1 v2 v3 v4 g5 g6 (nI ed) g8 v9 (nI nb) g11 g12 v13 (nI ln) (nI (gP ti)) (nI (gR (ti + 1))) tk kw g19 g20 g21 og g23 (nI cd) g25 g26 v27 v28 v29 v30 v31 v32 v33 v34 v35 v36 v37 (nI ol)), (v1, .inl (cA 0, 326, .inl fp)), (v9, .inl (cA 0, 700, .inl fb)), (v13, .inl (cA 1, 15, .inr (.inl fkw))), (v28, .inl (cA 1, 10, .inr (.inl l28))), (v30, .inl (cA 1, 8, .inr (.inl l30))), (v32, .inl (cA 0, 400, .inl fc))] s.heap := hP
  have hl := lv_entry ([.ref w0, .int 5]) (n := 2) (Nat.le_of_ble_eq_true rfl)
  rw [lg_entry_eq]
  generalize (lg_sl ([.ref w0, .int 5]) ++ List.replicate (2 - (lg_sl ([.ref w0, .int 5])).length) Slot.unset).toArray = ls at hl ⊢
  have hl : lv_has ls 2 [(0, .ref w0), (1, .int 5)] := hl
  have hle9 := TX.le hTX hti
  refine lv_aload_n hx hb dX10_plainFact_0 rfl (lv_at hl 0 rfl) ?_
  refine lv_ldc (v := 100000) hx hb hown (hts (.constant RX10 201 100000) (by decide +kernel)) dX10_plainFact_1 ?_
  refine lv_iload_n hx hb dX10_plainFact_3 rfl (lv_at hl 1 rfl) ?_
  refine lv_imul hx hb dX10_plainFact_4 ?_
  refine lv_topi (fun yn1 eyn1 => ?_)
  obtain rfl : yn1 = 500000 := eyn1.trans (by first | rfl | decide +kernel)
  obtain ⟨hPc, hDc, hFc⟩ := PDq.cut (wc := [(oX10 w0 v0 v1 v2 v3 v4 g5 g6 (nI ed) g8 v9 (nI nb) g11 g12 v13 (nI ln) (nI (gP ti)) (nI (gR (ti + 1))) tk kw g19 g20 g21 og g23 (nI cd) g25 g26 v27 v28 v29 v30 v31 v32 v33 v34 v35 v36 v37 (nI ol)), (v32, .inl (cA 0, 400, .inl fc))]) hP hD hS hA [0, 6] (by decide) rfl
  refine va_calli (va_runV (As := [.int 500000]) (rest := []) ⟨hx, hb, hml, hown, hts⟩ (r_emit l D cA sa w0 ed nb ol v0 v1 v2 v3 v4 v9 v13 v27 v28 v29 v30 v31 v32 v33 v34 v35 v36 v37 g8 g11 g12 (nI ln) (nI (gP ti)) (nI (gR (ti + 1))) tk kw g19 g20 g21 og g23 g26 g5 g6 g25 cd 500000 fc s.heap.size (by omega)) (cwV 1 hts gX10_plainFact_X10_emit rfl rfl rfl (by decide +kernel) ⟨(Nat.le_of_ble_eq_true rfl), (Nat.le_of_ble_eq_true rfl)⟩) ⟨Wd.blind, va_recv hK hPc (ci := 11) (q0 := 0) rfl rfl, fun U hU hW => ⟨rfl, Wd.call hPc hDc hK hC hZ hS hFc U hU hW⟩⟩ rfl rfl hl.1 rfl (lv_room (Nat.le_of_ble_eq_true rfl)) dX10_plainFact_5 ⟨(Nat.le_of_ble_eq_true rfl), (Nat.le_of_ble_eq_true rfl)⟩) hS (fun q _ h => hFc q h) hFc (fun rn2 u t H1 locs ht hvm hw hB hz1 hk1 hS => ?_)
  obtain ⟨fn3, hn4, hP1, hD1⟩ := hB
  rw [ht] at hP1
  obtain ⟨hP, hD⟩ := PDq.join (w := [(v1, .inl (cA 0, 326, .inl fp)), (v9, .inl (cA 0, 700, .inl fb)), (v13, .inl (cA 1, 15, .inr (.inl fkw))), (v28, .inl (cA 1, 10, .inr (.inl l28))), (v30, .inl (cA 1, 8, .inr (.inl l30))), (oX10 w0 v0 v1 v2 v3 v4 g5 g6 (nI ed) g8 v9 (nI nb) g11 g12 v13 (nI ln) (nI (gP ti)) (nI (gR (ti + 1))) tk kw g19 g20 g21 og g23 (nI (cd + 1)) g25 g26 v27 v28 v29 v30 v31 v32 v33 v34 v35 v36 v37 (nI ol)), (v32, .inl (cA 0, 400, .inl fn3))]) 5 hP hD [0, 6] [1, 2, 3, 4, 5] rfl rfl (by decide) (by decide) hk1 hFc hP1 hD1 rfl
  generalize H1 = H at hP hS ⊢
  obtain rfl : rn2 = 1 := hw
  refine lv_pop hx hb dX10_plainFact_8 rfl ?_
  refine lv_aload_n hx hb dX10_plainFact_9 rfl (lv_at hl 0 rfl) ?_
  have hn5 := TX.go2 hTX (show ti < ct by omega) (by rw [hk]; decide)
  have hn5a := TX.le hTX (show ti < ct by omega)
  have hn5b := TX.le hTX hn5.1
  obtain ⟨hPc, hDc, hFc⟩ := PDq.cut (wc := [(oX10 w0 v0 v1 v2 v3 v4 g5 g6 (nI ed) g8 v9 (nI nb) g11 g12 v13 (nI ln) (nI (gP ti)) (nI (gR (ti + 1))) tk kw g19 g20 g21 og g23 (nI (cd + 1)) g25 g26 v27 v28 v29 v30 v31 v32 v33 v34 v35 v36 v37 (nI ol)), (v9, .inl (cA 0, 700, .inl fb)), (v13, .inl (cA 1, 15, .inr (.inl fkw)))]) hP hD hS hA [5, 1, 2] (by decide) rfl
  refine va_calli (va_runV (As := []) (rest := []) ⟨hx, hb, hml, hown, hts⟩ (y_advance l D cA sa w0 ed nb ol v0 v1 v2 v3 v4 v9 v13 v27 v28 v29 v30 v31 v32 v33 v34 v35 v36 v37 g8 g11 g12 (nI (gP ti)) tk kw g19 g20 g21 og g23 (nI (cd + 1)) g26 g5 g6 g25 ln (gR (ti + 1)) fb fkw (gP (ti + 1)) (gR ((ti + 1) + 1)) (gK (ti + 1)) (gV (ti + 1)) H.size hln (by omega) hKW hBY (TX.t hTX hn5.1)) (cwV 0 hts gX10_plainFact_X10_advance rfl rfl rfl (by decide +kernel) ⟨(Nat.le_of_ble_eq_true rfl), (Nat.le_of_ble_eq_true rfl)⟩) ⟨Wd.blind, va_recv hK hPc (ci := 11) (q0 := 0) rfl rfl, fun U hU hW => ⟨rfl, Wd.call hPc hDc hK hC hZ hS hFc U hU hW⟩⟩ rfl rfl hl.1 rfl (lv_room (Nat.le_of_ble_eq_true rfl)) dX10_plainFact_10 ⟨(Nat.le_of_ble_eq_true rfl), (Nat.le_of_ble_eq_true rfl)⟩) hS (fun q _ h => hFc q h) hFc (fun rn6 u t H1 locs ht hvm hw hB hz1 hk1 hS => ?_)
  obtain ⟨zn7, zn8, zn9, zn10, hn11, hP1, hD1⟩ := hB
  rw [ht] at hP1
  obtain ⟨hP, hD⟩ := PDq.join (w := [(v1, .inl (cA 0, 326, .inl fp)), (v28, .inl (cA 1, 10, .inr (.inl l28))), (v30, .inl (cA 1, 8, .inr (.inl l30))), (v32, .inl (cA 0, 400, .inl fn3)), (oX10 w0 v0 v1 v2 v3 v4 g5 g6 (nI ed) g8 v9 (nI nb) g11 g12 v13 (nI ln) (nI (gP (ti + 1))) (nI (gR ((ti + 1) + 1))) zn7 zn8 zn9 g20 g21 og g23 (nI (cd + 1)) zn10 g26 v27 v28 v29 v30 v31 v32 v33 v34 v35 v36 v37 (nI ol)), (v9, .inl (cA 0, 700, .inl fb)), (v13, .inl (cA 1, 15, .inr (.inl fkw)))]) 4 hP hD [5, 1, 2] [0, 3, 4, 6] rfl rfl (by decide) (by decide) hk1 hFc hP1 hD1 rfl
  generalize H1 = H at hP hS ⊢
  obtain rfl : rn6 = 1 := hw
  obtain ⟨hP9, hD9⟩ := PDq.sub (ws' := [(oX10 w0 v0 v1 v2 v3 v4 g5 g6 (nI ed) g8 v9 (nI nb) g11 g12 v13 (nI ln) (nI (gP (ti + 1))) (nI (gR ((ti + 1) + 1))) zn7 zn8 zn9 g20 g21 og g23 (nI (cd + 1)) zn10 g26 v27 v28 v29 v30 v31 v32 v33 v34 v35 v36 v37 (nI ol)), (v1, .inl (cA 0, 326, .inl fp)), (v9, .inl (cA 0, 700, .inl fb)), (v13, .inl (cA 1, 15, .inr (.inl fkw))), (v28, .inl (cA 1, 10, .inr (.inl l28))), (v30, .inl (cA 1, 8, .inr (.inl l30))), (v32, .inl (cA 0, 400, .inl fn3))]) hP hD [4, 0, 5, 6, 1, 2, 3] (by decide) rfl
  refine W.widen (k := 0) (n := 0) (Nat.le_of_ble_eq_true rfl) (Nat.le_of_ble_eq_true rfl) ?_
  exact (W.zret (v := 1) hx hb hr (by first | rfl | decide) (fun t ht hW => ⟨⟨1, 1, rfl, ⟨rfl, by decide⟩, (ti + 1), zn7, zn8, zn9, g20, g21, g26, zn10, (cd + 1), pq, fp, fn3, l30, pl, hn5.1, (by omega), (by omega), hn11, hpq, hri, hNP, (fun _ => rfl), (fun _ => rfl), (fun _ => (by omega)), (fun _ => (by omega)), (fun _ => (by omega)), (fun _ => (Em.kp hn4)), (fun _ => (Sg.leaf hn4 (by decide))), (fun _ => (P_plain (Or.inr hk))), (fun _ => (CR9.one (C_plain (Or.inr hk)) hn4 (by rw [hk]; exact (E_pl (o := 0) (Or.inr rfl)).1) (by rw [hk]; rfl) (Ext9.rf pl) rfl)), (fun _ => (K14.rf fp)), (fun h9 => absurd h9 (by decide)), by rw [ht]; exact hP9, hD9⟩, hS.F ht⟩) hS.2.2 dX10_plainFact_13)

set_option maxHeartbeats 4000000 in
set_option maxRecDepth 100000 in
/-- reference: opens -/
theorem y_opens_B (l : Launch) (D : va_G) (cA : Nat → ClassId) (sa : Nat → Nat) (w0 : Nat) (ed : Nat) (nb : Nat) (ol : Nat) (v0 : Nat) (v1 : Nat) (v2 : Nat) (v3 : Nat) (v4 : Nat) (v9 : Nat) (v13 : Nat) (v27 : Nat) (v28 : Nat) (v29 : Nat) (v30 : Nat) (v31 : Nat) (v32 : Nat) (v33 : Nat) (v34 : Nat) (v35 : Nat) (v36 : Nat) (v37 : Nat) (g8 : Int32) (g11 : Int32) (g12 : Int32) (g19 : Int32) (g20 : Int32) (g21 : Int32) (g23 : Int32) (g26 : Int32) (g5 : Int64) (g6 : Int64) (g25 : Int64) (ln : Nat) (cd : Nat) (tk : Int32) (kw : Int32) (ti : Nat) (ct : Nat) (fb : Nat → Int32) (fkw : Nat → Int64) (gP : Nat → Nat) (gR : Nat → Nat) (gS : Nat → Int32) (gK : Nat → Int32) (gV : Nat → Int64) (o9 : Nat) (sz : Nat) (hln : ln ≤ 700) (hct : ct ≤ 701) (hti : ti < ct) (hTX : TX fb ln ct gP gR gS gV gK) (hBY : BYn ln fb) (hTK : TKR (gK ti) (gV ti) (fb (gP ti)) tk kw g19 g25) (ho : o9 = 8) : Met l yX10_opens wsX10_opens ({ frames := 1, cells := 0, slots := 0, locals := 21 }) (va_Pc [.ref w0] (Wd D cA sa [(oX10 w0 v0 v1 v2 v3 v4 g5 g6 (nI ed) g8 v9 (nI nb) g11 g12 v13 (nI ln) (nI (gP ti)) (nI (gR (ti + 1))) tk kw g19 g20 g21 (nI o9) g23 (nI cd) g25 g26 v27 v28 v29 v30 v31 v32 v33 v34 v35 v36 v37 (nI ol)), (v9, .inl (cA 0, 700, .inl fb)), (v13, .inl (cA 1, 15, .inr (.inl fkw)))] sz)) (va_Qi (fun (r : Int32) (_ : Unit) => r = 0) (fun (_ : Unit) t => ∃ z20 : Int32, z20 = fek (gK ti) 5 ∧ Wq D (va_A [(oX10 w0 v0 v1 v2 v3 v4 g5 g6 (nI ed) g8 v9 (nI nb) g11 g12 v13 (nI ln) (nI (gP ti)) (nI (gR (ti + 1))) tk kw g19 g20 g21 (nI o9) g23 (nI cd) g25 g26 v27 v28 v29 v30 v31 v32 v33 v34 v35 v36 v37 (nI ol)), (v9, .inl (cA 0, 700, .inl fb)), (v13, .inl (cA 1, 15, .inr (.inl fkw)))] sz) [(oX10 w0 v0 v1 v2 v3 v4 g5 g6 (nI ed) g8 v9 (nI nb) g11 g12 v13 (nI ln) (nI (gP ti)) (nI (gR (ti + 1))) tk kw g19 z20 (nI (gP ti)) (nI o9) g23 (nI cd) g25 g26 v27 v28 v29 v30 v31 v32 v33 v34 v35 v36 v37 (nI ol)), (v9, .inl (cA 0, 700, .inl fb)), (v13, .inl (cA 1, 15, .inr (.inl fkw)))] t) (va_A [(oX10 w0 v0 v1 v2 v3 v4 g5 g6 (nI ed) g8 v9 (nI nb) g11 g12 v13 (nI ln) (nI (gP ti)) (nI (gR (ti + 1))) tk kw g19 g20 g21 (nI o9) g23 (nI cd) g25 g26 v27 v28 v29 v30 v31 v32 v33 v34 v35 v36 v37 (nI ol)), (v9, .inl (cA 0, 700, .inl fb)), (v13, .inl (cA 1, 15, .inr (.inl fkw)))] sz)) 0 0 (va_A [(oX10 w0 v0 v1 v2 v3 v4 g5 g6 (nI ed) g8 v9 (nI nb) g11 g12 v13 (nI ln) (nI (gP ti)) (nI (gR (ti + 1))) tk kw g19 g20 g21 (nI o9) g23 (nI cd) g25 g26 v27 v28 v29 v30 v31 v32 v33 v34 v35 v36 v37 (nI ol)), (v9, .inl (cA 0, 700, .inl fb)), (v13, .inl (cA 1, 15, .inr (.inl fkw)))] sz) := by
  refine Met.ofW (cc := cX10_opens) (maxL := 1) (ret := (some .boolean)) (by decide) rfl ?_
  intro p e s m args below meth c s₁ B hml hv
  obtain ⟨rfl, hsz, hP, hK, hD0, hC, hZ⟩ := hv
  have hx := B.exec
  have hb := B.bytes
  have hr := B.returns
  have hts := atoms_spec (ws := wsX10_opens) B.pre
  have hown : s.vm.findClass RX10 = some m.cls := findClass_of_methodNamed B.named
  have hlocks := B.notSynchronized
  subst hsz
  have hD := hD0.self (sz := s.heap.size)
  generalize hAe : va_A [(oX10 w0 v0 v1 v2 v3 v4 g5 g6 (nI ed) g8 v9 (nI nb) g11 g12 v13 (nI ln) (nI (gP ti)) (nI (gR (ti + 1))) tk kw g19 g20 g21 (nI o9) g23 (nI cd) g25 g26 v27 v28 v29 v30 v31 v32 v33 v34 v35 v36 v37 (nI ol)), (v9, .inl (cA 0, 700, .inl fb)), (v13, .inl (cA 1, 15, .inr (.inl fkw)))] s.heap.size = A at hD hZ ⊢
  have hA : ∀ q : Nat, s.heap.size ≤ q → A q := fun q h => by rw [← hAe]; exact Or.inr h
  have hS : va_S A s.heap s.heap [] := va_S.rf
  have hP : va_P D vwCl [(oX10 w0 v0 v1 v2 v3 v4 g5 g6 (nI ed) g8 v9 (nI nb) g11 g12 v13 (nI ln) (nI (gP ti)) (nI (gR (ti + 1))) tk kw g19 g20 g21 (nI o9) g23 (nI cd) g25 g26 v27 v28 v29 v30 v31 v32 v33 v34 v35 v36 v37 (nI ol)), (v9, .inl (cA 0, 700, .inl fb)), (v13, .inl (cA 1, 15, .inr (.inl fkw)))] s.heap := hP
  have hl := lv_entry ([.ref w0]) (n := 1) (Nat.le_of_ble_eq_true rfl)
  rw [lg_entry_eq]
  generalize (lg_sl ([.ref w0]) ++ List.replicate (1 - (lg_sl ([.ref w0])).length) Slot.unset).toArray = ls at hl ⊢
  have hl : lv_has ls 1 [(0, .ref w0)] := hl
  have inX10 : ∀ w ∈ u_ws RX10 TX10 39, w ∈ wsX10_opens := by decide +kernel
  refine lv_aload_n hx hb dX10_opens_0 rfl (lv_at hl 0 rfl) ?_
  refine va_get (D := D) (ci := 11) (v := .int (nI o9)) (C := RX10) (T := TX10) (N := 39) hx hb hts inX10 hown hK hP 0 rfl rfl 22 (by decide) (hts (.fieldLink RX10 182 "EscrowDeskModel" "open" "I") (by decide +kernel)) (fun _ h9 => h9) rfl dX10_opens_1 ?_
  refine lv_bipush (v := 8) hx hb dX10_opens_4 (by decide) ?_
  refine lv_icmp_ne (tgt := 15) hx hb dX10_opens_6 (by decide) (fun c9 => absurd c9 ((fun h9 => h9 ((nI_eq (a := o9) (b := 8) (by omega) (by omega)).mpr (by omega))))) (fun c1 => ?_)
  refine lv_aload_n hx hb dX10_opens_9 rfl (lv_at hl 0 rfl) ?_
  refine lv_iconst (v := 5) hx hb dX10_opens_10 (by decide) ?_
  obtain ⟨hPc, hDc, hFc⟩ := PDq.cut (wc := [(oX10 w0 v0 v1 v2 v3 v4 g5 g6 (nI ed) g8 v9 (nI nb) g11 g12 v13 (nI ln) (nI (gP ti)) (nI (gR (ti + 1))) tk kw g19 g20 g21 (nI o9) g23 (nI cd) g25 g26 v27 v28 v29 v30 v31 v32 v33 v34 v35 v36 v37 (nI ol))]) hP hD hS hA [0] (by decide) rfl
  refine va_calli (va_runV (As := [.int 5]) (rest := []) ⟨hx, hb, hml, hown, hts⟩ (y_fail l D cA sa w0 ed nb ol v0 v1 v2 v3 v4 v9 v13 v27 v28 v29 v30 v31 v32 v33 v34 v35 v36 v37 g8 g11 g12 g19 g20 g21 (nI o9) g23 g26 g5 g6 g25 ln cd tk kw ti ct fb gP gR gS gK gV 5 s.heap.size hln hct hti hTX hBY hTK) (cwV 1 hts gX10_opens_X10_fail rfl rfl rfl (by decide +kernel) ⟨(Nat.le_of_ble_eq_true rfl), (Nat.le_of_ble_eq_true rfl)⟩) ⟨Wd.blind, va_recv hK hPc (ci := 11) (q0 := 0) rfl rfl, fun U hU hW => ⟨rfl, Wd.call hPc hDc hK hC hZ hS hFc U hU hW⟩⟩ rfl rfl hl.1 rfl (lv_room (Nat.le_of_ble_eq_true rfl)) dX10_opens_11 ⟨(Nat.le_of_ble_eq_true rfl), (Nat.le_of_ble_eq_true rfl)⟩) hS (fun q _ h => hFc q h) hFc (fun rn2 u t H1 locs ht hvm hw hB hz1 hk1 hS => ?_)
  obtain ⟨zn3, hn4, hP1, hD1⟩ := hB
  rw [ht] at hP1
  obtain ⟨hP, hD⟩ := PDq.join (w := [(v9, .inl (cA 0, 700, .inl fb)), (v13, .inl (cA 1, 15, .inr (.inl fkw))), (oX10 w0 v0 v1 v2 v3 v4 g5 g6 (nI ed) g8 v9 (nI nb) g11 g12 v13 (nI ln) (nI (gP ti)) (nI (gR (ti + 1))) tk kw g19 zn3 (nI (gP ti)) (nI o9) g23 (nI cd) g25 g26 v27 v28 v29 v30 v31 v32 v33 v34 v35 v36 v37 (nI ol))]) 2 hP hD [0] [1, 2] rfl rfl (by decide) (by decide) hk1 hFc hP1 hD1 rfl
  generalize H1 = H at hP hS ⊢
  obtain rfl : rn2 = 0 := hw
  obtain ⟨hP9, hD9⟩ := PDq.sub (ws' := [(oX10 w0 v0 v1 v2 v3 v4 g5 g6 (nI ed) g8 v9 (nI nb) g11 g12 v13 (nI ln) (nI (gP ti)) (nI (gR (ti + 1))) tk kw g19 zn3 (nI (gP ti)) (nI o9) g23 (nI cd) g25 g26 v27 v28 v29 v30 v31 v32 v33 v34 v35 v36 v37 (nI ol)), (v9, .inl (cA 0, 700, .inl fb)), (v13, .inl (cA 1, 15, .inr (.inl fkw)))]) hP hD [2, 0, 1] (by decide) rfl
  refine W.widen (k := 0) (n := 0) (Nat.le_of_ble_eq_true rfl) (Nat.le_of_ble_eq_true rfl) ?_
  exact (W.zret (v := 0) hx hb hr (by first | rfl | decide) (fun t ht hW => ⟨⟨0, (), rfl, rfl, zn3, hn4, by rw [ht]; exact hP9, hD9⟩, hS.F ht⟩) hS.2.2 dX10_opens_14)

set_option maxHeartbeats 4000000 in
set_option maxRecDepth 100000 in
/-- reference: opens -/
theorem y_opens_S (l : Launch) (D : va_G) (cA : Nat → ClassId) (sa : Nat → Nat) (w0 : Nat) (ed : Nat) (nb : Nat) (ol : Nat) (v0 : Nat) (v1 : Nat) (v2 : Nat) (v3 : Nat) (v4 : Nat) (v9 : Nat) (v13 : Nat) (v27 : Nat) (v28 : Nat) (v29 : Nat) (v30 : Nat) (v31 : Nat) (v32 : Nat) (v33 : Nat) (v34 : Nat) (v35 : Nat) (v36 : Nat) (v37 : Nat) (g8 : Int32) (g11 : Int32) (g12 : Int32) (g19 : Int32) (g20 : Int32) (g21 : Int32) (g23 : Int32) (g26 : Int32) (g5 : Int64) (g6 : Int64) (g25 : Int64) (ln : Nat) (cd : Nat) (tk : Int32) (kw : Int32) (ti : Nat) (ct : Nat) (fb : Nat → Int32) (fkw : Nat → Int64) (gP : Nat → Nat) (gR : Nat → Nat) (gS : Nat → Int32) (gK : Nat → Int32) (gV : Nat → Int64) (o9 : Nat) (sz : Nat) (hln : ln ≤ 700) (hct : ct ≤ 701) (hti : ti < ct) (hTX : TX fb ln ct gP gR gS gV gK) (hBY : BYn ln fb) (hTK : TKR (gK ti) (gV ti) (fb (gP ti)) tk kw g19 g25) (hKW : KW 15 fkw) (ho : o9 < 8) (hnt : ti + 1 < ct) : Met l yX10_opens wsX10_opens ({ frames := 2, cells := 0, slots := 0, locals := 44 }) (va_Pc [.ref w0] (Wd D cA sa [(oX10 w0 v0 v1 v2 v3 v4 g5 g6 (nI ed) g8 v9 (nI nb) g11 g12 v13 (nI ln) (nI (gP ti)) (nI (gR (ti + 1))) tk kw g19 g20 g21 (nI o9) g23 (nI cd) g25 g26 v27 v28 v29 v30 v31 v32 v33 v34 v35 v36 v37 (nI ol)), (v9, .inl (cA 0, 700, .inl fb)), (v13, .inl (cA 1, 15, .inr (.inl fkw)))] sz)) (va_Qi (fun (r : Int32) (_ : Unit) => r = 1) (fun (_ : Unit) t => ∃ z17 : Int32, ∃ z18 : Int32, ∃ z19 : Int32, ∃ z25 : Int64, TKR (gK (ti + 1)) (gV (ti + 1)) (fb (gP (ti + 1))) z17 z18 z19 z25 ∧ Wq D (va_A [(oX10 w0 v0 v1 v2 v3 v4 g5 g6 (nI ed) g8 v9 (nI nb) g11 g12 v13 (nI ln) (nI (gP ti)) (nI (gR (ti + 1))) tk kw g19 g20 g21 (nI o9) g23 (nI cd) g25 g26 v27 v28 v29 v30 v31 v32 v33 v34 v35 v36 v37 (nI ol)), (v9, .inl (cA 0, 700, .inl fb)), (v13, .inl (cA 1, 15, .inr (.inl fkw)))] sz) [(oX10 w0 v0 v1 v2 v3 v4 g5 g6 (nI ed) g8 v9 (nI nb) g11 g12 v13 (nI ln) (nI (gP (ti + 1))) (nI (gR ((ti + 1) + 1))) z17 z18 z19 g20 g21 (nI (o9 + 1)) g23 (nI cd) z25 g26 v27 v28 v29 v30 v31 v32 v33 v34 v35 v36 v37 (nI ol)), (v9, .inl (cA 0, 700, .inl fb)), (v13, .inl (cA 1, 15, .inr (.inl fkw)))] t) (va_A [(oX10 w0 v0 v1 v2 v3 v4 g5 g6 (nI ed) g8 v9 (nI nb) g11 g12 v13 (nI ln) (nI (gP ti)) (nI (gR (ti + 1))) tk kw g19 g20 g21 (nI o9) g23 (nI cd) g25 g26 v27 v28 v29 v30 v31 v32 v33 v34 v35 v36 v37 (nI ol)), (v9, .inl (cA 0, 700, .inl fb)), (v13, .inl (cA 1, 15, .inr (.inl fkw)))] sz)) 0 0 (va_A [(oX10 w0 v0 v1 v2 v3 v4 g5 g6 (nI ed) g8 v9 (nI nb) g11 g12 v13 (nI ln) (nI (gP ti)) (nI (gR (ti + 1))) tk kw g19 g20 g21 (nI o9) g23 (nI cd) g25 g26 v27 v28 v29 v30 v31 v32 v33 v34 v35 v36 v37 (nI ol)), (v9, .inl (cA 0, 700, .inl fb)), (v13, .inl (cA 1, 15, .inr (.inl fkw)))] sz) := by
  refine Met.ofW (cc := cX10_opens) (maxL := 1) (ret := (some .boolean)) (by decide) rfl ?_
  intro p e s m args below meth c s₁ B hml hv
  obtain ⟨rfl, hsz, hP, hK, hD0, hC, hZ⟩ := hv
  have hx := B.exec
  have hb := B.bytes
  have hr := B.returns
  have hts := atoms_spec (ws := wsX10_opens) B.pre
  have hown : s.vm.findClass RX10 = some m.cls := findClass_of_methodNamed B.named
  have hlocks := B.notSynchronized
  subst hsz
  have hD := hD0.self (sz := s.heap.size)
  generalize hAe : va_A [(oX10 w0 v0 v1 v2 v3 v4 g5 g6 (nI ed) g8 v9 (nI nb) g11 g12 v13 (nI ln) (nI (gP ti)) (nI (gR (ti + 1))) tk kw g19 g20 g21 (nI o9) g23 (nI cd) g25 g26 v27 v28 v29 v30 v31 v32 v33 v34 v35 v36 v37 (nI ol)), (v9, .inl (cA 0, 700, .inl fb)), (v13, .inl (cA 1, 15, .inr (.inl fkw)))] s.heap.size = A at hD hZ ⊢
  have hA : ∀ q : Nat, s.heap.size ≤ q → A q := fun q h => by rw [← hAe]; exact Or.inr h
  have hS : va_S A s.heap s.heap [] := va_S.rf
  have hP : va_P D vwCl [(oX10 w0 v0 v1 v2 v3 v4 g5 g6 (nI ed) g8 v9 (nI nb) g11 g12 v13 (nI ln) (nI (gP ti)) (nI (gR (ti + 1))) tk kw g19 g20 g21 (nI o9) g23 (nI cd) g25 g26 v27 v28 v29 v30 v31 v32 v33 v34 v35 v36 v37 (nI ol)), (v9, .inl (cA 0, 700, .inl fb)), (v13, .inl (cA 1, 15, .inr (.inl fkw)))] s.heap := hP
  have hl := lv_entry ([.ref w0]) (n := 1) (Nat.le_of_ble_eq_true rfl)
  rw [lg_entry_eq]
  generalize (lg_sl ([.ref w0]) ++ List.replicate (1 - (lg_sl ([.ref w0])).length) Slot.unset).toArray = ls at hl ⊢
  have hl : lv_has ls 1 [(0, .ref w0)] := hl
  have inX10 : ∀ w ∈ u_ws RX10 TX10 39, w ∈ wsX10_opens := by decide +kernel
  have hle9 := TX.le hTX hti
  refine lv_aload_n hx hb dX10_opens_0 rfl (lv_at hl 0 rfl) ?_
  refine va_get (D := D) (ci := 11) (v := .int (nI o9)) (C := RX10) (T := TX10) (N := 39) hx hb hts inX10 hown hK hP 0 rfl rfl 22 (by decide) (hts (.fieldLink RX10 182 "EscrowDeskModel" "open" "I") (by decide +kernel)) (fun _ h9 => h9) rfl dX10_opens_1 ?_
  refine lv_bipush (v := 8) hx hb dX10_opens_4 (by decide) ?_
  refine lv_icmp_ne (tgt := 15) hx hb dX10_opens_6 (by decide) (fun c1 => ?_) (fun c9 => absurd c9 ((fun e9 => absurd ((nI_eq (a := o9) (b := 8) (by omega) (by omega)).mp e9) (by omega))))
  refine lv_aload_n hx hb dX10_opens_15 rfl (lv_at hl 0 rfl) ?_
  refine lv_dup hx hb dX10_opens_16 rfl ?_
  refine va_get (D := D) (ci := 11) (v := .int (nI o9)) (C := RX10) (T := TX10) (N := 39) hx hb hts inX10 hown hK hP 0 rfl rfl 22 (by decide) (hts (.fieldLink RX10 182 "EscrowDeskModel" "open" "I") (by decide +kernel)) (fun _ h9 => h9) rfl dX10_opens_17 ?_
  refine lv_iconst (v := 1) hx hb dX10_opens_20 (by decide) ?_
  refine lv_iadd hx hb dX10_opens_21 ?_
  refine lv_topi (fun yn2 eyn2 => ?_)
  obtain rfl : yn2 = (nI (o9 + 1)) := eyn2.trans (nI_add o9 1)
  refine va_put (D := D) (ci := 11) (v := .int (nI (o9 + 1))) (ty := .int) (C := RX10) (T := TX10) (N := 39) hx hb hts inX10 tyX10 tyX10_ok nmX10 hown hK hP hD hS 0 rfl rfl 22 (by decide) (hts (.fieldLink RX10 182 "EscrowDeskModel" "open" "I") (by decide +kernel)) (fun _ h9 => h9) rfl (by decide +kernel) rfl rfl (Nat.le_of_ble_eq_true rfl) dX10_opens_22 (fun H locs hP hD hS => ?_)
  obtain ⟨hP, hD⟩ : PDq D A [(oX10 w0 v0 v1 v2 v3 v4 g5 g6 (nI ed) g8 v9 (nI nb) g11 g12 v13 (nI ln) (nI (gP ti)) (nI (gR (ti + 1))) tk kw g19 g20 g21 (nI (o9 + 1)) g23 (nI cd) g25 g26 v27 v28 v29 v30 v31 v32 v33 v34 v35 v36 v37 (nI ol)), (v9, .inl (cA 0, 700, .inl fb)), (v13, .inl (cA 1, 15, .inr (.inl fkw)))] H := ⟨hP, hD⟩
  refine lv_aload_n hx hb dX10_opens_25 rfl (lv_at hl 0 rfl) ?_
  obtain ⟨hPc, hDc, hFc⟩ := PDq.cut (wc := [(oX10 w0 v0 v1 v2 v3 v4 g5 g6 (nI ed) g8 v9 (nI nb) g11 g12 v13 (nI ln) (nI (gP ti)) (nI (gR (ti + 1))) tk kw g19 g20 g21 (nI (o9 + 1)) g23 (nI cd) g25 g26 v27 v28 v29 v30 v31 v32 v33 v34 v35 v36 v37 (nI ol)), (v9, .inl (cA 0, 700, .inl fb)), (v13, .inl (cA 1, 15, .inr (.inl fkw)))]) hP hD hS hA [0, 1, 2] (by decide) rfl
  refine va_calli (va_runV (As := []) (rest := []) ⟨hx, hb, hml, hown, hts⟩ (y_advance l D cA sa w0 ed nb ol v0 v1 v2 v3 v4 v9 v13 v27 v28 v29 v30 v31 v32 v33 v34 v35 v36 v37 g8 g11 g12 (nI (gP ti)) tk kw g19 g20 g21 (nI (o9 + 1)) g23 (nI cd) g26 g5 g6 g25 ln (gR (ti + 1)) fb fkw (gP (ti + 1)) (gR ((ti + 1) + 1)) (gK (ti + 1)) (gV (ti + 1)) H.size hln (by omega) hKW hBY (TX.t hTX hnt)) (cwV 0 hts gX10_opens_X10_advance rfl rfl rfl (by decide +kernel) ⟨(Nat.le_of_ble_eq_true rfl), (Nat.le_of_ble_eq_true rfl)⟩) ⟨Wd.blind, va_recv hK hPc (ci := 11) (q0 := 0) rfl rfl, fun U hU hW => ⟨rfl, Wd.call hPc hDc hK hC hZ hS hFc U hU hW⟩⟩ rfl rfl hl.1 rfl (lv_room (Nat.le_of_ble_eq_true rfl)) dX10_opens_26 ⟨(Nat.le_of_ble_eq_true rfl), (Nat.le_of_ble_eq_true rfl)⟩) hS (fun q _ h => hFc q h) hFc (fun rn3 u t H1 locs ht hvm hw hB hz1 hk1 hS => ?_)
  obtain ⟨zn4, zn5, zn6, zn7, hn8, hP1, hD1⟩ := hB
  rw [ht] at hP1
  obtain ⟨hP, hD⟩ := PDq.join (w := [(oX10 w0 v0 v1 v2 v3 v4 g5 g6 (nI ed) g8 v9 (nI nb) g11 g12 v13 (nI ln) (nI (gP (ti + 1))) (nI (gR ((ti + 1) + 1))) zn4 zn5 zn6 g20 g21 (nI (o9 + 1)) g23 (nI cd) zn7 g26 v27 v28 v29 v30 v31 v32 v33 v34 v35 v36 v37 (nI ol)), (v9, .inl (cA 0, 700, .inl fb)), (v13, .inl (cA 1, 15, .inr (.inl fkw)))]) 0 hP hD [0, 1, 2] [] rfl rfl (by decide) (by decide) hk1 hFc hP1 hD1 rfl
  generalize H1 = H at hP hS ⊢
  obtain rfl : rn3 = 1 := hw
  obtain ⟨hP9, hD9⟩ := PDq.sub (ws' := [(oX10 w0 v0 v1 v2 v3 v4 g5 g6 (nI ed) g8 v9 (nI nb) g11 g12 v13 (nI ln) (nI (gP (ti + 1))) (nI (gR ((ti + 1) + 1))) zn4 zn5 zn6 g20 g21 (nI (o9 + 1)) g23 (nI cd) zn7 g26 v27 v28 v29 v30 v31 v32 v33 v34 v35 v36 v37 (nI ol)), (v9, .inl (cA 0, 700, .inl fb)), (v13, .inl (cA 1, 15, .inr (.inl fkw)))]) hP hD [0, 1, 2] (by decide) rfl
  refine W.widen (k := 0) (n := 0) (Nat.le_of_ble_eq_true rfl) (Nat.le_of_ble_eq_true rfl) ?_
  exact (W.zret (v := 1) hx hb hr (by first | rfl | decide) (fun t ht hW => ⟨⟨1, (), rfl, rfl, zn4, zn5, zn6, zn7, hn8, by rw [ht]; exact hP9, hD9⟩, hS.F ht⟩) hS.2.2 dX10_opens_29)

set_option maxHeartbeats 4000000 in
set_option maxRecDepth 100000 in
/-- reference: notFact -/
theorem y_notFact_B (l : Launch) (D : va_G) (cA : Nat → ClassId) (sa : Nat → Nat) (w0 : Nat) (ed : Nat) (nb : Nat) (ol : Nat) (v0 : Nat) (v1 : Nat) (v2 : Nat) (v3 : Nat) (v4 : Nat) (v9 : Nat) (v13 : Nat) (v27 : Nat) (v28 : Nat) (v29 : Nat) (v30 : Nat) (v31 : Nat) (v32 : Nat) (v33 : Nat) (v34 : Nat) (v35 : Nat) (v36 : Nat) (v37 : Nat) (g8 : Int32) (g11 : Int32) (g12 : Int32) (g19 : Int32) (g20 : Int32) (g21 : Int32) (g23 : Int32) (g26 : Int32) (g5 : Int64) (g6 : Int64) (g25 : Int64) (ln : Nat) (cd : Nat) (tk : Int32) (kw : Int32) (ti : Nat) (ct : Nat) (fb : Nat → Int32) (fkw : Nat → Int64) (gP : Nat → Nat) (gR : Nat → Nat) (gS : Nat → Int32) (gK : Nat → Int32) (gV : Nat → Int64) (cn : Nat) (pq : Nat) (en : Nat) (dy : Nat) (fp : Nat → Int32) (sl : Nat) (o9 : Nat) (l28 : Nat → Int64) (l30 : Nat → Int64) (fc : Nat → Int32) (ml : List Int64) (pl : List Int64) (sz : Nat) (hln : ln ≤ 700) (hct : ct ≤ 701) (hti : ti < ct) (hTX : TX fb ln ct gP gR gS gV gK) (hBY : BYn ln fb) (hTK : TKR (gK ti) (gV ti) (fb (gP ti)) tk kw g19 g25) (hKW : KW 15 fkw) (hcn : cn ≤ 10) (hpq : pq ≤ 8) (hen : en ≤ 60) (hdy : dy ≤ 20000) (hri : RI cn pq en dy fp) (hcd : 2 * cd + sl ≤ gP ti) (hNM : NL ml cn l28) (hNP : NL pl pq l30) (hk : gK ti = 16) (ho : o9 = 8) : Met l yX10_notFact wsX10_notFact ({ frames := 20, cells := 0, slots := 0, locals := 320 }) (va_Pc [.ref w0] (Wd D cA sa [(oX10 w0 v0 v1 v2 v3 v4 g5 g6 (nI ed) g8 v9 (nI nb) g11 g12 v13 (nI ln) (nI (gP ti)) (nI (gR (ti + 1))) tk kw g19 g20 g21 (nI o9) g23 (nI cd) g25 g26 v27 v28 v29 v30 v31 v32 v33 v34 v35 v36 v37 (nI ol)), (v1, .inl (cA 0, 326, .inl fp)), (v9, .inl (cA 0, 700, .inl fb)), (v13, .inl (cA 1, 15, .inr (.inl fkw))), (v28, .inl (cA 1, 10, .inr (.inl l28))), (v30, .inl (cA 1, 8, .inr (.inl l30))), (v32, .inl (cA 0, 400, .inl fc))] sz)) (va_Qi (fun (r : Int32) (u9 : Int32) => u9 = r ∧ (r = 0 ∨ r = 1)) (fun (u9 : Int32) t => ∃ tj : Nat, ∃ z17 : Int32, ∃ z18 : Int32, ∃ z19 : Int32, ∃ z20 : Int32, ∃ z21 : Int32, ∃ z26 : Int32, ∃ z25 : Int64, ∃ cd2 : Nat, ∃ pq2 : Nat, ∃ zop : Int32, ∃ zp : Nat → Int32, ∃ zc : Nat → Int32, ∃ zl : Nat → Int64, ∃ zpl : List Int64, tj < ct ∧ gP tj ≤ ln ∧ ti ≤ tj ∧ TKR (gK tj) (gV tj) (fb (gP tj)) z17 z18 z19 z25 ∧ pq2 ≤ 8 ∧ RI cn pq2 en dy zp ∧ NL zpl pq2 zl ∧ (u9 = 1 → zop = (nI o9)) ∧ (u9 = 1 → z20 = g20) ∧ (u9 = 1 → z21 = g21) ∧ (u9 = 1 → ti + 1 ≤ tj) ∧ (u9 = 1 → cd ≤ cd2) ∧ (u9 = 1 → 2 * cd2 + sl ≤ gP tj) ∧ (u9 = 1 → Kp cd fc zc) ∧ (u9 = 1 → Sg cd cd2 zc) ∧ (u9 = 1 → PRx gK gS gV ml 0 o9 ti pl (.inr (tj, zpl))) ∧ (u9 = 1 → CR9 gK gV 0 ti tj ml pl zpl cd cd2 fc zc) ∧ (u9 = 1 → K14 fp zp) ∧ (u9 = 0 → PRx gK gS gV ml 0 o9 ti pl (.inl (z20, z21))) ∧ Wq D (va_A [(oX10 w0 v0 v1 v2 v3 v4 g5 g6 (nI ed) g8 v9 (nI nb) g11 g12 v13 (nI ln) (nI (gP ti)) (nI (gR (ti + 1))) tk kw g19 g20 g21 (nI o9) g23 (nI cd) g25 g26 v27 v28 v29 v30 v31 v32 v33 v34 v35 v36 v37 (nI ol)), (v1, .inl (cA 0, 326, .inl fp)), (v9, .inl (cA 0, 700, .inl fb)), (v13, .inl (cA 1, 15, .inr (.inl fkw))), (v28, .inl (cA 1, 10, .inr (.inl l28))), (v30, .inl (cA 1, 8, .inr (.inl l30))), (v32, .inl (cA 0, 400, .inl fc))] sz) [(oX10 w0 v0 v1 v2 v3 v4 g5 g6 (nI ed) g8 v9 (nI nb) g11 g12 v13 (nI ln) (nI (gP tj)) (nI (gR (tj + 1))) z17 z18 z19 z20 z21 zop g23 (nI cd2) z25 z26 v27 v28 v29 v30 v31 v32 v33 v34 v35 v36 v37 (nI ol)), (v1, .inl (cA 0, 326, .inl zp)), (v9, .inl (cA 0, 700, .inl fb)), (v13, .inl (cA 1, 15, .inr (.inl fkw))), (v28, .inl (cA 1, 10, .inr (.inl l28))), (v30, .inl (cA 1, 8, .inr (.inl zl))), (v32, .inl (cA 0, 400, .inl zc))] t) (va_A [(oX10 w0 v0 v1 v2 v3 v4 g5 g6 (nI ed) g8 v9 (nI nb) g11 g12 v13 (nI ln) (nI (gP ti)) (nI (gR (ti + 1))) tk kw g19 g20 g21 (nI o9) g23 (nI cd) g25 g26 v27 v28 v29 v30 v31 v32 v33 v34 v35 v36 v37 (nI ol)), (v1, .inl (cA 0, 326, .inl fp)), (v9, .inl (cA 0, 700, .inl fb)), (v13, .inl (cA 1, 15, .inr (.inl fkw))), (v28, .inl (cA 1, 10, .inr (.inl l28))), (v30, .inl (cA 1, 8, .inr (.inl l30))), (v32, .inl (cA 0, 400, .inl fc))] sz)) 0 0 (va_A [(oX10 w0 v0 v1 v2 v3 v4 g5 g6 (nI ed) g8 v9 (nI nb) g11 g12 v13 (nI ln) (nI (gP ti)) (nI (gR (ti + 1))) tk kw g19 g20 g21 (nI o9) g23 (nI cd) g25 g26 v27 v28 v29 v30 v31 v32 v33 v34 v35 v36 v37 (nI ol)), (v1, .inl (cA 0, 326, .inl fp)), (v9, .inl (cA 0, 700, .inl fb)), (v13, .inl (cA 1, 15, .inr (.inl fkw))), (v28, .inl (cA 1, 10, .inr (.inl l28))), (v30, .inl (cA 1, 8, .inr (.inl l30))), (v32, .inl (cA 0, 400, .inl fc))] sz) := by
  refine Met.ofW (cc := cX10_notFact) (maxL := 1) (ret := (some .boolean)) (by decide) rfl ?_
  intro p e s m args below meth c s₁ B hml hv
  obtain ⟨rfl, hsz, hP, hK, hD0, hC, hZ⟩ := hv
  have hx := B.exec
  have hb := B.bytes
  have hr := B.returns
  have hts := atoms_spec (ws := wsX10_notFact) B.pre
  have hown : s.vm.findClass RX10 = some m.cls := findClass_of_methodNamed B.named
  have hlocks := B.notSynchronized
  subst hsz
  have hD := hD0.self (sz := s.heap.size)
  generalize hAe : va_A [(oX10 w0 v0 v1 v2 v3 v4 g5 g6 (nI ed) g8 v9 (nI nb) g11 g12 v13 (nI ln) (nI (gP ti)) (nI (gR (ti + 1))) tk kw g19 g20 g21 (nI o9) g23 (nI cd) g25 g26 v27 v28 v29 v30 v31 v32 v33 v34 v35 v36 v37 (nI ol)), (v1, .inl (cA 0, 326, .inl fp)), (v9, .inl (cA 0, 700, .inl fb)), (v13, .inl (cA 1, 15, .inr (.inl fkw))), (v28, .inl (cA 1, 10, .inr (.inl l28))), (v30, .inl (cA 1, 8, .inr (.inl l30))), (v32, .inl (cA 0, 400, .inl fc))] s.heap.size = A at hD hZ ⊢
  have hA : ∀ q : Nat, s.heap.size ≤ q → A q := fun q h => by rw [← hAe]; exact Or.inr h
  have hS : va_S A s.heap s.heap [] := va_S.rf
  have hP : va_P D vwCl [(oX10 w0 v0 v1 v2 v3 v4 g5 g6 (nI ed) g8 v9 (nI nb) g11 g12 v13 (nI ln) (nI (gP ti)) (nI (gR (ti + 1))) tk kw g19 g20 g21 (nI o9) g23 (nI cd) g25 g26 v27 v28 v29 v30 v31 v32 v33 v34 v35 v36 v37 (nI ol)), (v1, .inl (cA 0, 326, .inl fp)), (v9, .inl (cA 0, 700, .inl fb)), (v13, .inl (cA 1, 15, .inr (.inl fkw))), (v28, .inl (cA 1, 10, .inr (.inl l28))), (v30, .inl (cA 1, 8, .inr (.inl l30))), (v32, .inl (cA 0, 400, .inl fc))] s.heap := hP
  have hl := lv_entry ([.ref w0]) (n := 1) (Nat.le_of_ble_eq_true rfl)
  rw [lg_entry_eq]
  generalize (lg_sl ([.ref w0]) ++ List.replicate (1 - (lg_sl ([.ref w0])).length) Slot.unset).toArray = ls at hl ⊢
  have hl : lv_has ls 1 [(0, .ref w0)] := hl
  have hle9 := TX.le hTX hti
  have hn1 := TX.go2 hTX hti (by rw [hk]; decide)
  have hn1b := TX.le hTX hn1.1
  refine lv_aload_n hx hb dX10_notFact_0 rfl (lv_at hl 0 rfl) ?_
  obtain ⟨hPc, hDc, hFc⟩ := PDq.cut (wc := [(oX10 w0 v0 v1 v2 v3 v4 g5 g6 (nI ed) g8 v9 (nI nb) g11 g12 v13 (nI ln) (nI (gP ti)) (nI (gR (ti + 1))) tk kw g19 g20 g21 (nI o9) g23 (nI cd) g25 g26 v27 v28 v29 v30 v31 v32 v33 v34 v35 v36 v37 (nI ol)), (v9, .inl (cA 0, 700, .inl fb)), (v13, .inl (cA 1, 15, .inr (.inl fkw)))]) hP hD hS hA [0, 2, 3] (by decide) rfl
  refine va_calli (va_runV (As := []) (rest := []) ⟨hx, hb, hml, hown, hts⟩ (y_opens_B l D cA sa w0 ed nb ol v0 v1 v2 v3 v4 v9 v13 v27 v28 v29 v30 v31 v32 v33 v34 v35 v36 v37 g8 g11 g12 g19 g20 g21 g23 g26 g5 g6 g25 ln cd tk kw ti ct fb fkw gP gR gS gK gV o9 s.heap.size hln hct hti hTX hBY hTK ho) (cwV 0 hts gX10_notFact_X10_opens rfl rfl rfl (by decide +kernel) ⟨by show (1) + 1 ≤ 20; omega, by show 8 + (1 + 11) + (21) ≤ 320; omega⟩) ⟨Wd.blind, va_recv hK hPc (ci := 11) (q0 := 0) rfl rfl, fun U hU hW => ⟨rfl, Wd.call hPc hDc hK hC hZ hS hFc U hU hW⟩⟩ rfl rfl hl.1 rfl (lv_room (Nat.le_of_ble_eq_true rfl)) dX10_notFact_1 ⟨(Nat.le_of_ble_eq_true rfl), (Nat.le_of_ble_eq_true rfl)⟩) hS (fun q _ h => hFc q h) hFc (fun rn2 u t H1 locs ht hvm hw hB hz1 hk1 hS => ?_)
  obtain ⟨zn3, hn4, hP1, hD1⟩ := hB
  rw [ht] at hP1
  obtain ⟨hP, hD⟩ := PDq.join (w := [(v1, .inl (cA 0, 326, .inl fp)), (v28, .inl (cA 1, 10, .inr (.inl l28))), (v30, .inl (cA 1, 8, .inr (.inl l30))), (v32, .inl (cA 0, 400, .inl fc)), (oX10 w0 v0 v1 v2 v3 v4 g5 g6 (nI ed) g8 v9 (nI nb) g11 g12 v13 (nI ln) (nI (gP ti)) (nI (gR (ti + 1))) tk kw g19 zn3 (nI (gP ti)) (nI o9) g23 (nI cd) g25 g26 v27 v28 v29 v30 v31 v32 v33 v34 v35 v36 v37 (nI ol)), (v9, .inl (cA 0, 700, .inl fb)), (v13, .inl (cA 1, 15, .inr (.inl fkw)))]) 4 hP hD [0, 2, 3] [1, 4, 5, 6] rfl rfl (by decide) (by decide) hk1 hFc hP1 hD1 rfl
  generalize H1 = H at hP hS ⊢
  obtain rfl : rn2 = 0 := hw
  refine lv_if_eq (tgt := 14) hx hb dX10_notFact_4 (by decide) (fun c5 => ?_) (fun c9 => absurd c9 (by decide))
  refine lv_iconst (v := 0) hx hb dX10_notFact_14 (by decide) ?_
  obtain ⟨hP9, hD9⟩ := PDq.sub (ws' := [(oX10 w0 v0 v1 v2 v3 v4 g5 g6 (nI ed) g8 v9 (nI nb) g11 g12 v13 (nI ln) (nI (gP ti)) (nI (gR (ti + 1))) tk kw g19 zn3 (nI (gP ti)) (nI o9) g23 (nI cd) g25 g26 v27 v28 v29 v30 v31 v32 v33 v34 v35 v36 v37 (nI ol)), (v1, .inl (cA 0, 326, .inl fp)), (v9, .inl (cA 0, 700, .inl fb)), (v13, .inl (cA 1, 15, .inr (.inl fkw))), (v28, .inl (cA 1, 10, .inr (.inl l28))), (v30, .inl (cA 1, 8, .inr (.inl l30))), (v32, .inl (cA 0, 400, .inl fc))]) hP hD [4, 0, 5, 6, 1, 2, 3] (by decide) rfl
  refine W.widen (k := 0) (n := 0) (Nat.le_of_ble_eq_true rfl) (Nat.le_of_ble_eq_true rfl) ?_
  exact (W.zret (v := 0) hx hb hr (by first | rfl | decide) (fun t ht hW => ⟨⟨0, 0, rfl, ⟨rfl, by decide⟩, ti, tk, kw, g19, zn3, (nI (gP ti)), g26, g25, cd, pq, (nI o9), fp, fc, l30, pl, hti, (by omega), (by omega), hTK, hpq, hri, hNP, (fun h9 => absurd h9 (by decide)), (fun h9 => absurd h9 (by decide)), (fun h9 => absurd h9 (by decide)), (fun h9 => absurd h9 (by decide)), (fun h9 => absurd h9 (by decide)), (fun h9 => absurd h9 (by decide)), (fun h9 => absurd h9 (by decide)), (fun h9 => absurd h9 (by decide)), (fun h9 => absurd h9 (by decide)), (fun h9 => absurd h9 (by decide)), (fun h9 => absurd h9 (by decide)), (fun _ => (P_manyx (Or.inl hk) (by omega) hn4 (TX.s hTX (show ti < ct by omega)))), by rw [ht]; exact hP9, hD9⟩, hS.F ht⟩) hS.2.2 dX10_notFact_15)

set_option maxHeartbeats 4000000 in
set_option maxRecDepth 100000 in
/-- reference: bracket -/
theorem y_bracket_B (l : Launch) (D : va_G) (cA : Nat → ClassId) (sa : Nat → Nat) (w0 : Nat) (ed : Nat) (nb : Nat) (ol : Nat) (v0 : Nat) (v1 : Nat) (v2 : Nat) (v3 : Nat) (v4 : Nat) (v9 : Nat) (v13 : Nat) (v27 : Nat) (v28 : Nat) (v29 : Nat) (v30 : Nat) (v31 : Nat) (v32 : Nat) (v33 : Nat) (v34 : Nat) (v35 : Nat) (v36 : Nat) (v37 : Nat) (g8 : Int32) (g11 : Int32) (g12 : Int32) (g19 : Int32) (g20 : Int32) (g21 : Int32) (g23 : Int32) (g26 : Int32) (g5 : Int64) (g6 : Int64) (g25 : Int64) (ln : Nat) (cd : Nat) (tk : Int32) (kw : Int32) (ti : Nat) (ct : Nat) (fb : Nat → Int32) (fkw : Nat → Int64) (gP : Nat → Nat) (gR : Nat → Nat) (gS : Nat → Int32) (gK : Nat → Int32) (gV : Nat → Int64) (cn : Nat) (pq : Nat) (en : Nat) (dy : Nat) (fp : Nat → Int32) (sl : Nat) (o9 : Nat) (l28 : Nat → Int64) (l30 : Nat → Int64) (fc : Nat → Int32) (ml : List Int64) (pl : List Int64) (sz : Nat) (hln : ln ≤ 700) (hct : ct ≤ 701) (hti : ti < ct) (hTX : TX fb ln ct gP gR gS gV gK) (hBY : BYn ln fb) (hTK : TKR (gK ti) (gV ti) (fb (gP ti)) tk kw g19 g25) (hKW : KW 15 fkw) (hcn : cn ≤ 10) (hpq : pq ≤ 8) (hen : en ≤ 60) (hdy : dy ≤ 20000) (hri : RI cn pq en dy fp) (hcd : 2 * cd + sl ≤ gP ti) (hNM : NL ml cn l28) (hNP : NL pl pq l30) (hk : gK ti = 5) (ho : o9 = 8) : Met l yX10_bracket wsX10_bracket ({ frames := 20, cells := 0, slots := 0, locals := 320 }) (va_Pc [.ref w0] (Wd D cA sa [(oX10 w0 v0 v1 v2 v3 v4 g5 g6 (nI ed) g8 v9 (nI nb) g11 g12 v13 (nI ln) (nI (gP ti)) (nI (gR (ti + 1))) tk kw g19 g20 g21 (nI o9) g23 (nI cd) g25 g26 v27 v28 v29 v30 v31 v32 v33 v34 v35 v36 v37 (nI ol)), (v1, .inl (cA 0, 326, .inl fp)), (v9, .inl (cA 0, 700, .inl fb)), (v13, .inl (cA 1, 15, .inr (.inl fkw))), (v28, .inl (cA 1, 10, .inr (.inl l28))), (v30, .inl (cA 1, 8, .inr (.inl l30))), (v32, .inl (cA 0, 400, .inl fc))] sz)) (va_Qi (fun (r : Int32) (u9 : Int32) => u9 = r ∧ (r = 0 ∨ r = 1)) (fun (u9 : Int32) t => ∃ tj : Nat, ∃ z17 : Int32, ∃ z18 : Int32, ∃ z19 : Int32, ∃ z20 : Int32, ∃ z21 : Int32, ∃ z26 : Int32, ∃ z25 : Int64, ∃ cd2 : Nat, ∃ pq2 : Nat, ∃ zop : Int32, ∃ zp : Nat → Int32, ∃ zc : Nat → Int32, ∃ zl : Nat → Int64, ∃ zpl : List Int64, tj < ct ∧ gP tj ≤ ln ∧ ti ≤ tj ∧ TKR (gK tj) (gV tj) (fb (gP tj)) z17 z18 z19 z25 ∧ pq2 ≤ 8 ∧ RI cn pq2 en dy zp ∧ NL zpl pq2 zl ∧ (u9 = 1 → zop = (nI o9)) ∧ (u9 = 1 → z20 = g20) ∧ (u9 = 1 → z21 = g21) ∧ (u9 = 1 → ti + 1 ≤ tj) ∧ (u9 = 1 → cd ≤ cd2) ∧ (u9 = 1 → 2 * cd2 + sl ≤ gP tj) ∧ (u9 = 1 → Kp cd fc zc) ∧ (u9 = 1 → Sg cd cd2 zc) ∧ (u9 = 1 → PRx gK gS gV ml 0 o9 ti pl (.inr (tj, zpl))) ∧ (u9 = 1 → CR9 gK gV 0 ti tj ml pl zpl cd cd2 fc zc) ∧ (u9 = 1 → K14 fp zp) ∧ (u9 = 0 → PRx gK gS gV ml 0 o9 ti pl (.inl (z20, z21))) ∧ Wq D (va_A [(oX10 w0 v0 v1 v2 v3 v4 g5 g6 (nI ed) g8 v9 (nI nb) g11 g12 v13 (nI ln) (nI (gP ti)) (nI (gR (ti + 1))) tk kw g19 g20 g21 (nI o9) g23 (nI cd) g25 g26 v27 v28 v29 v30 v31 v32 v33 v34 v35 v36 v37 (nI ol)), (v1, .inl (cA 0, 326, .inl fp)), (v9, .inl (cA 0, 700, .inl fb)), (v13, .inl (cA 1, 15, .inr (.inl fkw))), (v28, .inl (cA 1, 10, .inr (.inl l28))), (v30, .inl (cA 1, 8, .inr (.inl l30))), (v32, .inl (cA 0, 400, .inl fc))] sz) [(oX10 w0 v0 v1 v2 v3 v4 g5 g6 (nI ed) g8 v9 (nI nb) g11 g12 v13 (nI ln) (nI (gP tj)) (nI (gR (tj + 1))) z17 z18 z19 z20 z21 zop g23 (nI cd2) z25 z26 v27 v28 v29 v30 v31 v32 v33 v34 v35 v36 v37 (nI ol)), (v1, .inl (cA 0, 326, .inl zp)), (v9, .inl (cA 0, 700, .inl fb)), (v13, .inl (cA 1, 15, .inr (.inl fkw))), (v28, .inl (cA 1, 10, .inr (.inl l28))), (v30, .inl (cA 1, 8, .inr (.inl zl))), (v32, .inl (cA 0, 400, .inl zc))] t) (va_A [(oX10 w0 v0 v1 v2 v3 v4 g5 g6 (nI ed) g8 v9 (nI nb) g11 g12 v13 (nI ln) (nI (gP ti)) (nI (gR (ti + 1))) tk kw g19 g20 g21 (nI o9) g23 (nI cd) g25 g26 v27 v28 v29 v30 v31 v32 v33 v34 v35 v36 v37 (nI ol)), (v1, .inl (cA 0, 326, .inl fp)), (v9, .inl (cA 0, 700, .inl fb)), (v13, .inl (cA 1, 15, .inr (.inl fkw))), (v28, .inl (cA 1, 10, .inr (.inl l28))), (v30, .inl (cA 1, 8, .inr (.inl l30))), (v32, .inl (cA 0, 400, .inl fc))] sz)) 0 0 (va_A [(oX10 w0 v0 v1 v2 v3 v4 g5 g6 (nI ed) g8 v9 (nI nb) g11 g12 v13 (nI ln) (nI (gP ti)) (nI (gR (ti + 1))) tk kw g19 g20 g21 (nI o9) g23 (nI cd) g25 g26 v27 v28 v29 v30 v31 v32 v33 v34 v35 v36 v37 (nI ol)), (v1, .inl (cA 0, 326, .inl fp)), (v9, .inl (cA 0, 700, .inl fb)), (v13, .inl (cA 1, 15, .inr (.inl fkw))), (v28, .inl (cA 1, 10, .inr (.inl l28))), (v30, .inl (cA 1, 8, .inr (.inl l30))), (v32, .inl (cA 0, 400, .inl fc))] sz) := by
  refine Met.ofW (cc := cX10_bracket) (maxL := 1) (ret := (some .boolean)) (by decide) rfl ?_
  intro p e s m args below meth c s₁ B hml hv
  obtain ⟨rfl, hsz, hP, hK, hD0, hC, hZ⟩ := hv
  have hx := B.exec
  have hb := B.bytes
  have hr := B.returns
  have hts := atoms_spec (ws := wsX10_bracket) B.pre
  have hown : s.vm.findClass RX10 = some m.cls := findClass_of_methodNamed B.named
  have hlocks := B.notSynchronized
  subst hsz
  have hD := hD0.self (sz := s.heap.size)
  generalize hAe : va_A [(oX10 w0 v0 v1 v2 v3 v4 g5 g6 (nI ed) g8 v9 (nI nb) g11 g12 v13 (nI ln) (nI (gP ti)) (nI (gR (ti + 1))) tk kw g19 g20 g21 (nI o9) g23 (nI cd) g25 g26 v27 v28 v29 v30 v31 v32 v33 v34 v35 v36 v37 (nI ol)), (v1, .inl (cA 0, 326, .inl fp)), (v9, .inl (cA 0, 700, .inl fb)), (v13, .inl (cA 1, 15, .inr (.inl fkw))), (v28, .inl (cA 1, 10, .inr (.inl l28))), (v30, .inl (cA 1, 8, .inr (.inl l30))), (v32, .inl (cA 0, 400, .inl fc))] s.heap.size = A at hD hZ ⊢
  have hA : ∀ q : Nat, s.heap.size ≤ q → A q := fun q h => by rw [← hAe]; exact Or.inr h
  have hS : va_S A s.heap s.heap [] := va_S.rf
  have hP : va_P D vwCl [(oX10 w0 v0 v1 v2 v3 v4 g5 g6 (nI ed) g8 v9 (nI nb) g11 g12 v13 (nI ln) (nI (gP ti)) (nI (gR (ti + 1))) tk kw g19 g20 g21 (nI o9) g23 (nI cd) g25 g26 v27 v28 v29 v30 v31 v32 v33 v34 v35 v36 v37 (nI ol)), (v1, .inl (cA 0, 326, .inl fp)), (v9, .inl (cA 0, 700, .inl fb)), (v13, .inl (cA 1, 15, .inr (.inl fkw))), (v28, .inl (cA 1, 10, .inr (.inl l28))), (v30, .inl (cA 1, 8, .inr (.inl l30))), (v32, .inl (cA 0, 400, .inl fc))] s.heap := hP
  have hl := lv_entry ([.ref w0]) (n := 1) (Nat.le_of_ble_eq_true rfl)
  rw [lg_entry_eq]
  generalize (lg_sl ([.ref w0]) ++ List.replicate (1 - (lg_sl ([.ref w0])).length) Slot.unset).toArray = ls at hl ⊢
  have hl : lv_has ls 1 [(0, .ref w0)] := hl
  have hle9 := TX.le hTX hti
  have hn1 := TX.go hTX hti (by rw [hk]; decide)
  have hn1b := TX.le hTX hn1.1
  refine lv_aload_n hx hb dX10_bracket_0 rfl (lv_at hl 0 rfl) ?_
  obtain ⟨hPc, hDc, hFc⟩ := PDq.cut (wc := [(oX10 w0 v0 v1 v2 v3 v4 g5 g6 (nI ed) g8 v9 (nI nb) g11 g12 v13 (nI ln) (nI (gP ti)) (nI (gR (ti + 1))) tk kw g19 g20 g21 (nI o9) g23 (nI cd) g25 g26 v27 v28 v29 v30 v31 v32 v33 v34 v35 v36 v37 (nI ol)), (v9, .inl (cA 0, 700, .inl fb)), (v13, .inl (cA 1, 15, .inr (.inl fkw)))]) hP hD hS hA [0, 2, 3] (by decide) rfl
  refine va_calli (va_runV (As := []) (rest := []) ⟨hx, hb, hml, hown, hts⟩ (y_opens_B l D cA sa w0 ed nb ol v0 v1 v2 v3 v4 v9 v13 v27 v28 v29 v30 v31 v32 v33 v34 v35 v36 v37 g8 g11 g12 g19 g20 g21 g23 g26 g5 g6 g25 ln cd tk kw ti ct fb fkw gP gR gS gK gV o9 s.heap.size hln hct hti hTX hBY hTK ho) (cwV 0 hts gX10_bracket_X10_opens rfl rfl rfl (by decide +kernel) ⟨by show (1) + 1 ≤ 20; omega, by show 8 + (1 + 11) + (21) ≤ 320; omega⟩) ⟨Wd.blind, va_recv hK hPc (ci := 11) (q0 := 0) rfl rfl, fun U hU hW => ⟨rfl, Wd.call hPc hDc hK hC hZ hS hFc U hU hW⟩⟩ rfl rfl hl.1 rfl (lv_room (Nat.le_of_ble_eq_true rfl)) dX10_bracket_1 ⟨(Nat.le_of_ble_eq_true rfl), (Nat.le_of_ble_eq_true rfl)⟩) hS (fun q _ h => hFc q h) hFc (fun rn2 u t H1 locs ht hvm hw hB hz1 hk1 hS => ?_)
  obtain ⟨zn3, hn4, hP1, hD1⟩ := hB
  rw [ht] at hP1
  obtain ⟨hP, hD⟩ := PDq.join (w := [(v1, .inl (cA 0, 326, .inl fp)), (v28, .inl (cA 1, 10, .inr (.inl l28))), (v30, .inl (cA 1, 8, .inr (.inl l30))), (v32, .inl (cA 0, 400, .inl fc)), (oX10 w0 v0 v1 v2 v3 v4 g5 g6 (nI ed) g8 v9 (nI nb) g11 g12 v13 (nI ln) (nI (gP ti)) (nI (gR (ti + 1))) tk kw g19 zn3 (nI (gP ti)) (nI o9) g23 (nI cd) g25 g26 v27 v28 v29 v30 v31 v32 v33 v34 v35 v36 v37 (nI ol)), (v9, .inl (cA 0, 700, .inl fb)), (v13, .inl (cA 1, 15, .inr (.inl fkw)))]) 4 hP hD [0, 2, 3] [1, 4, 5, 6] rfl rfl (by decide) (by decide) hk1 hFc hP1 hD1 rfl
  generalize H1 = H at hP hS ⊢
  obtain rfl : rn2 = 0 := hw
  refine lv_if_eq (tgt := 14) hx hb dX10_bracket_4 (by decide) (fun c5 => ?_) (fun c9 => absurd c9 (by decide))
  refine lv_iconst (v := 0) hx hb dX10_bracket_14 (by decide) ?_
  obtain ⟨hP9, hD9⟩ := PDq.sub (ws' := [(oX10 w0 v0 v1 v2 v3 v4 g5 g6 (nI ed) g8 v9 (nI nb) g11 g12 v13 (nI ln) (nI (gP ti)) (nI (gR (ti + 1))) tk kw g19 zn3 (nI (gP ti)) (nI o9) g23 (nI cd) g25 g26 v27 v28 v29 v30 v31 v32 v33 v34 v35 v36 v37 (nI ol)), (v1, .inl (cA 0, 326, .inl fp)), (v9, .inl (cA 0, 700, .inl fb)), (v13, .inl (cA 1, 15, .inr (.inl fkw))), (v28, .inl (cA 1, 10, .inr (.inl l28))), (v30, .inl (cA 1, 8, .inr (.inl l30))), (v32, .inl (cA 0, 400, .inl fc))]) hP hD [4, 0, 5, 6, 1, 2, 3] (by decide) rfl
  refine W.widen (k := 0) (n := 0) (Nat.le_of_ble_eq_true rfl) (Nat.le_of_ble_eq_true rfl) ?_
  exact (W.zret (v := 0) hx hb hr (by first | rfl | decide) (fun t ht hW => ⟨⟨0, 0, rfl, ⟨rfl, by decide⟩, ti, tk, kw, g19, zn3, (nI (gP ti)), g26, g25, cd, pq, (nI o9), fp, fc, l30, pl, hti, (by omega), (by omega), hTK, hpq, hri, hNP, (fun h9 => absurd h9 (by decide)), (fun h9 => absurd h9 (by decide)), (fun h9 => absurd h9 (by decide)), (fun h9 => absurd h9 (by decide)), (fun h9 => absurd h9 (by decide)), (fun h9 => absurd h9 (by decide)), (fun h9 => absurd h9 (by decide)), (fun h9 => absurd h9 (by decide)), (fun h9 => absurd h9 (by decide)), (fun h9 => absurd h9 (by decide)), (fun h9 => absurd h9 (by decide)), (fun _ => (P_manyx (Or.inr hk) (by omega) hn4 (TX.s hTX (show ti < ct by omega)))), by rw [ht]; exact hP9, hD9⟩, hS.F ht⟩) hS.2.2 dX10_bracket_15)

set_option maxHeartbeats 4000000 in
set_option maxRecDepth 100000 in
/-- reference: fact -/
theorem y_fact_B (l : Launch) (D : va_G) (cA : Nat → ClassId) (sa : Nat → Nat) (w0 : Nat) (ed : Nat) (nb : Nat) (ol : Nat) (v0 : Nat) (v1 : Nat) (v2 : Nat) (v3 : Nat) (v4 : Nat) (v9 : Nat) (v13 : Nat) (v27 : Nat) (v28 : Nat) (v29 : Nat) (v30 : Nat) (v31 : Nat) (v32 : Nat) (v33 : Nat) (v34 : Nat) (v35 : Nat) (v36 : Nat) (v37 : Nat) (g8 : Int32) (g11 : Int32) (g12 : Int32) (g19 : Int32) (g20 : Int32) (g21 : Int32) (g23 : Int32) (g26 : Int32) (g5 : Int64) (g6 : Int64) (g25 : Int64) (ln : Nat) (cd : Nat) (tk : Int32) (kw : Int32) (ti : Nat) (ct : Nat) (fb : Nat → Int32) (fkw : Nat → Int64) (gP : Nat → Nat) (gR : Nat → Nat) (gS : Nat → Int32) (gK : Nat → Int32) (gV : Nat → Int64) (cn : Nat) (pq : Nat) (en : Nat) (dy : Nat) (fp : Nat → Int32) (sl : Nat) (o9 : Nat) (l28 : Nat → Int64) (l30 : Nat → Int64) (fc : Nat → Int32) (ml : List Int64) (pl : List Int64) (sz : Nat) (hln : ln ≤ 700) (hct : ct ≤ 701) (hti : ti < ct) (hTX : TX fb ln ct gP gR gS gV gK) (hBY : BYn ln fb) (hTK : TKR (gK ti) (gV ti) (fb (gP ti)) tk kw g19 g25) (hKW : KW 15 fkw) (hcn : cn ≤ 10) (hpq : pq ≤ 8) (hen : en ≤ 60) (hdy : dy ≤ 20000) (hri : RI cn pq en dy fp) (hcd : 2 * cd + sl ≤ gP ti) (hNM : NL ml cn l28) (hNP : NL pl pq l30) (ho : o9 = 8) : Met l yX10_fact wsX10_fact ({ frames := 21, cells := 0, slots := 0, locals := 340 }) (va_Pc [.ref w0] (Wd D cA sa [(oX10 w0 v0 v1 v2 v3 v4 g5 g6 (nI ed) g8 v9 (nI nb) g11 g12 v13 (nI ln) (nI (gP ti)) (nI (gR (ti + 1))) tk kw g19 g20 g21 (nI o9) g23 (nI cd) g25 g26 v27 v28 v29 v30 v31 v32 v33 v34 v35 v36 v37 (nI ol)), (v1, .inl (cA 0, 326, .inl fp)), (v9, .inl (cA 0, 700, .inl fb)), (v13, .inl (cA 1, 15, .inr (.inl fkw))), (v28, .inl (cA 1, 10, .inr (.inl l28))), (v30, .inl (cA 1, 8, .inr (.inl l30))), (v32, .inl (cA 0, 400, .inl fc))] sz)) (va_Qi (fun (r : Int32) (u9 : Int32) => u9 = r ∧ (r = 0 ∨ r = 1)) (fun (u9 : Int32) t => ∃ tj : Nat, ∃ z17 : Int32, ∃ z18 : Int32, ∃ z19 : Int32, ∃ z20 : Int32, ∃ z21 : Int32, ∃ z26 : Int32, ∃ z25 : Int64, ∃ cd2 : Nat, ∃ pq2 : Nat, ∃ zop : Int32, ∃ zp : Nat → Int32, ∃ zc : Nat → Int32, ∃ zl : Nat → Int64, ∃ zpl : List Int64, tj < ct ∧ gP tj ≤ ln ∧ ti ≤ tj ∧ TKR (gK tj) (gV tj) (fb (gP tj)) z17 z18 z19 z25 ∧ pq2 ≤ 8 ∧ RI cn pq2 en dy zp ∧ NL zpl pq2 zl ∧ (u9 = 1 → zop = (nI o9)) ∧ (u9 = 1 → z20 = g20) ∧ (u9 = 1 → z21 = g21) ∧ (u9 = 1 → ti + 1 ≤ tj) ∧ (u9 = 1 → cd ≤ cd2) ∧ (u9 = 1 → 2 * cd2 + sl ≤ gP tj) ∧ (u9 = 1 → Kp cd fc zc) ∧ (u9 = 1 → Sg cd cd2 zc) ∧ (u9 = 1 → PRx gK gS gV ml 0 o9 ti pl (.inr (tj, zpl))) ∧ (u9 = 1 → CR9 gK gV 0 ti tj ml pl zpl cd cd2 fc zc) ∧ (u9 = 1 → K14 fp zp) ∧ (u9 = 0 → PRx gK gS gV ml 0 o9 ti pl (.inl (z20, z21))) ∧ Wq D (va_A [(oX10 w0 v0 v1 v2 v3 v4 g5 g6 (nI ed) g8 v9 (nI nb) g11 g12 v13 (nI ln) (nI (gP ti)) (nI (gR (ti + 1))) tk kw g19 g20 g21 (nI o9) g23 (nI cd) g25 g26 v27 v28 v29 v30 v31 v32 v33 v34 v35 v36 v37 (nI ol)), (v1, .inl (cA 0, 326, .inl fp)), (v9, .inl (cA 0, 700, .inl fb)), (v13, .inl (cA 1, 15, .inr (.inl fkw))), (v28, .inl (cA 1, 10, .inr (.inl l28))), (v30, .inl (cA 1, 8, .inr (.inl l30))), (v32, .inl (cA 0, 400, .inl fc))] sz) [(oX10 w0 v0 v1 v2 v3 v4 g5 g6 (nI ed) g8 v9 (nI nb) g11 g12 v13 (nI ln) (nI (gP tj)) (nI (gR (tj + 1))) z17 z18 z19 z20 z21 zop g23 (nI cd2) z25 z26 v27 v28 v29 v30 v31 v32 v33 v34 v35 v36 v37 (nI ol)), (v1, .inl (cA 0, 326, .inl zp)), (v9, .inl (cA 0, 700, .inl fb)), (v13, .inl (cA 1, 15, .inr (.inl fkw))), (v28, .inl (cA 1, 10, .inr (.inl l28))), (v30, .inl (cA 1, 8, .inr (.inl zl))), (v32, .inl (cA 0, 400, .inl zc))] t) (va_A [(oX10 w0 v0 v1 v2 v3 v4 g5 g6 (nI ed) g8 v9 (nI nb) g11 g12 v13 (nI ln) (nI (gP ti)) (nI (gR (ti + 1))) tk kw g19 g20 g21 (nI o9) g23 (nI cd) g25 g26 v27 v28 v29 v30 v31 v32 v33 v34 v35 v36 v37 (nI ol)), (v1, .inl (cA 0, 326, .inl fp)), (v9, .inl (cA 0, 700, .inl fb)), (v13, .inl (cA 1, 15, .inr (.inl fkw))), (v28, .inl (cA 1, 10, .inr (.inl l28))), (v30, .inl (cA 1, 8, .inr (.inl l30))), (v32, .inl (cA 0, 400, .inl fc))] sz)) 0 0 (va_A [(oX10 w0 v0 v1 v2 v3 v4 g5 g6 (nI ed) g8 v9 (nI nb) g11 g12 v13 (nI ln) (nI (gP ti)) (nI (gR (ti + 1))) tk kw g19 g20 g21 (nI o9) g23 (nI cd) g25 g26 v27 v28 v29 v30 v31 v32 v33 v34 v35 v36 v37 (nI ol)), (v1, .inl (cA 0, 326, .inl fp)), (v9, .inl (cA 0, 700, .inl fb)), (v13, .inl (cA 1, 15, .inr (.inl fkw))), (v28, .inl (cA 1, 10, .inr (.inl l28))), (v30, .inl (cA 1, 8, .inr (.inl l30))), (v32, .inl (cA 0, 400, .inl fc))] sz) := by
  refine Met.ofW (cc := cX10_fact) (maxL := 1) (ret := (some .boolean)) (by decide) rfl ?_
  intro p e s m args below meth c s₁ B hml hv
  obtain ⟨rfl, hsz, hP, hK, hD0, hC, hZ⟩ := hv
  have hx := B.exec
  have hb := B.bytes
  have hr := B.returns
  have hts := atoms_spec (ws := wsX10_fact) B.pre
  have hown : s.vm.findClass RX10 = some m.cls := findClass_of_methodNamed B.named
  have hlocks := B.notSynchronized
  subst hsz
  have hD := hD0.self (sz := s.heap.size)
  generalize hAe : va_A [(oX10 w0 v0 v1 v2 v3 v4 g5 g6 (nI ed) g8 v9 (nI nb) g11 g12 v13 (nI ln) (nI (gP ti)) (nI (gR (ti + 1))) tk kw g19 g20 g21 (nI o9) g23 (nI cd) g25 g26 v27 v28 v29 v30 v31 v32 v33 v34 v35 v36 v37 (nI ol)), (v1, .inl (cA 0, 326, .inl fp)), (v9, .inl (cA 0, 700, .inl fb)), (v13, .inl (cA 1, 15, .inr (.inl fkw))), (v28, .inl (cA 1, 10, .inr (.inl l28))), (v30, .inl (cA 1, 8, .inr (.inl l30))), (v32, .inl (cA 0, 400, .inl fc))] s.heap.size = A at hD hZ ⊢
  have hA : ∀ q : Nat, s.heap.size ≤ q → A q := fun q h => by rw [← hAe]; exact Or.inr h
  have hS : va_S A s.heap s.heap [] := va_S.rf
  have hP : va_P D vwCl [(oX10 w0 v0 v1 v2 v3 v4 g5 g6 (nI ed) g8 v9 (nI nb) g11 g12 v13 (nI ln) (nI (gP ti)) (nI (gR (ti + 1))) tk kw g19 g20 g21 (nI o9) g23 (nI cd) g25 g26 v27 v28 v29 v30 v31 v32 v33 v34 v35 v36 v37 (nI ol)), (v1, .inl (cA 0, 326, .inl fp)), (v9, .inl (cA 0, 700, .inl fb)), (v13, .inl (cA 1, 15, .inr (.inl fkw))), (v28, .inl (cA 1, 10, .inr (.inl l28))), (v30, .inl (cA 1, 8, .inr (.inl l30))), (v32, .inl (cA 0, 400, .inl fc))] s.heap := hP
  have hl := lv_entry ([.ref w0]) (n := 1) (Nat.le_of_ble_eq_true rfl)
  rw [lg_entry_eq]
  generalize (lg_sl ([.ref w0]) ++ List.replicate (1 - (lg_sl ([.ref w0])).length) Slot.unset).toArray = ls at hl ⊢
  have hl : lv_has ls 1 [(0, .ref w0)] := hl
  have inX10 : ∀ w ∈ u_ws RX10 TX10 39, w ∈ wsX10_fact := by decide +kernel
  have hle9 := TX.le hTX hti
  refine lv_aload_n hx hb dX10_fact_0 rfl (lv_at hl 0 rfl) ?_
  refine lv_bipush (v := 40) hx hb dX10_fact_1 (by decide) ?_
  obtain ⟨hPc, hDc, hFc⟩ := PDq.cut (wc := [(oX10 w0 v0 v1 v2 v3 v4 g5 g6 (nI ed) g8 v9 (nI nb) g11 g12 v13 (nI ln) (nI (gP ti)) (nI (gR (ti + 1))) tk kw g19 g20 g21 (nI o9) g23 (nI cd) g25 g26 v27 v28 v29 v30 v31 v32 v33 v34 v35 v36 v37 (nI ol)), (v9, .inl (cA 0, 700, .inl fb))]) hP hD hS hA [0, 2] (by decide) rfl
  refine va_calli (va_runV (As := [.int 40]) (rest := []) ⟨hx, hb, hml, hown, hts⟩ (y_sym40 l D cA sa w0 ed nb ol v0 v1 v2 v3 v4 v9 v13 v27 v28 v29 v30 v31 v32 v33 v34 v35 v36 v37 g8 g11 g12 g19 g20 g21 (nI o9) g23 g26 g5 g6 g25 ln cd tk kw ti ct fb gP gR gS gK gV s.heap.size hln hct hti hTX hBY hTK) (cwV 1 hts gX10_fact_X10_isSymbol rfl rfl rfl (by decide +kernel) ⟨by show (0) + 1 ≤ 21; omega, by show 8 + (2 + 11) + (0) ≤ 340; omega⟩) ⟨Wd.blind, va_recv hK hPc (ci := 11) (q0 := 0) rfl rfl, fun U hU hW => ⟨rfl, Wd.call hPc hDc hK hC hZ hS hFc U hU hW⟩⟩ rfl rfl hl.1 rfl (lv_room (Nat.le_of_ble_eq_true rfl)) dX10_fact_3 ⟨(Nat.le_of_ble_eq_true rfl), (Nat.le_of_ble_eq_true rfl)⟩) hS (fun q _ h => hFc q h) hFc (fun rn1 u t H1 locs ht hvm hw hB hz1 hk1 hS => ?_)
  obtain ⟨hP1, hD1⟩ := hB
  rw [ht] at hP1
  obtain ⟨hP, hD⟩ := PDq.join (w := [(v1, .inl (cA 0, 326, .inl fp)), (v13, .inl (cA 1, 15, .inr (.inl fkw))), (v28, .inl (cA 1, 10, .inr (.inl l28))), (v30, .inl (cA 1, 8, .inr (.inl l30))), (v32, .inl (cA 0, 400, .inl fc)), (oX10 w0 v0 v1 v2 v3 v4 g5 g6 (nI ed) g8 v9 (nI nb) g11 g12 v13 (nI ln) (nI (gP ti)) (nI (gR (ti + 1))) tk kw g19 g20 g21 (nI o9) g23 (nI cd) g25 g26 v27 v28 v29 v30 v31 v32 v33 v34 v35 v36 v37 (nI ol)), (v9, .inl (cA 0, 700, .inl fb))]) 5 hP hD [0, 2] [1, 3, 4, 5, 6] rfl rfl (by decide) (by decide) hk1 hFc hP1 hD1 rfl
  generalize H1 = H at hP hS ⊢
  rcases hw with ⟨hr9, hn2⟩ | ⟨hr9, hn2⟩
  · skip
    subst hr9
    refine lv_if_eq (tgt := 14) hx hb dX10_fact_6 (by decide) (fun c9 => absurd c9 (by decide)) (fun c3 => ?_)
    refine lv_aload_n hx hb dX10_fact_9 rfl (lv_at hl 0 rfl) ?_
    obtain ⟨hPc, hDc, hFc⟩ := PDq.cut (wc := [(oX10 w0 v0 v1 v2 v3 v4 g5 g6 (nI ed) g8 v9 (nI nb) g11 g12 v13 (nI ln) (nI (gP ti)) (nI (gR (ti + 1))) tk kw g19 g20 g21 (nI o9) g23 (nI cd) g25 g26 v27 v28 v29 v30 v31 v32 v33 v34 v35 v36 v37 (nI ol)), (v1, .inl (cA 0, 326, .inl fp)), (v9, .inl (cA 0, 700, .inl fb)), (v13, .inl (cA 1, 15, .inr (.inl fkw))), (v28, .inl (cA 1, 10, .inr (.inl l28))), (v30, .inl (cA 1, 8, .inr (.inl l30))), (v32, .inl (cA 0, 400, .inl fc))]) hP hD hS hA [5, 0, 6, 1, 2, 3, 4] (by decide) rfl
    refine va_calli (va_runV (As := []) (rest := []) ⟨hx, hb, hml, hown, hts⟩ (y_bracket_B l D cA sa w0 ed nb ol v0 v1 v2 v3 v4 v9 v13 v27 v28 v29 v30 v31 v32 v33 v34 v35 v36 v37 g8 g11 g12 g19 g20 g21 g23 g26 g5 g6 g25 ln cd tk kw ti ct fb fkw gP gR gS gK gV cn pq en dy fp sl o9 l28 l30 fc ml pl H.size hln hct hti hTX hBY hTK hKW hcn hpq hen hdy hri hcd hNM hNP hn2 ho) (cwV 0 hts gX10_fact_X10_bracket rfl rfl rfl (by decide +kernel) ⟨by show (20) + 1 ≤ 21; omega, by show 8 + (1 + 11) + (320) ≤ 340; omega⟩) ⟨Wd.blind, va_recv hK hPc (ci := 11) (q0 := 0) rfl rfl, fun U hU hW => ⟨rfl, Wd.call hPc hDc hK hC hZ hS hFc U hU hW⟩⟩ rfl rfl hl.1 rfl (lv_room (Nat.le_of_ble_eq_true rfl)) dX10_fact_10 ⟨(Nat.le_of_ble_eq_true rfl), (Nat.le_of_ble_eq_true rfl)⟩) hS (fun q _ h => hFc q h) hFc (fun rn4 u t H1 locs ht hvm hw hB hz1 hk1 hS => ?_)
    obtain ⟨qn5, zn6, zn7, zn8, zn9, zn10, zn11, zn12, qn13, qn14, zn15, fn16, fn17, fn18, zn19, hn20, hn21, hn22, hn23, hn24, hn25, hn26, hn27, hn28, hn29, hn30, hn31, hn32, hn33, hn34, hn35, hn36, hn37, hn38, hP1, hD1⟩ := hB
    rw [ht] at hP1
    obtain ⟨hP, hD⟩ := PDq.join (w := [(oX10 w0 v0 v1 v2 v3 v4 g5 g6 (nI ed) g8 v9 (nI nb) g11 g12 v13 (nI ln) (nI (gP qn5)) (nI (gR (qn5 + 1))) zn6 zn7 zn8 zn9 zn10 zn15 g23 (nI qn13) zn12 zn11 v27 v28 v29 v30 v31 v32 v33 v34 v35 v36 v37 (nI ol)), (v1, .inl (cA 0, 326, .inl fn16)), (v9, .inl (cA 0, 700, .inl fb)), (v13, .inl (cA 1, 15, .inr (.inl fkw))), (v28, .inl (cA 1, 10, .inr (.inl l28))), (v30, .inl (cA 1, 8, .inr (.inl fn18))), (v32, .inl (cA 0, 400, .inl fn17))]) 0 hP hD [5, 0, 6, 1, 2, 3, 4] [] rfl rfl (by decide) (by decide) hk1 hFc hP1 hD1 rfl
    generalize H1 = H at hP hS ⊢
    rcases hw.2 with hr9 | hr9
    · skip
      have hn38 := hn38 (hw.1.trans hr9)
      subst hr9
      obtain ⟨hP9, hD9⟩ := PDq.sub (ws' := [(oX10 w0 v0 v1 v2 v3 v4 g5 g6 (nI ed) g8 v9 (nI nb) g11 g12 v13 (nI ln) (nI (gP qn5)) (nI (gR (qn5 + 1))) zn6 zn7 zn8 zn9 zn10 zn15 g23 (nI qn13) zn12 zn11 v27 v28 v29 v30 v31 v32 v33 v34 v35 v36 v37 (nI ol)), (v1, .inl (cA 0, 326, .inl fn16)), (v9, .inl (cA 0, 700, .inl fb)), (v13, .inl (cA 1, 15, .inr (.inl fkw))), (v28, .inl (cA 1, 10, .inr (.inl l28))), (v30, .inl (cA 1, 8, .inr (.inl fn18))), (v32, .inl (cA 0, 400, .inl fn17))]) hP hD [0, 1, 2, 3, 4, 5, 6] (by decide) rfl
      refine W.widen (k := 0) (n := 0) (Nat.le_of_ble_eq_true rfl) (Nat.le_of_ble_eq_true rfl) ?_
      exact (W.zret (v := 0) hx hb hr (by first | rfl | decide) (fun t ht hW => ⟨⟨0, 0, rfl, ⟨rfl, by decide⟩, qn5, zn6, zn7, zn8, zn9, zn10, zn11, zn12, qn13, qn14, zn15, fn16, fn17, fn18, zn19, hn20, hn21, hn22, hn23, hn24, hn25, hn26, (fun h9 => absurd h9 (by decide)), (fun h9 => absurd h9 (by decide)), (fun h9 => absurd h9 (by decide)), (fun h9 => absurd h9 (by decide)), (fun h9 => absurd h9 (by decide)), (fun h9 => absurd h9 (by decide)), (fun h9 => absurd h9 (by decide)), (fun h9 => absurd h9 (by decide)), (fun h9 => absurd h9 (by decide)), (fun h9 => absurd h9 (by decide)), (fun h9 => absurd h9 (by decide)), (fun _ => hn38), by rw [ht]; exact hP9, hD9⟩, hS.F ht⟩) hS.2.2 dX10_fact_13)
    · skip
      have hn27 := hn27 (hw.1.trans hr9)
      subst hn27
      obtain ⟨hP, hD⟩ : PDq D A [(oX10 w0 v0 v1 v2 v3 v4 g5 g6 (nI ed) g8 v9 (nI nb) g11 g12 v13 (nI ln) (nI (gP qn5)) (nI (gR (qn5 + 1))) zn6 zn7 zn8 zn9 zn10 (nI o9) g23 (nI qn13) zn12 zn11 v27 v28 v29 v30 v31 v32 v33 v34 v35 v36 v37 (nI ol)), (v1, .inl (cA 0, 326, .inl fn16)), (v9, .inl (cA 0, 700, .inl fb)), (v13, .inl (cA 1, 15, .inr (.inl fkw))), (v28, .inl (cA 1, 10, .inr (.inl l28))), (v30, .inl (cA 1, 8, .inr (.inl fn18))), (v32, .inl (cA 0, 400, .inl fn17))] H := ⟨hP, hD⟩
      have hn28 := hn28 (hw.1.trans hr9)
      obtain rfl : g20 = zn9 := hn28.symm
      obtain ⟨hP, hD⟩ : PDq D A [(oX10 w0 v0 v1 v2 v3 v4 g5 g6 (nI ed) g8 v9 (nI nb) g11 g12 v13 (nI ln) (nI (gP qn5)) (nI (gR (qn5 + 1))) zn6 zn7 zn8 g20 zn10 (nI o9) g23 (nI qn13) zn12 zn11 v27 v28 v29 v30 v31 v32 v33 v34 v35 v36 v37 (nI ol)), (v1, .inl (cA 0, 326, .inl fn16)), (v9, .inl (cA 0, 700, .inl fb)), (v13, .inl (cA 1, 15, .inr (.inl fkw))), (v28, .inl (cA 1, 10, .inr (.inl l28))), (v30, .inl (cA 1, 8, .inr (.inl fn18))), (v32, .inl (cA 0, 400, .inl fn17))] H := ⟨hP, hD⟩
      have hn29 := hn29 (hw.1.trans hr9)
      obtain rfl : g21 = zn10 := hn29.symm
      obtain ⟨hP, hD⟩ : PDq D A [(oX10 w0 v0 v1 v2 v3 v4 g5 g6 (nI ed) g8 v9 (nI nb) g11 g12 v13 (nI ln) (nI (gP qn5)) (nI (gR (qn5 + 1))) zn6 zn7 zn8 g20 g21 (nI o9) g23 (nI qn13) zn12 zn11 v27 v28 v29 v30 v31 v32 v33 v34 v35 v36 v37 (nI ol)), (v1, .inl (cA 0, 326, .inl fn16)), (v9, .inl (cA 0, 700, .inl fb)), (v13, .inl (cA 1, 15, .inr (.inl fkw))), (v28, .inl (cA 1, 10, .inr (.inl l28))), (v30, .inl (cA 1, 8, .inr (.inl fn18))), (v32, .inl (cA 0, 400, .inl fn17))] H := ⟨hP, hD⟩
      have hn30 := hn30 (hw.1.trans hr9)
      have hn31 := hn31 (hw.1.trans hr9)
      have hn32 := hn32 (hw.1.trans hr9)
      have hn33 := hn33 (hw.1.trans hr9)
      have hn34 := hn34 (hw.1.trans hr9)
      have hn35 := hn35 (hw.1.trans hr9)
      have hn36 := hn36 (hw.1.trans hr9)
      have hn37 := hn37 (hw.1.trans hr9)
      subst hr9
      obtain ⟨hP9, hD9⟩ := PDq.sub (ws' := [(oX10 w0 v0 v1 v2 v3 v4 g5 g6 (nI ed) g8 v9 (nI nb) g11 g12 v13 (nI ln) (nI (gP qn5)) (nI (gR (qn5 + 1))) zn6 zn7 zn8 g20 g21 (nI o9) g23 (nI qn13) zn12 zn11 v27 v28 v29 v30 v31 v32 v33 v34 v35 v36 v37 (nI ol)), (v1, .inl (cA 0, 326, .inl fn16)), (v9, .inl (cA 0, 700, .inl fb)), (v13, .inl (cA 1, 15, .inr (.inl fkw))), (v28, .inl (cA 1, 10, .inr (.inl l28))), (v30, .inl (cA 1, 8, .inr (.inl fn18))), (v32, .inl (cA 0, 400, .inl fn17))]) hP hD [0, 1, 2, 3, 4, 5, 6] (by decide) rfl
      refine W.widen (k := 0) (n := 0) (Nat.le_of_ble_eq_true rfl) (Nat.le_of_ble_eq_true rfl) ?_
      exact (W.zret (v := 1) hx hb hr (by first | rfl | decide) (fun t ht hW => ⟨⟨1, 1, rfl, ⟨rfl, by decide⟩, qn5, zn6, zn7, zn8, g20, g21, zn11, zn12, qn13, qn14, (nI o9), fn16, fn17, fn18, zn19, hn20, hn21, hn22, hn23, hn24, hn25, hn26, (fun _ => rfl), (fun _ => rfl), (fun _ => rfl), (fun _ => hn30), (fun _ => hn31), (fun _ => hn32), (fun _ => hn33), (fun _ => hn34), (fun _ => hn35), (fun _ => hn36), (fun _ => hn37), (fun h9 => absurd h9 (by decide)), by rw [ht]; exact hP9, hD9⟩, hS.F ht⟩) hS.2.2 dX10_fact_13)
  · skip
    subst hr9
    refine lv_if_eq (tgt := 14) hx hb dX10_fact_6 (by decide) (fun c39 => ?_) (fun c9 => absurd c9 (by decide))
    refine lv_aload_n hx hb dX10_fact_14 rfl (lv_at hl 0 rfl) ?_
    refine va_get (D := D) (ci := 11) (v := .int tk) (C := RX10) (T := TX10) (N := 39) hx hb hts inX10 hown hK hP 5 rfl rfl 17 (by decide) (hts (.fieldLink RX10 126 "EscrowDeskModel" "token" "I") (by decide +kernel)) (fun _ h9 => h9) rfl dX10_fact_15 ?_
    refine lv_iconst (v := 2) hx hb dX10_fact_18 (by decide) ?_
    refine lv_icmp_eq (tgt := 28) hx hb dX10_fact_19 (by decide) (fun c40 => ?_) (fun c40 => ?_)
    · skip
      refine lv_aload_n hx hb dX10_fact_28 rfl (lv_at hl 0 rfl) ?_
      refine va_get (D := D) (ci := 11) (v := .int kw) (C := RX10) (T := TX10) (N := 39) hx hb hts inX10 hown hK hP 5 rfl rfl 18 (by decide) (hts (.fieldLink RX10 120 "EscrowDeskModel" "keyword" "I") (by decide +kernel)) (fun _ h9 => h9) rfl dX10_fact_29 ?_
      by_cases hn41 : kw = 8
      · skip
        refine W.eq (g2 := F0 m 32 ls [.int 8]) (by rw [hn41]) ?_
        refine lv_tableIn (off := 44) (tgt := 76) hx hb dX10_fact_32 (by decide) (by decide) (by decide) (by decide) ?_
        refine lv_aload_n hx hb dX10_fact_76 rfl (lv_at hl 0 rfl) ?_
        obtain ⟨hPc, hDc, hFc⟩ := PDq.cut (wc := [(oX10 w0 v0 v1 v2 v3 v4 g5 g6 (nI ed) g8 v9 (nI nb) g11 g12 v13 (nI ln) (nI (gP ti)) (nI (gR (ti + 1))) tk kw g19 g20 g21 (nI o9) g23 (nI cd) g25 g26 v27 v28 v29 v30 v31 v32 v33 v34 v35 v36 v37 (nI ol)), (v1, .inl (cA 0, 326, .inl fp)), (v9, .inl (cA 0, 700, .inl fb)), (v13, .inl (cA 1, 15, .inr (.inl fkw))), (v28, .inl (cA 1, 10, .inr (.inl l28))), (v30, .inl (cA 1, 8, .inr (.inl l30))), (v32, .inl (cA 0, 400, .inl fc))]) hP hD hS hA [5, 0, 6, 1, 2, 3, 4] (by decide) rfl
        refine va_calli (va_runV (As := []) (rest := []) ⟨hx, hb, hml, hown, hts⟩ (y_notFact_B l D cA sa w0 ed nb ol v0 v1 v2 v3 v4 v9 v13 v27 v28 v29 v30 v31 v32 v33 v34 v35 v36 v37 g8 g11 g12 g19 g20 g21 g23 g26 g5 g6 g25 ln cd tk kw ti ct fb fkw gP gR gS gK gV cn pq en dy fp sl o9 l28 l30 fc ml pl H.size hln hct hti hTX hBY hTK hKW hcn hpq hen hdy hri hcd hNM hNP (TKR.kwd (n := 8) hTK (by decide) c40 hn41) ho) (cwV 0 hts gX10_fact_X10_notFact rfl rfl rfl (by decide +kernel) ⟨by show (20) + 1 ≤ 21; omega, by show 8 + (1 + 11) + (320) ≤ 340; omega⟩) ⟨Wd.blind, va_recv hK hPc (ci := 11) (q0 := 0) rfl rfl, fun U hU hW => ⟨rfl, Wd.call hPc hDc hK hC hZ hS hFc U hU hW⟩⟩ rfl rfl hl.1 rfl (lv_room (Nat.le_of_ble_eq_true rfl)) dX10_fact_77 ⟨(Nat.le_of_ble_eq_true rfl), (Nat.le_of_ble_eq_true rfl)⟩) hS (fun q _ h => hFc q h) hFc (fun rn42 u t H1 locs ht hvm hw hB hz1 hk1 hS => ?_)
        obtain ⟨qn43, zn44, zn45, zn46, zn47, zn48, zn49, zn50, qn51, qn52, zn53, fn54, fn55, fn56, zn57, hn58, hn59, hn60, hn61, hn62, hn63, hn64, hn65, hn66, hn67, hn68, hn69, hn70, hn71, hn72, hn73, hn74, hn75, hn76, hP1, hD1⟩ := hB
        rw [ht] at hP1
        obtain ⟨hP, hD⟩ := PDq.join (w := [(oX10 w0 v0 v1 v2 v3 v4 g5 g6 (nI ed) g8 v9 (nI nb) g11 g12 v13 (nI ln) (nI (gP qn43)) (nI (gR (qn43 + 1))) zn44 zn45 zn46 zn47 zn48 zn53 g23 (nI qn51) zn50 zn49 v27 v28 v29 v30 v31 v32 v33 v34 v35 v36 v37 (nI ol)), (v1, .inl (cA 0, 326, .inl fn54)), (v9, .inl (cA 0, 700, .inl fb)), (v13, .inl (cA 1, 15, .inr (.inl fkw))), (v28, .inl (cA 1, 10, .inr (.inl l28))), (v30, .inl (cA 1, 8, .inr (.inl fn56))), (v32, .inl (cA 0, 400, .inl fn55))]) 0 hP hD [5, 0, 6, 1, 2, 3, 4] [] rfl rfl (by decide) (by decide) hk1 hFc hP1 hD1 rfl
        generalize H1 = H at hP hS ⊢
        rcases hw.2 with hr9 | hr9
        · skip
          have hn76 := hn76 (hw.1.trans hr9)
          subst hr9
          obtain ⟨hP9, hD9⟩ := PDq.sub (ws' := [(oX10 w0 v0 v1 v2 v3 v4 g5 g6 (nI ed) g8 v9 (nI nb) g11 g12 v13 (nI ln) (nI (gP qn43)) (nI (gR (qn43 + 1))) zn44 zn45 zn46 zn47 zn48 zn53 g23 (nI qn51) zn50 zn49 v27 v28 v29 v30 v31 v32 v33 v34 v35 v36 v37 (nI ol)), (v1, .inl (cA 0, 326, .inl fn54)), (v9, .inl (cA 0, 700, .inl fb)), (v13, .inl (cA 1, 15, .inr (.inl fkw))), (v28, .inl (cA 1, 10, .inr (.inl l28))), (v30, .inl (cA 1, 8, .inr (.inl fn56))), (v32, .inl (cA 0, 400, .inl fn55))]) hP hD [0, 1, 2, 3, 4, 5, 6] (by decide) rfl
          refine W.widen (k := 0) (n := 0) (Nat.le_of_ble_eq_true rfl) (Nat.le_of_ble_eq_true rfl) ?_
          exact (W.zret (v := 0) hx hb hr (by first | rfl | decide) (fun t ht hW => ⟨⟨0, 0, rfl, ⟨rfl, by decide⟩, qn43, zn44, zn45, zn46, zn47, zn48, zn49, zn50, qn51, qn52, zn53, fn54, fn55, fn56, zn57, hn58, hn59, hn60, hn61, hn62, hn63, hn64, (fun h9 => absurd h9 (by decide)), (fun h9 => absurd h9 (by decide)), (fun h9 => absurd h9 (by decide)), (fun h9 => absurd h9 (by decide)), (fun h9 => absurd h9 (by decide)), (fun h9 => absurd h9 (by decide)), (fun h9 => absurd h9 (by decide)), (fun h9 => absurd h9 (by decide)), (fun h9 => absurd h9 (by decide)), (fun h9 => absurd h9 (by decide)), (fun h9 => absurd h9 (by decide)), (fun _ => hn76), by rw [ht]; exact hP9, hD9⟩, hS.F ht⟩) hS.2.2 dX10_fact_80)
        · skip
          have hn65 := hn65 (hw.1.trans hr9)
          subst hn65
          obtain ⟨hP, hD⟩ : PDq D A [(oX10 w0 v0 v1 v2 v3 v4 g5 g6 (nI ed) g8 v9 (nI nb) g11 g12 v13 (nI ln) (nI (gP qn43)) (nI (gR (qn43 + 1))) zn44 zn45 zn46 zn47 zn48 (nI o9) g23 (nI qn51) zn50 zn49 v27 v28 v29 v30 v31 v32 v33 v34 v35 v36 v37 (nI ol)), (v1, .inl (cA 0, 326, .inl fn54)), (v9, .inl (cA 0, 700, .inl fb)), (v13, .inl (cA 1, 15, .inr (.inl fkw))), (v28, .inl (cA 1, 10, .inr (.inl l28))), (v30, .inl (cA 1, 8, .inr (.inl fn56))), (v32, .inl (cA 0, 400, .inl fn55))] H := ⟨hP, hD⟩
          have hn66 := hn66 (hw.1.trans hr9)
          obtain rfl : g20 = zn47 := hn66.symm
          obtain ⟨hP, hD⟩ : PDq D A [(oX10 w0 v0 v1 v2 v3 v4 g5 g6 (nI ed) g8 v9 (nI nb) g11 g12 v13 (nI ln) (nI (gP qn43)) (nI (gR (qn43 + 1))) zn44 zn45 zn46 g20 zn48 (nI o9) g23 (nI qn51) zn50 zn49 v27 v28 v29 v30 v31 v32 v33 v34 v35 v36 v37 (nI ol)), (v1, .inl (cA 0, 326, .inl fn54)), (v9, .inl (cA 0, 700, .inl fb)), (v13, .inl (cA 1, 15, .inr (.inl fkw))), (v28, .inl (cA 1, 10, .inr (.inl l28))), (v30, .inl (cA 1, 8, .inr (.inl fn56))), (v32, .inl (cA 0, 400, .inl fn55))] H := ⟨hP, hD⟩
          have hn67 := hn67 (hw.1.trans hr9)
          obtain rfl : g21 = zn48 := hn67.symm
          obtain ⟨hP, hD⟩ : PDq D A [(oX10 w0 v0 v1 v2 v3 v4 g5 g6 (nI ed) g8 v9 (nI nb) g11 g12 v13 (nI ln) (nI (gP qn43)) (nI (gR (qn43 + 1))) zn44 zn45 zn46 g20 g21 (nI o9) g23 (nI qn51) zn50 zn49 v27 v28 v29 v30 v31 v32 v33 v34 v35 v36 v37 (nI ol)), (v1, .inl (cA 0, 326, .inl fn54)), (v9, .inl (cA 0, 700, .inl fb)), (v13, .inl (cA 1, 15, .inr (.inl fkw))), (v28, .inl (cA 1, 10, .inr (.inl l28))), (v30, .inl (cA 1, 8, .inr (.inl fn56))), (v32, .inl (cA 0, 400, .inl fn55))] H := ⟨hP, hD⟩
          have hn68 := hn68 (hw.1.trans hr9)
          have hn69 := hn69 (hw.1.trans hr9)
          have hn70 := hn70 (hw.1.trans hr9)
          have hn71 := hn71 (hw.1.trans hr9)
          have hn72 := hn72 (hw.1.trans hr9)
          have hn73 := hn73 (hw.1.trans hr9)
          have hn74 := hn74 (hw.1.trans hr9)
          have hn75 := hn75 (hw.1.trans hr9)
          subst hr9
          obtain ⟨hP9, hD9⟩ := PDq.sub (ws' := [(oX10 w0 v0 v1 v2 v3 v4 g5 g6 (nI ed) g8 v9 (nI nb) g11 g12 v13 (nI ln) (nI (gP qn43)) (nI (gR (qn43 + 1))) zn44 zn45 zn46 g20 g21 (nI o9) g23 (nI qn51) zn50 zn49 v27 v28 v29 v30 v31 v32 v33 v34 v35 v36 v37 (nI ol)), (v1, .inl (cA 0, 326, .inl fn54)), (v9, .inl (cA 0, 700, .inl fb)), (v13, .inl (cA 1, 15, .inr (.inl fkw))), (v28, .inl (cA 1, 10, .inr (.inl l28))), (v30, .inl (cA 1, 8, .inr (.inl fn56))), (v32, .inl (cA 0, 400, .inl fn55))]) hP hD [0, 1, 2, 3, 4, 5, 6] (by decide) rfl
          refine W.widen (k := 0) (n := 0) (Nat.le_of_ble_eq_true rfl) (Nat.le_of_ble_eq_true rfl) ?_
          exact (W.zret (v := 1) hx hb hr (by first | rfl | decide) (fun t ht hW => ⟨⟨1, 1, rfl, ⟨rfl, by decide⟩, qn43, zn44, zn45, zn46, g20, g21, zn49, zn50, qn51, qn52, (nI o9), fn54, fn55, fn56, zn57, hn58, hn59, hn60, hn61, hn62, hn63, hn64, (fun _ => rfl), (fun _ => rfl), (fun _ => rfl), (fun _ => hn68), (fun _ => hn69), (fun _ => hn70), (fun _ => hn71), (fun _ => hn72), (fun _ => hn73), (fun _ => hn74), (fun _ => hn75), (fun h9 => absurd h9 (by decide)), by rw [ht]; exact hP9, hD9⟩, hS.F ht⟩) hS.2.2 dX10_fact_80)
      · skip
        by_cases hn77 : kw = 9
        · skip
          refine W.eq (g2 := F0 m 32 ls [.int 9]) (by rw [hn77]) ?_
          refine lv_tableIn (off := 49) (tgt := 81) hx hb dX10_fact_32 (by decide) (by decide) (by decide) (by decide) ?_
          refine lv_aload_n hx hb dX10_fact_81 rfl (lv_at hl 0 rfl) ?_
          refine lv_iconst (v := 0) hx hb dX10_fact_82 (by decide) ?_
          refine lv_sipush (v := 999) hx hb dX10_fact_83 (by decide) ?_
          obtain ⟨hPc, hDc, hFc⟩ := PDq.cut (wc := [(oX10 w0 v0 v1 v2 v3 v4 g5 g6 (nI ed) g8 v9 (nI nb) g11 g12 v13 (nI ln) (nI (gP ti)) (nI (gR (ti + 1))) tk kw g19 g20 g21 (nI o9) g23 (nI cd) g25 g26 v27 v28 v29 v30 v31 v32 v33 v34 v35 v36 v37 (nI ol)), (v1, .inl (cA 0, 326, .inl fp)), (v9, .inl (cA 0, 700, .inl fb)), (v13, .inl (cA 1, 15, .inr (.inl fkw))), (v28, .inl (cA 1, 10, .inr (.inl l28))), (v30, .inl (cA 1, 8, .inr (.inl l30))), (v32, .inl (cA 0, 400, .inl fc))]) hP hD hS hA [5, 0, 6, 1, 2, 3, 4] (by decide) rfl
          refine va_calli (va_runV (As := [.int 0, .int 999]) (rest := []) ⟨hx, hb, hml, hown, hts⟩ (y_numberFact0 l D cA sa w0 ed nb ol v0 v1 v2 v3 v4 v9 v13 v27 v28 v29 v30 v31 v32 v33 v34 v35 v36 v37 g8 g11 g12 g19 g20 g21 g23 g26 g5 g6 g25 ln cd tk kw ti ct fb fkw gP gR gS gK gV cn pq en dy fp sl o9 l28 l30 fc ml pl (nI o9) H.size hln hct hti hTX hBY hTK hKW hcn hpq hen hdy hri hcd hNM hNP (TKR.kwd (n := 9) hTK (by decide) c40 hn77)) (cwV 2 hts gX10_fact_X10_numberFact rfl rfl rfl (by decide +kernel) ⟨by show (3) + 1 ≤ 21; omega, by show 8 + (3 + 11) + (66) ≤ 340; omega⟩) ⟨Wd.blind, va_recv hK hPc (ci := 11) (q0 := 0) rfl rfl, fun U hU hW => ⟨rfl, Wd.call hPc hDc hK hC hZ hS hFc U hU hW⟩⟩ rfl rfl hl.1 rfl (lv_room (Nat.le_of_ble_eq_true rfl)) dX10_fact_86 ⟨(Nat.le_of_ble_eq_true rfl), (Nat.le_of_ble_eq_true rfl)⟩) hS (fun q _ h => hFc q h) hFc (fun rn78 u t H1 locs ht hvm hw hB hz1 hk1 hS => ?_)
          obtain ⟨qn79, zn80, zn81, zn82, zn83, zn84, zn85, zn86, qn87, qn88, fn89, fn90, fn91, zn92, hn93, hn94, hn95, hn96, hn97, hn98, hn99, hn100, hn101, hn102, hn103, hn104, hn105, hn106, hn107, hn108, hn109, hn110, hP1, hD1⟩ := hB
          rw [ht] at hP1
          obtain ⟨hP, hD⟩ := PDq.join (w := [(oX10 w0 v0 v1 v2 v3 v4 g5 g6 (nI ed) g8 v9 (nI nb) g11 g12 v13 (nI ln) (nI (gP qn79)) (nI (gR (qn79 + 1))) zn80 zn81 zn82 zn83 zn84 (nI o9) g23 (nI qn87) zn86 zn85 v27 v28 v29 v30 v31 v32 v33 v34 v35 v36 v37 (nI ol)), (v1, .inl (cA 0, 326, .inl fn89)), (v9, .inl (cA 0, 700, .inl fb)), (v13, .inl (cA 1, 15, .inr (.inl fkw))), (v28, .inl (cA 1, 10, .inr (.inl l28))), (v30, .inl (cA 1, 8, .inr (.inl fn91))), (v32, .inl (cA 0, 400, .inl fn90))]) 0 hP hD [5, 0, 6, 1, 2, 3, 4] [] rfl rfl (by decide) (by decide) hk1 hFc hP1 hD1 rfl
          generalize H1 = H at hP hS ⊢
          rcases hw.2 with hr9 | hr9
          · skip
            have hn110 := hn110 (hw.1.trans hr9)
            subst hr9
            obtain ⟨hP9, hD9⟩ := PDq.sub (ws' := [(oX10 w0 v0 v1 v2 v3 v4 g5 g6 (nI ed) g8 v9 (nI nb) g11 g12 v13 (nI ln) (nI (gP qn79)) (nI (gR (qn79 + 1))) zn80 zn81 zn82 zn83 zn84 (nI o9) g23 (nI qn87) zn86 zn85 v27 v28 v29 v30 v31 v32 v33 v34 v35 v36 v37 (nI ol)), (v1, .inl (cA 0, 326, .inl fn89)), (v9, .inl (cA 0, 700, .inl fb)), (v13, .inl (cA 1, 15, .inr (.inl fkw))), (v28, .inl (cA 1, 10, .inr (.inl l28))), (v30, .inl (cA 1, 8, .inr (.inl fn91))), (v32, .inl (cA 0, 400, .inl fn90))]) hP hD [0, 1, 2, 3, 4, 5, 6] (by decide) rfl
            refine W.widen (k := 0) (n := 0) (Nat.le_of_ble_eq_true rfl) (Nat.le_of_ble_eq_true rfl) ?_
            exact (W.zret (v := 0) hx hb hr (by first | rfl | decide) (fun t ht hW => ⟨⟨0, 0, rfl, ⟨rfl, by decide⟩, qn79, zn80, zn81, zn82, zn83, zn84, zn85, zn86, qn87, qn88, (nI o9), fn89, fn90, fn91, zn92, hn93, hn94, hn95, hn96, hn97, hn98, hn99, (fun h9 => absurd h9 (by decide)), (fun h9 => absurd h9 (by decide)), (fun h9 => absurd h9 (by decide)), (fun h9 => absurd h9 (by decide)), (fun h9 => absurd h9 (by decide)), (fun h9 => absurd h9 (by decide)), (fun h9 => absurd h9 (by decide)), (fun h9 => absurd h9 (by decide)), (fun h9 => absurd h9 (by decide)), (fun h9 => absurd h9 (by decide)), (fun h9 => absurd h9 (by decide)), (fun _ => hn110), by rw [ht]; exact hP9, hD9⟩, hS.F ht⟩) hS.2.2 dX10_fact_89)
          · skip
            have hn100 := hn100 (hw.1.trans hr9)
            obtain rfl : g20 = zn83 := hn100.symm
            obtain ⟨hP, hD⟩ : PDq D A [(oX10 w0 v0 v1 v2 v3 v4 g5 g6 (nI ed) g8 v9 (nI nb) g11 g12 v13 (nI ln) (nI (gP qn79)) (nI (gR (qn79 + 1))) zn80 zn81 zn82 g20 zn84 (nI o9) g23 (nI qn87) zn86 zn85 v27 v28 v29 v30 v31 v32 v33 v34 v35 v36 v37 (nI ol)), (v1, .inl (cA 0, 326, .inl fn89)), (v9, .inl (cA 0, 700, .inl fb)), (v13, .inl (cA 1, 15, .inr (.inl fkw))), (v28, .inl (cA 1, 10, .inr (.inl l28))), (v30, .inl (cA 1, 8, .inr (.inl fn91))), (v32, .inl (cA 0, 400, .inl fn90))] H := ⟨hP, hD⟩
            have hn101 := hn101 (hw.1.trans hr9)
            obtain rfl : g21 = zn84 := hn101.symm
            obtain ⟨hP, hD⟩ : PDq D A [(oX10 w0 v0 v1 v2 v3 v4 g5 g6 (nI ed) g8 v9 (nI nb) g11 g12 v13 (nI ln) (nI (gP qn79)) (nI (gR (qn79 + 1))) zn80 zn81 zn82 g20 g21 (nI o9) g23 (nI qn87) zn86 zn85 v27 v28 v29 v30 v31 v32 v33 v34 v35 v36 v37 (nI ol)), (v1, .inl (cA 0, 326, .inl fn89)), (v9, .inl (cA 0, 700, .inl fb)), (v13, .inl (cA 1, 15, .inr (.inl fkw))), (v28, .inl (cA 1, 10, .inr (.inl l28))), (v30, .inl (cA 1, 8, .inr (.inl fn91))), (v32, .inl (cA 0, 400, .inl fn90))] H := ⟨hP, hD⟩
            have hn102 := hn102 (hw.1.trans hr9)
            have hn103 := hn103 (hw.1.trans hr9)
            have hn104 := hn104 (hw.1.trans hr9)
            have hn105 := hn105 (hw.1.trans hr9)
            have hn106 := hn106 (hw.1.trans hr9)
            have hn107 := hn107 (hw.1.trans hr9)
            have hn108 := hn108 (hw.1.trans hr9)
            have hn109 := hn109 (hw.1.trans hr9)
            subst hr9
            obtain ⟨hP9, hD9⟩ := PDq.sub (ws' := [(oX10 w0 v0 v1 v2 v3 v4 g5 g6 (nI ed) g8 v9 (nI nb) g11 g12 v13 (nI ln) (nI (gP qn79)) (nI (gR (qn79 + 1))) zn80 zn81 zn82 g20 g21 (nI o9) g23 (nI qn87) zn86 zn85 v27 v28 v29 v30 v31 v32 v33 v34 v35 v36 v37 (nI ol)), (v1, .inl (cA 0, 326, .inl fn89)), (v9, .inl (cA 0, 700, .inl fb)), (v13, .inl (cA 1, 15, .inr (.inl fkw))), (v28, .inl (cA 1, 10, .inr (.inl l28))), (v30, .inl (cA 1, 8, .inr (.inl fn91))), (v32, .inl (cA 0, 400, .inl fn90))]) hP hD [0, 1, 2, 3, 4, 5, 6] (by decide) rfl
            refine W.widen (k := 0) (n := 0) (Nat.le_of_ble_eq_true rfl) (Nat.le_of_ble_eq_true rfl) ?_
            exact (W.zret (v := 1) hx hb hr (by first | rfl | decide) (fun t ht hW => ⟨⟨1, 1, rfl, ⟨rfl, by decide⟩, qn79, zn80, zn81, zn82, g20, g21, zn85, zn86, qn87, qn88, (nI o9), fn89, fn90, fn91, zn92, hn93, hn94, hn95, hn96, hn97, hn98, hn99, (fun _ => rfl), (fun _ => rfl), (fun _ => rfl), (fun _ => hn102), (fun _ => hn103), (fun _ => hn104), (fun _ => hn105), (fun _ => hn106), (fun _ => hn107), (fun _ => hn108), (fun _ => hn109), (fun h9 => absurd h9 (by decide)), by rw [ht]; exact hP9, hD9⟩, hS.F ht⟩) hS.2.2 dX10_fact_89)
        · skip
          by_cases hn111 : kw = 10
          · skip
            refine W.eq (g2 := F0 m 32 ls [.int 10]) (by rw [hn111]) ?_
            refine lv_tableIn (off := 58) (tgt := 90) hx hb dX10_fact_32 (by decide) (by decide) (by decide) (by decide) ?_
            refine lv_aload_n hx hb dX10_fact_90 rfl (lv_at hl 0 rfl) ?_
            obtain ⟨hPc, hDc, hFc⟩ := PDq.cut (wc := [(oX10 w0 v0 v1 v2 v3 v4 g5 g6 (nI ed) g8 v9 (nI nb) g11 g12 v13 (nI ln) (nI (gP ti)) (nI (gR (ti + 1))) tk kw g19 g20 g21 (nI o9) g23 (nI cd) g25 g26 v27 v28 v29 v30 v31 v32 v33 v34 v35 v36 v37 (nI ol)), (v1, .inl (cA 0, 326, .inl fp)), (v9, .inl (cA 0, 700, .inl fb)), (v13, .inl (cA 1, 15, .inr (.inl fkw))), (v28, .inl (cA 1, 10, .inr (.inl l28))), (v30, .inl (cA 1, 8, .inr (.inl l30))), (v32, .inl (cA 0, 400, .inl fc))]) hP hD hS hA [5, 0, 6, 1, 2, 3, 4] (by decide) rfl
            refine va_calli (va_runV (As := []) (rest := []) ⟨hx, hb, hml, hown, hts⟩ (y_proofFact l D cA sa w0 ed nb ol v0 v1 v2 v3 v4 v9 v13 v27 v28 v29 v30 v31 v32 v33 v34 v35 v36 v37 g8 g11 g12 g19 g20 g21 g23 g26 g5 g6 g25 ln cd tk kw ti ct fb fkw gP gR gS gK gV cn pq en dy fp sl o9 l28 l30 fc ml pl (nI o9) H.size hln hct hti hTX hBY hTK hKW hcn hpq hen hdy hri hcd hNM hNP (TKR.kwd (n := 10) hTK (by decide) c40 hn111)) (cwV 0 hts gX10_fact_X10_proofFact rfl rfl rfl (by decide +kernel) ⟨by show (2) + 1 ≤ 21; omega, by show 8 + (2 + 11) + (44) ≤ 340; omega⟩) ⟨Wd.blind, va_recv hK hPc (ci := 11) (q0 := 0) rfl rfl, fun U hU hW => ⟨rfl, Wd.call hPc hDc hK hC hZ hS hFc U hU hW⟩⟩ rfl rfl hl.1 rfl (lv_room (Nat.le_of_ble_eq_true rfl)) dX10_fact_91 ⟨(Nat.le_of_ble_eq_true rfl), (Nat.le_of_ble_eq_true rfl)⟩) hS (fun q _ h => hFc q h) hFc (fun rn112 u t H1 locs ht hvm hw hB hz1 hk1 hS => ?_)
            obtain ⟨qn113, zn114, zn115, zn116, zn117, zn118, zn119, zn120, qn121, qn122, fn123, fn124, fn125, zn126, hn127, hn128, hn129, hn130, hn131, hn132, hn133, hn134, hn135, hn136, hn137, hn138, hn139, hn140, hn141, hn142, hn143, hn144, hP1, hD1⟩ := hB
            rw [ht] at hP1
            obtain ⟨hP, hD⟩ := PDq.join (w := [(oX10 w0 v0 v1 v2 v3 v4 g5 g6 (nI ed) g8 v9 (nI nb) g11 g12 v13 (nI ln) (nI (gP qn113)) (nI (gR (qn113 + 1))) zn114 zn115 zn116 zn117 zn118 (nI o9) g23 (nI qn121) zn120 zn119 v27 v28 v29 v30 v31 v32 v33 v34 v35 v36 v37 (nI ol)), (v1, .inl (cA 0, 326, .inl fn123)), (v9, .inl (cA 0, 700, .inl fb)), (v13, .inl (cA 1, 15, .inr (.inl fkw))), (v28, .inl (cA 1, 10, .inr (.inl l28))), (v30, .inl (cA 1, 8, .inr (.inl fn125))), (v32, .inl (cA 0, 400, .inl fn124))]) 0 hP hD [5, 0, 6, 1, 2, 3, 4] [] rfl rfl (by decide) (by decide) hk1 hFc hP1 hD1 rfl
            generalize H1 = H at hP hS ⊢
            rcases hw.2 with hr9 | hr9
            · skip
              have hn144 := hn144 (hw.1.trans hr9)
              subst hr9
              obtain ⟨hP9, hD9⟩ := PDq.sub (ws' := [(oX10 w0 v0 v1 v2 v3 v4 g5 g6 (nI ed) g8 v9 (nI nb) g11 g12 v13 (nI ln) (nI (gP qn113)) (nI (gR (qn113 + 1))) zn114 zn115 zn116 zn117 zn118 (nI o9) g23 (nI qn121) zn120 zn119 v27 v28 v29 v30 v31 v32 v33 v34 v35 v36 v37 (nI ol)), (v1, .inl (cA 0, 326, .inl fn123)), (v9, .inl (cA 0, 700, .inl fb)), (v13, .inl (cA 1, 15, .inr (.inl fkw))), (v28, .inl (cA 1, 10, .inr (.inl l28))), (v30, .inl (cA 1, 8, .inr (.inl fn125))), (v32, .inl (cA 0, 400, .inl fn124))]) hP hD [0, 1, 2, 3, 4, 5, 6] (by decide) rfl
              refine W.widen (k := 0) (n := 0) (Nat.le_of_ble_eq_true rfl) (Nat.le_of_ble_eq_true rfl) ?_
              exact (W.zret (v := 0) hx hb hr (by first | rfl | decide) (fun t ht hW => ⟨⟨0, 0, rfl, ⟨rfl, by decide⟩, qn113, zn114, zn115, zn116, zn117, zn118, zn119, zn120, qn121, qn122, (nI o9), fn123, fn124, fn125, zn126, hn127, hn128, hn129, hn130, hn131, hn132, hn133, (fun h9 => absurd h9 (by decide)), (fun h9 => absurd h9 (by decide)), (fun h9 => absurd h9 (by decide)), (fun h9 => absurd h9 (by decide)), (fun h9 => absurd h9 (by decide)), (fun h9 => absurd h9 (by decide)), (fun h9 => absurd h9 (by decide)), (fun h9 => absurd h9 (by decide)), (fun h9 => absurd h9 (by decide)), (fun h9 => absurd h9 (by decide)), (fun h9 => absurd h9 (by decide)), (fun _ => hn144), by rw [ht]; exact hP9, hD9⟩, hS.F ht⟩) hS.2.2 dX10_fact_94)
            · skip
              have hn134 := hn134 (hw.1.trans hr9)
              obtain rfl : g20 = zn117 := hn134.symm
              obtain ⟨hP, hD⟩ : PDq D A [(oX10 w0 v0 v1 v2 v3 v4 g5 g6 (nI ed) g8 v9 (nI nb) g11 g12 v13 (nI ln) (nI (gP qn113)) (nI (gR (qn113 + 1))) zn114 zn115 zn116 g20 zn118 (nI o9) g23 (nI qn121) zn120 zn119 v27 v28 v29 v30 v31 v32 v33 v34 v35 v36 v37 (nI ol)), (v1, .inl (cA 0, 326, .inl fn123)), (v9, .inl (cA 0, 700, .inl fb)), (v13, .inl (cA 1, 15, .inr (.inl fkw))), (v28, .inl (cA 1, 10, .inr (.inl l28))), (v30, .inl (cA 1, 8, .inr (.inl fn125))), (v32, .inl (cA 0, 400, .inl fn124))] H := ⟨hP, hD⟩
              have hn135 := hn135 (hw.1.trans hr9)
              obtain rfl : g21 = zn118 := hn135.symm
              obtain ⟨hP, hD⟩ : PDq D A [(oX10 w0 v0 v1 v2 v3 v4 g5 g6 (nI ed) g8 v9 (nI nb) g11 g12 v13 (nI ln) (nI (gP qn113)) (nI (gR (qn113 + 1))) zn114 zn115 zn116 g20 g21 (nI o9) g23 (nI qn121) zn120 zn119 v27 v28 v29 v30 v31 v32 v33 v34 v35 v36 v37 (nI ol)), (v1, .inl (cA 0, 326, .inl fn123)), (v9, .inl (cA 0, 700, .inl fb)), (v13, .inl (cA 1, 15, .inr (.inl fkw))), (v28, .inl (cA 1, 10, .inr (.inl l28))), (v30, .inl (cA 1, 8, .inr (.inl fn125))), (v32, .inl (cA 0, 400, .inl fn124))] H := ⟨hP, hD⟩
              have hn136 := hn136 (hw.1.trans hr9)
              have hn137 := hn137 (hw.1.trans hr9)
              have hn138 := hn138 (hw.1.trans hr9)
              have hn139 := hn139 (hw.1.trans hr9)
              have hn140 := hn140 (hw.1.trans hr9)
              have hn141 := hn141 (hw.1.trans hr9)
              have hn142 := hn142 (hw.1.trans hr9)
              have hn143 := hn143 (hw.1.trans hr9)
              subst hr9
              obtain ⟨hP9, hD9⟩ := PDq.sub (ws' := [(oX10 w0 v0 v1 v2 v3 v4 g5 g6 (nI ed) g8 v9 (nI nb) g11 g12 v13 (nI ln) (nI (gP qn113)) (nI (gR (qn113 + 1))) zn114 zn115 zn116 g20 g21 (nI o9) g23 (nI qn121) zn120 zn119 v27 v28 v29 v30 v31 v32 v33 v34 v35 v36 v37 (nI ol)), (v1, .inl (cA 0, 326, .inl fn123)), (v9, .inl (cA 0, 700, .inl fb)), (v13, .inl (cA 1, 15, .inr (.inl fkw))), (v28, .inl (cA 1, 10, .inr (.inl l28))), (v30, .inl (cA 1, 8, .inr (.inl fn125))), (v32, .inl (cA 0, 400, .inl fn124))]) hP hD [0, 1, 2, 3, 4, 5, 6] (by decide) rfl
              refine W.widen (k := 0) (n := 0) (Nat.le_of_ble_eq_true rfl) (Nat.le_of_ble_eq_true rfl) ?_
              exact (W.zret (v := 1) hx hb hr (by first | rfl | decide) (fun t ht hW => ⟨⟨1, 1, rfl, ⟨rfl, by decide⟩, qn113, zn114, zn115, zn116, g20, g21, zn119, zn120, qn121, qn122, (nI o9), fn123, fn124, fn125, zn126, hn127, hn128, hn129, hn130, hn131, hn132, hn133, (fun _ => rfl), (fun _ => rfl), (fun _ => rfl), (fun _ => hn136), (fun _ => hn137), (fun _ => hn138), (fun _ => hn139), (fun _ => hn140), (fun _ => hn141), (fun _ => hn142), (fun _ => hn143), (fun h9 => absurd h9 (by decide)), by rw [ht]; exact hP9, hD9⟩, hS.F ht⟩) hS.2.2 dX10_fact_94)
          · skip
            by_cases hn145 : kw = 11
            · skip
              refine W.eq (g2 := F0 m 32 ls [.int 11]) (by rw [hn145]) ?_
              refine lv_tableIn (off := 63) (tgt := 95) hx hb dX10_fact_32 (by decide) (by decide) (by decide) (by decide) ?_
              refine lv_aload_n hx hb dX10_fact_95 rfl (lv_at hl 0 rfl) ?_
              obtain ⟨hPc, hDc, hFc⟩ := PDq.cut (wc := [(oX10 w0 v0 v1 v2 v3 v4 g5 g6 (nI ed) g8 v9 (nI nb) g11 g12 v13 (nI ln) (nI (gP ti)) (nI (gR (ti + 1))) tk kw g19 g20 g21 (nI o9) g23 (nI cd) g25 g26 v27 v28 v29 v30 v31 v32 v33 v34 v35 v36 v37 (nI ol)), (v1, .inl (cA 0, 326, .inl fp)), (v9, .inl (cA 0, 700, .inl fb)), (v13, .inl (cA 1, 15, .inr (.inl fkw))), (v28, .inl (cA 1, 10, .inr (.inl l28))), (v30, .inl (cA 1, 8, .inr (.inl l30))), (v32, .inl (cA 0, 400, .inl fc))]) hP hD hS hA [5, 0, 6, 1, 2, 3, 4] (by decide) rfl
              refine va_calli (va_runV (As := []) (rest := []) ⟨hx, hb, hml, hown, hts⟩ (y_doneFact l D cA sa w0 ed nb ol v0 v1 v2 v3 v4 v9 v13 v27 v28 v29 v30 v31 v32 v33 v34 v35 v36 v37 g8 g11 g12 g19 g20 g21 g23 g26 g5 g6 g25 ln cd tk kw ti ct fb fkw gP gR gS gK gV cn pq en dy fp sl o9 l28 l30 fc ml pl (nI o9) H.size hln hct hti hTX hBY hTK hKW hcn hpq hen hdy hri hcd hNM hNP (TKR.kwd (n := 11) hTK (by decide) c40 hn145)) (cwV 0 hts gX10_fact_X10_doneFact rfl rfl rfl (by decide +kernel) ⟨by show (2) + 1 ≤ 21; omega, by show 8 + (2 + 11) + (44) ≤ 340; omega⟩) ⟨Wd.blind, va_recv hK hPc (ci := 11) (q0 := 0) rfl rfl, fun U hU hW => ⟨rfl, Wd.call hPc hDc hK hC hZ hS hFc U hU hW⟩⟩ rfl rfl hl.1 rfl (lv_room (Nat.le_of_ble_eq_true rfl)) dX10_fact_96 ⟨(Nat.le_of_ble_eq_true rfl), (Nat.le_of_ble_eq_true rfl)⟩) hS (fun q _ h => hFc q h) hFc (fun rn146 u t H1 locs ht hvm hw hB hz1 hk1 hS => ?_)
              obtain ⟨qn147, zn148, zn149, zn150, zn151, zn152, zn153, zn154, qn155, qn156, fn157, fn158, fn159, zn160, hn161, hn162, hn163, hn164, hn165, hn166, hn167, hn168, hn169, hn170, hn171, hn172, hn173, hn174, hn175, hn176, hn177, hn178, hP1, hD1⟩ := hB
              rw [ht] at hP1
              obtain ⟨hP, hD⟩ := PDq.join (w := [(oX10 w0 v0 v1 v2 v3 v4 g5 g6 (nI ed) g8 v9 (nI nb) g11 g12 v13 (nI ln) (nI (gP qn147)) (nI (gR (qn147 + 1))) zn148 zn149 zn150 zn151 zn152 (nI o9) g23 (nI qn155) zn154 zn153 v27 v28 v29 v30 v31 v32 v33 v34 v35 v36 v37 (nI ol)), (v1, .inl (cA 0, 326, .inl fn157)), (v9, .inl (cA 0, 700, .inl fb)), (v13, .inl (cA 1, 15, .inr (.inl fkw))), (v28, .inl (cA 1, 10, .inr (.inl l28))), (v30, .inl (cA 1, 8, .inr (.inl fn159))), (v32, .inl (cA 0, 400, .inl fn158))]) 0 hP hD [5, 0, 6, 1, 2, 3, 4] [] rfl rfl (by decide) (by decide) hk1 hFc hP1 hD1 rfl
              generalize H1 = H at hP hS ⊢
              rcases hw.2 with hr9 | hr9
              · skip
                have hn178 := hn178 (hw.1.trans hr9)
                subst hr9
                obtain ⟨hP9, hD9⟩ := PDq.sub (ws' := [(oX10 w0 v0 v1 v2 v3 v4 g5 g6 (nI ed) g8 v9 (nI nb) g11 g12 v13 (nI ln) (nI (gP qn147)) (nI (gR (qn147 + 1))) zn148 zn149 zn150 zn151 zn152 (nI o9) g23 (nI qn155) zn154 zn153 v27 v28 v29 v30 v31 v32 v33 v34 v35 v36 v37 (nI ol)), (v1, .inl (cA 0, 326, .inl fn157)), (v9, .inl (cA 0, 700, .inl fb)), (v13, .inl (cA 1, 15, .inr (.inl fkw))), (v28, .inl (cA 1, 10, .inr (.inl l28))), (v30, .inl (cA 1, 8, .inr (.inl fn159))), (v32, .inl (cA 0, 400, .inl fn158))]) hP hD [0, 1, 2, 3, 4, 5, 6] (by decide) rfl
                refine W.widen (k := 0) (n := 0) (Nat.le_of_ble_eq_true rfl) (Nat.le_of_ble_eq_true rfl) ?_
                exact (W.zret (v := 0) hx hb hr (by first | rfl | decide) (fun t ht hW => ⟨⟨0, 0, rfl, ⟨rfl, by decide⟩, qn147, zn148, zn149, zn150, zn151, zn152, zn153, zn154, qn155, qn156, (nI o9), fn157, fn158, fn159, zn160, hn161, hn162, hn163, hn164, hn165, hn166, hn167, (fun h9 => absurd h9 (by decide)), (fun h9 => absurd h9 (by decide)), (fun h9 => absurd h9 (by decide)), (fun h9 => absurd h9 (by decide)), (fun h9 => absurd h9 (by decide)), (fun h9 => absurd h9 (by decide)), (fun h9 => absurd h9 (by decide)), (fun h9 => absurd h9 (by decide)), (fun h9 => absurd h9 (by decide)), (fun h9 => absurd h9 (by decide)), (fun h9 => absurd h9 (by decide)), (fun _ => hn178), by rw [ht]; exact hP9, hD9⟩, hS.F ht⟩) hS.2.2 dX10_fact_99)
              · skip
                have hn168 := hn168 (hw.1.trans hr9)
                obtain rfl : g20 = zn151 := hn168.symm
                obtain ⟨hP, hD⟩ : PDq D A [(oX10 w0 v0 v1 v2 v3 v4 g5 g6 (nI ed) g8 v9 (nI nb) g11 g12 v13 (nI ln) (nI (gP qn147)) (nI (gR (qn147 + 1))) zn148 zn149 zn150 g20 zn152 (nI o9) g23 (nI qn155) zn154 zn153 v27 v28 v29 v30 v31 v32 v33 v34 v35 v36 v37 (nI ol)), (v1, .inl (cA 0, 326, .inl fn157)), (v9, .inl (cA 0, 700, .inl fb)), (v13, .inl (cA 1, 15, .inr (.inl fkw))), (v28, .inl (cA 1, 10, .inr (.inl l28))), (v30, .inl (cA 1, 8, .inr (.inl fn159))), (v32, .inl (cA 0, 400, .inl fn158))] H := ⟨hP, hD⟩
                have hn169 := hn169 (hw.1.trans hr9)
                obtain rfl : g21 = zn152 := hn169.symm
                obtain ⟨hP, hD⟩ : PDq D A [(oX10 w0 v0 v1 v2 v3 v4 g5 g6 (nI ed) g8 v9 (nI nb) g11 g12 v13 (nI ln) (nI (gP qn147)) (nI (gR (qn147 + 1))) zn148 zn149 zn150 g20 g21 (nI o9) g23 (nI qn155) zn154 zn153 v27 v28 v29 v30 v31 v32 v33 v34 v35 v36 v37 (nI ol)), (v1, .inl (cA 0, 326, .inl fn157)), (v9, .inl (cA 0, 700, .inl fb)), (v13, .inl (cA 1, 15, .inr (.inl fkw))), (v28, .inl (cA 1, 10, .inr (.inl l28))), (v30, .inl (cA 1, 8, .inr (.inl fn159))), (v32, .inl (cA 0, 400, .inl fn158))] H := ⟨hP, hD⟩
                have hn170 := hn170 (hw.1.trans hr9)
                have hn171 := hn171 (hw.1.trans hr9)
                have hn172 := hn172 (hw.1.trans hr9)
                have hn173 := hn173 (hw.1.trans hr9)
                have hn174 := hn174 (hw.1.trans hr9)
                have hn175 := hn175 (hw.1.trans hr9)
                have hn176 := hn176 (hw.1.trans hr9)
                have hn177 := hn177 (hw.1.trans hr9)
                subst hr9
                obtain ⟨hP9, hD9⟩ := PDq.sub (ws' := [(oX10 w0 v0 v1 v2 v3 v4 g5 g6 (nI ed) g8 v9 (nI nb) g11 g12 v13 (nI ln) (nI (gP qn147)) (nI (gR (qn147 + 1))) zn148 zn149 zn150 g20 g21 (nI o9) g23 (nI qn155) zn154 zn153 v27 v28 v29 v30 v31 v32 v33 v34 v35 v36 v37 (nI ol)), (v1, .inl (cA 0, 326, .inl fn157)), (v9, .inl (cA 0, 700, .inl fb)), (v13, .inl (cA 1, 15, .inr (.inl fkw))), (v28, .inl (cA 1, 10, .inr (.inl l28))), (v30, .inl (cA 1, 8, .inr (.inl fn159))), (v32, .inl (cA 0, 400, .inl fn158))]) hP hD [0, 1, 2, 3, 4, 5, 6] (by decide) rfl
                refine W.widen (k := 0) (n := 0) (Nat.le_of_ble_eq_true rfl) (Nat.le_of_ble_eq_true rfl) ?_
                exact (W.zret (v := 1) hx hb hr (by first | rfl | decide) (fun t ht hW => ⟨⟨1, 1, rfl, ⟨rfl, by decide⟩, qn147, zn148, zn149, zn150, g20, g21, zn153, zn154, qn155, qn156, (nI o9), fn157, fn158, fn159, zn160, hn161, hn162, hn163, hn164, hn165, hn166, hn167, (fun _ => rfl), (fun _ => rfl), (fun _ => rfl), (fun _ => hn170), (fun _ => hn171), (fun _ => hn172), (fun _ => hn173), (fun _ => hn174), (fun _ => hn175), (fun _ => hn176), (fun _ => hn177), (fun h9 => absurd h9 (by decide)), by rw [ht]; exact hP9, hD9⟩, hS.F ht⟩) hS.2.2 dX10_fact_99)
            · skip
              by_cases hn179 : kw = 12
              · skip
                refine W.eq (g2 := F0 m 32 ls [.int 12]) (by rw [hn179]) ?_
                refine lv_tableIn (off := 68) (tgt := 100) hx hb dX10_fact_32 (by decide) (by decide) (by decide) (by decide) ?_
                refine lv_aload_n hx hb dX10_fact_100 rfl (lv_at hl 0 rfl) ?_
                refine lv_iconst (v := 3) hx hb dX10_fact_101 (by decide) ?_
                refine lv_ldc (v := 99999) hx hb hown (hts (.constant RX10 218 99999) (by decide +kernel)) dX10_fact_102 ?_
                obtain ⟨hPc, hDc, hFc⟩ := PDq.cut (wc := [(oX10 w0 v0 v1 v2 v3 v4 g5 g6 (nI ed) g8 v9 (nI nb) g11 g12 v13 (nI ln) (nI (gP ti)) (nI (gR (ti + 1))) tk kw g19 g20 g21 (nI o9) g23 (nI cd) g25 g26 v27 v28 v29 v30 v31 v32 v33 v34 v35 v36 v37 (nI ol)), (v1, .inl (cA 0, 326, .inl fp)), (v9, .inl (cA 0, 700, .inl fb)), (v13, .inl (cA 1, 15, .inr (.inl fkw))), (v28, .inl (cA 1, 10, .inr (.inl l28))), (v30, .inl (cA 1, 8, .inr (.inl l30))), (v32, .inl (cA 0, 400, .inl fc))]) hP hD hS hA [5, 0, 6, 1, 2, 3, 4] (by decide) rfl
                refine va_calli (va_runV (As := [.int 3, .int 99999]) (rest := []) ⟨hx, hb, hml, hown, hts⟩ (y_numberFact3 l D cA sa w0 ed nb ol v0 v1 v2 v3 v4 v9 v13 v27 v28 v29 v30 v31 v32 v33 v34 v35 v36 v37 g8 g11 g12 g19 g20 g21 g23 g26 g5 g6 g25 ln cd tk kw ti ct fb fkw gP gR gS gK gV cn pq en dy fp sl o9 l28 l30 fc ml pl (nI o9) H.size hln hct hti hTX hBY hTK hKW hcn hpq hen hdy hri hcd hNM hNP (TKR.kwd (n := 12) hTK (by decide) c40 hn179)) (cwV 2 hts gX10_fact_X10_numberFact rfl rfl rfl (by decide +kernel) ⟨by show (3) + 1 ≤ 21; omega, by show 8 + (3 + 11) + (66) ≤ 340; omega⟩) ⟨Wd.blind, va_recv hK hPc (ci := 11) (q0 := 0) rfl rfl, fun U hU hW => ⟨rfl, Wd.call hPc hDc hK hC hZ hS hFc U hU hW⟩⟩ rfl rfl hl.1 rfl (lv_room (Nat.le_of_ble_eq_true rfl)) dX10_fact_104 ⟨(Nat.le_of_ble_eq_true rfl), (Nat.le_of_ble_eq_true rfl)⟩) hS (fun q _ h => hFc q h) hFc (fun rn180 u t H1 locs ht hvm hw hB hz1 hk1 hS => ?_)
                obtain ⟨qn181, zn182, zn183, zn184, zn185, zn186, zn187, zn188, qn189, qn190, fn191, fn192, fn193, zn194, hn195, hn196, hn197, hn198, hn199, hn200, hn201, hn202, hn203, hn204, hn205, hn206, hn207, hn208, hn209, hn210, hn211, hn212, hP1, hD1⟩ := hB
                rw [ht] at hP1
                obtain ⟨hP, hD⟩ := PDq.join (w := [(oX10 w0 v0 v1 v2 v3 v4 g5 g6 (nI ed) g8 v9 (nI nb) g11 g12 v13 (nI ln) (nI (gP qn181)) (nI (gR (qn181 + 1))) zn182 zn183 zn184 zn185 zn186 (nI o9) g23 (nI qn189) zn188 zn187 v27 v28 v29 v30 v31 v32 v33 v34 v35 v36 v37 (nI ol)), (v1, .inl (cA 0, 326, .inl fn191)), (v9, .inl (cA 0, 700, .inl fb)), (v13, .inl (cA 1, 15, .inr (.inl fkw))), (v28, .inl (cA 1, 10, .inr (.inl l28))), (v30, .inl (cA 1, 8, .inr (.inl fn193))), (v32, .inl (cA 0, 400, .inl fn192))]) 0 hP hD [5, 0, 6, 1, 2, 3, 4] [] rfl rfl (by decide) (by decide) hk1 hFc hP1 hD1 rfl
                generalize H1 = H at hP hS ⊢
                rcases hw.2 with hr9 | hr9
                · skip
                  have hn212 := hn212 (hw.1.trans hr9)
                  subst hr9
                  obtain ⟨hP9, hD9⟩ := PDq.sub (ws' := [(oX10 w0 v0 v1 v2 v3 v4 g5 g6 (nI ed) g8 v9 (nI nb) g11 g12 v13 (nI ln) (nI (gP qn181)) (nI (gR (qn181 + 1))) zn182 zn183 zn184 zn185 zn186 (nI o9) g23 (nI qn189) zn188 zn187 v27 v28 v29 v30 v31 v32 v33 v34 v35 v36 v37 (nI ol)), (v1, .inl (cA 0, 326, .inl fn191)), (v9, .inl (cA 0, 700, .inl fb)), (v13, .inl (cA 1, 15, .inr (.inl fkw))), (v28, .inl (cA 1, 10, .inr (.inl l28))), (v30, .inl (cA 1, 8, .inr (.inl fn193))), (v32, .inl (cA 0, 400, .inl fn192))]) hP hD [0, 1, 2, 3, 4, 5, 6] (by decide) rfl
                  refine W.widen (k := 0) (n := 0) (Nat.le_of_ble_eq_true rfl) (Nat.le_of_ble_eq_true rfl) ?_
                  exact (W.zret (v := 0) hx hb hr (by first | rfl | decide) (fun t ht hW => ⟨⟨0, 0, rfl, ⟨rfl, by decide⟩, qn181, zn182, zn183, zn184, zn185, zn186, zn187, zn188, qn189, qn190, (nI o9), fn191, fn192, fn193, zn194, hn195, hn196, hn197, hn198, hn199, hn200, hn201, (fun h9 => absurd h9 (by decide)), (fun h9 => absurd h9 (by decide)), (fun h9 => absurd h9 (by decide)), (fun h9 => absurd h9 (by decide)), (fun h9 => absurd h9 (by decide)), (fun h9 => absurd h9 (by decide)), (fun h9 => absurd h9 (by decide)), (fun h9 => absurd h9 (by decide)), (fun h9 => absurd h9 (by decide)), (fun h9 => absurd h9 (by decide)), (fun h9 => absurd h9 (by decide)), (fun _ => hn212), by rw [ht]; exact hP9, hD9⟩, hS.F ht⟩) hS.2.2 dX10_fact_107)
                · skip
                  have hn202 := hn202 (hw.1.trans hr9)
                  obtain rfl : g20 = zn185 := hn202.symm
                  obtain ⟨hP, hD⟩ : PDq D A [(oX10 w0 v0 v1 v2 v3 v4 g5 g6 (nI ed) g8 v9 (nI nb) g11 g12 v13 (nI ln) (nI (gP qn181)) (nI (gR (qn181 + 1))) zn182 zn183 zn184 g20 zn186 (nI o9) g23 (nI qn189) zn188 zn187 v27 v28 v29 v30 v31 v32 v33 v34 v35 v36 v37 (nI ol)), (v1, .inl (cA 0, 326, .inl fn191)), (v9, .inl (cA 0, 700, .inl fb)), (v13, .inl (cA 1, 15, .inr (.inl fkw))), (v28, .inl (cA 1, 10, .inr (.inl l28))), (v30, .inl (cA 1, 8, .inr (.inl fn193))), (v32, .inl (cA 0, 400, .inl fn192))] H := ⟨hP, hD⟩
                  have hn203 := hn203 (hw.1.trans hr9)
                  obtain rfl : g21 = zn186 := hn203.symm
                  obtain ⟨hP, hD⟩ : PDq D A [(oX10 w0 v0 v1 v2 v3 v4 g5 g6 (nI ed) g8 v9 (nI nb) g11 g12 v13 (nI ln) (nI (gP qn181)) (nI (gR (qn181 + 1))) zn182 zn183 zn184 g20 g21 (nI o9) g23 (nI qn189) zn188 zn187 v27 v28 v29 v30 v31 v32 v33 v34 v35 v36 v37 (nI ol)), (v1, .inl (cA 0, 326, .inl fn191)), (v9, .inl (cA 0, 700, .inl fb)), (v13, .inl (cA 1, 15, .inr (.inl fkw))), (v28, .inl (cA 1, 10, .inr (.inl l28))), (v30, .inl (cA 1, 8, .inr (.inl fn193))), (v32, .inl (cA 0, 400, .inl fn192))] H := ⟨hP, hD⟩
                  have hn204 := hn204 (hw.1.trans hr9)
                  have hn205 := hn205 (hw.1.trans hr9)
                  have hn206 := hn206 (hw.1.trans hr9)
                  have hn207 := hn207 (hw.1.trans hr9)
                  have hn208 := hn208 (hw.1.trans hr9)
                  have hn209 := hn209 (hw.1.trans hr9)
                  have hn210 := hn210 (hw.1.trans hr9)
                  have hn211 := hn211 (hw.1.trans hr9)
                  subst hr9
                  obtain ⟨hP9, hD9⟩ := PDq.sub (ws' := [(oX10 w0 v0 v1 v2 v3 v4 g5 g6 (nI ed) g8 v9 (nI nb) g11 g12 v13 (nI ln) (nI (gP qn181)) (nI (gR (qn181 + 1))) zn182 zn183 zn184 g20 g21 (nI o9) g23 (nI qn189) zn188 zn187 v27 v28 v29 v30 v31 v32 v33 v34 v35 v36 v37 (nI ol)), (v1, .inl (cA 0, 326, .inl fn191)), (v9, .inl (cA 0, 700, .inl fb)), (v13, .inl (cA 1, 15, .inr (.inl fkw))), (v28, .inl (cA 1, 10, .inr (.inl l28))), (v30, .inl (cA 1, 8, .inr (.inl fn193))), (v32, .inl (cA 0, 400, .inl fn192))]) hP hD [0, 1, 2, 3, 4, 5, 6] (by decide) rfl
                  refine W.widen (k := 0) (n := 0) (Nat.le_of_ble_eq_true rfl) (Nat.le_of_ble_eq_true rfl) ?_
                  exact (W.zret (v := 1) hx hb hr (by first | rfl | decide) (fun t ht hW => ⟨⟨1, 1, rfl, ⟨rfl, by decide⟩, qn181, zn182, zn183, zn184, g20, g21, zn187, zn188, qn189, qn190, (nI o9), fn191, fn192, fn193, zn194, hn195, hn196, hn197, hn198, hn199, hn200, hn201, (fun _ => rfl), (fun _ => rfl), (fun _ => rfl), (fun _ => hn204), (fun _ => hn205), (fun _ => hn206), (fun _ => hn207), (fun _ => hn208), (fun _ => hn209), (fun _ => hn210), (fun _ => hn211), (fun h9 => absurd h9 (by decide)), by rw [ht]; exact hP9, hD9⟩, hS.F ht⟩) hS.2.2 dX10_fact_107)
              · skip
                by_cases hn213 : kw = 13
                · skip
                  refine W.eq (g2 := F0 m 32 ls [.int 13]) (by rw [hn213]) ?_
                  refine lv_tableIn (off := 76) (tgt := 108) hx hb dX10_fact_32 (by decide) (by decide) (by decide) (by decide) ?_
                  refine lv_aload_n hx hb dX10_fact_108 rfl (lv_at hl 0 rfl) ?_
                  refine lv_iconst (v := 4) hx hb dX10_fact_109 (by decide) ?_
                  obtain ⟨hPc, hDc, hFc⟩ := PDq.cut (wc := [(oX10 w0 v0 v1 v2 v3 v4 g5 g6 (nI ed) g8 v9 (nI nb) g11 g12 v13 (nI ln) (nI (gP ti)) (nI (gR (ti + 1))) tk kw g19 g20 g21 (nI o9) g23 (nI cd) g25 g26 v27 v28 v29 v30 v31 v32 v33 v34 v35 v36 v37 (nI ol)), (v1, .inl (cA 0, 326, .inl fp)), (v9, .inl (cA 0, 700, .inl fb)), (v13, .inl (cA 1, 15, .inr (.inl fkw))), (v28, .inl (cA 1, 10, .inr (.inl l28))), (v30, .inl (cA 1, 8, .inr (.inl l30))), (v32, .inl (cA 0, 400, .inl fc))]) hP hD hS hA [5, 0, 6, 1, 2, 3, 4] (by decide) rfl
                  refine va_calli (va_runV (As := [.int 4]) (rest := []) ⟨hx, hb, hml, hown, hts⟩ (y_plainFact4 l D cA sa w0 ed nb ol v0 v1 v2 v3 v4 v9 v13 v27 v28 v29 v30 v31 v32 v33 v34 v35 v36 v37 g8 g11 g12 g19 g20 g21 g23 g26 g5 g6 g25 ln cd tk kw ti ct fb fkw gP gR gS gK gV cn pq en dy fp sl o9 l28 l30 fc ml pl (nI o9) H.size hln hct hti hTX hBY hTK hKW hcn hpq hen hdy hri hcd hNM hNP (TKR.kwd (n := 13) hTK (by decide) c40 hn213)) (cwV 1 hts gX10_fact_X10_plainFact rfl rfl rfl (by decide +kernel) ⟨by show (2) + 1 ≤ 21; omega, by show 8 + (2 + 11) + (44) ≤ 340; omega⟩) ⟨Wd.blind, va_recv hK hPc (ci := 11) (q0 := 0) rfl rfl, fun U hU hW => ⟨rfl, Wd.call hPc hDc hK hC hZ hS hFc U hU hW⟩⟩ rfl rfl hl.1 rfl (lv_room (Nat.le_of_ble_eq_true rfl)) dX10_fact_110 ⟨(Nat.le_of_ble_eq_true rfl), (Nat.le_of_ble_eq_true rfl)⟩) hS (fun q _ h => hFc q h) hFc (fun rn214 u t H1 locs ht hvm hw hB hz1 hk1 hS => ?_)
                  obtain ⟨qn215, zn216, zn217, zn218, zn219, zn220, zn221, zn222, qn223, qn224, fn225, fn226, fn227, zn228, hn229, hn230, hn231, hn232, hn233, hn234, hn235, hn236, hn237, hn238, hn239, hn240, hn241, hn242, hn243, hn244, hn245, hn246, hP1, hD1⟩ := hB
                  rw [ht] at hP1
                  obtain ⟨hP, hD⟩ := PDq.join (w := [(oX10 w0 v0 v1 v2 v3 v4 g5 g6 (nI ed) g8 v9 (nI nb) g11 g12 v13 (nI ln) (nI (gP qn215)) (nI (gR (qn215 + 1))) zn216 zn217 zn218 zn219 zn220 (nI o9) g23 (nI qn223) zn222 zn221 v27 v28 v29 v30 v31 v32 v33 v34 v35 v36 v37 (nI ol)), (v1, .inl (cA 0, 326, .inl fn225)), (v9, .inl (cA 0, 700, .inl fb)), (v13, .inl (cA 1, 15, .inr (.inl fkw))), (v28, .inl (cA 1, 10, .inr (.inl l28))), (v30, .inl (cA 1, 8, .inr (.inl fn227))), (v32, .inl (cA 0, 400, .inl fn226))]) 0 hP hD [5, 0, 6, 1, 2, 3, 4] [] rfl rfl (by decide) (by decide) hk1 hFc hP1 hD1 rfl
                  generalize H1 = H at hP hS ⊢
                  rcases hw.2 with hr9 | hr9
                  · skip
                    have hn246 := hn246 (hw.1.trans hr9)
                    subst hr9
                    obtain ⟨hP9, hD9⟩ := PDq.sub (ws' := [(oX10 w0 v0 v1 v2 v3 v4 g5 g6 (nI ed) g8 v9 (nI nb) g11 g12 v13 (nI ln) (nI (gP qn215)) (nI (gR (qn215 + 1))) zn216 zn217 zn218 zn219 zn220 (nI o9) g23 (nI qn223) zn222 zn221 v27 v28 v29 v30 v31 v32 v33 v34 v35 v36 v37 (nI ol)), (v1, .inl (cA 0, 326, .inl fn225)), (v9, .inl (cA 0, 700, .inl fb)), (v13, .inl (cA 1, 15, .inr (.inl fkw))), (v28, .inl (cA 1, 10, .inr (.inl l28))), (v30, .inl (cA 1, 8, .inr (.inl fn227))), (v32, .inl (cA 0, 400, .inl fn226))]) hP hD [0, 1, 2, 3, 4, 5, 6] (by decide) rfl
                    refine W.widen (k := 0) (n := 0) (Nat.le_of_ble_eq_true rfl) (Nat.le_of_ble_eq_true rfl) ?_
                    exact (W.zret (v := 0) hx hb hr (by first | rfl | decide) (fun t ht hW => ⟨⟨0, 0, rfl, ⟨rfl, by decide⟩, qn215, zn216, zn217, zn218, zn219, zn220, zn221, zn222, qn223, qn224, (nI o9), fn225, fn226, fn227, zn228, hn229, hn230, hn231, hn232, hn233, hn234, hn235, (fun h9 => absurd h9 (by decide)), (fun h9 => absurd h9 (by decide)), (fun h9 => absurd h9 (by decide)), (fun h9 => absurd h9 (by decide)), (fun h9 => absurd h9 (by decide)), (fun h9 => absurd h9 (by decide)), (fun h9 => absurd h9 (by decide)), (fun h9 => absurd h9 (by decide)), (fun h9 => absurd h9 (by decide)), (fun h9 => absurd h9 (by decide)), (fun h9 => absurd h9 (by decide)), (fun _ => hn246), by rw [ht]; exact hP9, hD9⟩, hS.F ht⟩) hS.2.2 dX10_fact_113)
                  · skip
                    have hn236 := hn236 (hw.1.trans hr9)
                    obtain rfl : g20 = zn219 := hn236.symm
                    obtain ⟨hP, hD⟩ : PDq D A [(oX10 w0 v0 v1 v2 v3 v4 g5 g6 (nI ed) g8 v9 (nI nb) g11 g12 v13 (nI ln) (nI (gP qn215)) (nI (gR (qn215 + 1))) zn216 zn217 zn218 g20 zn220 (nI o9) g23 (nI qn223) zn222 zn221 v27 v28 v29 v30 v31 v32 v33 v34 v35 v36 v37 (nI ol)), (v1, .inl (cA 0, 326, .inl fn225)), (v9, .inl (cA 0, 700, .inl fb)), (v13, .inl (cA 1, 15, .inr (.inl fkw))), (v28, .inl (cA 1, 10, .inr (.inl l28))), (v30, .inl (cA 1, 8, .inr (.inl fn227))), (v32, .inl (cA 0, 400, .inl fn226))] H := ⟨hP, hD⟩
                    have hn237 := hn237 (hw.1.trans hr9)
                    obtain rfl : g21 = zn220 := hn237.symm
                    obtain ⟨hP, hD⟩ : PDq D A [(oX10 w0 v0 v1 v2 v3 v4 g5 g6 (nI ed) g8 v9 (nI nb) g11 g12 v13 (nI ln) (nI (gP qn215)) (nI (gR (qn215 + 1))) zn216 zn217 zn218 g20 g21 (nI o9) g23 (nI qn223) zn222 zn221 v27 v28 v29 v30 v31 v32 v33 v34 v35 v36 v37 (nI ol)), (v1, .inl (cA 0, 326, .inl fn225)), (v9, .inl (cA 0, 700, .inl fb)), (v13, .inl (cA 1, 15, .inr (.inl fkw))), (v28, .inl (cA 1, 10, .inr (.inl l28))), (v30, .inl (cA 1, 8, .inr (.inl fn227))), (v32, .inl (cA 0, 400, .inl fn226))] H := ⟨hP, hD⟩
                    have hn238 := hn238 (hw.1.trans hr9)
                    have hn239 := hn239 (hw.1.trans hr9)
                    have hn240 := hn240 (hw.1.trans hr9)
                    have hn241 := hn241 (hw.1.trans hr9)
                    have hn242 := hn242 (hw.1.trans hr9)
                    have hn243 := hn243 (hw.1.trans hr9)
                    have hn244 := hn244 (hw.1.trans hr9)
                    have hn245 := hn245 (hw.1.trans hr9)
                    subst hr9
                    obtain ⟨hP9, hD9⟩ := PDq.sub (ws' := [(oX10 w0 v0 v1 v2 v3 v4 g5 g6 (nI ed) g8 v9 (nI nb) g11 g12 v13 (nI ln) (nI (gP qn215)) (nI (gR (qn215 + 1))) zn216 zn217 zn218 g20 g21 (nI o9) g23 (nI qn223) zn222 zn221 v27 v28 v29 v30 v31 v32 v33 v34 v35 v36 v37 (nI ol)), (v1, .inl (cA 0, 326, .inl fn225)), (v9, .inl (cA 0, 700, .inl fb)), (v13, .inl (cA 1, 15, .inr (.inl fkw))), (v28, .inl (cA 1, 10, .inr (.inl l28))), (v30, .inl (cA 1, 8, .inr (.inl fn227))), (v32, .inl (cA 0, 400, .inl fn226))]) hP hD [0, 1, 2, 3, 4, 5, 6] (by decide) rfl
                    refine W.widen (k := 0) (n := 0) (Nat.le_of_ble_eq_true rfl) (Nat.le_of_ble_eq_true rfl) ?_
                    exact (W.zret (v := 1) hx hb hr (by first | rfl | decide) (fun t ht hW => ⟨⟨1, 1, rfl, ⟨rfl, by decide⟩, qn215, zn216, zn217, zn218, g20, g21, zn221, zn222, qn223, qn224, (nI o9), fn225, fn226, fn227, zn228, hn229, hn230, hn231, hn232, hn233, hn234, hn235, (fun _ => rfl), (fun _ => rfl), (fun _ => rfl), (fun _ => hn238), (fun _ => hn239), (fun _ => hn240), (fun _ => hn241), (fun _ => hn242), (fun _ => hn243), (fun _ => hn244), (fun _ => hn245), (fun h9 => absurd h9 (by decide)), by rw [ht]; exact hP9, hD9⟩, hS.F ht⟩) hS.2.2 dX10_fact_113)
                · skip
                  by_cases hn247 : kw = 14
                  · skip
                    refine W.eq (g2 := F0 m 32 ls [.int 14]) (by rw [hn247]) ?_
                    refine lv_tableIn (off := 82) (tgt := 114) hx hb dX10_fact_32 (by decide) (by decide) (by decide) (by decide) ?_
                    refine lv_aload_n hx hb dX10_fact_114 rfl (lv_at hl 0 rfl) ?_
                    refine lv_iconst (v := 5) hx hb dX10_fact_115 (by decide) ?_
                    obtain ⟨hPc, hDc, hFc⟩ := PDq.cut (wc := [(oX10 w0 v0 v1 v2 v3 v4 g5 g6 (nI ed) g8 v9 (nI nb) g11 g12 v13 (nI ln) (nI (gP ti)) (nI (gR (ti + 1))) tk kw g19 g20 g21 (nI o9) g23 (nI cd) g25 g26 v27 v28 v29 v30 v31 v32 v33 v34 v35 v36 v37 (nI ol)), (v1, .inl (cA 0, 326, .inl fp)), (v9, .inl (cA 0, 700, .inl fb)), (v13, .inl (cA 1, 15, .inr (.inl fkw))), (v28, .inl (cA 1, 10, .inr (.inl l28))), (v30, .inl (cA 1, 8, .inr (.inl l30))), (v32, .inl (cA 0, 400, .inl fc))]) hP hD hS hA [5, 0, 6, 1, 2, 3, 4] (by decide) rfl
                    refine va_calli (va_runV (As := [.int 5]) (rest := []) ⟨hx, hb, hml, hown, hts⟩ (y_plainFact5 l D cA sa w0 ed nb ol v0 v1 v2 v3 v4 v9 v13 v27 v28 v29 v30 v31 v32 v33 v34 v35 v36 v37 g8 g11 g12 g19 g20 g21 g23 g26 g5 g6 g25 ln cd tk kw ti ct fb fkw gP gR gS gK gV cn pq en dy fp sl o9 l28 l30 fc ml pl (nI o9) H.size hln hct hti hTX hBY hTK hKW hcn hpq hen hdy hri hcd hNM hNP (TKR.kwd (n := 14) hTK (by decide) c40 hn247)) (cwV 1 hts gX10_fact_X10_plainFact rfl rfl rfl (by decide +kernel) ⟨by show (2) + 1 ≤ 21; omega, by show 8 + (2 + 11) + (44) ≤ 340; omega⟩) ⟨Wd.blind, va_recv hK hPc (ci := 11) (q0 := 0) rfl rfl, fun U hU hW => ⟨rfl, Wd.call hPc hDc hK hC hZ hS hFc U hU hW⟩⟩ rfl rfl hl.1 rfl (lv_room (Nat.le_of_ble_eq_true rfl)) dX10_fact_116 ⟨(Nat.le_of_ble_eq_true rfl), (Nat.le_of_ble_eq_true rfl)⟩) hS (fun q _ h => hFc q h) hFc (fun rn248 u t H1 locs ht hvm hw hB hz1 hk1 hS => ?_)
                    obtain ⟨qn249, zn250, zn251, zn252, zn253, zn254, zn255, zn256, qn257, qn258, fn259, fn260, fn261, zn262, hn263, hn264, hn265, hn266, hn267, hn268, hn269, hn270, hn271, hn272, hn273, hn274, hn275, hn276, hn277, hn278, hn279, hn280, hP1, hD1⟩ := hB
                    rw [ht] at hP1
                    obtain ⟨hP, hD⟩ := PDq.join (w := [(oX10 w0 v0 v1 v2 v3 v4 g5 g6 (nI ed) g8 v9 (nI nb) g11 g12 v13 (nI ln) (nI (gP qn249)) (nI (gR (qn249 + 1))) zn250 zn251 zn252 zn253 zn254 (nI o9) g23 (nI qn257) zn256 zn255 v27 v28 v29 v30 v31 v32 v33 v34 v35 v36 v37 (nI ol)), (v1, .inl (cA 0, 326, .inl fn259)), (v9, .inl (cA 0, 700, .inl fb)), (v13, .inl (cA 1, 15, .inr (.inl fkw))), (v28, .inl (cA 1, 10, .inr (.inl l28))), (v30, .inl (cA 1, 8, .inr (.inl fn261))), (v32, .inl (cA 0, 400, .inl fn260))]) 0 hP hD [5, 0, 6, 1, 2, 3, 4] [] rfl rfl (by decide) (by decide) hk1 hFc hP1 hD1 rfl
                    generalize H1 = H at hP hS ⊢
                    rcases hw.2 with hr9 | hr9
                    · skip
                      have hn280 := hn280 (hw.1.trans hr9)
                      subst hr9
                      obtain ⟨hP9, hD9⟩ := PDq.sub (ws' := [(oX10 w0 v0 v1 v2 v3 v4 g5 g6 (nI ed) g8 v9 (nI nb) g11 g12 v13 (nI ln) (nI (gP qn249)) (nI (gR (qn249 + 1))) zn250 zn251 zn252 zn253 zn254 (nI o9) g23 (nI qn257) zn256 zn255 v27 v28 v29 v30 v31 v32 v33 v34 v35 v36 v37 (nI ol)), (v1, .inl (cA 0, 326, .inl fn259)), (v9, .inl (cA 0, 700, .inl fb)), (v13, .inl (cA 1, 15, .inr (.inl fkw))), (v28, .inl (cA 1, 10, .inr (.inl l28))), (v30, .inl (cA 1, 8, .inr (.inl fn261))), (v32, .inl (cA 0, 400, .inl fn260))]) hP hD [0, 1, 2, 3, 4, 5, 6] (by decide) rfl
                      refine W.widen (k := 0) (n := 0) (Nat.le_of_ble_eq_true rfl) (Nat.le_of_ble_eq_true rfl) ?_
                      exact (W.zret (v := 0) hx hb hr (by first | rfl | decide) (fun t ht hW => ⟨⟨0, 0, rfl, ⟨rfl, by decide⟩, qn249, zn250, zn251, zn252, zn253, zn254, zn255, zn256, qn257, qn258, (nI o9), fn259, fn260, fn261, zn262, hn263, hn264, hn265, hn266, hn267, hn268, hn269, (fun h9 => absurd h9 (by decide)), (fun h9 => absurd h9 (by decide)), (fun h9 => absurd h9 (by decide)), (fun h9 => absurd h9 (by decide)), (fun h9 => absurd h9 (by decide)), (fun h9 => absurd h9 (by decide)), (fun h9 => absurd h9 (by decide)), (fun h9 => absurd h9 (by decide)), (fun h9 => absurd h9 (by decide)), (fun h9 => absurd h9 (by decide)), (fun h9 => absurd h9 (by decide)), (fun _ => hn280), by rw [ht]; exact hP9, hD9⟩, hS.F ht⟩) hS.2.2 dX10_fact_119)
                    · skip
                      have hn270 := hn270 (hw.1.trans hr9)
                      obtain rfl : g20 = zn253 := hn270.symm
                      obtain ⟨hP, hD⟩ : PDq D A [(oX10 w0 v0 v1 v2 v3 v4 g5 g6 (nI ed) g8 v9 (nI nb) g11 g12 v13 (nI ln) (nI (gP qn249)) (nI (gR (qn249 + 1))) zn250 zn251 zn252 g20 zn254 (nI o9) g23 (nI qn257) zn256 zn255 v27 v28 v29 v30 v31 v32 v33 v34 v35 v36 v37 (nI ol)), (v1, .inl (cA 0, 326, .inl fn259)), (v9, .inl (cA 0, 700, .inl fb)), (v13, .inl (cA 1, 15, .inr (.inl fkw))), (v28, .inl (cA 1, 10, .inr (.inl l28))), (v30, .inl (cA 1, 8, .inr (.inl fn261))), (v32, .inl (cA 0, 400, .inl fn260))] H := ⟨hP, hD⟩
                      have hn271 := hn271 (hw.1.trans hr9)
                      obtain rfl : g21 = zn254 := hn271.symm
                      obtain ⟨hP, hD⟩ : PDq D A [(oX10 w0 v0 v1 v2 v3 v4 g5 g6 (nI ed) g8 v9 (nI nb) g11 g12 v13 (nI ln) (nI (gP qn249)) (nI (gR (qn249 + 1))) zn250 zn251 zn252 g20 g21 (nI o9) g23 (nI qn257) zn256 zn255 v27 v28 v29 v30 v31 v32 v33 v34 v35 v36 v37 (nI ol)), (v1, .inl (cA 0, 326, .inl fn259)), (v9, .inl (cA 0, 700, .inl fb)), (v13, .inl (cA 1, 15, .inr (.inl fkw))), (v28, .inl (cA 1, 10, .inr (.inl l28))), (v30, .inl (cA 1, 8, .inr (.inl fn261))), (v32, .inl (cA 0, 400, .inl fn260))] H := ⟨hP, hD⟩
                      have hn272 := hn272 (hw.1.trans hr9)
                      have hn273 := hn273 (hw.1.trans hr9)
                      have hn274 := hn274 (hw.1.trans hr9)
                      have hn275 := hn275 (hw.1.trans hr9)
                      have hn276 := hn276 (hw.1.trans hr9)
                      have hn277 := hn277 (hw.1.trans hr9)
                      have hn278 := hn278 (hw.1.trans hr9)
                      have hn279 := hn279 (hw.1.trans hr9)
                      subst hr9
                      obtain ⟨hP9, hD9⟩ := PDq.sub (ws' := [(oX10 w0 v0 v1 v2 v3 v4 g5 g6 (nI ed) g8 v9 (nI nb) g11 g12 v13 (nI ln) (nI (gP qn249)) (nI (gR (qn249 + 1))) zn250 zn251 zn252 g20 g21 (nI o9) g23 (nI qn257) zn256 zn255 v27 v28 v29 v30 v31 v32 v33 v34 v35 v36 v37 (nI ol)), (v1, .inl (cA 0, 326, .inl fn259)), (v9, .inl (cA 0, 700, .inl fb)), (v13, .inl (cA 1, 15, .inr (.inl fkw))), (v28, .inl (cA 1, 10, .inr (.inl l28))), (v30, .inl (cA 1, 8, .inr (.inl fn261))), (v32, .inl (cA 0, 400, .inl fn260))]) hP hD [0, 1, 2, 3, 4, 5, 6] (by decide) rfl
                      refine W.widen (k := 0) (n := 0) (Nat.le_of_ble_eq_true rfl) (Nat.le_of_ble_eq_true rfl) ?_
                      exact (W.zret (v := 1) hx hb hr (by first | rfl | decide) (fun t ht hW => ⟨⟨1, 1, rfl, ⟨rfl, by decide⟩, qn249, zn250, zn251, zn252, g20, g21, zn255, zn256, qn257, qn258, (nI o9), fn259, fn260, fn261, zn262, hn263, hn264, hn265, hn266, hn267, hn268, hn269, (fun _ => rfl), (fun _ => rfl), (fun _ => rfl), (fun _ => hn272), (fun _ => hn273), (fun _ => hn274), (fun _ => hn275), (fun _ => hn276), (fun _ => hn277), (fun _ => hn278), (fun _ => hn279), (fun h9 => absurd h9 (by decide)), by rw [ht]; exact hP9, hD9⟩, hS.F ht⟩) hS.2.2 dX10_fact_119)
                  · skip
                    refine lv_tableOut (tgt := 120) hx hb dX10_fact_32 (by have q0 : ¬ (kw).toInt = 8 := fun e9 => hn41 (Int32.toInt_inj.mp (e9.trans (by decide))); have q1 : ¬ (kw).toInt = 9 := fun e9 => hn77 (Int32.toInt_inj.mp (e9.trans (by decide))); have q2 : ¬ (kw).toInt = 10 := fun e9 => hn111 (Int32.toInt_inj.mp (e9.trans (by decide))); have q3 : ¬ (kw).toInt = 11 := fun e9 => hn145 (Int32.toInt_inj.mp (e9.trans (by decide))); have q4 : ¬ (kw).toInt = 12 := fun e9 => hn179 (Int32.toInt_inj.mp (e9.trans (by decide))); have q5 : ¬ (kw).toInt = 13 := fun e9 => hn213 (Int32.toInt_inj.mp (e9.trans (by decide))); have q6 : ¬ (kw).toInt = 14 := fun e9 => hn247 (Int32.toInt_inj.mp (e9.trans (by decide))); omega) (by decide) ?_
                    refine lv_aload_n hx hb dX10_fact_120 rfl (lv_at hl 0 rfl) ?_
                    refine lv_iconst (v := 2) hx hb dX10_fact_121 (by decide) ?_
                    obtain ⟨hPc, hDc, hFc⟩ := PDq.cut (wc := [(oX10 w0 v0 v1 v2 v3 v4 g5 g6 (nI ed) g8 v9 (nI nb) g11 g12 v13 (nI ln) (nI (gP ti)) (nI (gR (ti + 1))) tk kw g19 g20 g21 (nI o9) g23 (nI cd) g25 g26 v27 v28 v29 v30 v31 v32 v33 v34 v35 v36 v37 (nI ol))]) hP hD hS hA [5] (by decide) rfl
                    refine va_calli (va_runV (As := [.int 2]) (rest := []) ⟨hx, hb, hml, hown, hts⟩ (y_fail l D cA sa w0 ed nb ol v0 v1 v2 v3 v4 v9 v13 v27 v28 v29 v30 v31 v32 v33 v34 v35 v36 v37 g8 g11 g12 g19 g20 g21 (nI o9) g23 g26 g5 g6 g25 ln cd tk kw ti ct fb gP gR gS gK gV 2 H.size hln hct hti hTX hBY hTK) (cwV 1 hts gX10_fact_X10_fail rfl rfl rfl (by decide +kernel) ⟨by show (0) + 1 ≤ 21; omega, by show 8 + (2 + 11) + (0) ≤ 340; omega⟩) ⟨Wd.blind, va_recv hK hPc (ci := 11) (q0 := 0) rfl rfl, fun U hU hW => ⟨rfl, Wd.call hPc hDc hK hC hZ hS hFc U hU hW⟩⟩ rfl rfl hl.1 rfl (lv_room (Nat.le_of_ble_eq_true rfl)) dX10_fact_122 ⟨(Nat.le_of_ble_eq_true rfl), (Nat.le_of_ble_eq_true rfl)⟩) hS (fun q _ h => hFc q h) hFc (fun rn281 u t H1 locs ht hvm hw hB hz1 hk1 hS => ?_)
                    obtain ⟨zn282, hn283, hP1, hD1⟩ := hB
                    rw [ht] at hP1
                    obtain ⟨hP, hD⟩ := PDq.join (w := [(v1, .inl (cA 0, 326, .inl fp)), (v13, .inl (cA 1, 15, .inr (.inl fkw))), (v28, .inl (cA 1, 10, .inr (.inl l28))), (v30, .inl (cA 1, 8, .inr (.inl l30))), (v32, .inl (cA 0, 400, .inl fc)), (v9, .inl (cA 0, 700, .inl fb)), (oX10 w0 v0 v1 v2 v3 v4 g5 g6 (nI ed) g8 v9 (nI nb) g11 g12 v13 (nI ln) (nI (gP ti)) (nI (gR (ti + 1))) tk kw g19 zn282 (nI (gP ti)) (nI o9) g23 (nI cd) g25 g26 v27 v28 v29 v30 v31 v32 v33 v34 v35 v36 v37 (nI ol))]) 6 hP hD [5] [0, 1, 2, 3, 4, 6] rfl rfl (by decide) (by decide) hk1 hFc hP1 hD1 rfl
                    generalize H1 = H at hP hS ⊢
                    obtain rfl : rn281 = 0 := hw
                    obtain ⟨hP9, hD9⟩ := PDq.sub (ws' := [(oX10 w0 v0 v1 v2 v3 v4 g5 g6 (nI ed) g8 v9 (nI nb) g11 g12 v13 (nI ln) (nI (gP ti)) (nI (gR (ti + 1))) tk kw g19 zn282 (nI (gP ti)) (nI o9) g23 (nI cd) g25 g26 v27 v28 v29 v30 v31 v32 v33 v34 v35 v36 v37 (nI ol)), (v1, .inl (cA 0, 326, .inl fp)), (v9, .inl (cA 0, 700, .inl fb)), (v13, .inl (cA 1, 15, .inr (.inl fkw))), (v28, .inl (cA 1, 10, .inr (.inl l28))), (v30, .inl (cA 1, 8, .inr (.inl l30))), (v32, .inl (cA 0, 400, .inl fc))]) hP hD [6, 0, 5, 1, 2, 3, 4] (by decide) rfl
                    refine W.widen (k := 0) (n := 0) (Nat.le_of_ble_eq_true rfl) (Nat.le_of_ble_eq_true rfl) ?_
                    exact (W.zret (v := 0) hx hb hr (by first | rfl | decide) (fun t ht hW => ⟨⟨0, 0, rfl, ⟨rfl, by decide⟩, ti, tk, kw, g19, zn282, (nI (gP ti)), g26, g25, cd, pq, (nI o9), fp, fc, l30, pl, hti, (by omega), (by omega), hTK, hpq, hri, hNP, (fun h9 => absurd h9 (by decide)), (fun h9 => absurd h9 (by decide)), (fun h9 => absurd h9 (by decide)), (fun h9 => absurd h9 (by decide)), (fun h9 => absurd h9 (by decide)), (fun h9 => absurd h9 (by decide)), (fun h9 => absurd h9 (by decide)), (fun h9 => absurd h9 (by decide)), (fun h9 => absurd h9 (by decide)), (fun h9 => absurd h9 (by decide)), (fun h9 => absurd h9 (by decide)), (fun _ => (P_nonex hn2 (TKR.nsw hTK 8 14 (by decide) (fun n9 a9 b9 => by rcases (show n9 = 8 ∨ n9 = 9 ∨ n9 = 10 ∨ n9 = 11 ∨ n9 = 12 ∨ n9 = 13 ∨ n9 = 14 by omega) with rfl | rfl | rfl | rfl | rfl | rfl | rfl; exact hn41; exact hn77; exact hn111; exact hn145; exact hn179; exact hn213; exact hn247)) hn283 (TX.s hTX (show ti < ct by omega)))), by rw [ht]; exact hP9, hD9⟩, hS.F ht⟩) hS.2.2 dX10_fact_125)
    · skip
      refine lv_aload_n hx hb dX10_fact_22 rfl (lv_at hl 0 rfl) ?_
      refine lv_iconst (v := 2) hx hb dX10_fact_23 (by decide) ?_
      obtain ⟨hPc, hDc, hFc⟩ := PDq.cut (wc := [(oX10 w0 v0 v1 v2 v3 v4 g5 g6 (nI ed) g8 v9 (nI nb) g11 g12 v13 (nI ln) (nI (gP ti)) (nI (gR (ti + 1))) tk kw g19 g20 g21 (nI o9) g23 (nI cd) g25 g26 v27 v28 v29 v30 v31 v32 v33 v34 v35 v36 v37 (nI ol))]) hP hD hS hA [5] (by decide) rfl
      refine va_calli (va_runV (As := [.int 2]) (rest := []) ⟨hx, hb, hml, hown, hts⟩ (y_fail l D cA sa w0 ed nb ol v0 v1 v2 v3 v4 v9 v13 v27 v28 v29 v30 v31 v32 v33 v34 v35 v36 v37 g8 g11 g12 g19 g20 g21 (nI o9) g23 g26 g5 g6 g25 ln cd tk kw ti ct fb gP gR gS gK gV 2 H.size hln hct hti hTX hBY hTK) (cwV 1 hts gX10_fact_X10_fail rfl rfl rfl (by decide +kernel) ⟨by show (0) + 1 ≤ 21; omega, by show 8 + (2 + 11) + (0) ≤ 340; omega⟩) ⟨Wd.blind, va_recv hK hPc (ci := 11) (q0 := 0) rfl rfl, fun U hU hW => ⟨rfl, Wd.call hPc hDc hK hC hZ hS hFc U hU hW⟩⟩ rfl rfl hl.1 rfl (lv_room (Nat.le_of_ble_eq_true rfl)) dX10_fact_24 ⟨(Nat.le_of_ble_eq_true rfl), (Nat.le_of_ble_eq_true rfl)⟩) hS (fun q _ h => hFc q h) hFc (fun rn284 u t H1 locs ht hvm hw hB hz1 hk1 hS => ?_)
      obtain ⟨zn285, hn286, hP1, hD1⟩ := hB
      rw [ht] at hP1
      obtain ⟨hP, hD⟩ := PDq.join (w := [(v1, .inl (cA 0, 326, .inl fp)), (v13, .inl (cA 1, 15, .inr (.inl fkw))), (v28, .inl (cA 1, 10, .inr (.inl l28))), (v30, .inl (cA 1, 8, .inr (.inl l30))), (v32, .inl (cA 0, 400, .inl fc)), (v9, .inl (cA 0, 700, .inl fb)), (oX10 w0 v0 v1 v2 v3 v4 g5 g6 (nI ed) g8 v9 (nI nb) g11 g12 v13 (nI ln) (nI (gP ti)) (nI (gR (ti + 1))) tk kw g19 zn285 (nI (gP ti)) (nI o9) g23 (nI cd) g25 g26 v27 v28 v29 v30 v31 v32 v33 v34 v35 v36 v37 (nI ol))]) 6 hP hD [5] [0, 1, 2, 3, 4, 6] rfl rfl (by decide) (by decide) hk1 hFc hP1 hD1 rfl
      generalize H1 = H at hP hS ⊢
      obtain rfl : rn284 = 0 := hw
      obtain ⟨hP9, hD9⟩ := PDq.sub (ws' := [(oX10 w0 v0 v1 v2 v3 v4 g5 g6 (nI ed) g8 v9 (nI nb) g11 g12 v13 (nI ln) (nI (gP ti)) (nI (gR (ti + 1))) tk kw g19 zn285 (nI (gP ti)) (nI o9) g23 (nI cd) g25 g26 v27 v28 v29 v30 v31 v32 v33 v34 v35 v36 v37 (nI ol)), (v1, .inl (cA 0, 326, .inl fp)), (v9, .inl (cA 0, 700, .inl fb)), (v13, .inl (cA 1, 15, .inr (.inl fkw))), (v28, .inl (cA 1, 10, .inr (.inl l28))), (v30, .inl (cA 1, 8, .inr (.inl l30))), (v32, .inl (cA 0, 400, .inl fc))]) hP hD [6, 0, 5, 1, 2, 3, 4] (by decide) rfl
      refine W.widen (k := 0) (n := 0) (Nat.le_of_ble_eq_true rfl) (Nat.le_of_ble_eq_true rfl) ?_
      exact (W.zret (v := 0) hx hb hr (by first | rfl | decide) (fun t ht hW => ⟨⟨0, 0, rfl, ⟨rfl, by decide⟩, ti, tk, kw, g19, zn285, (nI (gP ti)), g26, g25, cd, pq, (nI o9), fp, fc, l30, pl, hti, (by omega), (by omega), hTK, hpq, hri, hNP, (fun h9 => absurd h9 (by decide)), (fun h9 => absurd h9 (by decide)), (fun h9 => absurd h9 (by decide)), (fun h9 => absurd h9 (by decide)), (fun h9 => absurd h9 (by decide)), (fun h9 => absurd h9 (by decide)), (fun h9 => absurd h9 (by decide)), (fun h9 => absurd h9 (by decide)), (fun h9 => absurd h9 (by decide)), (fun h9 => absurd h9 (by decide)), (fun h9 => absurd h9 (by decide)), (fun _ => (P_nonex hn2 (TKR.n2 hTK c40 16 22 (by decide)) hn286 (TX.s hTX (show ti < ct by omega)))), by rw [ht]; exact hP9, hD9⟩, hS.F ht⟩) hS.2.2 dX10_fact_27)

set_option maxHeartbeats 4000000 in
set_option maxRecDepth 100000 in
/-- reference: both -/
theorem y_both_B (l : Launch) (D : va_G) (cA : Nat → ClassId) (sa : Nat → Nat) (w0 : Nat) (ed : Nat) (nb : Nat) (ol : Nat) (v0 : Nat) (v1 : Nat) (v2 : Nat) (v3 : Nat) (v4 : Nat) (v9 : Nat) (v13 : Nat) (v27 : Nat) (v28 : Nat) (v29 : Nat) (v30 : Nat) (v31 : Nat) (v32 : Nat) (v33 : Nat) (v34 : Nat) (v35 : Nat) (v36 : Nat) (v37 : Nat) (g8 : Int32) (g11 : Int32) (g12 : Int32) (g19 : Int32) (g20 : Int32) (g21 : Int32) (g23 : Int32) (g26 : Int32) (g5 : Int64) (g6 : Int64) (g25 : Int64) (ln : Nat) (cd : Nat) (tk : Int32) (kw : Int32) (ti : Nat) (ct : Nat) (fb : Nat → Int32) (fkw : Nat → Int64) (gP : Nat → Nat) (gR : Nat → Nat) (gS : Nat → Int32) (gK : Nat → Int32) (gV : Nat → Int64) (cn : Nat) (pq : Nat) (en : Nat) (dy : Nat) (fp : Nat → Int32) (sl : Nat) (o9 : Nat) (l28 : Nat → Int64) (l30 : Nat → Int64) (fc : Nat → Int32) (ml : List Int64) (pl : List Int64) (sz : Nat) (hln : ln ≤ 700) (hct : ct ≤ 701) (hti : ti < ct) (hTX : TX fb ln ct gP gR gS gV gK) (hBY : BYn ln fb) (hTK : TKR (gK ti) (gV ti) (fb (gP ti)) tk kw g19 g25) (hKW : KW 15 fkw) (hcn : cn ≤ 10) (hpq : pq ≤ 8) (hen : en ≤ 60) (hdy : dy ≤ 20000) (hri : RI cn pq en dy fp) (hcd : 2 * cd + sl ≤ gP ti) (hNM : NL ml cn l28) (hNP : NL pl pq l30) (ho : o9 = 8) : Met l yX10_both wsX10_both ({ frames := 22, cells := 0, slots := 0, locals := 360 }) (va_Pc [.ref w0] (Wd D cA sa [(oX10 w0 v0 v1 v2 v3 v4 g5 g6 (nI ed) g8 v9 (nI nb) g11 g12 v13 (nI ln) (nI (gP ti)) (nI (gR (ti + 1))) tk kw g19 g20 g21 (nI o9) g23 (nI cd) g25 g26 v27 v28 v29 v30 v31 v32 v33 v34 v35 v36 v37 (nI ol)), (v1, .inl (cA 0, 326, .inl fp)), (v9, .inl (cA 0, 700, .inl fb)), (v13, .inl (cA 1, 15, .inr (.inl fkw))), (v28, .inl (cA 1, 10, .inr (.inl l28))), (v30, .inl (cA 1, 8, .inr (.inl l30))), (v32, .inl (cA 0, 400, .inl fc))] sz)) (va_Qi (fun (r : Int32) (u9 : Int32) => u9 = r ∧ (r = 0 ∨ r = 1)) (fun (u9 : Int32) t => ∃ tj : Nat, ∃ z17 : Int32, ∃ z18 : Int32, ∃ z19 : Int32, ∃ z20 : Int32, ∃ z21 : Int32, ∃ z26 : Int32, ∃ z25 : Int64, ∃ cd2 : Nat, ∃ pq2 : Nat, ∃ zop : Int32, ∃ zp : Nat → Int32, ∃ zc : Nat → Int32, ∃ zl : Nat → Int64, ∃ zpl : List Int64, tj < ct ∧ gP tj ≤ ln ∧ ti ≤ tj ∧ TKR (gK tj) (gV tj) (fb (gP tj)) z17 z18 z19 z25 ∧ pq2 ≤ 8 ∧ RI cn pq2 en dy zp ∧ NL zpl pq2 zl ∧ (u9 = 1 → zop = (nI o9)) ∧ (u9 = 1 → z20 = g20) ∧ (u9 = 1 → z21 = g21) ∧ (u9 = 1 → ti + 1 ≤ tj) ∧ (u9 = 1 → cd ≤ cd2) ∧ (u9 = 1 → 2 * cd2 + sl ≤ gP tj) ∧ (u9 = 1 → Kp cd fc zc) ∧ (u9 = 1 → Sg cd cd2 zc) ∧ (u9 = 1 → PRx gK gS gV ml 1 o9 ti pl (.inr (tj, zpl))) ∧ (u9 = 1 → CR9 gK gV 1 ti tj ml pl zpl cd cd2 fc zc) ∧ (u9 = 1 → K14 fp zp) ∧ (u9 = 0 → PRx gK gS gV ml 1 o9 ti pl (.inl (z20, z21))) ∧ Wq D (va_A [(oX10 w0 v0 v1 v2 v3 v4 g5 g6 (nI ed) g8 v9 (nI nb) g11 g12 v13 (nI ln) (nI (gP ti)) (nI (gR (ti + 1))) tk kw g19 g20 g21 (nI o9) g23 (nI cd) g25 g26 v27 v28 v29 v30 v31 v32 v33 v34 v35 v36 v37 (nI ol)), (v1, .inl (cA 0, 326, .inl fp)), (v9, .inl (cA 0, 700, .inl fb)), (v13, .inl (cA 1, 15, .inr (.inl fkw))), (v28, .inl (cA 1, 10, .inr (.inl l28))), (v30, .inl (cA 1, 8, .inr (.inl l30))), (v32, .inl (cA 0, 400, .inl fc))] sz) [(oX10 w0 v0 v1 v2 v3 v4 g5 g6 (nI ed) g8 v9 (nI nb) g11 g12 v13 (nI ln) (nI (gP tj)) (nI (gR (tj + 1))) z17 z18 z19 z20 z21 zop g23 (nI cd2) z25 z26 v27 v28 v29 v30 v31 v32 v33 v34 v35 v36 v37 (nI ol)), (v1, .inl (cA 0, 326, .inl zp)), (v9, .inl (cA 0, 700, .inl fb)), (v13, .inl (cA 1, 15, .inr (.inl fkw))), (v28, .inl (cA 1, 10, .inr (.inl l28))), (v30, .inl (cA 1, 8, .inr (.inl zl))), (v32, .inl (cA 0, 400, .inl zc))] t) (va_A [(oX10 w0 v0 v1 v2 v3 v4 g5 g6 (nI ed) g8 v9 (nI nb) g11 g12 v13 (nI ln) (nI (gP ti)) (nI (gR (ti + 1))) tk kw g19 g20 g21 (nI o9) g23 (nI cd) g25 g26 v27 v28 v29 v30 v31 v32 v33 v34 v35 v36 v37 (nI ol)), (v1, .inl (cA 0, 326, .inl fp)), (v9, .inl (cA 0, 700, .inl fb)), (v13, .inl (cA 1, 15, .inr (.inl fkw))), (v28, .inl (cA 1, 10, .inr (.inl l28))), (v30, .inl (cA 1, 8, .inr (.inl l30))), (v32, .inl (cA 0, 400, .inl fc))] sz)) 0 0 (va_A [(oX10 w0 v0 v1 v2 v3 v4 g5 g6 (nI ed) g8 v9 (nI nb) g11 g12 v13 (nI ln) (nI (gP ti)) (nI (gR (ti + 1))) tk kw g19 g20 g21 (nI o9) g23 (nI cd) g25 g26 v27 v28 v29 v30 v31 v32 v33 v34 v35 v36 v37 (nI ol)), (v1, .inl (cA 0, 326, .inl fp)), (v9, .inl (cA 0, 700, .inl fb)), (v13, .inl (cA 1, 15, .inr (.inl fkw))), (v28, .inl (cA 1, 10, .inr (.inl l28))), (v30, .inl (cA 1, 8, .inr (.inl l30))), (v32, .inl (cA 0, 400, .inl fc))] sz) := by
  refine Met.ofW (cc := cX10_both) (maxL := 1) (ret := (some .boolean)) (by decide) rfl ?_
  intro p e s m args below meth c s₁ B hml hv
  obtain ⟨rfl, hsz, hP, hK, hD0, hC, hZ⟩ := hv
  have hx := B.exec
  have hb := B.bytes
  have hr := B.returns
  have hts := atoms_spec (ws := wsX10_both) B.pre
  have hown : s.vm.findClass RX10 = some m.cls := findClass_of_methodNamed B.named
  have hlocks := B.notSynchronized
  subst hsz
  have hD := hD0.self (sz := s.heap.size)
  generalize hAe : va_A [(oX10 w0 v0 v1 v2 v3 v4 g5 g6 (nI ed) g8 v9 (nI nb) g11 g12 v13 (nI ln) (nI (gP ti)) (nI (gR (ti + 1))) tk kw g19 g20 g21 (nI o9) g23 (nI cd) g25 g26 v27 v28 v29 v30 v31 v32 v33 v34 v35 v36 v37 (nI ol)), (v1, .inl (cA 0, 326, .inl fp)), (v9, .inl (cA 0, 700, .inl fb)), (v13, .inl (cA 1, 15, .inr (.inl fkw))), (v28, .inl (cA 1, 10, .inr (.inl l28))), (v30, .inl (cA 1, 8, .inr (.inl l30))), (v32, .inl (cA 0, 400, .inl fc))] s.heap.size = A at hD hZ ⊢
  have hA : ∀ q : Nat, s.heap.size ≤ q → A q := fun q h => by rw [← hAe]; exact Or.inr h
  have hS : va_S A s.heap s.heap [] := va_S.rf
  have hP : va_P D vwCl [(oX10 w0 v0 v1 v2 v3 v4 g5 g6 (nI ed) g8 v9 (nI nb) g11 g12 v13 (nI ln) (nI (gP ti)) (nI (gR (ti + 1))) tk kw g19 g20 g21 (nI o9) g23 (nI cd) g25 g26 v27 v28 v29 v30 v31 v32 v33 v34 v35 v36 v37 (nI ol)), (v1, .inl (cA 0, 326, .inl fp)), (v9, .inl (cA 0, 700, .inl fb)), (v13, .inl (cA 1, 15, .inr (.inl fkw))), (v28, .inl (cA 1, 10, .inr (.inl l28))), (v30, .inl (cA 1, 8, .inr (.inl l30))), (v32, .inl (cA 0, 400, .inl fc))] s.heap := hP
  have hl := lv_entry ([.ref w0]) (n := 1) (Nat.le_of_ble_eq_true rfl)
  rw [lg_entry_eq]
  generalize (lg_sl ([.ref w0]) ++ List.replicate (1 - (lg_sl ([.ref w0])).length) Slot.unset).toArray = ls at hl ⊢
  have hl : lv_has ls 1 [(0, .ref w0)] := hl
  have hle9 := TX.le hTX hti
  refine lv_aload_n hx hb dX10_both_0 rfl (lv_at hl 0 rfl) ?_
  obtain ⟨hPc, hDc, hFc⟩ := PDq.cut (wc := [(oX10 w0 v0 v1 v2 v3 v4 g5 g6 (nI ed) g8 v9 (nI nb) g11 g12 v13 (nI ln) (nI (gP ti)) (nI (gR (ti + 1))) tk kw g19 g20 g21 (nI o9) g23 (nI cd) g25 g26 v27 v28 v29 v30 v31 v32 v33 v34 v35 v36 v37 (nI ol)), (v1, .inl (cA 0, 326, .inl fp)), (v9, .inl (cA 0, 700, .inl fb)), (v13, .inl (cA 1, 15, .inr (.inl fkw))), (v28, .inl (cA 1, 10, .inr (.inl l28))), (v30, .inl (cA 1, 8, .inr (.inl l30))), (v32, .inl (cA 0, 400, .inl fc))]) hP hD hS hA [0, 1, 2, 3, 4, 5, 6] (by decide) rfl
  refine va_calli (va_runV (As := []) (rest := []) ⟨hx, hb, hml, hown, hts⟩ (y_fact_B l D cA sa w0 ed nb ol v0 v1 v2 v3 v4 v9 v13 v27 v28 v29 v30 v31 v32 v33 v34 v35 v36 v37 g8 g11 g12 g19 g20 g21 g23 g26 g5 g6 g25 ln cd tk kw ti ct fb fkw gP gR gS gK gV cn pq en dy fp sl o9 l28 l30 fc ml pl s.heap.size hln hct hti hTX hBY hTK hKW hcn hpq hen hdy hri hcd hNM hNP ho) (cwV 0 hts gX10_both_X10_fact rfl rfl rfl (by decide +kernel) ⟨by show (21) + 1 ≤ 22; omega, by show 8 + (1 + 11) + (340) ≤ 360; omega⟩) ⟨Wd.blind, va_recv hK hPc (ci := 11) (q0 := 0) rfl rfl, fun U hU hW => ⟨rfl, Wd.call hPc hDc hK hC hZ hS hFc U hU hW⟩⟩ rfl rfl hl.1 rfl (lv_room (Nat.le_of_ble_eq_true rfl)) dX10_both_1 ⟨(Nat.le_of_ble_eq_true rfl), (Nat.le_of_ble_eq_true rfl)⟩) hS (fun q _ h => hFc q h) hFc (fun rn1 u t H1 locs ht hvm hw hB hz1 hk1 hS => ?_)
  obtain ⟨qn2, zn3, zn4, zn5, zn6, zn7, zn8, zn9, qn10, qn11, zn12, fn13, fn14, fn15, zn16, hn17, hn18, hn19, hn20, hn21, hn22, hn23, hn24, hn25, hn26, hn27, hn28, hn29, hn30, hn31, hn32, hn33, hn34, hn35, hP1, hD1⟩ := hB
  rw [ht] at hP1
  obtain ⟨hP, hD⟩ := PDq.join (w := [(oX10 w0 v0 v1 v2 v3 v4 g5 g6 (nI ed) g8 v9 (nI nb) g11 g12 v13 (nI ln) (nI (gP qn2)) (nI (gR (qn2 + 1))) zn3 zn4 zn5 zn6 zn7 zn12 g23 (nI qn10) zn9 zn8 v27 v28 v29 v30 v31 v32 v33 v34 v35 v36 v37 (nI ol)), (v1, .inl (cA 0, 326, .inl fn13)), (v9, .inl (cA 0, 700, .inl fb)), (v13, .inl (cA 1, 15, .inr (.inl fkw))), (v28, .inl (cA 1, 10, .inr (.inl l28))), (v30, .inl (cA 1, 8, .inr (.inl fn15))), (v32, .inl (cA 0, 400, .inl fn14))]) 0 hP hD [0, 1, 2, 3, 4, 5, 6] [] rfl rfl (by decide) (by decide) hk1 hFc hP1 hD1 rfl
  generalize H1 = H at hP hS ⊢
  rcases hw.2 with hr9 | hr9
  · skip
    have hn35 := hn35 (hw.1.trans hr9)
    subst hr9
    refine lv_if_ne (tgt := 9) hx hb dX10_both_4 (by decide) (fun c9 => absurd c9 (by decide)) (fun c36 => ?_)
    refine lv_iconst (v := 0) hx hb dX10_both_7 (by decide) ?_
    obtain ⟨hP9, hD9⟩ := PDq.sub (ws' := [(oX10 w0 v0 v1 v2 v3 v4 g5 g6 (nI ed) g8 v9 (nI nb) g11 g12 v13 (nI ln) (nI (gP qn2)) (nI (gR (qn2 + 1))) zn3 zn4 zn5 zn6 zn7 zn12 g23 (nI qn10) zn9 zn8 v27 v28 v29 v30 v31 v32 v33 v34 v35 v36 v37 (nI ol)), (v1, .inl (cA 0, 326, .inl fn13)), (v9, .inl (cA 0, 700, .inl fb)), (v13, .inl (cA 1, 15, .inr (.inl fkw))), (v28, .inl (cA 1, 10, .inr (.inl l28))), (v30, .inl (cA 1, 8, .inr (.inl fn15))), (v32, .inl (cA 0, 400, .inl fn14))]) hP hD [0, 1, 2, 3, 4, 5, 6] (by decide) rfl
    refine W.widen (k := 0) (n := 0) (Nat.le_of_ble_eq_true rfl) (Nat.le_of_ble_eq_true rfl) ?_
    exact (W.zret (v := 0) hx hb hr (by first | rfl | decide) (fun t ht hW => ⟨⟨0, 0, rfl, ⟨rfl, by decide⟩, qn2, zn3, zn4, zn5, zn6, zn7, zn8, zn9, qn10, qn11, zn12, fn13, fn14, fn15, zn16, hn17, hn18, hn19, hn20, hn21, hn22, hn23, (fun h9 => absurd h9 (by decide)), (fun h9 => absurd h9 (by decide)), (fun h9 => absurd h9 (by decide)), (fun h9 => absurd h9 (by decide)), (fun h9 => absurd h9 (by decide)), (fun h9 => absurd h9 (by decide)), (fun h9 => absurd h9 (by decide)), (fun h9 => absurd h9 (by decide)), (fun h9 => absurd h9 (by decide)), (fun h9 => absurd h9 (by decide)), (fun h9 => absurd h9 (by decide)), (fun _ => (P_bothE hn35)), by rw [ht]; exact hP9, hD9⟩, hS.F ht⟩) hS.2.2 dX10_both_8)
  · skip
    have hn24 := hn24 (hw.1.trans hr9)
    subst hn24
    obtain ⟨hP, hD⟩ : PDq D A [(oX10 w0 v0 v1 v2 v3 v4 g5 g6 (nI ed) g8 v9 (nI nb) g11 g12 v13 (nI ln) (nI (gP qn2)) (nI (gR (qn2 + 1))) zn3 zn4 zn5 zn6 zn7 (nI o9) g23 (nI qn10) zn9 zn8 v27 v28 v29 v30 v31 v32 v33 v34 v35 v36 v37 (nI ol)), (v1, .inl (cA 0, 326, .inl fn13)), (v9, .inl (cA 0, 700, .inl fb)), (v13, .inl (cA 1, 15, .inr (.inl fkw))), (v28, .inl (cA 1, 10, .inr (.inl l28))), (v30, .inl (cA 1, 8, .inr (.inl fn15))), (v32, .inl (cA 0, 400, .inl fn14))] H := ⟨hP, hD⟩
    have hn25 := hn25 (hw.1.trans hr9)
    obtain rfl : g20 = zn6 := hn25.symm
    obtain ⟨hP, hD⟩ : PDq D A [(oX10 w0 v0 v1 v2 v3 v4 g5 g6 (nI ed) g8 v9 (nI nb) g11 g12 v13 (nI ln) (nI (gP qn2)) (nI (gR (qn2 + 1))) zn3 zn4 zn5 g20 zn7 (nI o9) g23 (nI qn10) zn9 zn8 v27 v28 v29 v30 v31 v32 v33 v34 v35 v36 v37 (nI ol)), (v1, .inl (cA 0, 326, .inl fn13)), (v9, .inl (cA 0, 700, .inl fb)), (v13, .inl (cA 1, 15, .inr (.inl fkw))), (v28, .inl (cA 1, 10, .inr (.inl l28))), (v30, .inl (cA 1, 8, .inr (.inl fn15))), (v32, .inl (cA 0, 400, .inl fn14))] H := ⟨hP, hD⟩
    have hn26 := hn26 (hw.1.trans hr9)
    obtain rfl : g21 = zn7 := hn26.symm
    obtain ⟨hP, hD⟩ : PDq D A [(oX10 w0 v0 v1 v2 v3 v4 g5 g6 (nI ed) g8 v9 (nI nb) g11 g12 v13 (nI ln) (nI (gP qn2)) (nI (gR (qn2 + 1))) zn3 zn4 zn5 g20 g21 (nI o9) g23 (nI qn10) zn9 zn8 v27 v28 v29 v30 v31 v32 v33 v34 v35 v36 v37 (nI ol)), (v1, .inl (cA 0, 326, .inl fn13)), (v9, .inl (cA 0, 700, .inl fb)), (v13, .inl (cA 1, 15, .inr (.inl fkw))), (v28, .inl (cA 1, 10, .inr (.inl l28))), (v30, .inl (cA 1, 8, .inr (.inl fn15))), (v32, .inl (cA 0, 400, .inl fn14))] H := ⟨hP, hD⟩
    have hn27 := hn27 (hw.1.trans hr9)
    have hn28 := hn28 (hw.1.trans hr9)
    have hn29 := hn29 (hw.1.trans hr9)
    have hn30 := hn30 (hw.1.trans hr9)
    have hn31 := hn31 (hw.1.trans hr9)
    have hn32 := hn32 (hw.1.trans hr9)
    have hn33 := hn33 (hw.1.trans hr9)
    have hn34 := hn34 (hw.1.trans hr9)
    subst hr9
    refine lv_if_ne (tgt := 9) hx hb dX10_both_4 (by decide) (fun c37 => ?_) (fun c9 => absurd c9 (by decide))
    have loop1 : ∀ (n1 i1 : Nat) (tii : Nat) (qi : Nat) (pli : List Int64) (u0_17_1 : Int32) (u0_18_1 : Int32) (u0_19_1 : Int32) (cdi : Nat) (u0_25_1 : Int64) (u0_26_1 : Int32) (f1_1 : Nat → Int32) (f5_1 : Nat → Int64) (f6_1 : Nat → Int32) (H : Heap) (locs : List Loc) (ls : Array Slot), i1 + n1 = 701 → i1 ≤ tii → tii < ct → gP tii ≤ ln → TKR (gK tii) (gV tii) (fb (gP tii)) u0_17_1 u0_18_1 u0_19_1 u0_25_1 → ti + 1 ≤ tii → cd ≤ cdi → 2 * cdi + sl ≤ gP tii → qi ≤ 8 → RI cn qi en dy f1_1 → NL pli qi f5_1 → Kp cd fc f6_1 → Sg cd cdi f6_1 → Cn gK gS gV ml 1 o9 ti pl 2 tii pli → CRL gK gV 1 ti 2 tii ml pl pli cd cdi fc f6_1 → K14 fp f1_1 → va_P D vwCl [(oX10 w0 v0 v1 v2 v3 v4 g5 g6 (nI ed) g8 v9 (nI nb) g11 g12 v13 (nI ln) (nI (gP tii)) (nI (gR (tii + 1))) u0_17_1 u0_18_1 u0_19_1 g20 g21 (nI o9) g23 (nI cdi) u0_25_1 u0_26_1 v27 v28 v29 v30 v31 v32 v33 v34 v35 v36 v37 (nI ol)), (v1, .inl (cA 0, 326, .inl f1_1)), (v9, .inl (cA 0, 700, .inl fb)), (v13, .inl (cA 1, 15, .inr (.inl fkw))), (v28, .inl (cA 1, 10, .inr (.inl l28))), (v30, .inl (cA 1, 8, .inr (.inl f5_1))), (v32, .inl (cA 0, 400, .inl f6_1))] H → va_D A [(oX10 w0 v0 v1 v2 v3 v4 g5 g6 (nI ed) g8 v9 (nI nb) g11 g12 v13 (nI ln) (nI (gP tii)) (nI (gR (tii + 1))) u0_17_1 u0_18_1 u0_19_1 g20 g21 (nI o9) g23 (nI cdi) u0_25_1 u0_26_1 v27 v28 v29 v30 v31 v32 v33 v34 v35 v36 v37 (nI ol)), (v1, .inl (cA 0, 326, .inl f1_1)), (v9, .inl (cA 0, 700, .inl fb)), (v13, .inl (cA 1, 15, .inr (.inl fkw))), (v28, .inl (cA 1, 10, .inr (.inl l28))), (v30, .inl (cA 1, 8, .inr (.inl f5_1))), (v32, .inl (cA 0, 400, .inl f6_1))] → va_S A s.heap H locs → lv_has ls 1 [(0, .ref w0)] → W p l e (headSpec wsX10_both ({ frames := 22, cells := 0, slots := 0, locals := 360 } : Room)).room s m ([.ref w0] : List Value).toArray below meth c H locs 0 0 (MQ below (va_Qi (fun (r : Int32) (u9 : Int32) => u9 = r ∧ (r = 0 ∨ r = 1)) (fun (u9 : Int32) t => ∃ tj : Nat, ∃ z17 : Int32, ∃ z18 : Int32, ∃ z19 : Int32, ∃ z20 : Int32, ∃ z21 : Int32, ∃ z26 : Int32, ∃ z25 : Int64, ∃ cd2 : Nat, ∃ pq2 : Nat, ∃ zop : Int32, ∃ zp : Nat → Int32, ∃ zc : Nat → Int32, ∃ zl : Nat → Int64, ∃ zpl : List Int64, tj < ct ∧ gP tj ≤ ln ∧ ti ≤ tj ∧ TKR (gK tj) (gV tj) (fb (gP tj)) z17 z18 z19 z25 ∧ pq2 ≤ 8 ∧ RI cn pq2 en dy zp ∧ NL zpl pq2 zl ∧ (u9 = 1 → zop = (nI o9)) ∧ (u9 = 1 → z20 = g20) ∧ (u9 = 1 → z21 = g21) ∧ (u9 = 1 → ti + 1 ≤ tj) ∧ (u9 = 1 → cd ≤ cd2) ∧ (u9 = 1 → 2 * cd2 + sl ≤ gP tj) ∧ (u9 = 1 → Kp cd fc zc) ∧ (u9 = 1 → Sg cd cd2 zc) ∧ (u9 = 1 → PRx gK gS gV ml 1 o9 ti pl (.inr (tj, zpl))) ∧ (u9 = 1 → CR9 gK gV 1 ti tj ml pl zpl cd cd2 fc zc) ∧ (u9 = 1 → K14 fp zp) ∧ (u9 = 0 → PRx gK gS gV ml 1 o9 ti pl (.inl (z20, z21))) ∧ Wq D A [(oX10 w0 v0 v1 v2 v3 v4 g5 g6 (nI ed) g8 v9 (nI nb) g11 g12 v13 (nI ln) (nI (gP tj)) (nI (gR (tj + 1))) z17 z18 z19 z20 z21 zop g23 (nI cd2) z25 z26 v27 v28 v29 v30 v31 v32 v33 v34 v35 v36 v37 (nI ol)), (v1, .inl (cA 0, 326, .inl zp)), (v9, .inl (cA 0, 700, .inl fb)), (v13, .inl (cA 1, 15, .inr (.inl fkw))), (v28, .inl (cA 1, 10, .inr (.inl l28))), (v30, .inl (cA 1, 8, .inr (.inl zl))), (v32, .inl (cA 0, 400, .inl zc))] t) A) ([.ref w0] : List Value).toArray s 0 0 A) (F0 m 9 ls []) := by
      intro n1
      induction n1 with
      | zero =>
        intro i1 tii qi pli u0_17_1 u0_18_1 u0_19_1 cdi u0_25_1 u0_26_1 f1_1 f5_1 f6_1 H locs ls hi1 hv0_1 hv1_1 hv2_1 hv3_1 hv4_1 hv5_1 hv6_1 hv7_1 hv8_1 hv9_1 hv10_1 hv11_1 hv12_1 hv13_1 hv14_1 hP hD hS hl
        obtain rfl : 701 = i1 := by omega
        exact absurd hv0_1 (by omega)
      | succ n1 ih1 =>
        intro i1 tii qi pli u0_17_1 u0_18_1 u0_19_1 cdi u0_25_1 u0_26_1 f1_1 f5_1 f6_1 H locs ls hi1 hv0_1 hv1_1 hv2_1 hv3_1 hv4_1 hv5_1 hv6_1 hv7_1 hv8_1 hv9_1 hv10_1 hv11_1 hv12_1 hv13_1 hv14_1 hP hD hS hl
        refine lv_aload_n hx hb dX10_both_9 rfl (lv_at hl 0 rfl) ?_
        refine lv_bipush (v := 7) hx hb dX10_both_10 (by decide) ?_
        obtain ⟨hPc, hDc, hFc⟩ := PDq.cut (wc := [(oX10 w0 v0 v1 v2 v3 v4 g5 g6 (nI ed) g8 v9 (nI nb) g11 g12 v13 (nI ln) (nI (gP tii)) (nI (gR (tii + 1))) u0_17_1 u0_18_1 u0_19_1 g20 g21 (nI o9) g23 (nI cdi) u0_25_1 u0_26_1 v27 v28 v29 v30 v31 v32 v33 v34 v35 v36 v37 (nI ol))]) hP hD hS hA [0] (by decide) rfl
        refine va_calli (va_runV (As := [.int 7]) (rest := []) ⟨hx, hb, hml, hown, hts⟩ (y_kw7 l D cA sa w0 ed nb ol v0 v1 v2 v3 v4 v9 v13 v27 v28 v29 v30 v31 v32 v33 v34 v35 v36 v37 g8 g11 g12 u0_19_1 g20 g21 (nI o9) g23 u0_26_1 g5 g6 u0_25_1 ln cdi u0_17_1 u0_18_1 tii ct fb gP gR gS gK gV H.size hln hct hv1_1 hTX hBY hv3_1) (cwV 1 hts gX10_both_X10_isKeyword rfl rfl rfl (by decide +kernel) ⟨by show (0) + 1 ≤ 22; omega, by show 8 + (2 + 11) + (0) ≤ 360; omega⟩) ⟨Wd.blind, va_recv hK hPc (ci := 11) (q0 := 0) rfl rfl, fun U hU hW => ⟨rfl, Wd.call hPc hDc hK hC hZ hS hFc U hU hW⟩⟩ rfl rfl hl.1 rfl (lv_room (Nat.le_of_ble_eq_true rfl)) dX10_both_12 ⟨(Nat.le_of_ble_eq_true rfl), (Nat.le_of_ble_eq_true rfl)⟩) hS (fun q _ h => hFc q h) hFc (fun rn38 u t H1 locs ht hvm hw hB hz1 hk1 hS => ?_)
        obtain ⟨hP1, hD1⟩ := hB
        rw [ht] at hP1
        obtain ⟨hP, hD⟩ := PDq.join (w := [(v1, .inl (cA 0, 326, .inl f1_1)), (v9, .inl (cA 0, 700, .inl fb)), (v13, .inl (cA 1, 15, .inr (.inl fkw))), (v28, .inl (cA 1, 10, .inr (.inl l28))), (v30, .inl (cA 1, 8, .inr (.inl f5_1))), (v32, .inl (cA 0, 400, .inl f6_1)), (oX10 w0 v0 v1 v2 v3 v4 g5 g6 (nI ed) g8 v9 (nI nb) g11 g12 v13 (nI ln) (nI (gP tii)) (nI (gR (tii + 1))) u0_17_1 u0_18_1 u0_19_1 g20 g21 (nI o9) g23 (nI cdi) u0_25_1 u0_26_1 v27 v28 v29 v30 v31 v32 v33 v34 v35 v36 v37 (nI ol))]) 6 hP hD [0] [1, 2, 3, 4, 5, 6] rfl rfl (by decide) (by decide) hk1 hFc hP1 hD1 rfl
        generalize H1 = H at hP hS ⊢
        rcases hw with ⟨hr9, hn39⟩ | ⟨hr9, hn39⟩
        · skip
          subst hr9
          refine lv_if_eq (tgt := 41) hx hb dX10_both_15 (by decide) (fun c9 => absurd c9 (by decide)) (fun c40 => ?_)
          refine lv_aload_n hx hb dX10_both_18 rfl (lv_at hl 0 rfl) ?_
          have hn41 := TX.go2 hTX (show tii < ct by omega) (by rw [hn39]; decide)
          have hn41a := TX.le hTX (show tii < ct by omega)
          have hn41b := TX.le hTX hn41.1
          obtain ⟨hPc, hDc, hFc⟩ := PDq.cut (wc := [(oX10 w0 v0 v1 v2 v3 v4 g5 g6 (nI ed) g8 v9 (nI nb) g11 g12 v13 (nI ln) (nI (gP tii)) (nI (gR (tii + 1))) u0_17_1 u0_18_1 u0_19_1 g20 g21 (nI o9) g23 (nI cdi) u0_25_1 u0_26_1 v27 v28 v29 v30 v31 v32 v33 v34 v35 v36 v37 (nI ol)), (v9, .inl (cA 0, 700, .inl fb)), (v13, .inl (cA 1, 15, .inr (.inl fkw)))]) hP hD hS hA [6, 1, 2] (by decide) rfl
          refine va_calli (va_runV (As := []) (rest := []) ⟨hx, hb, hml, hown, hts⟩ (y_advance l D cA sa w0 ed nb ol v0 v1 v2 v3 v4 v9 v13 v27 v28 v29 v30 v31 v32 v33 v34 v35 v36 v37 g8 g11 g12 (nI (gP tii)) u0_17_1 u0_18_1 u0_19_1 g20 g21 (nI o9) g23 (nI cdi) u0_26_1 g5 g6 u0_25_1 ln (gR (tii + 1)) fb fkw (gP (tii + 1)) (gR ((tii + 1) + 1)) (gK (tii + 1)) (gV (tii + 1)) H.size hln (by omega) hKW hBY (TX.t hTX hn41.1)) (cwV 0 hts gX10_both_X10_advance rfl rfl rfl (by decide +kernel) ⟨by show (1) + 1 ≤ 22; omega, by show 8 + (2 + 11) + (23) ≤ 360; omega⟩) ⟨Wd.blind, va_recv hK hPc (ci := 11) (q0 := 0) rfl rfl, fun U hU hW => ⟨rfl, Wd.call hPc hDc hK hC hZ hS hFc U hU hW⟩⟩ rfl rfl hl.1 rfl (lv_room (Nat.le_of_ble_eq_true rfl)) dX10_both_19 ⟨(Nat.le_of_ble_eq_true rfl), (Nat.le_of_ble_eq_true rfl)⟩) hS (fun q _ h => hFc q h) hFc (fun rn42 u t H1 locs ht hvm hw hB hz1 hk1 hS => ?_)
          obtain ⟨zn43, zn44, zn45, zn46, hn47, hP1, hD1⟩ := hB
          rw [ht] at hP1
          obtain ⟨hP, hD⟩ := PDq.join (w := [(v1, .inl (cA 0, 326, .inl f1_1)), (v28, .inl (cA 1, 10, .inr (.inl l28))), (v30, .inl (cA 1, 8, .inr (.inl f5_1))), (v32, .inl (cA 0, 400, .inl f6_1)), (oX10 w0 v0 v1 v2 v3 v4 g5 g6 (nI ed) g8 v9 (nI nb) g11 g12 v13 (nI ln) (nI (gP (tii + 1))) (nI (gR ((tii + 1) + 1))) zn43 zn44 zn45 g20 g21 (nI o9) g23 (nI cdi) zn46 u0_26_1 v27 v28 v29 v30 v31 v32 v33 v34 v35 v36 v37 (nI ol)), (v9, .inl (cA 0, 700, .inl fb)), (v13, .inl (cA 1, 15, .inr (.inl fkw)))]) 4 hP hD [6, 1, 2] [0, 3, 4, 5] rfl rfl (by decide) (by decide) hk1 hFc hP1 hD1 rfl
          generalize H1 = H at hP hS ⊢
          obtain rfl : rn42 = 1 := hw
          refine lv_pop hx hb dX10_both_22 rfl ?_
          refine lv_aload_n hx hb dX10_both_23 rfl (lv_at hl 0 rfl) ?_
          obtain ⟨hPc, hDc, hFc⟩ := PDq.cut (wc := [(oX10 w0 v0 v1 v2 v3 v4 g5 g6 (nI ed) g8 v9 (nI nb) g11 g12 v13 (nI ln) (nI (gP (tii + 1))) (nI (gR ((tii + 1) + 1))) zn43 zn44 zn45 g20 g21 (nI o9) g23 (nI cdi) zn46 u0_26_1 v27 v28 v29 v30 v31 v32 v33 v34 v35 v36 v37 (nI ol)), (v1, .inl (cA 0, 326, .inl f1_1)), (v9, .inl (cA 0, 700, .inl fb)), (v13, .inl (cA 1, 15, .inr (.inl fkw))), (v28, .inl (cA 1, 10, .inr (.inl l28))), (v30, .inl (cA 1, 8, .inr (.inl f5_1))), (v32, .inl (cA 0, 400, .inl f6_1))]) hP hD hS hA [4, 0, 5, 6, 1, 2, 3] (by decide) rfl
          refine va_calli (va_runV (As := []) (rest := []) ⟨hx, hb, hml, hown, hts⟩ (y_fact_B l D cA sa w0 ed nb ol v0 v1 v2 v3 v4 v9 v13 v27 v28 v29 v30 v31 v32 v33 v34 v35 v36 v37 g8 g11 g12 zn45 g20 g21 g23 u0_26_1 g5 g6 zn46 ln cdi zn43 zn44 (tii + 1) ct fb fkw gP gR gS gK gV cn qi en dy f1_1 (sl + 2) o9 l28 f5_1 f6_1 ml pli H.size hln hct hn41.1 hTX hBY hn47 hKW hcn hv7_1 hen hdy hv8_1 (by omega) hNM hv9_1 ho) (cwV 0 hts gX10_both_X10_fact rfl rfl rfl (by decide +kernel) ⟨by show (21) + 1 ≤ 22; omega, by show 8 + (1 + 11) + (340) ≤ 360; omega⟩) ⟨Wd.blind, va_recv hK hPc (ci := 11) (q0 := 0) rfl rfl, fun U hU hW => ⟨rfl, Wd.call hPc hDc hK hC hZ hS hFc U hU hW⟩⟩ rfl rfl hl.1 rfl (lv_room (Nat.le_of_ble_eq_true rfl)) dX10_both_24 ⟨(Nat.le_of_ble_eq_true rfl), (Nat.le_of_ble_eq_true rfl)⟩) hS (fun q _ h => hFc q h) hFc (fun rn48 u t H1 locs ht hvm hw hB hz1 hk1 hS => ?_)
          obtain ⟨qn49, zn50, zn51, zn52, zn53, zn54, zn55, zn56, qn57, qn58, zn59, fn60, fn61, fn62, zn63, hn64, hn65, hn66, hn67, hn68, hn69, hn70, hn71, hn72, hn73, hn74, hn75, hn76, hn77, hn78, hn79, hn80, hn81, hn82, hP1, hD1⟩ := hB
          rw [ht] at hP1
          obtain ⟨hP, hD⟩ := PDq.join (w := [(oX10 w0 v0 v1 v2 v3 v4 g5 g6 (nI ed) g8 v9 (nI nb) g11 g12 v13 (nI ln) (nI (gP qn49)) (nI (gR (qn49 + 1))) zn50 zn51 zn52 zn53 zn54 zn59 g23 (nI qn57) zn56 zn55 v27 v28 v29 v30 v31 v32 v33 v34 v35 v36 v37 (nI ol)), (v1, .inl (cA 0, 326, .inl fn60)), (v9, .inl (cA 0, 700, .inl fb)), (v13, .inl (cA 1, 15, .inr (.inl fkw))), (v28, .inl (cA 1, 10, .inr (.inl l28))), (v30, .inl (cA 1, 8, .inr (.inl fn62))), (v32, .inl (cA 0, 400, .inl fn61))]) 0 hP hD [4, 0, 5, 6, 1, 2, 3] [] rfl rfl (by decide) (by decide) hk1 hFc hP1 hD1 rfl
          generalize H1 = H at hP hS ⊢
          rcases hw.2 with hr9 | hr9
          · skip
            have hn82 := hn82 (hw.1.trans hr9)
            subst hr9
            refine lv_if_ne (tgt := 32) hx hb dX10_both_27 (by decide) (fun c9 => absurd c9 (by decide)) (fun c83 => ?_)
            refine lv_iconst (v := 0) hx hb dX10_both_30 (by decide) ?_
            obtain ⟨hP9, hD9⟩ := PDq.sub (ws' := [(oX10 w0 v0 v1 v2 v3 v4 g5 g6 (nI ed) g8 v9 (nI nb) g11 g12 v13 (nI ln) (nI (gP qn49)) (nI (gR (qn49 + 1))) zn50 zn51 zn52 zn53 zn54 zn59 g23 (nI qn57) zn56 zn55 v27 v28 v29 v30 v31 v32 v33 v34 v35 v36 v37 (nI ol)), (v1, .inl (cA 0, 326, .inl fn60)), (v9, .inl (cA 0, 700, .inl fb)), (v13, .inl (cA 1, 15, .inr (.inl fkw))), (v28, .inl (cA 1, 10, .inr (.inl l28))), (v30, .inl (cA 1, 8, .inr (.inl fn62))), (v32, .inl (cA 0, 400, .inl fn61))]) hP hD [0, 1, 2, 3, 4, 5, 6] (by decide) rfl
            refine W.widen (k := 0) (n := 0) (Nat.le_of_ble_eq_true rfl) (Nat.le_of_ble_eq_true rfl) ?_
            exact (W.zret (v := 0) hx hb hr (by first | rfl | decide) (fun t ht hW => ⟨⟨0, 0, rfl, ⟨rfl, by decide⟩, qn49, zn50, zn51, zn52, zn53, zn54, zn55, zn56, qn57, qn58, zn59, fn60, fn61, fn62, zn63, hn64, hn65, (by omega), hn67, hn68, hn69, hn70, (fun h9 => absurd h9 (by decide)), (fun h9 => absurd h9 (by decide)), (fun h9 => absurd h9 (by decide)), (fun h9 => absurd h9 (by decide)), (fun h9 => absurd h9 (by decide)), (fun h9 => absurd h9 (by decide)), (fun h9 => absurd h9 (by decide)), (fun h9 => absurd h9 (by decide)), (fun h9 => absurd h9 (by decide)), (fun h9 => absurd h9 (by decide)), (fun h9 => absurd h9 (by decide)), (fun _ => (hv12_1 _ (P_andE hn39 hn82))), by rw [ht]; exact hP9, hD9⟩, hS.F ht⟩) hS.2.2 dX10_both_31)
          · skip
            have hn71 := hn71 (hw.1.trans hr9)
            subst hn71
            obtain ⟨hP, hD⟩ : PDq D A [(oX10 w0 v0 v1 v2 v3 v4 g5 g6 (nI ed) g8 v9 (nI nb) g11 g12 v13 (nI ln) (nI (gP qn49)) (nI (gR (qn49 + 1))) zn50 zn51 zn52 zn53 zn54 (nI o9) g23 (nI qn57) zn56 zn55 v27 v28 v29 v30 v31 v32 v33 v34 v35 v36 v37 (nI ol)), (v1, .inl (cA 0, 326, .inl fn60)), (v9, .inl (cA 0, 700, .inl fb)), (v13, .inl (cA 1, 15, .inr (.inl fkw))), (v28, .inl (cA 1, 10, .inr (.inl l28))), (v30, .inl (cA 1, 8, .inr (.inl fn62))), (v32, .inl (cA 0, 400, .inl fn61))] H := ⟨hP, hD⟩
            have hn72 := hn72 (hw.1.trans hr9)
            obtain rfl : g20 = zn53 := hn72.symm
            obtain ⟨hP, hD⟩ : PDq D A [(oX10 w0 v0 v1 v2 v3 v4 g5 g6 (nI ed) g8 v9 (nI nb) g11 g12 v13 (nI ln) (nI (gP qn49)) (nI (gR (qn49 + 1))) zn50 zn51 zn52 g20 zn54 (nI o9) g23 (nI qn57) zn56 zn55 v27 v28 v29 v30 v31 v32 v33 v34 v35 v36 v37 (nI ol)), (v1, .inl (cA 0, 326, .inl fn60)), (v9, .inl (cA 0, 700, .inl fb)), (v13, .inl (cA 1, 15, .inr (.inl fkw))), (v28, .inl (cA 1, 10, .inr (.inl l28))), (v30, .inl (cA 1, 8, .inr (.inl fn62))), (v32, .inl (cA 0, 400, .inl fn61))] H := ⟨hP, hD⟩
            have hn73 := hn73 (hw.1.trans hr9)
            obtain rfl : g21 = zn54 := hn73.symm
            obtain ⟨hP, hD⟩ : PDq D A [(oX10 w0 v0 v1 v2 v3 v4 g5 g6 (nI ed) g8 v9 (nI nb) g11 g12 v13 (nI ln) (nI (gP qn49)) (nI (gR (qn49 + 1))) zn50 zn51 zn52 g20 g21 (nI o9) g23 (nI qn57) zn56 zn55 v27 v28 v29 v30 v31 v32 v33 v34 v35 v36 v37 (nI ol)), (v1, .inl (cA 0, 326, .inl fn60)), (v9, .inl (cA 0, 700, .inl fb)), (v13, .inl (cA 1, 15, .inr (.inl fkw))), (v28, .inl (cA 1, 10, .inr (.inl l28))), (v30, .inl (cA 1, 8, .inr (.inl fn62))), (v32, .inl (cA 0, 400, .inl fn61))] H := ⟨hP, hD⟩
            have hn74 := hn74 (hw.1.trans hr9)
            have hn75 := hn75 (hw.1.trans hr9)
            have hn76 := hn76 (hw.1.trans hr9)
            have hn77 := hn77 (hw.1.trans hr9)
            have hn78 := hn78 (hw.1.trans hr9)
            have hn79 := hn79 (hw.1.trans hr9)
            have hn80 := hn80 (hw.1.trans hr9)
            have hn81 := hn81 (hw.1.trans hr9)
            subst hr9
            refine lv_if_ne (tgt := 32) hx hb dX10_both_27 (by decide) (fun c84 => ?_) (fun c9 => absurd c9 (by decide))
            refine lv_aload_n hx hb dX10_both_32 rfl (lv_at hl 0 rfl) ?_
            refine lv_iconst (v := (-1)) hx hb dX10_both_33 (by decide) ?_
            obtain ⟨hPc, hDc, hFc⟩ := PDq.cut (wc := [(oX10 w0 v0 v1 v2 v3 v4 g5 g6 (nI ed) g8 v9 (nI nb) g11 g12 v13 (nI ln) (nI (gP qn49)) (nI (gR (qn49 + 1))) zn50 zn51 zn52 g20 g21 (nI o9) g23 (nI qn57) zn56 zn55 v27 v28 v29 v30 v31 v32 v33 v34 v35 v36 v37 (nI ol)), (v32, .inl (cA 0, 400, .inl fn61))]) hP hD hS hA [0, 6] (by decide) rfl
            refine va_calli (va_runV (As := [.int (-1)]) (rest := []) ⟨hx, hb, hml, hown, hts⟩ (r_emit l D cA sa w0 ed nb ol v0 v1 v2 v3 v4 v9 v13 v27 v28 v29 v30 v31 v32 v33 v34 v35 v36 v37 g8 g11 g12 (nI ln) (nI (gP qn49)) (nI (gR (qn49 + 1))) zn50 zn51 zn52 g20 g21 (nI o9) g23 zn55 g5 g6 zn56 qn57 (-1) fn61 H.size (by omega)) (cwV 1 hts gX10_both_X10_emit rfl rfl rfl (by decide +kernel) ⟨by show (0) + 1 ≤ 22; omega, by show 8 + (2 + 11) + (0) ≤ 360; omega⟩) ⟨Wd.blind, va_recv hK hPc (ci := 11) (q0 := 0) rfl rfl, fun U hU hW => ⟨rfl, Wd.call hPc hDc hK hC hZ hS hFc U hU hW⟩⟩ rfl rfl hl.1 rfl (lv_room (Nat.le_of_ble_eq_true rfl)) dX10_both_34 ⟨(Nat.le_of_ble_eq_true rfl), (Nat.le_of_ble_eq_true rfl)⟩) hS (fun q _ h => hFc q h) hFc (fun rn85 u t H1 locs ht hvm hw hB hz1 hk1 hS => ?_)
            obtain ⟨fn86, hn87, hP1, hD1⟩ := hB
            rw [ht] at hP1
            obtain ⟨hP, hD⟩ := PDq.join (w := [(v1, .inl (cA 0, 326, .inl fn60)), (v9, .inl (cA 0, 700, .inl fb)), (v13, .inl (cA 1, 15, .inr (.inl fkw))), (v28, .inl (cA 1, 10, .inr (.inl l28))), (v30, .inl (cA 1, 8, .inr (.inl fn62))), (oX10 w0 v0 v1 v2 v3 v4 g5 g6 (nI ed) g8 v9 (nI nb) g11 g12 v13 (nI ln) (nI (gP qn49)) (nI (gR (qn49 + 1))) zn50 zn51 zn52 g20 g21 (nI o9) g23 (nI (qn57 + 1)) zn56 zn55 v27 v28 v29 v30 v31 v32 v33 v34 v35 v36 v37 (nI ol)), (v32, .inl (cA 0, 400, .inl fn86))]) 5 hP hD [0, 6] [1, 2, 3, 4, 5] rfl rfl (by decide) (by decide) hk1 hFc hP1 hD1 rfl
            generalize H1 = H at hP hS ⊢
            obtain rfl : rn85 = 1 := hw
            refine lv_pop hx hb dX10_both_37 rfl ?_
            have hn88 := Kp.tr (Kp.tr hv10_1 hn77 (by omega)) (Em.kp hn87) (by omega)
            have hn89 := Sg.join hv11_1 hn77 hn78 hn87 (by decide)
            refine lv_goto (tgt := 9) hx hb dX10_both_38 (by decide) ?_
            obtain ⟨hP9, hD9⟩ := PDq.sub (ws' := [(oX10 w0 v0 v1 v2 v3 v4 g5 g6 (nI ed) g8 v9 (nI nb) g11 g12 v13 (nI ln) (nI (gP qn49)) (nI (gR (qn49 + 1))) zn50 zn51 zn52 g20 g21 (nI o9) g23 (nI (qn57 + 1)) zn56 zn55 v27 v28 v29 v30 v31 v32 v33 v34 v35 v36 v37 (nI ol)), (v1, .inl (cA 0, 326, .inl fn60)), (v9, .inl (cA 0, 700, .inl fb)), (v13, .inl (cA 1, 15, .inr (.inl fkw))), (v28, .inl (cA 1, 10, .inr (.inl l28))), (v30, .inl (cA 1, 8, .inr (.inl fn62))), (v32, .inl (cA 0, 400, .inl fn86))]) hP hD [5, 0, 1, 2, 3, 4, 6] (by decide) rfl
            exact ih1 (i1 + 1) qn49 qn58 zn63 zn50 zn51 zn52 (qn57 + 1) zn56 zn55 fn60 fn62 fn86 H _ ls (by omega) (by omega) hn64 hn65 hn67 (by omega) (by omega) (by omega) hn68 hn69 hn70 hn88 hn89 (fun r9 h9 => hv12_1 r9 (P_and hn39 hn79 h9)) (CRL.and hv13_1 hn39 hn80 hn87 rfl (by have q9 := hNM.1; omega) (by have q9 := hn70.1; omega)) (K14.tr hv14_1 hn81) hP9 hD9 hS (lv_sub hl [0] rfl)
        · skip
          subst hr9
          refine lv_if_eq (tgt := 41) hx hb dX10_both_15 (by decide) (fun c90 => ?_) (fun c9 => absurd c9 (by decide))
          refine lv_iconst (v := 1) hx hb dX10_both_41 (by decide) ?_
          obtain ⟨hP9, hD9⟩ := PDq.sub (ws' := [(oX10 w0 v0 v1 v2 v3 v4 g5 g6 (nI ed) g8 v9 (nI nb) g11 g12 v13 (nI ln) (nI (gP tii)) (nI (gR (tii + 1))) u0_17_1 u0_18_1 u0_19_1 g20 g21 (nI o9) g23 (nI cdi) u0_25_1 u0_26_1 v27 v28 v29 v30 v31 v32 v33 v34 v35 v36 v37 (nI ol)), (v1, .inl (cA 0, 326, .inl f1_1)), (v9, .inl (cA 0, 700, .inl fb)), (v13, .inl (cA 1, 15, .inr (.inl fkw))), (v28, .inl (cA 1, 10, .inr (.inl l28))), (v30, .inl (cA 1, 8, .inr (.inl f5_1))), (v32, .inl (cA 0, 400, .inl f6_1))]) hP hD [6, 0, 1, 2, 3, 4, 5] (by decide) rfl
          refine W.widen (k := 0) (n := 0) (Nat.le_of_ble_eq_true rfl) (Nat.le_of_ble_eq_true rfl) ?_
          exact (W.zret (v := 1) hx hb hr (by first | rfl | decide) (fun t ht hW => ⟨⟨1, 1, rfl, ⟨rfl, by decide⟩, tii, u0_17_1, u0_18_1, u0_19_1, g20, g21, u0_26_1, u0_25_1, cdi, qi, (nI o9), f1_1, f6_1, f5_1, pli, hv1_1, hv2_1, (by omega), hv3_1, hv7_1, hv8_1, hv9_1, (fun _ => rfl), (fun _ => rfl), (fun _ => rfl), (fun _ => hv4_1), (fun _ => hv5_1), (fun _ => hv6_1), (fun _ => hv10_1), (fun _ => hv11_1), (fun _ => (hv12_1 _ (P_end2 hn39))), (fun _ => (CRL.end2 hv13_1 hn39)), (fun _ => hv14_1), (fun h9 => absurd h9 (by decide)), by rw [ht]; exact hP9, hD9⟩, hS.F ht⟩) hS.2.2 dX10_both_42)
    obtain ⟨hP9, hD9⟩ := PDq.sub (ws' := [(oX10 w0 v0 v1 v2 v3 v4 g5 g6 (nI ed) g8 v9 (nI nb) g11 g12 v13 (nI ln) (nI (gP qn2)) (nI (gR (qn2 + 1))) zn3 zn4 zn5 g20 g21 (nI o9) g23 (nI qn10) zn9 zn8 v27 v28 v29 v30 v31 v32 v33 v34 v35 v36 v37 (nI ol)), (v1, .inl (cA 0, 326, .inl fn13)), (v9, .inl (cA 0, 700, .inl fb)), (v13, .inl (cA 1, 15, .inr (.inl fkw))), (v28, .inl (cA 1, 10, .inr (.inl l28))), (v30, .inl (cA 1, 8, .inr (.inl fn15))), (v32, .inl (cA 0, 400, .inl fn14))]) hP hD [0, 1, 2, 3, 4, 5, 6] (by decide) rfl
    exact loop1 (701 - 0) 0 qn2 qn11 zn16 zn3 zn4 zn5 qn10 zn9 zn8 fn13 fn15 fn14 _ _ ls (by omega) (by omega) hn17 hn18 hn20 hn27 hn28 hn29 hn21 hn22 hn23 hn30 hn31 (fun r9 h9 => P_both hn32 h9) (CRL.both hn33) hn34 hP9 hD9 hS (lv_sub hl [0] rfl)

set_option maxHeartbeats 4000000 in
set_option maxRecDepth 100000 in
/-- reference: condition -/
theorem y_condition_B (l : Launch) (D : va_G) (cA : Nat → ClassId) (sa : Nat → Nat) (w0 : Nat) (ed : Nat) (nb : Nat) (ol : Nat) (v0 : Nat) (v1 : Nat) (v2 : Nat) (v3 : Nat) (v4 : Nat) (v9 : Nat) (v13 : Nat) (v27 : Nat) (v28 : Nat) (v29 : Nat) (v30 : Nat) (v31 : Nat) (v32 : Nat) (v33 : Nat) (v34 : Nat) (v35 : Nat) (v36 : Nat) (v37 : Nat) (g8 : Int32) (g11 : Int32) (g12 : Int32) (g19 : Int32) (g20 : Int32) (g21 : Int32) (g23 : Int32) (g26 : Int32) (g5 : Int64) (g6 : Int64) (g25 : Int64) (ln : Nat) (cd : Nat) (tk : Int32) (kw : Int32) (ti : Nat) (ct : Nat) (fb : Nat → Int32) (fkw : Nat → Int64) (gP : Nat → Nat) (gR : Nat → Nat) (gS : Nat → Int32) (gK : Nat → Int32) (gV : Nat → Int64) (cn : Nat) (pq : Nat) (en : Nat) (dy : Nat) (fp : Nat → Int32) (sl : Nat) (o9 : Nat) (l28 : Nat → Int64) (l30 : Nat → Int64) (fc : Nat → Int32) (ml : List Int64) (pl : List Int64) (sz : Nat) (hln : ln ≤ 700) (hct : ct ≤ 701) (hti : ti < ct) (hTX : TX fb ln ct gP gR gS gV gK) (hBY : BYn ln fb) (hTK : TKR (gK ti) (gV ti) (fb (gP ti)) tk kw g19 g25) (hKW : KW 15 fkw) (hcn : cn ≤ 10) (hpq : pq ≤ 8) (hen : en ≤ 60) (hdy : dy ≤ 20000) (hri : RI cn pq en dy fp) (hcd : 2 * cd + sl ≤ gP ti) (hNM : NL ml cn l28) (hNP : NL pl pq l30) (ho : o9 = 8) : Met l yX10_condition wsX10_condition ({ frames := 23, cells := 0, slots := 0, locals := 380 }) (va_Pc [.ref w0] (Wd D cA sa [(oX10 w0 v0 v1 v2 v3 v4 g5 g6 (nI ed) g8 v9 (nI nb) g11 g12 v13 (nI ln) (nI (gP ti)) (nI (gR (ti + 1))) tk kw g19 g20 g21 (nI o9) g23 (nI cd) g25 g26 v27 v28 v29 v30 v31 v32 v33 v34 v35 v36 v37 (nI ol)), (v1, .inl (cA 0, 326, .inl fp)), (v9, .inl (cA 0, 700, .inl fb)), (v13, .inl (cA 1, 15, .inr (.inl fkw))), (v28, .inl (cA 1, 10, .inr (.inl l28))), (v30, .inl (cA 1, 8, .inr (.inl l30))), (v32, .inl (cA 0, 400, .inl fc))] sz)) (va_Qi (fun (r : Int32) (u9 : Int32) => u9 = r ∧ (r = 0 ∨ r = 1)) (fun (u9 : Int32) t => ∃ tj : Nat, ∃ z17 : Int32, ∃ z18 : Int32, ∃ z19 : Int32, ∃ z20 : Int32, ∃ z21 : Int32, ∃ z26 : Int32, ∃ z25 : Int64, ∃ cd2 : Nat, ∃ pq2 : Nat, ∃ zop : Int32, ∃ zp : Nat → Int32, ∃ zc : Nat → Int32, ∃ zl : Nat → Int64, ∃ zpl : List Int64, tj < ct ∧ gP tj ≤ ln ∧ ti ≤ tj ∧ TKR (gK tj) (gV tj) (fb (gP tj)) z17 z18 z19 z25 ∧ pq2 ≤ 8 ∧ RI cn pq2 en dy zp ∧ NL zpl pq2 zl ∧ (u9 = 1 → zop = (nI o9)) ∧ (u9 = 1 → z20 = g20) ∧ (u9 = 1 → z21 = g21) ∧ (u9 = 1 → ti + 1 ≤ tj) ∧ (u9 = 1 → cd ≤ cd2) ∧ (u9 = 1 → 2 * cd2 + sl ≤ gP tj) ∧ (u9 = 1 → Kp cd fc zc) ∧ (u9 = 1 → Sg cd cd2 zc) ∧ (u9 = 1 → PRx gK gS gV ml 3 o9 ti pl (.inr (tj, zpl))) ∧ (u9 = 1 → CR9 gK gV 3 ti tj ml pl zpl cd cd2 fc zc) ∧ (u9 = 1 → K14 fp zp) ∧ (u9 = 0 → PRx gK gS gV ml 3 o9 ti pl (.inl (z20, z21))) ∧ Wq D (va_A [(oX10 w0 v0 v1 v2 v3 v4 g5 g6 (nI ed) g8 v9 (nI nb) g11 g12 v13 (nI ln) (nI (gP ti)) (nI (gR (ti + 1))) tk kw g19 g20 g21 (nI o9) g23 (nI cd) g25 g26 v27 v28 v29 v30 v31 v32 v33 v34 v35 v36 v37 (nI ol)), (v1, .inl (cA 0, 326, .inl fp)), (v9, .inl (cA 0, 700, .inl fb)), (v13, .inl (cA 1, 15, .inr (.inl fkw))), (v28, .inl (cA 1, 10, .inr (.inl l28))), (v30, .inl (cA 1, 8, .inr (.inl l30))), (v32, .inl (cA 0, 400, .inl fc))] sz) [(oX10 w0 v0 v1 v2 v3 v4 g5 g6 (nI ed) g8 v9 (nI nb) g11 g12 v13 (nI ln) (nI (gP tj)) (nI (gR (tj + 1))) z17 z18 z19 z20 z21 zop g23 (nI cd2) z25 z26 v27 v28 v29 v30 v31 v32 v33 v34 v35 v36 v37 (nI ol)), (v1, .inl (cA 0, 326, .inl zp)), (v9, .inl (cA 0, 700, .inl fb)), (v13, .inl (cA 1, 15, .inr (.inl fkw))), (v28, .inl (cA 1, 10, .inr (.inl l28))), (v30, .inl (cA 1, 8, .inr (.inl zl))), (v32, .inl (cA 0, 400, .inl zc))] t) (va_A [(oX10 w0 v0 v1 v2 v3 v4 g5 g6 (nI ed) g8 v9 (nI nb) g11 g12 v13 (nI ln) (nI (gP ti)) (nI (gR (ti + 1))) tk kw g19 g20 g21 (nI o9) g23 (nI cd) g25 g26 v27 v28 v29 v30 v31 v32 v33 v34 v35 v36 v37 (nI ol)), (v1, .inl (cA 0, 326, .inl fp)), (v9, .inl (cA 0, 700, .inl fb)), (v13, .inl (cA 1, 15, .inr (.inl fkw))), (v28, .inl (cA 1, 10, .inr (.inl l28))), (v30, .inl (cA 1, 8, .inr (.inl l30))), (v32, .inl (cA 0, 400, .inl fc))] sz)) 0 0 (va_A [(oX10 w0 v0 v1 v2 v3 v4 g5 g6 (nI ed) g8 v9 (nI nb) g11 g12 v13 (nI ln) (nI (gP ti)) (nI (gR (ti + 1))) tk kw g19 g20 g21 (nI o9) g23 (nI cd) g25 g26 v27 v28 v29 v30 v31 v32 v33 v34 v35 v36 v37 (nI ol)), (v1, .inl (cA 0, 326, .inl fp)), (v9, .inl (cA 0, 700, .inl fb)), (v13, .inl (cA 1, 15, .inr (.inl fkw))), (v28, .inl (cA 1, 10, .inr (.inl l28))), (v30, .inl (cA 1, 8, .inr (.inl l30))), (v32, .inl (cA 0, 400, .inl fc))] sz) := by
  refine Met.ofW (cc := cX10_condition) (maxL := 1) (ret := (some .boolean)) (by decide) rfl ?_
  intro p e s m args below meth c s₁ B hml hv
  obtain ⟨rfl, hsz, hP, hK, hD0, hC, hZ⟩ := hv
  have hx := B.exec
  have hb := B.bytes
  have hr := B.returns
  have hts := atoms_spec (ws := wsX10_condition) B.pre
  have hown : s.vm.findClass RX10 = some m.cls := findClass_of_methodNamed B.named
  have hlocks := B.notSynchronized
  subst hsz
  have hD := hD0.self (sz := s.heap.size)
  generalize hAe : va_A [(oX10 w0 v0 v1 v2 v3 v4 g5 g6 (nI ed) g8 v9 (nI nb) g11 g12 v13 (nI ln) (nI (gP ti)) (nI (gR (ti + 1))) tk kw g19 g20 g21 (nI o9) g23 (nI cd) g25 g26 v27 v28 v29 v30 v31 v32 v33 v34 v35 v36 v37 (nI ol)), (v1, .inl (cA 0, 326, .inl fp)), (v9, .inl (cA 0, 700, .inl fb)), (v13, .inl (cA 1, 15, .inr (.inl fkw))), (v28, .inl (cA 1, 10, .inr (.inl l28))), (v30, .inl (cA 1, 8, .inr (.inl l30))), (v32, .inl (cA 0, 400, .inl fc))] s.heap.size = A at hD hZ ⊢
  have hA : ∀ q : Nat, s.heap.size ≤ q → A q := fun q h => by rw [← hAe]; exact Or.inr h
  have hS : va_S A s.heap s.heap [] := va_S.rf
  have hP : va_P D vwCl [(oX10 w0 v0 v1 v2 v3 v4 g5 g6 (nI ed) g8 v9 (nI nb) g11 g12 v13 (nI ln) (nI (gP ti)) (nI (gR (ti + 1))) tk kw g19 g20 g21 (nI o9) g23 (nI cd) g25 g26 v27 v28 v29 v30 v31 v32 v33 v34 v35 v36 v37 (nI ol)), (v1, .inl (cA 0, 326, .inl fp)), (v9, .inl (cA 0, 700, .inl fb)), (v13, .inl (cA 1, 15, .inr (.inl fkw))), (v28, .inl (cA 1, 10, .inr (.inl l28))), (v30, .inl (cA 1, 8, .inr (.inl l30))), (v32, .inl (cA 0, 400, .inl fc))] s.heap := hP
  have hl := lv_entry ([.ref w0]) (n := 1) (Nat.le_of_ble_eq_true rfl)
  rw [lg_entry_eq]
  generalize (lg_sl ([.ref w0]) ++ List.replicate (1 - (lg_sl ([.ref w0])).length) Slot.unset).toArray = ls at hl ⊢
  have hl : lv_has ls 1 [(0, .ref w0)] := hl
  have hle9 := TX.le hTX hti
  refine lv_aload_n hx hb dX10_condition_0 rfl (lv_at hl 0 rfl) ?_
  obtain ⟨hPc, hDc, hFc⟩ := PDq.cut (wc := [(oX10 w0 v0 v1 v2 v3 v4 g5 g6 (nI ed) g8 v9 (nI nb) g11 g12 v13 (nI ln) (nI (gP ti)) (nI (gR (ti + 1))) tk kw g19 g20 g21 (nI o9) g23 (nI cd) g25 g26 v27 v28 v29 v30 v31 v32 v33 v34 v35 v36 v37 (nI ol)), (v1, .inl (cA 0, 326, .inl fp)), (v9, .inl (cA 0, 700, .inl fb)), (v13, .inl (cA 1, 15, .inr (.inl fkw))), (v28, .inl (cA 1, 10, .inr (.inl l28))), (v30, .inl (cA 1, 8, .inr (.inl l30))), (v32, .inl (cA 0, 400, .inl fc))]) hP hD hS hA [0, 1, 2, 3, 4, 5, 6] (by decide) rfl
  refine va_calli (va_runV (As := []) (rest := []) ⟨hx, hb, hml, hown, hts⟩ (y_both_B l D cA sa w0 ed nb ol v0 v1 v2 v3 v4 v9 v13 v27 v28 v29 v30 v31 v32 v33 v34 v35 v36 v37 g8 g11 g12 g19 g20 g21 g23 g26 g5 g6 g25 ln cd tk kw ti ct fb fkw gP gR gS gK gV cn pq en dy fp sl o9 l28 l30 fc ml pl s.heap.size hln hct hti hTX hBY hTK hKW hcn hpq hen hdy hri hcd hNM hNP ho) (cwV 0 hts gX10_condition_X10_both rfl rfl rfl (by decide +kernel) ⟨by show (22) + 1 ≤ 23; omega, by show 8 + (1 + 11) + (360) ≤ 380; omega⟩) ⟨Wd.blind, va_recv hK hPc (ci := 11) (q0 := 0) rfl rfl, fun U hU hW => ⟨rfl, Wd.call hPc hDc hK hC hZ hS hFc U hU hW⟩⟩ rfl rfl hl.1 rfl (lv_room (Nat.le_of_ble_eq_true rfl)) dX10_condition_1 ⟨(Nat.le_of_ble_eq_true rfl), (Nat.le_of_ble_eq_true rfl)⟩) hS (fun q _ h => hFc q h) hFc (fun rn1 u t H1 locs ht hvm hw hB hz1 hk1 hS => ?_)
  obtain ⟨qn2, zn3, zn4, zn5, zn6, zn7, zn8, zn9, qn10, qn11, zn12, fn13, fn14, fn15, zn16, hn17, hn18, hn19, hn20, hn21, hn22, hn23, hn24, hn25, hn26, hn27, hn28, hn29, hn30, hn31, hn32, hn33, hn34, hn35, hP1, hD1⟩ := hB
  rw [ht] at hP1
  obtain ⟨hP, hD⟩ := PDq.join (w := [(oX10 w0 v0 v1 v2 v3 v4 g5 g6 (nI ed) g8 v9 (nI nb) g11 g12 v13 (nI ln) (nI (gP qn2)) (nI (gR (qn2 + 1))) zn3 zn4 zn5 zn6 zn7 zn12 g23 (nI qn10) zn9 zn8 v27 v28 v29 v30 v31 v32 v33 v34 v35 v36 v37 (nI ol)), (v1, .inl (cA 0, 326, .inl fn13)), (v9, .inl (cA 0, 700, .inl fb)), (v13, .inl (cA 1, 15, .inr (.inl fkw))), (v28, .inl (cA 1, 10, .inr (.inl l28))), (v30, .inl (cA 1, 8, .inr (.inl fn15))), (v32, .inl (cA 0, 400, .inl fn14))]) 0 hP hD [0, 1, 2, 3, 4, 5, 6] [] rfl rfl (by decide) (by decide) hk1 hFc hP1 hD1 rfl
  generalize H1 = H at hP hS ⊢
  rcases hw.2 with hr9 | hr9
  · skip
    have hn35 := hn35 (hw.1.trans hr9)
    subst hr9
    refine lv_if_ne (tgt := 9) hx hb dX10_condition_4 (by decide) (fun c9 => absurd c9 (by decide)) (fun c36 => ?_)
    refine lv_iconst (v := 0) hx hb dX10_condition_7 (by decide) ?_
    obtain ⟨hP9, hD9⟩ := PDq.sub (ws' := [(oX10 w0 v0 v1 v2 v3 v4 g5 g6 (nI ed) g8 v9 (nI nb) g11 g12 v13 (nI ln) (nI (gP qn2)) (nI (gR (qn2 + 1))) zn3 zn4 zn5 zn6 zn7 zn12 g23 (nI qn10) zn9 zn8 v27 v28 v29 v30 v31 v32 v33 v34 v35 v36 v37 (nI ol)), (v1, .inl (cA 0, 326, .inl fn13)), (v9, .inl (cA 0, 700, .inl fb)), (v13, .inl (cA 1, 15, .inr (.inl fkw))), (v28, .inl (cA 1, 10, .inr (.inl l28))), (v30, .inl (cA 1, 8, .inr (.inl fn15))), (v32, .inl (cA 0, 400, .inl fn14))]) hP hD [0, 1, 2, 3, 4, 5, 6] (by decide) rfl
    refine W.widen (k := 0) (n := 0) (Nat.le_of_ble_eq_true rfl) (Nat.le_of_ble_eq_true rfl) ?_
    exact (W.zret (v := 0) hx hb hr (by first | rfl | decide) (fun t ht hW => ⟨⟨0, 0, rfl, ⟨rfl, by decide⟩, qn2, zn3, zn4, zn5, zn6, zn7, zn8, zn9, qn10, qn11, zn12, fn13, fn14, fn15, zn16, hn17, hn18, hn19, hn20, hn21, hn22, hn23, (fun h9 => absurd h9 (by decide)), (fun h9 => absurd h9 (by decide)), (fun h9 => absurd h9 (by decide)), (fun h9 => absurd h9 (by decide)), (fun h9 => absurd h9 (by decide)), (fun h9 => absurd h9 (by decide)), (fun h9 => absurd h9 (by decide)), (fun h9 => absurd h9 (by decide)), (fun h9 => absurd h9 (by decide)), (fun h9 => absurd h9 (by decide)), (fun h9 => absurd h9 (by decide)), (fun _ => (P_condE hn35)), by rw [ht]; exact hP9, hD9⟩, hS.F ht⟩) hS.2.2 dX10_condition_8)
  · skip
    have hn24 := hn24 (hw.1.trans hr9)
    subst hn24
    obtain ⟨hP, hD⟩ : PDq D A [(oX10 w0 v0 v1 v2 v3 v4 g5 g6 (nI ed) g8 v9 (nI nb) g11 g12 v13 (nI ln) (nI (gP qn2)) (nI (gR (qn2 + 1))) zn3 zn4 zn5 zn6 zn7 (nI o9) g23 (nI qn10) zn9 zn8 v27 v28 v29 v30 v31 v32 v33 v34 v35 v36 v37 (nI ol)), (v1, .inl (cA 0, 326, .inl fn13)), (v9, .inl (cA 0, 700, .inl fb)), (v13, .inl (cA 1, 15, .inr (.inl fkw))), (v28, .inl (cA 1, 10, .inr (.inl l28))), (v30, .inl (cA 1, 8, .inr (.inl fn15))), (v32, .inl (cA 0, 400, .inl fn14))] H := ⟨hP, hD⟩
    have hn25 := hn25 (hw.1.trans hr9)
    obtain rfl : g20 = zn6 := hn25.symm
    obtain ⟨hP, hD⟩ : PDq D A [(oX10 w0 v0 v1 v2 v3 v4 g5 g6 (nI ed) g8 v9 (nI nb) g11 g12 v13 (nI ln) (nI (gP qn2)) (nI (gR (qn2 + 1))) zn3 zn4 zn5 g20 zn7 (nI o9) g23 (nI qn10) zn9 zn8 v27 v28 v29 v30 v31 v32 v33 v34 v35 v36 v37 (nI ol)), (v1, .inl (cA 0, 326, .inl fn13)), (v9, .inl (cA 0, 700, .inl fb)), (v13, .inl (cA 1, 15, .inr (.inl fkw))), (v28, .inl (cA 1, 10, .inr (.inl l28))), (v30, .inl (cA 1, 8, .inr (.inl fn15))), (v32, .inl (cA 0, 400, .inl fn14))] H := ⟨hP, hD⟩
    have hn26 := hn26 (hw.1.trans hr9)
    obtain rfl : g21 = zn7 := hn26.symm
    obtain ⟨hP, hD⟩ : PDq D A [(oX10 w0 v0 v1 v2 v3 v4 g5 g6 (nI ed) g8 v9 (nI nb) g11 g12 v13 (nI ln) (nI (gP qn2)) (nI (gR (qn2 + 1))) zn3 zn4 zn5 g20 g21 (nI o9) g23 (nI qn10) zn9 zn8 v27 v28 v29 v30 v31 v32 v33 v34 v35 v36 v37 (nI ol)), (v1, .inl (cA 0, 326, .inl fn13)), (v9, .inl (cA 0, 700, .inl fb)), (v13, .inl (cA 1, 15, .inr (.inl fkw))), (v28, .inl (cA 1, 10, .inr (.inl l28))), (v30, .inl (cA 1, 8, .inr (.inl fn15))), (v32, .inl (cA 0, 400, .inl fn14))] H := ⟨hP, hD⟩
    have hn27 := hn27 (hw.1.trans hr9)
    have hn28 := hn28 (hw.1.trans hr9)
    have hn29 := hn29 (hw.1.trans hr9)
    have hn30 := hn30 (hw.1.trans hr9)
    have hn31 := hn31 (hw.1.trans hr9)
    have hn32 := hn32 (hw.1.trans hr9)
    have hn33 := hn33 (hw.1.trans hr9)
    have hn34 := hn34 (hw.1.trans hr9)
    subst hr9
    refine lv_if_ne (tgt := 9) hx hb dX10_condition_4 (by decide) (fun c37 => ?_) (fun c9 => absurd c9 (by decide))
    have loop1 : ∀ (n1 i1 : Nat) (tii : Nat) (qi : Nat) (pli : List Int64) (u0_17_1 : Int32) (u0_18_1 : Int32) (u0_19_1 : Int32) (cdi : Nat) (u0_25_1 : Int64) (u0_26_1 : Int32) (f1_1 : Nat → Int32) (f5_1 : Nat → Int64) (f6_1 : Nat → Int32) (H : Heap) (locs : List Loc) (ls : Array Slot), i1 + n1 = 701 → i1 ≤ tii → tii < ct → gP tii ≤ ln → TKR (gK tii) (gV tii) (fb (gP tii)) u0_17_1 u0_18_1 u0_19_1 u0_25_1 → ti + 1 ≤ tii → cd ≤ cdi → 2 * cdi + sl ≤ gP tii → qi ≤ 8 → RI cn qi en dy f1_1 → NL pli qi f5_1 → Kp cd fc f6_1 → Sg cd cdi f6_1 → Cn gK gS gV ml 3 o9 ti pl 4 tii pli → CRL gK gV 3 ti 4 tii ml pl pli cd cdi fc f6_1 → K14 fp f1_1 → va_P D vwCl [(oX10 w0 v0 v1 v2 v3 v4 g5 g6 (nI ed) g8 v9 (nI nb) g11 g12 v13 (nI ln) (nI (gP tii)) (nI (gR (tii + 1))) u0_17_1 u0_18_1 u0_19_1 g20 g21 (nI o9) g23 (nI cdi) u0_25_1 u0_26_1 v27 v28 v29 v30 v31 v32 v33 v34 v35 v36 v37 (nI ol)), (v1, .inl (cA 0, 326, .inl f1_1)), (v9, .inl (cA 0, 700, .inl fb)), (v13, .inl (cA 1, 15, .inr (.inl fkw))), (v28, .inl (cA 1, 10, .inr (.inl l28))), (v30, .inl (cA 1, 8, .inr (.inl f5_1))), (v32, .inl (cA 0, 400, .inl f6_1))] H → va_D A [(oX10 w0 v0 v1 v2 v3 v4 g5 g6 (nI ed) g8 v9 (nI nb) g11 g12 v13 (nI ln) (nI (gP tii)) (nI (gR (tii + 1))) u0_17_1 u0_18_1 u0_19_1 g20 g21 (nI o9) g23 (nI cdi) u0_25_1 u0_26_1 v27 v28 v29 v30 v31 v32 v33 v34 v35 v36 v37 (nI ol)), (v1, .inl (cA 0, 326, .inl f1_1)), (v9, .inl (cA 0, 700, .inl fb)), (v13, .inl (cA 1, 15, .inr (.inl fkw))), (v28, .inl (cA 1, 10, .inr (.inl l28))), (v30, .inl (cA 1, 8, .inr (.inl f5_1))), (v32, .inl (cA 0, 400, .inl f6_1))] → va_S A s.heap H locs → lv_has ls 1 [(0, .ref w0)] → W p l e (headSpec wsX10_condition ({ frames := 23, cells := 0, slots := 0, locals := 380 } : Room)).room s m ([.ref w0] : List Value).toArray below meth c H locs 0 0 (MQ below (va_Qi (fun (r : Int32) (u9 : Int32) => u9 = r ∧ (r = 0 ∨ r = 1)) (fun (u9 : Int32) t => ∃ tj : Nat, ∃ z17 : Int32, ∃ z18 : Int32, ∃ z19 : Int32, ∃ z20 : Int32, ∃ z21 : Int32, ∃ z26 : Int32, ∃ z25 : Int64, ∃ cd2 : Nat, ∃ pq2 : Nat, ∃ zop : Int32, ∃ zp : Nat → Int32, ∃ zc : Nat → Int32, ∃ zl : Nat → Int64, ∃ zpl : List Int64, tj < ct ∧ gP tj ≤ ln ∧ ti ≤ tj ∧ TKR (gK tj) (gV tj) (fb (gP tj)) z17 z18 z19 z25 ∧ pq2 ≤ 8 ∧ RI cn pq2 en dy zp ∧ NL zpl pq2 zl ∧ (u9 = 1 → zop = (nI o9)) ∧ (u9 = 1 → z20 = g20) ∧ (u9 = 1 → z21 = g21) ∧ (u9 = 1 → ti + 1 ≤ tj) ∧ (u9 = 1 → cd ≤ cd2) ∧ (u9 = 1 → 2 * cd2 + sl ≤ gP tj) ∧ (u9 = 1 → Kp cd fc zc) ∧ (u9 = 1 → Sg cd cd2 zc) ∧ (u9 = 1 → PRx gK gS gV ml 3 o9 ti pl (.inr (tj, zpl))) ∧ (u9 = 1 → CR9 gK gV 3 ti tj ml pl zpl cd cd2 fc zc) ∧ (u9 = 1 → K14 fp zp) ∧ (u9 = 0 → PRx gK gS gV ml 3 o9 ti pl (.inl (z20, z21))) ∧ Wq D A [(oX10 w0 v0 v1 v2 v3 v4 g5 g6 (nI ed) g8 v9 (nI nb) g11 g12 v13 (nI ln) (nI (gP tj)) (nI (gR (tj + 1))) z17 z18 z19 z20 z21 zop g23 (nI cd2) z25 z26 v27 v28 v29 v30 v31 v32 v33 v34 v35 v36 v37 (nI ol)), (v1, .inl (cA 0, 326, .inl zp)), (v9, .inl (cA 0, 700, .inl fb)), (v13, .inl (cA 1, 15, .inr (.inl fkw))), (v28, .inl (cA 1, 10, .inr (.inl l28))), (v30, .inl (cA 1, 8, .inr (.inl zl))), (v32, .inl (cA 0, 400, .inl zc))] t) A) ([.ref w0] : List Value).toArray s 0 0 A) (F0 m 9 ls []) := by
      intro n1
      induction n1 with
      | zero =>
        intro i1 tii qi pli u0_17_1 u0_18_1 u0_19_1 cdi u0_25_1 u0_26_1 f1_1 f5_1 f6_1 H locs ls hi1 hv0_1 hv1_1 hv2_1 hv3_1 hv4_1 hv5_1 hv6_1 hv7_1 hv8_1 hv9_1 hv10_1 hv11_1 hv12_1 hv13_1 hv14_1 hP hD hS hl
        obtain rfl : 701 = i1 := by omega
        exact absurd hv0_1 (by omega)
      | succ n1 ih1 =>
        intro i1 tii qi pli u0_17_1 u0_18_1 u0_19_1 cdi u0_25_1 u0_26_1 f1_1 f5_1 f6_1 H locs ls hi1 hv0_1 hv1_1 hv2_1 hv3_1 hv4_1 hv5_1 hv6_1 hv7_1 hv8_1 hv9_1 hv10_1 hv11_1 hv12_1 hv13_1 hv14_1 hP hD hS hl
        refine lv_aload_n hx hb dX10_condition_9 rfl (lv_at hl 0 rfl) ?_
        refine lv_bipush (v := 6) hx hb dX10_condition_10 (by decide) ?_
        obtain ⟨hPc, hDc, hFc⟩ := PDq.cut (wc := [(oX10 w0 v0 v1 v2 v3 v4 g5 g6 (nI ed) g8 v9 (nI nb) g11 g12 v13 (nI ln) (nI (gP tii)) (nI (gR (tii + 1))) u0_17_1 u0_18_1 u0_19_1 g20 g21 (nI o9) g23 (nI cdi) u0_25_1 u0_26_1 v27 v28 v29 v30 v31 v32 v33 v34 v35 v36 v37 (nI ol))]) hP hD hS hA [0] (by decide) rfl
        refine va_calli (va_runV (As := [.int 6]) (rest := []) ⟨hx, hb, hml, hown, hts⟩ (y_kw6 l D cA sa w0 ed nb ol v0 v1 v2 v3 v4 v9 v13 v27 v28 v29 v30 v31 v32 v33 v34 v35 v36 v37 g8 g11 g12 u0_19_1 g20 g21 (nI o9) g23 u0_26_1 g5 g6 u0_25_1 ln cdi u0_17_1 u0_18_1 tii ct fb gP gR gS gK gV H.size hln hct hv1_1 hTX hBY hv3_1) (cwV 1 hts gX10_condition_X10_isKeyword rfl rfl rfl (by decide +kernel) ⟨by show (0) + 1 ≤ 23; omega, by show 8 + (2 + 11) + (0) ≤ 380; omega⟩) ⟨Wd.blind, va_recv hK hPc (ci := 11) (q0 := 0) rfl rfl, fun U hU hW => ⟨rfl, Wd.call hPc hDc hK hC hZ hS hFc U hU hW⟩⟩ rfl rfl hl.1 rfl (lv_room (Nat.le_of_ble_eq_true rfl)) dX10_condition_12 ⟨(Nat.le_of_ble_eq_true rfl), (Nat.le_of_ble_eq_true rfl)⟩) hS (fun q _ h => hFc q h) hFc (fun rn38 u t H1 locs ht hvm hw hB hz1 hk1 hS => ?_)
        obtain ⟨hP1, hD1⟩ := hB
        rw [ht] at hP1
        obtain ⟨hP, hD⟩ := PDq.join (w := [(v1, .inl (cA 0, 326, .inl f1_1)), (v9, .inl (cA 0, 700, .inl fb)), (v13, .inl (cA 1, 15, .inr (.inl fkw))), (v28, .inl (cA 1, 10, .inr (.inl l28))), (v30, .inl (cA 1, 8, .inr (.inl f5_1))), (v32, .inl (cA 0, 400, .inl f6_1)), (oX10 w0 v0 v1 v2 v3 v4 g5 g6 (nI ed) g8 v9 (nI nb) g11 g12 v13 (nI ln) (nI (gP tii)) (nI (gR (tii + 1))) u0_17_1 u0_18_1 u0_19_1 g20 g21 (nI o9) g23 (nI cdi) u0_25_1 u0_26_1 v27 v28 v29 v30 v31 v32 v33 v34 v35 v36 v37 (nI ol))]) 6 hP hD [0] [1, 2, 3, 4, 5, 6] rfl rfl (by decide) (by decide) hk1 hFc hP1 hD1 rfl
        generalize H1 = H at hP hS ⊢
        rcases hw with ⟨hr9, hn39⟩ | ⟨hr9, hn39⟩
        · skip
          subst hr9
          refine lv_if_eq (tgt := 42) hx hb dX10_condition_15 (by decide) (fun c9 => absurd c9 (by decide)) (fun c40 => ?_)
          refine lv_aload_n hx hb dX10_condition_18 rfl (lv_at hl 0 rfl) ?_
          have hn41 := TX.go2 hTX (show tii < ct by omega) (by rw [hn39]; decide)
          have hn41a := TX.le hTX (show tii < ct by omega)
          have hn41b := TX.le hTX hn41.1
          obtain ⟨hPc, hDc, hFc⟩ := PDq.cut (wc := [(oX10 w0 v0 v1 v2 v3 v4 g5 g6 (nI ed) g8 v9 (nI nb) g11 g12 v13 (nI ln) (nI (gP tii)) (nI (gR (tii + 1))) u0_17_1 u0_18_1 u0_19_1 g20 g21 (nI o9) g23 (nI cdi) u0_25_1 u0_26_1 v27 v28 v29 v30 v31 v32 v33 v34 v35 v36 v37 (nI ol)), (v9, .inl (cA 0, 700, .inl fb)), (v13, .inl (cA 1, 15, .inr (.inl fkw)))]) hP hD hS hA [6, 1, 2] (by decide) rfl
          refine va_calli (va_runV (As := []) (rest := []) ⟨hx, hb, hml, hown, hts⟩ (y_advance l D cA sa w0 ed nb ol v0 v1 v2 v3 v4 v9 v13 v27 v28 v29 v30 v31 v32 v33 v34 v35 v36 v37 g8 g11 g12 (nI (gP tii)) u0_17_1 u0_18_1 u0_19_1 g20 g21 (nI o9) g23 (nI cdi) u0_26_1 g5 g6 u0_25_1 ln (gR (tii + 1)) fb fkw (gP (tii + 1)) (gR ((tii + 1) + 1)) (gK (tii + 1)) (gV (tii + 1)) H.size hln (by omega) hKW hBY (TX.t hTX hn41.1)) (cwV 0 hts gX10_condition_X10_advance rfl rfl rfl (by decide +kernel) ⟨by show (1) + 1 ≤ 23; omega, by show 8 + (2 + 11) + (23) ≤ 380; omega⟩) ⟨Wd.blind, va_recv hK hPc (ci := 11) (q0 := 0) rfl rfl, fun U hU hW => ⟨rfl, Wd.call hPc hDc hK hC hZ hS hFc U hU hW⟩⟩ rfl rfl hl.1 rfl (lv_room (Nat.le_of_ble_eq_true rfl)) dX10_condition_19 ⟨(Nat.le_of_ble_eq_true rfl), (Nat.le_of_ble_eq_true rfl)⟩) hS (fun q _ h => hFc q h) hFc (fun rn42 u t H1 locs ht hvm hw hB hz1 hk1 hS => ?_)
          obtain ⟨zn43, zn44, zn45, zn46, hn47, hP1, hD1⟩ := hB
          rw [ht] at hP1
          obtain ⟨hP, hD⟩ := PDq.join (w := [(v1, .inl (cA 0, 326, .inl f1_1)), (v28, .inl (cA 1, 10, .inr (.inl l28))), (v30, .inl (cA 1, 8, .inr (.inl f5_1))), (v32, .inl (cA 0, 400, .inl f6_1)), (oX10 w0 v0 v1 v2 v3 v4 g5 g6 (nI ed) g8 v9 (nI nb) g11 g12 v13 (nI ln) (nI (gP (tii + 1))) (nI (gR ((tii + 1) + 1))) zn43 zn44 zn45 g20 g21 (nI o9) g23 (nI cdi) zn46 u0_26_1 v27 v28 v29 v30 v31 v32 v33 v34 v35 v36 v37 (nI ol)), (v9, .inl (cA 0, 700, .inl fb)), (v13, .inl (cA 1, 15, .inr (.inl fkw)))]) 4 hP hD [6, 1, 2] [0, 3, 4, 5] rfl rfl (by decide) (by decide) hk1 hFc hP1 hD1 rfl
          generalize H1 = H at hP hS ⊢
          obtain rfl : rn42 = 1 := hw
          refine lv_pop hx hb dX10_condition_22 rfl ?_
          refine lv_aload_n hx hb dX10_condition_23 rfl (lv_at hl 0 rfl) ?_
          obtain ⟨hPc, hDc, hFc⟩ := PDq.cut (wc := [(oX10 w0 v0 v1 v2 v3 v4 g5 g6 (nI ed) g8 v9 (nI nb) g11 g12 v13 (nI ln) (nI (gP (tii + 1))) (nI (gR ((tii + 1) + 1))) zn43 zn44 zn45 g20 g21 (nI o9) g23 (nI cdi) zn46 u0_26_1 v27 v28 v29 v30 v31 v32 v33 v34 v35 v36 v37 (nI ol)), (v1, .inl (cA 0, 326, .inl f1_1)), (v9, .inl (cA 0, 700, .inl fb)), (v13, .inl (cA 1, 15, .inr (.inl fkw))), (v28, .inl (cA 1, 10, .inr (.inl l28))), (v30, .inl (cA 1, 8, .inr (.inl f5_1))), (v32, .inl (cA 0, 400, .inl f6_1))]) hP hD hS hA [4, 0, 5, 6, 1, 2, 3] (by decide) rfl
          refine va_calli (va_runV (As := []) (rest := []) ⟨hx, hb, hml, hown, hts⟩ (y_both_B l D cA sa w0 ed nb ol v0 v1 v2 v3 v4 v9 v13 v27 v28 v29 v30 v31 v32 v33 v34 v35 v36 v37 g8 g11 g12 zn45 g20 g21 g23 u0_26_1 g5 g6 zn46 ln cdi zn43 zn44 (tii + 1) ct fb fkw gP gR gS gK gV cn qi en dy f1_1 (sl + 2) o9 l28 f5_1 f6_1 ml pli H.size hln hct hn41.1 hTX hBY hn47 hKW hcn hv7_1 hen hdy hv8_1 (by omega) hNM hv9_1 ho) (cwV 0 hts gX10_condition_X10_both rfl rfl rfl (by decide +kernel) ⟨by show (22) + 1 ≤ 23; omega, by show 8 + (1 + 11) + (360) ≤ 380; omega⟩) ⟨Wd.blind, va_recv hK hPc (ci := 11) (q0 := 0) rfl rfl, fun U hU hW => ⟨rfl, Wd.call hPc hDc hK hC hZ hS hFc U hU hW⟩⟩ rfl rfl hl.1 rfl (lv_room (Nat.le_of_ble_eq_true rfl)) dX10_condition_24 ⟨(Nat.le_of_ble_eq_true rfl), (Nat.le_of_ble_eq_true rfl)⟩) hS (fun q _ h => hFc q h) hFc (fun rn48 u t H1 locs ht hvm hw hB hz1 hk1 hS => ?_)
          obtain ⟨qn49, zn50, zn51, zn52, zn53, zn54, zn55, zn56, qn57, qn58, zn59, fn60, fn61, fn62, zn63, hn64, hn65, hn66, hn67, hn68, hn69, hn70, hn71, hn72, hn73, hn74, hn75, hn76, hn77, hn78, hn79, hn80, hn81, hn82, hP1, hD1⟩ := hB
          rw [ht] at hP1
          obtain ⟨hP, hD⟩ := PDq.join (w := [(oX10 w0 v0 v1 v2 v3 v4 g5 g6 (nI ed) g8 v9 (nI nb) g11 g12 v13 (nI ln) (nI (gP qn49)) (nI (gR (qn49 + 1))) zn50 zn51 zn52 zn53 zn54 zn59 g23 (nI qn57) zn56 zn55 v27 v28 v29 v30 v31 v32 v33 v34 v35 v36 v37 (nI ol)), (v1, .inl (cA 0, 326, .inl fn60)), (v9, .inl (cA 0, 700, .inl fb)), (v13, .inl (cA 1, 15, .inr (.inl fkw))), (v28, .inl (cA 1, 10, .inr (.inl l28))), (v30, .inl (cA 1, 8, .inr (.inl fn62))), (v32, .inl (cA 0, 400, .inl fn61))]) 0 hP hD [4, 0, 5, 6, 1, 2, 3] [] rfl rfl (by decide) (by decide) hk1 hFc hP1 hD1 rfl
          generalize H1 = H at hP hS ⊢
          rcases hw.2 with hr9 | hr9
          · skip
            have hn82 := hn82 (hw.1.trans hr9)
            subst hr9
            refine lv_if_ne (tgt := 32) hx hb dX10_condition_27 (by decide) (fun c9 => absurd c9 (by decide)) (fun c83 => ?_)
            refine lv_iconst (v := 0) hx hb dX10_condition_30 (by decide) ?_
            obtain ⟨hP9, hD9⟩ := PDq.sub (ws' := [(oX10 w0 v0 v1 v2 v3 v4 g5 g6 (nI ed) g8 v9 (nI nb) g11 g12 v13 (nI ln) (nI (gP qn49)) (nI (gR (qn49 + 1))) zn50 zn51 zn52 zn53 zn54 zn59 g23 (nI qn57) zn56 zn55 v27 v28 v29 v30 v31 v32 v33 v34 v35 v36 v37 (nI ol)), (v1, .inl (cA 0, 326, .inl fn60)), (v9, .inl (cA 0, 700, .inl fb)), (v13, .inl (cA 1, 15, .inr (.inl fkw))), (v28, .inl (cA 1, 10, .inr (.inl l28))), (v30, .inl (cA 1, 8, .inr (.inl fn62))), (v32, .inl (cA 0, 400, .inl fn61))]) hP hD [0, 1, 2, 3, 4, 5, 6] (by decide) rfl
            refine W.widen (k := 0) (n := 0) (Nat.le_of_ble_eq_true rfl) (Nat.le_of_ble_eq_true rfl) ?_
            exact (W.zret (v := 0) hx hb hr (by first | rfl | decide) (fun t ht hW => ⟨⟨0, 0, rfl, ⟨rfl, by decide⟩, qn49, zn50, zn51, zn52, zn53, zn54, zn55, zn56, qn57, qn58, zn59, fn60, fn61, fn62, zn63, hn64, hn65, (by omega), hn67, hn68, hn69, hn70, (fun h9 => absurd h9 (by decide)), (fun h9 => absurd h9 (by decide)), (fun h9 => absurd h9 (by decide)), (fun h9 => absurd h9 (by decide)), (fun h9 => absurd h9 (by decide)), (fun h9 => absurd h9 (by decide)), (fun h9 => absurd h9 (by decide)), (fun h9 => absurd h9 (by decide)), (fun h9 => absurd h9 (by decide)), (fun h9 => absurd h9 (by decide)), (fun h9 => absurd h9 (by decide)), (fun _ => (hv12_1 _ (P_orE hn39 hn82))), by rw [ht]; exact hP9, hD9⟩, hS.F ht⟩) hS.2.2 dX10_condition_31)
          · skip
            have hn71 := hn71 (hw.1.trans hr9)
            subst hn71
            obtain ⟨hP, hD⟩ : PDq D A [(oX10 w0 v0 v1 v2 v3 v4 g5 g6 (nI ed) g8 v9 (nI nb) g11 g12 v13 (nI ln) (nI (gP qn49)) (nI (gR (qn49 + 1))) zn50 zn51 zn52 zn53 zn54 (nI o9) g23 (nI qn57) zn56 zn55 v27 v28 v29 v30 v31 v32 v33 v34 v35 v36 v37 (nI ol)), (v1, .inl (cA 0, 326, .inl fn60)), (v9, .inl (cA 0, 700, .inl fb)), (v13, .inl (cA 1, 15, .inr (.inl fkw))), (v28, .inl (cA 1, 10, .inr (.inl l28))), (v30, .inl (cA 1, 8, .inr (.inl fn62))), (v32, .inl (cA 0, 400, .inl fn61))] H := ⟨hP, hD⟩
            have hn72 := hn72 (hw.1.trans hr9)
            obtain rfl : g20 = zn53 := hn72.symm
            obtain ⟨hP, hD⟩ : PDq D A [(oX10 w0 v0 v1 v2 v3 v4 g5 g6 (nI ed) g8 v9 (nI nb) g11 g12 v13 (nI ln) (nI (gP qn49)) (nI (gR (qn49 + 1))) zn50 zn51 zn52 g20 zn54 (nI o9) g23 (nI qn57) zn56 zn55 v27 v28 v29 v30 v31 v32 v33 v34 v35 v36 v37 (nI ol)), (v1, .inl (cA 0, 326, .inl fn60)), (v9, .inl (cA 0, 700, .inl fb)), (v13, .inl (cA 1, 15, .inr (.inl fkw))), (v28, .inl (cA 1, 10, .inr (.inl l28))), (v30, .inl (cA 1, 8, .inr (.inl fn62))), (v32, .inl (cA 0, 400, .inl fn61))] H := ⟨hP, hD⟩
            have hn73 := hn73 (hw.1.trans hr9)
            obtain rfl : g21 = zn54 := hn73.symm
            obtain ⟨hP, hD⟩ : PDq D A [(oX10 w0 v0 v1 v2 v3 v4 g5 g6 (nI ed) g8 v9 (nI nb) g11 g12 v13 (nI ln) (nI (gP qn49)) (nI (gR (qn49 + 1))) zn50 zn51 zn52 g20 g21 (nI o9) g23 (nI qn57) zn56 zn55 v27 v28 v29 v30 v31 v32 v33 v34 v35 v36 v37 (nI ol)), (v1, .inl (cA 0, 326, .inl fn60)), (v9, .inl (cA 0, 700, .inl fb)), (v13, .inl (cA 1, 15, .inr (.inl fkw))), (v28, .inl (cA 1, 10, .inr (.inl l28))), (v30, .inl (cA 1, 8, .inr (.inl fn62))), (v32, .inl (cA 0, 400, .inl fn61))] H := ⟨hP, hD⟩
            have hn74 := hn74 (hw.1.trans hr9)
            have hn75 := hn75 (hw.1.trans hr9)
            have hn76 := hn76 (hw.1.trans hr9)
            have hn77 := hn77 (hw.1.trans hr9)
            have hn78 := hn78 (hw.1.trans hr9)
            have hn79 := hn79 (hw.1.trans hr9)
            have hn80 := hn80 (hw.1.trans hr9)
            have hn81 := hn81 (hw.1.trans hr9)
            subst hr9
            refine lv_if_ne (tgt := 32) hx hb dX10_condition_27 (by decide) (fun c84 => ?_) (fun c9 => absurd c9 (by decide))
            refine lv_aload_n hx hb dX10_condition_32 rfl (lv_at hl 0 rfl) ?_
            refine lv_bipush (v := (-2)) hx hb dX10_condition_33 (by decide) ?_
            obtain ⟨hPc, hDc, hFc⟩ := PDq.cut (wc := [(oX10 w0 v0 v1 v2 v3 v4 g5 g6 (nI ed) g8 v9 (nI nb) g11 g12 v13 (nI ln) (nI (gP qn49)) (nI (gR (qn49 + 1))) zn50 zn51 zn52 g20 g21 (nI o9) g23 (nI qn57) zn56 zn55 v27 v28 v29 v30 v31 v32 v33 v34 v35 v36 v37 (nI ol)), (v32, .inl (cA 0, 400, .inl fn61))]) hP hD hS hA [0, 6] (by decide) rfl
            refine va_calli (va_runV (As := [.int (-2)]) (rest := []) ⟨hx, hb, hml, hown, hts⟩ (r_emit l D cA sa w0 ed nb ol v0 v1 v2 v3 v4 v9 v13 v27 v28 v29 v30 v31 v32 v33 v34 v35 v36 v37 g8 g11 g12 (nI ln) (nI (gP qn49)) (nI (gR (qn49 + 1))) zn50 zn51 zn52 g20 g21 (nI o9) g23 zn55 g5 g6 zn56 qn57 (-2) fn61 H.size (by omega)) (cwV 1 hts gX10_condition_X10_emit rfl rfl rfl (by decide +kernel) ⟨by show (0) + 1 ≤ 23; omega, by show 8 + (2 + 11) + (0) ≤ 380; omega⟩) ⟨Wd.blind, va_recv hK hPc (ci := 11) (q0 := 0) rfl rfl, fun U hU hW => ⟨rfl, Wd.call hPc hDc hK hC hZ hS hFc U hU hW⟩⟩ rfl rfl hl.1 rfl (lv_room (Nat.le_of_ble_eq_true rfl)) dX10_condition_35 ⟨(Nat.le_of_ble_eq_true rfl), (Nat.le_of_ble_eq_true rfl)⟩) hS (fun q _ h => hFc q h) hFc (fun rn85 u t H1 locs ht hvm hw hB hz1 hk1 hS => ?_)
            obtain ⟨fn86, hn87, hP1, hD1⟩ := hB
            rw [ht] at hP1
            obtain ⟨hP, hD⟩ := PDq.join (w := [(v1, .inl (cA 0, 326, .inl fn60)), (v9, .inl (cA 0, 700, .inl fb)), (v13, .inl (cA 1, 15, .inr (.inl fkw))), (v28, .inl (cA 1, 10, .inr (.inl l28))), (v30, .inl (cA 1, 8, .inr (.inl fn62))), (oX10 w0 v0 v1 v2 v3 v4 g5 g6 (nI ed) g8 v9 (nI nb) g11 g12 v13 (nI ln) (nI (gP qn49)) (nI (gR (qn49 + 1))) zn50 zn51 zn52 g20 g21 (nI o9) g23 (nI (qn57 + 1)) zn56 zn55 v27 v28 v29 v30 v31 v32 v33 v34 v35 v36 v37 (nI ol)), (v32, .inl (cA 0, 400, .inl fn86))]) 5 hP hD [0, 6] [1, 2, 3, 4, 5] rfl rfl (by decide) (by decide) hk1 hFc hP1 hD1 rfl
            generalize H1 = H at hP hS ⊢
            obtain rfl : rn85 = 1 := hw
            refine lv_pop hx hb dX10_condition_38 rfl ?_
            have hn88 := Kp.tr (Kp.tr hv10_1 hn77 (by omega)) (Em.kp hn87) (by omega)
            have hn89 := Sg.join hv11_1 hn77 hn78 hn87 (by decide)
            refine lv_goto (tgt := 9) hx hb dX10_condition_39 (by decide) ?_
            obtain ⟨hP9, hD9⟩ := PDq.sub (ws' := [(oX10 w0 v0 v1 v2 v3 v4 g5 g6 (nI ed) g8 v9 (nI nb) g11 g12 v13 (nI ln) (nI (gP qn49)) (nI (gR (qn49 + 1))) zn50 zn51 zn52 g20 g21 (nI o9) g23 (nI (qn57 + 1)) zn56 zn55 v27 v28 v29 v30 v31 v32 v33 v34 v35 v36 v37 (nI ol)), (v1, .inl (cA 0, 326, .inl fn60)), (v9, .inl (cA 0, 700, .inl fb)), (v13, .inl (cA 1, 15, .inr (.inl fkw))), (v28, .inl (cA 1, 10, .inr (.inl l28))), (v30, .inl (cA 1, 8, .inr (.inl fn62))), (v32, .inl (cA 0, 400, .inl fn86))]) hP hD [5, 0, 1, 2, 3, 4, 6] (by decide) rfl
            exact ih1 (i1 + 1) qn49 qn58 zn63 zn50 zn51 zn52 (qn57 + 1) zn56 zn55 fn60 fn62 fn86 H _ ls (by omega) (by omega) hn64 hn65 hn67 (by omega) (by omega) (by omega) hn68 hn69 hn70 hn88 hn89 (fun r9 h9 => hv12_1 r9 (P_or hn39 hn79 h9)) (CRL.or hv13_1 hn39 hn80 hn87 rfl (by have q9 := hNM.1; omega) (by have q9 := hn70.1; omega)) (K14.tr hv14_1 hn81) hP9 hD9 hS (lv_sub hl [0] rfl)
        · skip
          subst hr9
          refine lv_if_eq (tgt := 42) hx hb dX10_condition_15 (by decide) (fun c90 => ?_) (fun c9 => absurd c9 (by decide))
          refine lv_iconst (v := 1) hx hb dX10_condition_42 (by decide) ?_
          obtain ⟨hP9, hD9⟩ := PDq.sub (ws' := [(oX10 w0 v0 v1 v2 v3 v4 g5 g6 (nI ed) g8 v9 (nI nb) g11 g12 v13 (nI ln) (nI (gP tii)) (nI (gR (tii + 1))) u0_17_1 u0_18_1 u0_19_1 g20 g21 (nI o9) g23 (nI cdi) u0_25_1 u0_26_1 v27 v28 v29 v30 v31 v32 v33 v34 v35 v36 v37 (nI ol)), (v1, .inl (cA 0, 326, .inl f1_1)), (v9, .inl (cA 0, 700, .inl fb)), (v13, .inl (cA 1, 15, .inr (.inl fkw))), (v28, .inl (cA 1, 10, .inr (.inl l28))), (v30, .inl (cA 1, 8, .inr (.inl f5_1))), (v32, .inl (cA 0, 400, .inl f6_1))]) hP hD [6, 0, 1, 2, 3, 4, 5] (by decide) rfl
          refine W.widen (k := 0) (n := 0) (Nat.le_of_ble_eq_true rfl) (Nat.le_of_ble_eq_true rfl) ?_
          exact (W.zret (v := 1) hx hb hr (by first | rfl | decide) (fun t ht hW => ⟨⟨1, 1, rfl, ⟨rfl, by decide⟩, tii, u0_17_1, u0_18_1, u0_19_1, g20, g21, u0_26_1, u0_25_1, cdi, qi, (nI o9), f1_1, f6_1, f5_1, pli, hv1_1, hv2_1, (by omega), hv3_1, hv7_1, hv8_1, hv9_1, (fun _ => rfl), (fun _ => rfl), (fun _ => rfl), (fun _ => hv4_1), (fun _ => hv5_1), (fun _ => hv6_1), (fun _ => hv10_1), (fun _ => hv11_1), (fun _ => (hv12_1 _ (P_end4 hn39))), (fun _ => (CRL.end4 hv13_1 hn39)), (fun _ => hv14_1), (fun h9 => absurd h9 (by decide)), by rw [ht]; exact hP9, hD9⟩, hS.F ht⟩) hS.2.2 dX10_condition_43)
    obtain ⟨hP9, hD9⟩ := PDq.sub (ws' := [(oX10 w0 v0 v1 v2 v3 v4 g5 g6 (nI ed) g8 v9 (nI nb) g11 g12 v13 (nI ln) (nI (gP qn2)) (nI (gR (qn2 + 1))) zn3 zn4 zn5 g20 g21 (nI o9) g23 (nI qn10) zn9 zn8 v27 v28 v29 v30 v31 v32 v33 v34 v35 v36 v37 (nI ol)), (v1, .inl (cA 0, 326, .inl fn13)), (v9, .inl (cA 0, 700, .inl fb)), (v13, .inl (cA 1, 15, .inr (.inl fkw))), (v28, .inl (cA 1, 10, .inr (.inl l28))), (v30, .inl (cA 1, 8, .inr (.inl fn15))), (v32, .inl (cA 0, 400, .inl fn14))]) hP hD [0, 1, 2, 3, 4, 5, 6] (by decide) rfl
    exact loop1 (701 - 0) 0 qn2 qn11 zn16 zn3 zn4 zn5 qn10 zn9 zn8 fn13 fn15 fn14 _ _ ls (by omega) (by omega) hn17 hn18 hn20 hn27 hn28 hn29 hn21 hn22 hn23 hn30 hn31 (fun r9 h9 => P_cond hn32 h9) (CRL.cond hn33) hn34 hP9 hD9 hS (lv_sub hl [0] rfl)

def YFactC (l : Launch) (D : va_G) (cA : Nat → ClassId) (sa : Nat → Nat) (k9 : Nat) : Prop := ∀ (w0 : Nat) (ed : Nat) (nb : Nat) (ol : Nat) (v0 : Nat) (v1 : Nat) (v2 : Nat) (v3 : Nat) (v4 : Nat) (v9 : Nat) (v13 : Nat) (v27 : Nat) (v28 : Nat) (v29 : Nat) (v30 : Nat) (v31 : Nat) (v32 : Nat) (v33 : Nat) (v34 : Nat) (v35 : Nat) (v36 : Nat) (v37 : Nat) (g8 : Int32) (g11 : Int32) (g12 : Int32) (g19 : Int32) (g20 : Int32) (g21 : Int32) (g23 : Int32) (g26 : Int32) (g5 : Int64) (g6 : Int64) (g25 : Int64) (ln : Nat) (cd : Nat) (tk : Int32) (kw : Int32) (ti : Nat) (ct : Nat) (fb : Nat → Int32) (fkw : Nat → Int64) (gP : Nat → Nat) (gR : Nat → Nat) (gS : Nat → Int32) (gK : Nat → Int32) (gV : Nat → Int64) (cn : Nat) (pq : Nat) (en : Nat) (dy : Nat) (fp : Nat → Int32) (sl : Nat) (o9 : Nat) (l28 : Nat → Int64) (l30 : Nat → Int64) (fc : Nat → Int32) (ml : List Int64) (pl : List Int64) (sz : Nat) (hln : ln ≤ 700) (hct : ct ≤ 701) (hti : ti < ct) (hTX : TX fb ln ct gP gR gS gV gK) (hBY : BYn ln fb) (hTK : TKR (gK ti) (gV ti) (fb (gP ti)) tk kw g19 g25) (hKW : KW 15 fkw) (hcn : cn ≤ 10) (hpq : pq ≤ 8) (hen : en ≤ 60) (hdy : dy ≤ 20000) (hri : RI cn pq en dy fp) (hcd : 2 * cd + sl ≤ gP ti) (hNM : NL ml cn l28) (hNP : NL pl pq l30) (ho : o9 + k9 = 8), Met l yX10_fact wsX10_fact ({ frames := 4 * k9 + 21, cells := 0, slots := 0, locals := 80 * k9 + 340 }) (va_Pc [.ref w0] (Wd D cA sa [(oX10 w0 v0 v1 v2 v3 v4 g5 g6 (nI ed) g8 v9 (nI nb) g11 g12 v13 (nI ln) (nI (gP ti)) (nI (gR (ti + 1))) tk kw g19 g20 g21 (nI o9) g23 (nI cd) g25 g26 v27 v28 v29 v30 v31 v32 v33 v34 v35 v36 v37 (nI ol)), (v1, .inl (cA 0, 326, .inl fp)), (v9, .inl (cA 0, 700, .inl fb)), (v13, .inl (cA 1, 15, .inr (.inl fkw))), (v28, .inl (cA 1, 10, .inr (.inl l28))), (v30, .inl (cA 1, 8, .inr (.inl l30))), (v32, .inl (cA 0, 400, .inl fc))] sz)) (va_Qi (fun (r : Int32) (u9 : Int32) => u9 = r ∧ (r = 0 ∨ r = 1)) (fun (u9 : Int32) t => ∃ tj : Nat, ∃ z17 : Int32, ∃ z18 : Int32, ∃ z19 : Int32, ∃ z20 : Int32, ∃ z21 : Int32, ∃ z26 : Int32, ∃ z25 : Int64, ∃ cd2 : Nat, ∃ pq2 : Nat, ∃ zop : Int32, ∃ zp : Nat → Int32, ∃ zc : Nat → Int32, ∃ zl : Nat → Int64, ∃ zpl : List Int64, tj < ct ∧ gP tj ≤ ln ∧ ti ≤ tj ∧ TKR (gK tj) (gV tj) (fb (gP tj)) z17 z18 z19 z25 ∧ pq2 ≤ 8 ∧ RI cn pq2 en dy zp ∧ NL zpl pq2 zl ∧ (u9 = 1 → zop = (nI o9)) ∧ (u9 = 1 → z20 = g20) ∧ (u9 = 1 → z21 = g21) ∧ (u9 = 1 → ti + 1 ≤ tj) ∧ (u9 = 1 → cd ≤ cd2) ∧ (u9 = 1 → 2 * cd2 + sl ≤ gP tj) ∧ (u9 = 1 → Kp cd fc zc) ∧ (u9 = 1 → Sg cd cd2 zc) ∧ (u9 = 1 → PRx gK gS gV ml 0 o9 ti pl (.inr (tj, zpl))) ∧ (u9 = 1 → CR9 gK gV 0 ti tj ml pl zpl cd cd2 fc zc) ∧ (u9 = 1 → K14 fp zp) ∧ (u9 = 0 → PRx gK gS gV ml 0 o9 ti pl (.inl (z20, z21))) ∧ Wq D (va_A [(oX10 w0 v0 v1 v2 v3 v4 g5 g6 (nI ed) g8 v9 (nI nb) g11 g12 v13 (nI ln) (nI (gP ti)) (nI (gR (ti + 1))) tk kw g19 g20 g21 (nI o9) g23 (nI cd) g25 g26 v27 v28 v29 v30 v31 v32 v33 v34 v35 v36 v37 (nI ol)), (v1, .inl (cA 0, 326, .inl fp)), (v9, .inl (cA 0, 700, .inl fb)), (v13, .inl (cA 1, 15, .inr (.inl fkw))), (v28, .inl (cA 1, 10, .inr (.inl l28))), (v30, .inl (cA 1, 8, .inr (.inl l30))), (v32, .inl (cA 0, 400, .inl fc))] sz) [(oX10 w0 v0 v1 v2 v3 v4 g5 g6 (nI ed) g8 v9 (nI nb) g11 g12 v13 (nI ln) (nI (gP tj)) (nI (gR (tj + 1))) z17 z18 z19 z20 z21 zop g23 (nI cd2) z25 z26 v27 v28 v29 v30 v31 v32 v33 v34 v35 v36 v37 (nI ol)), (v1, .inl (cA 0, 326, .inl zp)), (v9, .inl (cA 0, 700, .inl fb)), (v13, .inl (cA 1, 15, .inr (.inl fkw))), (v28, .inl (cA 1, 10, .inr (.inl l28))), (v30, .inl (cA 1, 8, .inr (.inl zl))), (v32, .inl (cA 0, 400, .inl zc))] t) (va_A [(oX10 w0 v0 v1 v2 v3 v4 g5 g6 (nI ed) g8 v9 (nI nb) g11 g12 v13 (nI ln) (nI (gP ti)) (nI (gR (ti + 1))) tk kw g19 g20 g21 (nI o9) g23 (nI cd) g25 g26 v27 v28 v29 v30 v31 v32 v33 v34 v35 v36 v37 (nI ol)), (v1, .inl (cA 0, 326, .inl fp)), (v9, .inl (cA 0, 700, .inl fb)), (v13, .inl (cA 1, 15, .inr (.inl fkw))), (v28, .inl (cA 1, 10, .inr (.inl l28))), (v30, .inl (cA 1, 8, .inr (.inl l30))), (v32, .inl (cA 0, 400, .inl fc))] sz)) 0 0 (va_A [(oX10 w0 v0 v1 v2 v3 v4 g5 g6 (nI ed) g8 v9 (nI nb) g11 g12 v13 (nI ln) (nI (gP ti)) (nI (gR (ti + 1))) tk kw g19 g20 g21 (nI o9) g23 (nI cd) g25 g26 v27 v28 v29 v30 v31 v32 v33 v34 v35 v36 v37 (nI ol)), (v1, .inl (cA 0, 326, .inl fp)), (v9, .inl (cA 0, 700, .inl fb)), (v13, .inl (cA 1, 15, .inr (.inl fkw))), (v28, .inl (cA 1, 10, .inr (.inl l28))), (v30, .inl (cA 1, 8, .inr (.inl l30))), (v32, .inl (cA 0, 400, .inl fc))] sz)
def YCondC (l : Launch) (D : va_G) (cA : Nat → ClassId) (sa : Nat → Nat) (k9 : Nat) : Prop := ∀ (w0 : Nat) (ed : Nat) (nb : Nat) (ol : Nat) (v0 : Nat) (v1 : Nat) (v2 : Nat) (v3 : Nat) (v4 : Nat) (v9 : Nat) (v13 : Nat) (v27 : Nat) (v28 : Nat) (v29 : Nat) (v30 : Nat) (v31 : Nat) (v32 : Nat) (v33 : Nat) (v34 : Nat) (v35 : Nat) (v36 : Nat) (v37 : Nat) (g8 : Int32) (g11 : Int32) (g12 : Int32) (g19 : Int32) (g20 : Int32) (g21 : Int32) (g23 : Int32) (g26 : Int32) (g5 : Int64) (g6 : Int64) (g25 : Int64) (ln : Nat) (cd : Nat) (tk : Int32) (kw : Int32) (ti : Nat) (ct : Nat) (fb : Nat → Int32) (fkw : Nat → Int64) (gP : Nat → Nat) (gR : Nat → Nat) (gS : Nat → Int32) (gK : Nat → Int32) (gV : Nat → Int64) (cn : Nat) (pq : Nat) (en : Nat) (dy : Nat) (fp : Nat → Int32) (sl : Nat) (o9 : Nat) (l28 : Nat → Int64) (l30 : Nat → Int64) (fc : Nat → Int32) (ml : List Int64) (pl : List Int64) (sz : Nat) (hln : ln ≤ 700) (hct : ct ≤ 701) (hti : ti < ct) (hTX : TX fb ln ct gP gR gS gV gK) (hBY : BYn ln fb) (hTK : TKR (gK ti) (gV ti) (fb (gP ti)) tk kw g19 g25) (hKW : KW 15 fkw) (hcn : cn ≤ 10) (hpq : pq ≤ 8) (hen : en ≤ 60) (hdy : dy ≤ 20000) (hri : RI cn pq en dy fp) (hcd : 2 * cd + sl ≤ gP ti) (hNM : NL ml cn l28) (hNP : NL pl pq l30) (ho : o9 + k9 = 8), Met l yX10_condition wsX10_condition ({ frames := 4 * k9 + 23, cells := 0, slots := 0, locals := 80 * k9 + 380 }) (va_Pc [.ref w0] (Wd D cA sa [(oX10 w0 v0 v1 v2 v3 v4 g5 g6 (nI ed) g8 v9 (nI nb) g11 g12 v13 (nI ln) (nI (gP ti)) (nI (gR (ti + 1))) tk kw g19 g20 g21 (nI o9) g23 (nI cd) g25 g26 v27 v28 v29 v30 v31 v32 v33 v34 v35 v36 v37 (nI ol)), (v1, .inl (cA 0, 326, .inl fp)), (v9, .inl (cA 0, 700, .inl fb)), (v13, .inl (cA 1, 15, .inr (.inl fkw))), (v28, .inl (cA 1, 10, .inr (.inl l28))), (v30, .inl (cA 1, 8, .inr (.inl l30))), (v32, .inl (cA 0, 400, .inl fc))] sz)) (va_Qi (fun (r : Int32) (u9 : Int32) => u9 = r ∧ (r = 0 ∨ r = 1)) (fun (u9 : Int32) t => ∃ tj : Nat, ∃ z17 : Int32, ∃ z18 : Int32, ∃ z19 : Int32, ∃ z20 : Int32, ∃ z21 : Int32, ∃ z26 : Int32, ∃ z25 : Int64, ∃ cd2 : Nat, ∃ pq2 : Nat, ∃ zop : Int32, ∃ zp : Nat → Int32, ∃ zc : Nat → Int32, ∃ zl : Nat → Int64, ∃ zpl : List Int64, tj < ct ∧ gP tj ≤ ln ∧ ti ≤ tj ∧ TKR (gK tj) (gV tj) (fb (gP tj)) z17 z18 z19 z25 ∧ pq2 ≤ 8 ∧ RI cn pq2 en dy zp ∧ NL zpl pq2 zl ∧ (u9 = 1 → zop = (nI o9)) ∧ (u9 = 1 → z20 = g20) ∧ (u9 = 1 → z21 = g21) ∧ (u9 = 1 → ti + 1 ≤ tj) ∧ (u9 = 1 → cd ≤ cd2) ∧ (u9 = 1 → 2 * cd2 + sl ≤ gP tj) ∧ (u9 = 1 → Kp cd fc zc) ∧ (u9 = 1 → Sg cd cd2 zc) ∧ (u9 = 1 → PRx gK gS gV ml 3 o9 ti pl (.inr (tj, zpl))) ∧ (u9 = 1 → CR9 gK gV 3 ti tj ml pl zpl cd cd2 fc zc) ∧ (u9 = 1 → K14 fp zp) ∧ (u9 = 0 → PRx gK gS gV ml 3 o9 ti pl (.inl (z20, z21))) ∧ Wq D (va_A [(oX10 w0 v0 v1 v2 v3 v4 g5 g6 (nI ed) g8 v9 (nI nb) g11 g12 v13 (nI ln) (nI (gP ti)) (nI (gR (ti + 1))) tk kw g19 g20 g21 (nI o9) g23 (nI cd) g25 g26 v27 v28 v29 v30 v31 v32 v33 v34 v35 v36 v37 (nI ol)), (v1, .inl (cA 0, 326, .inl fp)), (v9, .inl (cA 0, 700, .inl fb)), (v13, .inl (cA 1, 15, .inr (.inl fkw))), (v28, .inl (cA 1, 10, .inr (.inl l28))), (v30, .inl (cA 1, 8, .inr (.inl l30))), (v32, .inl (cA 0, 400, .inl fc))] sz) [(oX10 w0 v0 v1 v2 v3 v4 g5 g6 (nI ed) g8 v9 (nI nb) g11 g12 v13 (nI ln) (nI (gP tj)) (nI (gR (tj + 1))) z17 z18 z19 z20 z21 zop g23 (nI cd2) z25 z26 v27 v28 v29 v30 v31 v32 v33 v34 v35 v36 v37 (nI ol)), (v1, .inl (cA 0, 326, .inl zp)), (v9, .inl (cA 0, 700, .inl fb)), (v13, .inl (cA 1, 15, .inr (.inl fkw))), (v28, .inl (cA 1, 10, .inr (.inl l28))), (v30, .inl (cA 1, 8, .inr (.inl zl))), (v32, .inl (cA 0, 400, .inl zc))] t) (va_A [(oX10 w0 v0 v1 v2 v3 v4 g5 g6 (nI ed) g8 v9 (nI nb) g11 g12 v13 (nI ln) (nI (gP ti)) (nI (gR (ti + 1))) tk kw g19 g20 g21 (nI o9) g23 (nI cd) g25 g26 v27 v28 v29 v30 v31 v32 v33 v34 v35 v36 v37 (nI ol)), (v1, .inl (cA 0, 326, .inl fp)), (v9, .inl (cA 0, 700, .inl fb)), (v13, .inl (cA 1, 15, .inr (.inl fkw))), (v28, .inl (cA 1, 10, .inr (.inl l28))), (v30, .inl (cA 1, 8, .inr (.inl l30))), (v32, .inl (cA 0, 400, .inl fc))] sz)) 0 0 (va_A [(oX10 w0 v0 v1 v2 v3 v4 g5 g6 (nI ed) g8 v9 (nI nb) g11 g12 v13 (nI ln) (nI (gP ti)) (nI (gR (ti + 1))) tk kw g19 g20 g21 (nI o9) g23 (nI cd) g25 g26 v27 v28 v29 v30 v31 v32 v33 v34 v35 v36 v37 (nI ol)), (v1, .inl (cA 0, 326, .inl fp)), (v9, .inl (cA 0, 700, .inl fb)), (v13, .inl (cA 1, 15, .inr (.inl fkw))), (v28, .inl (cA 1, 10, .inr (.inl l28))), (v30, .inl (cA 1, 8, .inr (.inl l30))), (v32, .inl (cA 0, 400, .inl fc))] sz)
set_option maxHeartbeats 4000000 in
set_option maxRecDepth 100000 in
/-- reference: notFact -/
theorem y_notFact_S (l : Launch) (D : va_G) (cA : Nat → ClassId) (sa : Nat → Nat) (k9 : Nat) (IHf : YFactC l D cA sa k9) (IHc : YCondC l D cA sa k9) (w0 : Nat) (ed : Nat) (nb : Nat) (ol : Nat) (v0 : Nat) (v1 : Nat) (v2 : Nat) (v3 : Nat) (v4 : Nat) (v9 : Nat) (v13 : Nat) (v27 : Nat) (v28 : Nat) (v29 : Nat) (v30 : Nat) (v31 : Nat) (v32 : Nat) (v33 : Nat) (v34 : Nat) (v35 : Nat) (v36 : Nat) (v37 : Nat) (g8 : Int32) (g11 : Int32) (g12 : Int32) (g19 : Int32) (g20 : Int32) (g21 : Int32) (g23 : Int32) (g26 : Int32) (g5 : Int64) (g6 : Int64) (g25 : Int64) (ln : Nat) (cd : Nat) (tk : Int32) (kw : Int32) (ti : Nat) (ct : Nat) (fb : Nat → Int32) (fkw : Nat → Int64) (gP : Nat → Nat) (gR : Nat → Nat) (gS : Nat → Int32) (gK : Nat → Int32) (gV : Nat → Int64) (cn : Nat) (pq : Nat) (en : Nat) (dy : Nat) (fp : Nat → Int32) (sl : Nat) (o9 : Nat) (l28 : Nat → Int64) (l30 : Nat → Int64) (fc : Nat → Int32) (ml : List Int64) (pl : List Int64) (sz : Nat) (hln : ln ≤ 700) (hct : ct ≤ 701) (hti : ti < ct) (hTX : TX fb ln ct gP gR gS gV gK) (hBY : BYn ln fb) (hTK : TKR (gK ti) (gV ti) (fb (gP ti)) tk kw g19 g25) (hKW : KW 15 fkw) (hcn : cn ≤ 10) (hpq : pq ≤ 8) (hen : en ≤ 60) (hdy : dy ≤ 20000) (hri : RI cn pq en dy fp) (hcd : 2 * cd + sl ≤ gP ti) (hNM : NL ml cn l28) (hNP : NL pl pq l30) (hk : gK ti = 16) (ho : o9 + (k9 + 1) = 8) : Met l yX10_notFact wsX10_notFact ({ frames := 4 * (k9 + 1) + 20, cells := 0, slots := 0, locals := 80 * (k9 + 1) + 320 }) (va_Pc [.ref w0] (Wd D cA sa [(oX10 w0 v0 v1 v2 v3 v4 g5 g6 (nI ed) g8 v9 (nI nb) g11 g12 v13 (nI ln) (nI (gP ti)) (nI (gR (ti + 1))) tk kw g19 g20 g21 (nI o9) g23 (nI cd) g25 g26 v27 v28 v29 v30 v31 v32 v33 v34 v35 v36 v37 (nI ol)), (v1, .inl (cA 0, 326, .inl fp)), (v9, .inl (cA 0, 700, .inl fb)), (v13, .inl (cA 1, 15, .inr (.inl fkw))), (v28, .inl (cA 1, 10, .inr (.inl l28))), (v30, .inl (cA 1, 8, .inr (.inl l30))), (v32, .inl (cA 0, 400, .inl fc))] sz)) (va_Qi (fun (r : Int32) (u9 : Int32) => u9 = r ∧ (r = 0 ∨ r = 1)) (fun (u9 : Int32) t => ∃ tj : Nat, ∃ z17 : Int32, ∃ z18 : Int32, ∃ z19 : Int32, ∃ z20 : Int32, ∃ z21 : Int32, ∃ z26 : Int32, ∃ z25 : Int64, ∃ cd2 : Nat, ∃ pq2 : Nat, ∃ zop : Int32, ∃ zp : Nat → Int32, ∃ zc : Nat → Int32, ∃ zl : Nat → Int64, ∃ zpl : List Int64, tj < ct ∧ gP tj ≤ ln ∧ ti ≤ tj ∧ TKR (gK tj) (gV tj) (fb (gP tj)) z17 z18 z19 z25 ∧ pq2 ≤ 8 ∧ RI cn pq2 en dy zp ∧ NL zpl pq2 zl ∧ (u9 = 1 → zop = (nI o9)) ∧ (u9 = 1 → z20 = g20) ∧ (u9 = 1 → z21 = g21) ∧ (u9 = 1 → ti + 1 ≤ tj) ∧ (u9 = 1 → cd ≤ cd2) ∧ (u9 = 1 → 2 * cd2 + sl ≤ gP tj) ∧ (u9 = 1 → Kp cd fc zc) ∧ (u9 = 1 → Sg cd cd2 zc) ∧ (u9 = 1 → PRx gK gS gV ml 0 o9 ti pl (.inr (tj, zpl))) ∧ (u9 = 1 → CR9 gK gV 0 ti tj ml pl zpl cd cd2 fc zc) ∧ (u9 = 1 → K14 fp zp) ∧ (u9 = 0 → PRx gK gS gV ml 0 o9 ti pl (.inl (z20, z21))) ∧ Wq D (va_A [(oX10 w0 v0 v1 v2 v3 v4 g5 g6 (nI ed) g8 v9 (nI nb) g11 g12 v13 (nI ln) (nI (gP ti)) (nI (gR (ti + 1))) tk kw g19 g20 g21 (nI o9) g23 (nI cd) g25 g26 v27 v28 v29 v30 v31 v32 v33 v34 v35 v36 v37 (nI ol)), (v1, .inl (cA 0, 326, .inl fp)), (v9, .inl (cA 0, 700, .inl fb)), (v13, .inl (cA 1, 15, .inr (.inl fkw))), (v28, .inl (cA 1, 10, .inr (.inl l28))), (v30, .inl (cA 1, 8, .inr (.inl l30))), (v32, .inl (cA 0, 400, .inl fc))] sz) [(oX10 w0 v0 v1 v2 v3 v4 g5 g6 (nI ed) g8 v9 (nI nb) g11 g12 v13 (nI ln) (nI (gP tj)) (nI (gR (tj + 1))) z17 z18 z19 z20 z21 zop g23 (nI cd2) z25 z26 v27 v28 v29 v30 v31 v32 v33 v34 v35 v36 v37 (nI ol)), (v1, .inl (cA 0, 326, .inl zp)), (v9, .inl (cA 0, 700, .inl fb)), (v13, .inl (cA 1, 15, .inr (.inl fkw))), (v28, .inl (cA 1, 10, .inr (.inl l28))), (v30, .inl (cA 1, 8, .inr (.inl zl))), (v32, .inl (cA 0, 400, .inl zc))] t) (va_A [(oX10 w0 v0 v1 v2 v3 v4 g5 g6 (nI ed) g8 v9 (nI nb) g11 g12 v13 (nI ln) (nI (gP ti)) (nI (gR (ti + 1))) tk kw g19 g20 g21 (nI o9) g23 (nI cd) g25 g26 v27 v28 v29 v30 v31 v32 v33 v34 v35 v36 v37 (nI ol)), (v1, .inl (cA 0, 326, .inl fp)), (v9, .inl (cA 0, 700, .inl fb)), (v13, .inl (cA 1, 15, .inr (.inl fkw))), (v28, .inl (cA 1, 10, .inr (.inl l28))), (v30, .inl (cA 1, 8, .inr (.inl l30))), (v32, .inl (cA 0, 400, .inl fc))] sz)) 0 0 (va_A [(oX10 w0 v0 v1 v2 v3 v4 g5 g6 (nI ed) g8 v9 (nI nb) g11 g12 v13 (nI ln) (nI (gP ti)) (nI (gR (ti + 1))) tk kw g19 g20 g21 (nI o9) g23 (nI cd) g25 g26 v27 v28 v29 v30 v31 v32 v33 v34 v35 v36 v37 (nI ol)), (v1, .inl (cA 0, 326, .inl fp)), (v9, .inl (cA 0, 700, .inl fb)), (v13, .inl (cA 1, 15, .inr (.inl fkw))), (v28, .inl (cA 1, 10, .inr (.inl l28))), (v30, .inl (cA 1, 8, .inr (.inl l30))), (v32, .inl (cA 0, 400, .inl fc))] sz) := by
  refine Met.ofW (cc := cX10_notFact) (maxL := 1) (ret := (some .boolean)) (by decide) rfl ?_
  intro p e s m args below meth c s₁ B hml hv
  obtain ⟨rfl, hsz, hP, hK, hD0, hC, hZ⟩ := hv
  have hx := B.exec
  have hb := B.bytes
  have hr := B.returns
  have hts := atoms_spec (ws := wsX10_notFact) B.pre
  have hown : s.vm.findClass RX10 = some m.cls := findClass_of_methodNamed B.named
  have hlocks := B.notSynchronized
  subst hsz
  have hD := hD0.self (sz := s.heap.size)
  generalize hAe : va_A [(oX10 w0 v0 v1 v2 v3 v4 g5 g6 (nI ed) g8 v9 (nI nb) g11 g12 v13 (nI ln) (nI (gP ti)) (nI (gR (ti + 1))) tk kw g19 g20 g21 (nI o9) g23 (nI cd) g25 g26 v27 v28 v29 v30 v31 v32 v33 v34 v35 v36 v37 (nI ol)), (v1, .inl (cA 0, 326, .inl fp)), (v9, .inl (cA 0, 700, .inl fb)), (v13, .inl (cA 1, 15, .inr (.inl fkw))), (v28, .inl (cA 1, 10, .inr (.inl l28))), (v30, .inl (cA 1, 8, .inr (.inl l30))), (v32, .inl (cA 0, 400, .inl fc))] s.heap.size = A at hD hZ ⊢
  have hA : ∀ q : Nat, s.heap.size ≤ q → A q := fun q h => by rw [← hAe]; exact Or.inr h
  have hS : va_S A s.heap s.heap [] := va_S.rf
  have hP : va_P D vwCl [(oX10 w0 v0 v1 v2 v3 v4 g5 g6 (nI ed) g8 v9 (nI nb) g11 g12 v13 (nI ln) (nI (gP ti)) (nI (gR (ti + 1))) tk kw g19 g20 g21 (nI o9) g23 (nI cd) g25 g26 v27 v28 v29 v30 v31 v32 v33 v34 v35 v36 v37 (nI ol)), (v1, .inl (cA 0, 326, .inl fp)), (v9, .inl (cA 0, 700, .inl fb)), (v13, .inl (cA 1, 15, .inr (.inl fkw))), (v28, .inl (cA 1, 10, .inr (.inl l28))), (v30, .inl (cA 1, 8, .inr (.inl l30))), (v32, .inl (cA 0, 400, .inl fc))] s.heap := hP
  have hl := lv_entry ([.ref w0]) (n := 1) (Nat.le_of_ble_eq_true rfl)
  rw [lg_entry_eq]
  generalize (lg_sl ([.ref w0]) ++ List.replicate (1 - (lg_sl ([.ref w0])).length) Slot.unset).toArray = ls at hl ⊢
  have hl : lv_has ls 1 [(0, .ref w0)] := hl
  have inX10 : ∀ w ∈ u_ws RX10 TX10 39, w ∈ wsX10_notFact := by decide +kernel
  have hle9 := TX.le hTX hti
  have hn1 := TX.go2 hTX hti (by rw [hk]; decide)
  have hn1b := TX.le hTX hn1.1
  refine lv_aload_n hx hb dX10_notFact_0 rfl (lv_at hl 0 rfl) ?_
  obtain ⟨hPc, hDc, hFc⟩ := PDq.cut (wc := [(oX10 w0 v0 v1 v2 v3 v4 g5 g6 (nI ed) g8 v9 (nI nb) g11 g12 v13 (nI ln) (nI (gP ti)) (nI (gR (ti + 1))) tk kw g19 g20 g21 (nI o9) g23 (nI cd) g25 g26 v27 v28 v29 v30 v31 v32 v33 v34 v35 v36 v37 (nI ol)), (v9, .inl (cA 0, 700, .inl fb)), (v13, .inl (cA 1, 15, .inr (.inl fkw)))]) hP hD hS hA [0, 2, 3] (by decide) rfl
  refine va_calli (va_runV (As := []) (rest := []) ⟨hx, hb, hml, hown, hts⟩ (y_opens_S l D cA sa w0 ed nb ol v0 v1 v2 v3 v4 v9 v13 v27 v28 v29 v30 v31 v32 v33 v34 v35 v36 v37 g8 g11 g12 g19 g20 g21 g23 g26 g5 g6 g25 ln cd tk kw ti ct fb fkw gP gR gS gK gV o9 s.heap.size hln hct hti hTX hBY hTK hKW (by omega) hn1.1) (cwV 0 hts gX10_notFact_X10_opens rfl rfl rfl (by decide +kernel) ⟨by show (2) + 1 ≤ 4 * (k9 + 1) + 20; omega, by show 8 + (1 + 11) + (44) ≤ 80 * (k9 + 1) + 320; omega⟩) ⟨Wd.blind, va_recv hK hPc (ci := 11) (q0 := 0) rfl rfl, fun U hU hW => ⟨rfl, Wd.call hPc hDc hK hC hZ hS hFc U hU hW⟩⟩ rfl rfl hl.1 rfl (lv_room (Nat.le_of_ble_eq_true rfl)) dX10_notFact_1 ⟨(Nat.le_of_ble_eq_true rfl), (Nat.le_of_ble_eq_true rfl)⟩) hS (fun q _ h => hFc q h) hFc (fun rn2 u t H1 locs ht hvm hw hB hz1 hk1 hS => ?_)
  obtain ⟨zn3, zn4, zn5, zn6, hn7, hP1, hD1⟩ := hB
  rw [ht] at hP1
  obtain ⟨hP, hD⟩ := PDq.join (w := [(v1, .inl (cA 0, 326, .inl fp)), (v28, .inl (cA 1, 10, .inr (.inl l28))), (v30, .inl (cA 1, 8, .inr (.inl l30))), (v32, .inl (cA 0, 400, .inl fc)), (oX10 w0 v0 v1 v2 v3 v4 g5 g6 (nI ed) g8 v9 (nI nb) g11 g12 v13 (nI ln) (nI (gP (ti + 1))) (nI (gR ((ti + 1) + 1))) zn3 zn4 zn5 g20 g21 (nI (o9 + 1)) g23 (nI cd) zn6 g26 v27 v28 v29 v30 v31 v32 v33 v34 v35 v36 v37 (nI ol)), (v9, .inl (cA 0, 700, .inl fb)), (v13, .inl (cA 1, 15, .inr (.inl fkw)))]) 4 hP hD [0, 2, 3] [1, 4, 5, 6] rfl rfl (by decide) (by decide) hk1 hFc hP1 hD1 rfl
  generalize H1 = H at hP hS ⊢
  obtain rfl : rn2 = 1 := hw
  refine lv_if_eq (tgt := 14) hx hb dX10_notFact_4 (by decide) (fun c9 => absurd c9 (by decide)) (fun c8 => ?_)
  refine lv_aload_n hx hb dX10_notFact_7 rfl (lv_at hl 0 rfl) ?_
  obtain ⟨hPc, hDc, hFc⟩ := PDq.cut (wc := [(oX10 w0 v0 v1 v2 v3 v4 g5 g6 (nI ed) g8 v9 (nI nb) g11 g12 v13 (nI ln) (nI (gP (ti + 1))) (nI (gR ((ti + 1) + 1))) zn3 zn4 zn5 g20 g21 (nI (o9 + 1)) g23 (nI cd) zn6 g26 v27 v28 v29 v30 v31 v32 v33 v34 v35 v36 v37 (nI ol)), (v1, .inl (cA 0, 326, .inl fp)), (v9, .inl (cA 0, 700, .inl fb)), (v13, .inl (cA 1, 15, .inr (.inl fkw))), (v28, .inl (cA 1, 10, .inr (.inl l28))), (v30, .inl (cA 1, 8, .inr (.inl l30))), (v32, .inl (cA 0, 400, .inl fc))]) hP hD hS hA [4, 0, 5, 6, 1, 2, 3] (by decide) rfl
  refine va_calli (va_runV (As := []) (rest := []) ⟨hx, hb, hml, hown, hts⟩ (IHf w0 ed nb ol v0 v1 v2 v3 v4 v9 v13 v27 v28 v29 v30 v31 v32 v33 v34 v35 v36 v37 g8 g11 g12 zn5 g20 g21 g23 g26 g5 g6 zn6 ln cd zn3 zn4 (ti + 1) ct fb fkw gP gR gS gK gV cn pq en dy fp (sl + 2) (o9 + 1) l28 l30 fc ml pl H.size hln hct hn1.1 hTX hBY hn7 hKW hcn hpq hen hdy hri (by omega) hNM hNP (by omega)) (cwV 0 hts gX10_notFact_X10_fact rfl rfl rfl (by decide +kernel) ⟨by show (4 * k9 + 21) + 1 ≤ 4 * (k9 + 1) + 20; omega, by show 8 + (1 + 11) + (80 * k9 + 340) ≤ 80 * (k9 + 1) + 320; omega⟩) ⟨Wd.blind, va_recv hK hPc (ci := 11) (q0 := 0) rfl rfl, fun U hU hW => ⟨rfl, Wd.call hPc hDc hK hC hZ hS hFc U hU hW⟩⟩ rfl rfl hl.1 rfl (lv_room (Nat.le_of_ble_eq_true rfl)) dX10_notFact_8 ⟨(Nat.le_of_ble_eq_true rfl), (Nat.le_of_ble_eq_true rfl)⟩) hS (fun q _ h => hFc q h) hFc (fun rn9 u t H1 locs ht hvm hw hB hz1 hk1 hS => ?_)
  obtain ⟨qn10, zn11, zn12, zn13, zn14, zn15, zn16, zn17, qn18, qn19, zn20, fn21, fn22, fn23, zn24, hn25, hn26, hn27, hn28, hn29, hn30, hn31, hn32, hn33, hn34, hn35, hn36, hn37, hn38, hn39, hn40, hn41, hn42, hn43, hP1, hD1⟩ := hB
  rw [ht] at hP1
  obtain ⟨hP, hD⟩ := PDq.join (w := [(oX10 w0 v0 v1 v2 v3 v4 g5 g6 (nI ed) g8 v9 (nI nb) g11 g12 v13 (nI ln) (nI (gP qn10)) (nI (gR (qn10 + 1))) zn11 zn12 zn13 zn14 zn15 zn20 g23 (nI qn18) zn17 zn16 v27 v28 v29 v30 v31 v32 v33 v34 v35 v36 v37 (nI ol)), (v1, .inl (cA 0, 326, .inl fn21)), (v9, .inl (cA 0, 700, .inl fb)), (v13, .inl (cA 1, 15, .inr (.inl fkw))), (v28, .inl (cA 1, 10, .inr (.inl l28))), (v30, .inl (cA 1, 8, .inr (.inl fn23))), (v32, .inl (cA 0, 400, .inl fn22))]) 0 hP hD [4, 0, 5, 6, 1, 2, 3] [] rfl rfl (by decide) (by decide) hk1 hFc hP1 hD1 rfl
  generalize H1 = H at hP hS ⊢
  rcases hw.2 with hr9 | hr9
  · skip
    have hn43 := hn43 (hw.1.trans hr9)
    subst hr9
    refine lv_if_ne (tgt := 16) hx hb dX10_notFact_11 (by decide) (fun c9 => absurd c9 (by decide)) (fun c44 => ?_)
    refine lv_iconst (v := 0) hx hb dX10_notFact_14 (by decide) ?_
    obtain ⟨hP9, hD9⟩ := PDq.sub (ws' := [(oX10 w0 v0 v1 v2 v3 v4 g5 g6 (nI ed) g8 v9 (nI nb) g11 g12 v13 (nI ln) (nI (gP qn10)) (nI (gR (qn10 + 1))) zn11 zn12 zn13 zn14 zn15 zn20 g23 (nI qn18) zn17 zn16 v27 v28 v29 v30 v31 v32 v33 v34 v35 v36 v37 (nI ol)), (v1, .inl (cA 0, 326, .inl fn21)), (v9, .inl (cA 0, 700, .inl fb)), (v13, .inl (cA 1, 15, .inr (.inl fkw))), (v28, .inl (cA 1, 10, .inr (.inl l28))), (v30, .inl (cA 1, 8, .inr (.inl fn23))), (v32, .inl (cA 0, 400, .inl fn22))]) hP hD [0, 1, 2, 3, 4, 5, 6] (by decide) rfl
    refine W.widen (k := 0) (n := 0) (Nat.le_of_ble_eq_true rfl) (Nat.le_of_ble_eq_true rfl) ?_
    exact (W.zret (v := 0) hx hb hr (by first | rfl | decide) (fun t ht hW => ⟨⟨0, 0, rfl, ⟨rfl, by decide⟩, qn10, zn11, zn12, zn13, zn14, zn15, zn16, zn17, qn18, qn19, zn20, fn21, fn22, fn23, zn24, hn25, hn26, (by omega), hn28, hn29, hn30, hn31, (fun h9 => absurd h9 (by decide)), (fun h9 => absurd h9 (by decide)), (fun h9 => absurd h9 (by decide)), (fun h9 => absurd h9 (by decide)), (fun h9 => absurd h9 (by decide)), (fun h9 => absurd h9 (by decide)), (fun h9 => absurd h9 (by decide)), (fun h9 => absurd h9 (by decide)), (fun h9 => absurd h9 (by decide)), (fun h9 => absurd h9 (by decide)), (fun h9 => absurd h9 (by decide)), (fun _ => (P_not hk (by omega) hn43)), by rw [ht]; exact hP9, hD9⟩, hS.F ht⟩) hS.2.2 dX10_notFact_15)
  · skip
    have hn32 := hn32 (hw.1.trans hr9)
    subst hn32
    obtain ⟨hP, hD⟩ : PDq D A [(oX10 w0 v0 v1 v2 v3 v4 g5 g6 (nI ed) g8 v9 (nI nb) g11 g12 v13 (nI ln) (nI (gP qn10)) (nI (gR (qn10 + 1))) zn11 zn12 zn13 zn14 zn15 (nI (o9 + 1)) g23 (nI qn18) zn17 zn16 v27 v28 v29 v30 v31 v32 v33 v34 v35 v36 v37 (nI ol)), (v1, .inl (cA 0, 326, .inl fn21)), (v9, .inl (cA 0, 700, .inl fb)), (v13, .inl (cA 1, 15, .inr (.inl fkw))), (v28, .inl (cA 1, 10, .inr (.inl l28))), (v30, .inl (cA 1, 8, .inr (.inl fn23))), (v32, .inl (cA 0, 400, .inl fn22))] H := ⟨hP, hD⟩
    have hn33 := hn33 (hw.1.trans hr9)
    obtain rfl : g20 = zn14 := hn33.symm
    obtain ⟨hP, hD⟩ : PDq D A [(oX10 w0 v0 v1 v2 v3 v4 g5 g6 (nI ed) g8 v9 (nI nb) g11 g12 v13 (nI ln) (nI (gP qn10)) (nI (gR (qn10 + 1))) zn11 zn12 zn13 g20 zn15 (nI (o9 + 1)) g23 (nI qn18) zn17 zn16 v27 v28 v29 v30 v31 v32 v33 v34 v35 v36 v37 (nI ol)), (v1, .inl (cA 0, 326, .inl fn21)), (v9, .inl (cA 0, 700, .inl fb)), (v13, .inl (cA 1, 15, .inr (.inl fkw))), (v28, .inl (cA 1, 10, .inr (.inl l28))), (v30, .inl (cA 1, 8, .inr (.inl fn23))), (v32, .inl (cA 0, 400, .inl fn22))] H := ⟨hP, hD⟩
    have hn34 := hn34 (hw.1.trans hr9)
    obtain rfl : g21 = zn15 := hn34.symm
    obtain ⟨hP, hD⟩ : PDq D A [(oX10 w0 v0 v1 v2 v3 v4 g5 g6 (nI ed) g8 v9 (nI nb) g11 g12 v13 (nI ln) (nI (gP qn10)) (nI (gR (qn10 + 1))) zn11 zn12 zn13 g20 g21 (nI (o9 + 1)) g23 (nI qn18) zn17 zn16 v27 v28 v29 v30 v31 v32 v33 v34 v35 v36 v37 (nI ol)), (v1, .inl (cA 0, 326, .inl fn21)), (v9, .inl (cA 0, 700, .inl fb)), (v13, .inl (cA 1, 15, .inr (.inl fkw))), (v28, .inl (cA 1, 10, .inr (.inl l28))), (v30, .inl (cA 1, 8, .inr (.inl fn23))), (v32, .inl (cA 0, 400, .inl fn22))] H := ⟨hP, hD⟩
    have hn35 := hn35 (hw.1.trans hr9)
    have hn36 := hn36 (hw.1.trans hr9)
    have hn37 := hn37 (hw.1.trans hr9)
    have hn38 := hn38 (hw.1.trans hr9)
    have hn39 := hn39 (hw.1.trans hr9)
    have hn40 := hn40 (hw.1.trans hr9)
    have hn41 := hn41 (hw.1.trans hr9)
    have hn42 := hn42 (hw.1.trans hr9)
    subst hr9
    refine lv_if_ne (tgt := 16) hx hb dX10_notFact_11 (by decide) (fun c45 => ?_) (fun c9 => absurd c9 (by decide))
    refine lv_aload_n hx hb dX10_notFact_16 rfl (lv_at hl 0 rfl) ?_
    refine lv_dup hx hb dX10_notFact_17 rfl ?_
    refine va_get (D := D) (ci := 11) (v := .int (nI (o9 + 1))) (C := RX10) (T := TX10) (N := 39) hx hb hts inX10 hown hK hP 0 rfl rfl 22 (by decide) (hts (.fieldLink RX10 182 "EscrowDeskModel" "open" "I") (by decide +kernel)) (fun _ h9 => h9) rfl dX10_notFact_18 ?_
    refine lv_iconst (v := 1) hx hb dX10_notFact_21 (by decide) ?_
    refine lv_isub hx hb dX10_notFact_22 ?_
    refine lv_topi (fun yn46 eyn46 => ?_)
    obtain rfl : yn46 = (nI ((o9 + 1) - 1)) := eyn46.trans (nI_sub (a := (o9 + 1)) (b := 1) (by omega))
    refine va_put (D := D) (ci := 11) (v := .int (nI ((o9 + 1) - 1))) (ty := .int) (C := RX10) (T := TX10) (N := 39) hx hb hts inX10 tyX10 tyX10_ok nmX10 hown hK hP hD hS 0 rfl rfl 22 (by decide) (hts (.fieldLink RX10 182 "EscrowDeskModel" "open" "I") (by decide +kernel)) (fun _ h9 => h9) rfl (by decide +kernel) rfl rfl (Nat.le_of_ble_eq_true rfl) dX10_notFact_23 (fun H locs hP hD hS => ?_)
    obtain ⟨hP, hD⟩ : PDq D A [(oX10 w0 v0 v1 v2 v3 v4 g5 g6 (nI ed) g8 v9 (nI nb) g11 g12 v13 (nI ln) (nI (gP qn10)) (nI (gR (qn10 + 1))) zn11 zn12 zn13 g20 g21 (nI ((o9 + 1) - 1)) g23 (nI qn18) zn17 zn16 v27 v28 v29 v30 v31 v32 v33 v34 v35 v36 v37 (nI ol)), (v1, .inl (cA 0, 326, .inl fn21)), (v9, .inl (cA 0, 700, .inl fb)), (v13, .inl (cA 1, 15, .inr (.inl fkw))), (v28, .inl (cA 1, 10, .inr (.inl l28))), (v30, .inl (cA 1, 8, .inr (.inl fn23))), (v32, .inl (cA 0, 400, .inl fn22))] H := ⟨hP, hD⟩
    refine lv_aload_n hx hb dX10_notFact_26 rfl (lv_at hl 0 rfl) ?_
    refine lv_bipush (v := (-3)) hx hb dX10_notFact_27 (by decide) ?_
    obtain ⟨hPc, hDc, hFc⟩ := PDq.cut (wc := [(oX10 w0 v0 v1 v2 v3 v4 g5 g6 (nI ed) g8 v9 (nI nb) g11 g12 v13 (nI ln) (nI (gP qn10)) (nI (gR (qn10 + 1))) zn11 zn12 zn13 g20 g21 (nI ((o9 + 1) - 1)) g23 (nI qn18) zn17 zn16 v27 v28 v29 v30 v31 v32 v33 v34 v35 v36 v37 (nI ol)), (v32, .inl (cA 0, 400, .inl fn22))]) hP hD hS hA [0, 6] (by decide) rfl
    refine va_calli (va_runV (As := [.int (-3)]) (rest := []) ⟨hx, hb, hml, hown, hts⟩ (r_emit l D cA sa w0 ed nb ol v0 v1 v2 v3 v4 v9 v13 v27 v28 v29 v30 v31 v32 v33 v34 v35 v36 v37 g8 g11 g12 (nI ln) (nI (gP qn10)) (nI (gR (qn10 + 1))) zn11 zn12 zn13 g20 g21 (nI ((o9 + 1) - 1)) g23 zn16 g5 g6 zn17 qn18 (-3) fn22 H.size (by omega)) (cwV 1 hts gX10_notFact_X10_emit rfl rfl rfl (by decide +kernel) ⟨by show (0) + 1 ≤ 4 * (k9 + 1) + 20; omega, by show 8 + (2 + 11) + (0) ≤ 80 * (k9 + 1) + 320; omega⟩) ⟨Wd.blind, va_recv hK hPc (ci := 11) (q0 := 0) rfl rfl, fun U hU hW => ⟨rfl, Wd.call hPc hDc hK hC hZ hS hFc U hU hW⟩⟩ rfl rfl hl.1 rfl (lv_room (Nat.le_of_ble_eq_true rfl)) dX10_notFact_29 ⟨(Nat.le_of_ble_eq_true rfl), (Nat.le_of_ble_eq_true rfl)⟩) hS (fun q _ h => hFc q h) hFc (fun rn47 u t H1 locs ht hvm hw hB hz1 hk1 hS => ?_)
    obtain ⟨fn48, hn49, hP1, hD1⟩ := hB
    rw [ht] at hP1
    obtain ⟨hP, hD⟩ := PDq.join (w := [(v1, .inl (cA 0, 326, .inl fn21)), (v9, .inl (cA 0, 700, .inl fb)), (v13, .inl (cA 1, 15, .inr (.inl fkw))), (v28, .inl (cA 1, 10, .inr (.inl l28))), (v30, .inl (cA 1, 8, .inr (.inl fn23))), (oX10 w0 v0 v1 v2 v3 v4 g5 g6 (nI ed) g8 v9 (nI nb) g11 g12 v13 (nI ln) (nI (gP qn10)) (nI (gR (qn10 + 1))) zn11 zn12 zn13 g20 g21 (nI ((o9 + 1) - 1)) g23 (nI (qn18 + 1)) zn17 zn16 v27 v28 v29 v30 v31 v32 v33 v34 v35 v36 v37 (nI ol)), (v32, .inl (cA 0, 400, .inl fn48))]) 5 hP hD [0, 6] [1, 2, 3, 4, 5] rfl rfl (by decide) (by decide) hk1 hFc hP1 hD1 rfl
    generalize H1 = H at hP hS ⊢
    obtain rfl : rn47 = 1 := hw
    obtain ⟨hP9, hD9⟩ := PDq.sub (ws' := [(oX10 w0 v0 v1 v2 v3 v4 g5 g6 (nI ed) g8 v9 (nI nb) g11 g12 v13 (nI ln) (nI (gP qn10)) (nI (gR (qn10 + 1))) zn11 zn12 zn13 g20 g21 (nI ((o9 + 1) - 1)) g23 (nI (qn18 + 1)) zn17 zn16 v27 v28 v29 v30 v31 v32 v33 v34 v35 v36 v37 (nI ol)), (v1, .inl (cA 0, 326, .inl fn21)), (v9, .inl (cA 0, 700, .inl fb)), (v13, .inl (cA 1, 15, .inr (.inl fkw))), (v28, .inl (cA 1, 10, .inr (.inl l28))), (v30, .inl (cA 1, 8, .inr (.inl fn23))), (v32, .inl (cA 0, 400, .inl fn48))]) hP hD [5, 0, 1, 2, 3, 4, 6] (by decide) rfl
    refine W.widen (k := 0) (n := 0) (Nat.le_of_ble_eq_true rfl) (Nat.le_of_ble_eq_true rfl) ?_
    exact (W.zret (v := 1) hx hb hr (by first | rfl | decide) (fun t ht hW => ⟨⟨1, 1, rfl, ⟨rfl, by decide⟩, qn10, zn11, zn12, zn13, g20, g21, zn16, zn17, (qn18 + 1), qn19, (nI ((o9 + 1) - 1)), fn21, fn48, fn23, zn24, hn25, hn26, (by omega), hn28, hn29, hn30, hn31, (fun _ => (by rw [show (o9 + 1) - 1 = o9 by omega])), (fun _ => rfl), (fun _ => rfl), (fun _ => (by omega)), (fun _ => (by omega)), (fun _ => (by omega)), (fun _ => (Kp.tr hn38 (Em.kp hn49) (by omega))), (fun _ => (Sg.inv hn39 hn49 rfl)), (fun _ => (P_not hk (by omega) hn40)), (fun _ => (CR9.not hk hn41 hn49 rfl)), (fun _ => hn42), (fun h9 => absurd h9 (by decide)), by rw [ht]; exact hP9, hD9⟩, hS.F ht⟩) hS.2.2 dX10_notFact_32)

set_option maxHeartbeats 4000000 in
set_option maxRecDepth 100000 in
/-- reference: bracket -/
theorem y_bracket_S (l : Launch) (D : va_G) (cA : Nat → ClassId) (sa : Nat → Nat) (k9 : Nat) (IHf : YFactC l D cA sa k9) (IHc : YCondC l D cA sa k9) (w0 : Nat) (ed : Nat) (nb : Nat) (ol : Nat) (v0 : Nat) (v1 : Nat) (v2 : Nat) (v3 : Nat) (v4 : Nat) (v9 : Nat) (v13 : Nat) (v27 : Nat) (v28 : Nat) (v29 : Nat) (v30 : Nat) (v31 : Nat) (v32 : Nat) (v33 : Nat) (v34 : Nat) (v35 : Nat) (v36 : Nat) (v37 : Nat) (g8 : Int32) (g11 : Int32) (g12 : Int32) (g19 : Int32) (g20 : Int32) (g21 : Int32) (g23 : Int32) (g26 : Int32) (g5 : Int64) (g6 : Int64) (g25 : Int64) (ln : Nat) (cd : Nat) (tk : Int32) (kw : Int32) (ti : Nat) (ct : Nat) (fb : Nat → Int32) (fkw : Nat → Int64) (gP : Nat → Nat) (gR : Nat → Nat) (gS : Nat → Int32) (gK : Nat → Int32) (gV : Nat → Int64) (cn : Nat) (pq : Nat) (en : Nat) (dy : Nat) (fp : Nat → Int32) (sl : Nat) (o9 : Nat) (l28 : Nat → Int64) (l30 : Nat → Int64) (fc : Nat → Int32) (ml : List Int64) (pl : List Int64) (sz : Nat) (hln : ln ≤ 700) (hct : ct ≤ 701) (hti : ti < ct) (hTX : TX fb ln ct gP gR gS gV gK) (hBY : BYn ln fb) (hTK : TKR (gK ti) (gV ti) (fb (gP ti)) tk kw g19 g25) (hKW : KW 15 fkw) (hcn : cn ≤ 10) (hpq : pq ≤ 8) (hen : en ≤ 60) (hdy : dy ≤ 20000) (hri : RI cn pq en dy fp) (hcd : 2 * cd + sl ≤ gP ti) (hNM : NL ml cn l28) (hNP : NL pl pq l30) (hk : gK ti = 5) (ho : o9 + (k9 + 1) = 8) : Met l yX10_bracket wsX10_bracket ({ frames := 4 * (k9 + 1) + 20, cells := 0, slots := 0, locals := 80 * (k9 + 1) + 320 }) (va_Pc [.ref w0] (Wd D cA sa [(oX10 w0 v0 v1 v2 v3 v4 g5 g6 (nI ed) g8 v9 (nI nb) g11 g12 v13 (nI ln) (nI (gP ti)) (nI (gR (ti + 1))) tk kw g19 g20 g21 (nI o9) g23 (nI cd) g25 g26 v27 v28 v29 v30 v31 v32 v33 v34 v35 v36 v37 (nI ol)), (v1, .inl (cA 0, 326, .inl fp)), (v9, .inl (cA 0, 700, .inl fb)), (v13, .inl (cA 1, 15, .inr (.inl fkw))), (v28, .inl (cA 1, 10, .inr (.inl l28))), (v30, .inl (cA 1, 8, .inr (.inl l30))), (v32, .inl (cA 0, 400, .inl fc))] sz)) (va_Qi (fun (r : Int32) (u9 : Int32) => u9 = r ∧ (r = 0 ∨ r = 1)) (fun (u9 : Int32) t => ∃ tj : Nat, ∃ z17 : Int32, ∃ z18 : Int32, ∃ z19 : Int32, ∃ z20 : Int32, ∃ z21 : Int32, ∃ z26 : Int32, ∃ z25 : Int64, ∃ cd2 : Nat, ∃ pq2 : Nat, ∃ zop : Int32, ∃ zp : Nat → Int32, ∃ zc : Nat → Int32, ∃ zl : Nat → Int64, ∃ zpl : List Int64, tj < ct ∧ gP tj ≤ ln ∧ ti ≤ tj ∧ TKR (gK tj) (gV tj) (fb (gP tj)) z17 z18 z19 z25 ∧ pq2 ≤ 8 ∧ RI cn pq2 en dy zp ∧ NL zpl pq2 zl ∧ (u9 = 1 → zop = (nI o9)) ∧ (u9 = 1 → z20 = g20) ∧ (u9 = 1 → z21 = g21) ∧ (u9 = 1 → ti + 1 ≤ tj) ∧ (u9 = 1 → cd ≤ cd2) ∧ (u9 = 1 → 2 * cd2 + sl ≤ gP tj) ∧ (u9 = 1 → Kp cd fc zc) ∧ (u9 = 1 → Sg cd cd2 zc) ∧ (u9 = 1 → PRx gK gS gV ml 0 o9 ti pl (.inr (tj, zpl))) ∧ (u9 = 1 → CR9 gK gV 0 ti tj ml pl zpl cd cd2 fc zc) ∧ (u9 = 1 → K14 fp zp) ∧ (u9 = 0 → PRx gK gS gV ml 0 o9 ti pl (.inl (z20, z21))) ∧ Wq D (va_A [(oX10 w0 v0 v1 v2 v3 v4 g5 g6 (nI ed) g8 v9 (nI nb) g11 g12 v13 (nI ln) (nI (gP ti)) (nI (gR (ti + 1))) tk kw g19 g20 g21 (nI o9) g23 (nI cd) g25 g26 v27 v28 v29 v30 v31 v32 v33 v34 v35 v36 v37 (nI ol)), (v1, .inl (cA 0, 326, .inl fp)), (v9, .inl (cA 0, 700, .inl fb)), (v13, .inl (cA 1, 15, .inr (.inl fkw))), (v28, .inl (cA 1, 10, .inr (.inl l28))), (v30, .inl (cA 1, 8, .inr (.inl l30))), (v32, .inl (cA 0, 400, .inl fc))] sz) [(oX10 w0 v0 v1 v2 v3 v4 g5 g6 (nI ed) g8 v9 (nI nb) g11 g12 v13 (nI ln) (nI (gP tj)) (nI (gR (tj + 1))) z17 z18 z19 z20 z21 zop g23 (nI cd2) z25 z26 v27 v28 v29 v30 v31 v32 v33 v34 v35 v36 v37 (nI ol)), (v1, .inl (cA 0, 326, .inl zp)), (v9, .inl (cA 0, 700, .inl fb)), (v13, .inl (cA 1, 15, .inr (.inl fkw))), (v28, .inl (cA 1, 10, .inr (.inl l28))), (v30, .inl (cA 1, 8, .inr (.inl zl))), (v32, .inl (cA 0, 400, .inl zc))] t) (va_A [(oX10 w0 v0 v1 v2 v3 v4 g5 g6 (nI ed) g8 v9 (nI nb) g11 g12 v13 (nI ln) (nI (gP ti)) (nI (gR (ti + 1))) tk kw g19 g20 g21 (nI o9) g23 (nI cd) g25 g26 v27 v28 v29 v30 v31 v32 v33 v34 v35 v36 v37 (nI ol)), (v1, .inl (cA 0, 326, .inl fp)), (v9, .inl (cA 0, 700, .inl fb)), (v13, .inl (cA 1, 15, .inr (.inl fkw))), (v28, .inl (cA 1, 10, .inr (.inl l28))), (v30, .inl (cA 1, 8, .inr (.inl l30))), (v32, .inl (cA 0, 400, .inl fc))] sz)) 0 0 (va_A [(oX10 w0 v0 v1 v2 v3 v4 g5 g6 (nI ed) g8 v9 (nI nb) g11 g12 v13 (nI ln) (nI (gP ti)) (nI (gR (ti + 1))) tk kw g19 g20 g21 (nI o9) g23 (nI cd) g25 g26 v27 v28 v29 v30 v31 v32 v33 v34 v35 v36 v37 (nI ol)), (v1, .inl (cA 0, 326, .inl fp)), (v9, .inl (cA 0, 700, .inl fb)), (v13, .inl (cA 1, 15, .inr (.inl fkw))), (v28, .inl (cA 1, 10, .inr (.inl l28))), (v30, .inl (cA 1, 8, .inr (.inl l30))), (v32, .inl (cA 0, 400, .inl fc))] sz) := by
  refine Met.ofW (cc := cX10_bracket) (maxL := 1) (ret := (some .boolean)) (by decide) rfl ?_
  intro p e s m args below meth c s₁ B hml hv
  obtain ⟨rfl, hsz, hP, hK, hD0, hC, hZ⟩ := hv
  have hx := B.exec
  have hb := B.bytes
  have hr := B.returns
  have hts := atoms_spec (ws := wsX10_bracket) B.pre
  have hown : s.vm.findClass RX10 = some m.cls := findClass_of_methodNamed B.named
  have hlocks := B.notSynchronized
  subst hsz
  have hD := hD0.self (sz := s.heap.size)
  generalize hAe : va_A [(oX10 w0 v0 v1 v2 v3 v4 g5 g6 (nI ed) g8 v9 (nI nb) g11 g12 v13 (nI ln) (nI (gP ti)) (nI (gR (ti + 1))) tk kw g19 g20 g21 (nI o9) g23 (nI cd) g25 g26 v27 v28 v29 v30 v31 v32 v33 v34 v35 v36 v37 (nI ol)), (v1, .inl (cA 0, 326, .inl fp)), (v9, .inl (cA 0, 700, .inl fb)), (v13, .inl (cA 1, 15, .inr (.inl fkw))), (v28, .inl (cA 1, 10, .inr (.inl l28))), (v30, .inl (cA 1, 8, .inr (.inl l30))), (v32, .inl (cA 0, 400, .inl fc))] s.heap.size = A at hD hZ ⊢
  have hA : ∀ q : Nat, s.heap.size ≤ q → A q := fun q h => by rw [← hAe]; exact Or.inr h
  have hS : va_S A s.heap s.heap [] := va_S.rf
  have hP : va_P D vwCl [(oX10 w0 v0 v1 v2 v3 v4 g5 g6 (nI ed) g8 v9 (nI nb) g11 g12 v13 (nI ln) (nI (gP ti)) (nI (gR (ti + 1))) tk kw g19 g20 g21 (nI o9) g23 (nI cd) g25 g26 v27 v28 v29 v30 v31 v32 v33 v34 v35 v36 v37 (nI ol)), (v1, .inl (cA 0, 326, .inl fp)), (v9, .inl (cA 0, 700, .inl fb)), (v13, .inl (cA 1, 15, .inr (.inl fkw))), (v28, .inl (cA 1, 10, .inr (.inl l28))), (v30, .inl (cA 1, 8, .inr (.inl l30))), (v32, .inl (cA 0, 400, .inl fc))] s.heap := hP
  have hl := lv_entry ([.ref w0]) (n := 1) (Nat.le_of_ble_eq_true rfl)
  rw [lg_entry_eq]
  generalize (lg_sl ([.ref w0]) ++ List.replicate (1 - (lg_sl ([.ref w0])).length) Slot.unset).toArray = ls at hl ⊢
  have hl : lv_has ls 1 [(0, .ref w0)] := hl
  have inX10 : ∀ w ∈ u_ws RX10 TX10 39, w ∈ wsX10_bracket := by decide +kernel
  have hle9 := TX.le hTX hti
  have hn1 := TX.go hTX hti (by rw [hk]; decide)
  have hn1b := TX.le hTX hn1.1
  refine lv_aload_n hx hb dX10_bracket_0 rfl (lv_at hl 0 rfl) ?_
  obtain ⟨hPc, hDc, hFc⟩ := PDq.cut (wc := [(oX10 w0 v0 v1 v2 v3 v4 g5 g6 (nI ed) g8 v9 (nI nb) g11 g12 v13 (nI ln) (nI (gP ti)) (nI (gR (ti + 1))) tk kw g19 g20 g21 (nI o9) g23 (nI cd) g25 g26 v27 v28 v29 v30 v31 v32 v33 v34 v35 v36 v37 (nI ol)), (v9, .inl (cA 0, 700, .inl fb)), (v13, .inl (cA 1, 15, .inr (.inl fkw)))]) hP hD hS hA [0, 2, 3] (by decide) rfl
  refine va_calli (va_runV (As := []) (rest := []) ⟨hx, hb, hml, hown, hts⟩ (y_opens_S l D cA sa w0 ed nb ol v0 v1 v2 v3 v4 v9 v13 v27 v28 v29 v30 v31 v32 v33 v34 v35 v36 v37 g8 g11 g12 g19 g20 g21 g23 g26 g5 g6 g25 ln cd tk kw ti ct fb fkw gP gR gS gK gV o9 s.heap.size hln hct hti hTX hBY hTK hKW (by omega) hn1.1) (cwV 0 hts gX10_bracket_X10_opens rfl rfl rfl (by decide +kernel) ⟨by show (2) + 1 ≤ 4 * (k9 + 1) + 20; omega, by show 8 + (1 + 11) + (44) ≤ 80 * (k9 + 1) + 320; omega⟩) ⟨Wd.blind, va_recv hK hPc (ci := 11) (q0 := 0) rfl rfl, fun U hU hW => ⟨rfl, Wd.call hPc hDc hK hC hZ hS hFc U hU hW⟩⟩ rfl rfl hl.1 rfl (lv_room (Nat.le_of_ble_eq_true rfl)) dX10_bracket_1 ⟨(Nat.le_of_ble_eq_true rfl), (Nat.le_of_ble_eq_true rfl)⟩) hS (fun q _ h => hFc q h) hFc (fun rn2 u t H1 locs ht hvm hw hB hz1 hk1 hS => ?_)
  obtain ⟨zn3, zn4, zn5, zn6, hn7, hP1, hD1⟩ := hB
  rw [ht] at hP1
  obtain ⟨hP, hD⟩ := PDq.join (w := [(v1, .inl (cA 0, 326, .inl fp)), (v28, .inl (cA 1, 10, .inr (.inl l28))), (v30, .inl (cA 1, 8, .inr (.inl l30))), (v32, .inl (cA 0, 400, .inl fc)), (oX10 w0 v0 v1 v2 v3 v4 g5 g6 (nI ed) g8 v9 (nI nb) g11 g12 v13 (nI ln) (nI (gP (ti + 1))) (nI (gR ((ti + 1) + 1))) zn3 zn4 zn5 g20 g21 (nI (o9 + 1)) g23 (nI cd) zn6 g26 v27 v28 v29 v30 v31 v32 v33 v34 v35 v36 v37 (nI ol)), (v9, .inl (cA 0, 700, .inl fb)), (v13, .inl (cA 1, 15, .inr (.inl fkw)))]) 4 hP hD [0, 2, 3] [1, 4, 5, 6] rfl rfl (by decide) (by decide) hk1 hFc hP1 hD1 rfl
  generalize H1 = H at hP hS ⊢
  obtain rfl : rn2 = 1 := hw
  refine lv_if_eq (tgt := 14) hx hb dX10_bracket_4 (by decide) (fun c9 => absurd c9 (by decide)) (fun c8 => ?_)
  refine lv_aload_n hx hb dX10_bracket_7 rfl (lv_at hl 0 rfl) ?_
  obtain ⟨hPc, hDc, hFc⟩ := PDq.cut (wc := [(oX10 w0 v0 v1 v2 v3 v4 g5 g6 (nI ed) g8 v9 (nI nb) g11 g12 v13 (nI ln) (nI (gP (ti + 1))) (nI (gR ((ti + 1) + 1))) zn3 zn4 zn5 g20 g21 (nI (o9 + 1)) g23 (nI cd) zn6 g26 v27 v28 v29 v30 v31 v32 v33 v34 v35 v36 v37 (nI ol)), (v1, .inl (cA 0, 326, .inl fp)), (v9, .inl (cA 0, 700, .inl fb)), (v13, .inl (cA 1, 15, .inr (.inl fkw))), (v28, .inl (cA 1, 10, .inr (.inl l28))), (v30, .inl (cA 1, 8, .inr (.inl l30))), (v32, .inl (cA 0, 400, .inl fc))]) hP hD hS hA [4, 0, 5, 6, 1, 2, 3] (by decide) rfl
  refine va_calli (va_runV (As := []) (rest := []) ⟨hx, hb, hml, hown, hts⟩ (IHc w0 ed nb ol v0 v1 v2 v3 v4 v9 v13 v27 v28 v29 v30 v31 v32 v33 v34 v35 v36 v37 g8 g11 g12 zn5 g20 g21 g23 g26 g5 g6 zn6 ln cd zn3 zn4 (ti + 1) ct fb fkw gP gR gS gK gV cn pq en dy fp sl (o9 + 1) l28 l30 fc ml pl H.size hln hct hn1.1 hTX hBY hn7 hKW hcn hpq hen hdy hri (by omega) hNM hNP (by omega)) (cwV 0 hts gX10_bracket_X10_condition rfl rfl rfl (by decide +kernel) ⟨by show (4 * k9 + 23) + 1 ≤ 4 * (k9 + 1) + 20; omega, by show 8 + (1 + 11) + (80 * k9 + 380) ≤ 80 * (k9 + 1) + 320; omega⟩) ⟨Wd.blind, va_recv hK hPc (ci := 11) (q0 := 0) rfl rfl, fun U hU hW => ⟨rfl, Wd.call hPc hDc hK hC hZ hS hFc U hU hW⟩⟩ rfl rfl hl.1 rfl (lv_room (Nat.le_of_ble_eq_true rfl)) dX10_bracket_8 ⟨(Nat.le_of_ble_eq_true rfl), (Nat.le_of_ble_eq_true rfl)⟩) hS (fun q _ h => hFc q h) hFc (fun rn9 u t H1 locs ht hvm hw hB hz1 hk1 hS => ?_)
  obtain ⟨qn10, zn11, zn12, zn13, zn14, zn15, zn16, zn17, qn18, qn19, zn20, fn21, fn22, fn23, zn24, hn25, hn26, hn27, hn28, hn29, hn30, hn31, hn32, hn33, hn34, hn35, hn36, hn37, hn38, hn39, hn40, hn41, hn42, hn43, hP1, hD1⟩ := hB
  rw [ht] at hP1
  obtain ⟨hP, hD⟩ := PDq.join (w := [(oX10 w0 v0 v1 v2 v3 v4 g5 g6 (nI ed) g8 v9 (nI nb) g11 g12 v13 (nI ln) (nI (gP qn10)) (nI (gR (qn10 + 1))) zn11 zn12 zn13 zn14 zn15 zn20 g23 (nI qn18) zn17 zn16 v27 v28 v29 v30 v31 v32 v33 v34 v35 v36 v37 (nI ol)), (v1, .inl (cA 0, 326, .inl fn21)), (v9, .inl (cA 0, 700, .inl fb)), (v13, .inl (cA 1, 15, .inr (.inl fkw))), (v28, .inl (cA 1, 10, .inr (.inl l28))), (v30, .inl (cA 1, 8, .inr (.inl fn23))), (v32, .inl (cA 0, 400, .inl fn22))]) 0 hP hD [4, 0, 5, 6, 1, 2, 3] [] rfl rfl (by decide) (by decide) hk1 hFc hP1 hD1 rfl
  generalize H1 = H at hP hS ⊢
  rcases hw.2 with hr9 | hr9
  · skip
    have hn43 := hn43 (hw.1.trans hr9)
    subst hr9
    refine lv_if_ne (tgt := 16) hx hb dX10_bracket_11 (by decide) (fun c9 => absurd c9 (by decide)) (fun c44 => ?_)
    refine lv_iconst (v := 0) hx hb dX10_bracket_14 (by decide) ?_
    obtain ⟨hP9, hD9⟩ := PDq.sub (ws' := [(oX10 w0 v0 v1 v2 v3 v4 g5 g6 (nI ed) g8 v9 (nI nb) g11 g12 v13 (nI ln) (nI (gP qn10)) (nI (gR (qn10 + 1))) zn11 zn12 zn13 zn14 zn15 zn20 g23 (nI qn18) zn17 zn16 v27 v28 v29 v30 v31 v32 v33 v34 v35 v36 v37 (nI ol)), (v1, .inl (cA 0, 326, .inl fn21)), (v9, .inl (cA 0, 700, .inl fb)), (v13, .inl (cA 1, 15, .inr (.inl fkw))), (v28, .inl (cA 1, 10, .inr (.inl l28))), (v30, .inl (cA 1, 8, .inr (.inl fn23))), (v32, .inl (cA 0, 400, .inl fn22))]) hP hD [0, 1, 2, 3, 4, 5, 6] (by decide) rfl
    refine W.widen (k := 0) (n := 0) (Nat.le_of_ble_eq_true rfl) (Nat.le_of_ble_eq_true rfl) ?_
    exact (W.zret (v := 0) hx hb hr (by first | rfl | decide) (fun t ht hW => ⟨⟨0, 0, rfl, ⟨rfl, by decide⟩, qn10, zn11, zn12, zn13, zn14, zn15, zn16, zn17, qn18, qn19, zn20, fn21, fn22, fn23, zn24, hn25, hn26, (by omega), hn28, hn29, hn30, hn31, (fun h9 => absurd h9 (by decide)), (fun h9 => absurd h9 (by decide)), (fun h9 => absurd h9 (by decide)), (fun h9 => absurd h9 (by decide)), (fun h9 => absurd h9 (by decide)), (fun h9 => absurd h9 (by decide)), (fun h9 => absurd h9 (by decide)), (fun h9 => absurd h9 (by decide)), (fun h9 => absurd h9 (by decide)), (fun h9 => absurd h9 (by decide)), (fun h9 => absurd h9 (by decide)), (fun _ => (P_openE hk (by omega) hn43)), by rw [ht]; exact hP9, hD9⟩, hS.F ht⟩) hS.2.2 dX10_bracket_15)
  · skip
    have hn32 := hn32 (hw.1.trans hr9)
    subst hn32
    obtain ⟨hP, hD⟩ : PDq D A [(oX10 w0 v0 v1 v2 v3 v4 g5 g6 (nI ed) g8 v9 (nI nb) g11 g12 v13 (nI ln) (nI (gP qn10)) (nI (gR (qn10 + 1))) zn11 zn12 zn13 zn14 zn15 (nI (o9 + 1)) g23 (nI qn18) zn17 zn16 v27 v28 v29 v30 v31 v32 v33 v34 v35 v36 v37 (nI ol)), (v1, .inl (cA 0, 326, .inl fn21)), (v9, .inl (cA 0, 700, .inl fb)), (v13, .inl (cA 1, 15, .inr (.inl fkw))), (v28, .inl (cA 1, 10, .inr (.inl l28))), (v30, .inl (cA 1, 8, .inr (.inl fn23))), (v32, .inl (cA 0, 400, .inl fn22))] H := ⟨hP, hD⟩
    have hn33 := hn33 (hw.1.trans hr9)
    obtain rfl : g20 = zn14 := hn33.symm
    obtain ⟨hP, hD⟩ : PDq D A [(oX10 w0 v0 v1 v2 v3 v4 g5 g6 (nI ed) g8 v9 (nI nb) g11 g12 v13 (nI ln) (nI (gP qn10)) (nI (gR (qn10 + 1))) zn11 zn12 zn13 g20 zn15 (nI (o9 + 1)) g23 (nI qn18) zn17 zn16 v27 v28 v29 v30 v31 v32 v33 v34 v35 v36 v37 (nI ol)), (v1, .inl (cA 0, 326, .inl fn21)), (v9, .inl (cA 0, 700, .inl fb)), (v13, .inl (cA 1, 15, .inr (.inl fkw))), (v28, .inl (cA 1, 10, .inr (.inl l28))), (v30, .inl (cA 1, 8, .inr (.inl fn23))), (v32, .inl (cA 0, 400, .inl fn22))] H := ⟨hP, hD⟩
    have hn34 := hn34 (hw.1.trans hr9)
    obtain rfl : g21 = zn15 := hn34.symm
    obtain ⟨hP, hD⟩ : PDq D A [(oX10 w0 v0 v1 v2 v3 v4 g5 g6 (nI ed) g8 v9 (nI nb) g11 g12 v13 (nI ln) (nI (gP qn10)) (nI (gR (qn10 + 1))) zn11 zn12 zn13 g20 g21 (nI (o9 + 1)) g23 (nI qn18) zn17 zn16 v27 v28 v29 v30 v31 v32 v33 v34 v35 v36 v37 (nI ol)), (v1, .inl (cA 0, 326, .inl fn21)), (v9, .inl (cA 0, 700, .inl fb)), (v13, .inl (cA 1, 15, .inr (.inl fkw))), (v28, .inl (cA 1, 10, .inr (.inl l28))), (v30, .inl (cA 1, 8, .inr (.inl fn23))), (v32, .inl (cA 0, 400, .inl fn22))] H := ⟨hP, hD⟩
    have hn35 := hn35 (hw.1.trans hr9)
    have hn36 := hn36 (hw.1.trans hr9)
    have hn37 := hn37 (hw.1.trans hr9)
    have hn38 := hn38 (hw.1.trans hr9)
    have hn39 := hn39 (hw.1.trans hr9)
    have hn40 := hn40 (hw.1.trans hr9)
    have hn41 := hn41 (hw.1.trans hr9)
    have hn42 := hn42 (hw.1.trans hr9)
    subst hr9
    refine lv_if_ne (tgt := 16) hx hb dX10_bracket_11 (by decide) (fun c45 => ?_) (fun c9 => absurd c9 (by decide))
    refine lv_aload_n hx hb dX10_bracket_16 rfl (lv_at hl 0 rfl) ?_
    refine lv_bipush (v := 41) hx hb dX10_bracket_17 (by decide) ?_
    obtain ⟨hPc, hDc, hFc⟩ := PDq.cut (wc := [(oX10 w0 v0 v1 v2 v3 v4 g5 g6 (nI ed) g8 v9 (nI nb) g11 g12 v13 (nI ln) (nI (gP qn10)) (nI (gR (qn10 + 1))) zn11 zn12 zn13 g20 g21 (nI (o9 + 1)) g23 (nI qn18) zn17 zn16 v27 v28 v29 v30 v31 v32 v33 v34 v35 v36 v37 (nI ol)), (v9, .inl (cA 0, 700, .inl fb))]) hP hD hS hA [0, 2] (by decide) rfl
    refine va_calli (va_runV (As := [.int 41]) (rest := []) ⟨hx, hb, hml, hown, hts⟩ (y_sym41 l D cA sa w0 ed nb ol v0 v1 v2 v3 v4 v9 v13 v27 v28 v29 v30 v31 v32 v33 v34 v35 v36 v37 g8 g11 g12 zn13 g20 g21 (nI (o9 + 1)) g23 zn16 g5 g6 zn17 ln qn18 zn11 zn12 qn10 ct fb gP gR gS gK gV H.size hln hct hn25 hTX hBY hn28) (cwV 1 hts gX10_bracket_X10_isSymbol rfl rfl rfl (by decide +kernel) ⟨by show (0) + 1 ≤ 4 * (k9 + 1) + 20; omega, by show 8 + (2 + 11) + (0) ≤ 80 * (k9 + 1) + 320; omega⟩) ⟨Wd.blind, va_recv hK hPc (ci := 11) (q0 := 0) rfl rfl, fun U hU hW => ⟨rfl, Wd.call hPc hDc hK hC hZ hS hFc U hU hW⟩⟩ rfl rfl hl.1 rfl (lv_room (Nat.le_of_ble_eq_true rfl)) dX10_bracket_19 ⟨(Nat.le_of_ble_eq_true rfl), (Nat.le_of_ble_eq_true rfl)⟩) hS (fun q _ h => hFc q h) hFc (fun rn46 u t H1 locs ht hvm hw hB hz1 hk1 hS => ?_)
    obtain ⟨hP1, hD1⟩ := hB
    rw [ht] at hP1
    obtain ⟨hP, hD⟩ := PDq.join (w := [(v1, .inl (cA 0, 326, .inl fn21)), (v13, .inl (cA 1, 15, .inr (.inl fkw))), (v28, .inl (cA 1, 10, .inr (.inl l28))), (v30, .inl (cA 1, 8, .inr (.inl fn23))), (v32, .inl (cA 0, 400, .inl fn22)), (oX10 w0 v0 v1 v2 v3 v4 g5 g6 (nI ed) g8 v9 (nI nb) g11 g12 v13 (nI ln) (nI (gP qn10)) (nI (gR (qn10 + 1))) zn11 zn12 zn13 g20 g21 (nI (o9 + 1)) g23 (nI qn18) zn17 zn16 v27 v28 v29 v30 v31 v32 v33 v34 v35 v36 v37 (nI ol)), (v9, .inl (cA 0, 700, .inl fb))]) 5 hP hD [0, 2] [1, 3, 4, 5, 6] rfl rfl (by decide) (by decide) hk1 hFc hP1 hD1 rfl
    generalize H1 = H at hP hS ⊢
    rcases hw with ⟨hr9, hn47⟩ | ⟨hr9, hn47⟩
    · skip
      subst hr9
      refine lv_if_ne (tgt := 31) hx hb dX10_bracket_22 (by decide) (fun c48 => ?_) (fun c9 => absurd c9 (by decide))
      refine lv_aload_n hx hb dX10_bracket_31 rfl (lv_at hl 0 rfl) ?_
      refine lv_dup hx hb dX10_bracket_32 rfl ?_
      refine va_get (D := D) (ci := 11) (v := .int (nI (o9 + 1))) (C := RX10) (T := TX10) (N := 39) hx hb hts inX10 hown hK hP 5 rfl rfl 22 (by decide) (hts (.fieldLink RX10 182 "EscrowDeskModel" "open" "I") (by decide +kernel)) (fun _ h9 => h9) rfl dX10_bracket_33 ?_
      refine lv_iconst (v := 1) hx hb dX10_bracket_36 (by decide) ?_
      refine lv_isub hx hb dX10_bracket_37 ?_
      refine lv_topi (fun yn49 eyn49 => ?_)
      obtain rfl : yn49 = (nI ((o9 + 1) - 1)) := eyn49.trans (nI_sub (a := (o9 + 1)) (b := 1) (by omega))
      refine va_put (D := D) (ci := 11) (v := .int (nI ((o9 + 1) - 1))) (ty := .int) (C := RX10) (T := TX10) (N := 39) hx hb hts inX10 tyX10 tyX10_ok nmX10 hown hK hP hD hS 5 rfl rfl 22 (by decide) (hts (.fieldLink RX10 182 "EscrowDeskModel" "open" "I") (by decide +kernel)) (fun _ h9 => h9) rfl (by decide +kernel) rfl rfl (Nat.le_of_ble_eq_true rfl) dX10_bracket_38 (fun H locs hP hD hS => ?_)
      obtain ⟨hP, hD⟩ : PDq D A [(v1, .inl (cA 0, 326, .inl fn21)), (v13, .inl (cA 1, 15, .inr (.inl fkw))), (v28, .inl (cA 1, 10, .inr (.inl l28))), (v30, .inl (cA 1, 8, .inr (.inl fn23))), (v32, .inl (cA 0, 400, .inl fn22)), (oX10 w0 v0 v1 v2 v3 v4 g5 g6 (nI ed) g8 v9 (nI nb) g11 g12 v13 (nI ln) (nI (gP qn10)) (nI (gR (qn10 + 1))) zn11 zn12 zn13 g20 g21 (nI ((o9 + 1) - 1)) g23 (nI qn18) zn17 zn16 v27 v28 v29 v30 v31 v32 v33 v34 v35 v36 v37 (nI ol)), (v9, .inl (cA 0, 700, .inl fb))] H := ⟨hP, hD⟩
      refine lv_aload_n hx hb dX10_bracket_41 rfl (lv_at hl 0 rfl) ?_
      have hn50 := TX.go hTX (show qn10 < ct by omega) (by rw [hn47]; decide)
      have hn50a := TX.le hTX (show qn10 < ct by omega)
      have hn50b := TX.le hTX hn50.1
      obtain ⟨hPc, hDc, hFc⟩ := PDq.cut (wc := [(oX10 w0 v0 v1 v2 v3 v4 g5 g6 (nI ed) g8 v9 (nI nb) g11 g12 v13 (nI ln) (nI (gP qn10)) (nI (gR (qn10 + 1))) zn11 zn12 zn13 g20 g21 (nI ((o9 + 1) - 1)) g23 (nI qn18) zn17 zn16 v27 v28 v29 v30 v31 v32 v33 v34 v35 v36 v37 (nI ol)), (v9, .inl (cA 0, 700, .inl fb)), (v13, .inl (cA 1, 15, .inr (.inl fkw)))]) hP hD hS hA [5, 6, 1] (by decide) rfl
      refine va_calli (va_runV (As := []) (rest := []) ⟨hx, hb, hml, hown, hts⟩ (y_advance l D cA sa w0 ed nb ol v0 v1 v2 v3 v4 v9 v13 v27 v28 v29 v30 v31 v32 v33 v34 v35 v36 v37 g8 g11 g12 (nI (gP qn10)) zn11 zn12 zn13 g20 g21 (nI ((o9 + 1) - 1)) g23 (nI qn18) zn16 g5 g6 zn17 ln (gR (qn10 + 1)) fb fkw (gP (qn10 + 1)) (gR ((qn10 + 1) + 1)) (gK (qn10 + 1)) (gV (qn10 + 1)) H.size hln (by omega) hKW hBY (TX.t hTX hn50.1)) (cwV 0 hts gX10_bracket_X10_advance rfl rfl rfl (by decide +kernel) ⟨by show (1) + 1 ≤ 4 * (k9 + 1) + 20; omega, by show 8 + (2 + 11) + (23) ≤ 80 * (k9 + 1) + 320; omega⟩) ⟨Wd.blind, va_recv hK hPc (ci := 11) (q0 := 0) rfl rfl, fun U hU hW => ⟨rfl, Wd.call hPc hDc hK hC hZ hS hFc U hU hW⟩⟩ rfl rfl hl.1 rfl (lv_room (Nat.le_of_ble_eq_true rfl)) dX10_bracket_42 ⟨(Nat.le_of_ble_eq_true rfl), (Nat.le_of_ble_eq_true rfl)⟩) hS (fun q _ h => hFc q h) hFc (fun rn51 u t H1 locs ht hvm hw hB hz1 hk1 hS => ?_)
      obtain ⟨zn52, zn53, zn54, zn55, hn56, hP1, hD1⟩ := hB
      rw [ht] at hP1
      obtain ⟨hP, hD⟩ := PDq.join (w := [(v1, .inl (cA 0, 326, .inl fn21)), (v28, .inl (cA 1, 10, .inr (.inl l28))), (v30, .inl (cA 1, 8, .inr (.inl fn23))), (v32, .inl (cA 0, 400, .inl fn22)), (oX10 w0 v0 v1 v2 v3 v4 g5 g6 (nI ed) g8 v9 (nI nb) g11 g12 v13 (nI ln) (nI (gP (qn10 + 1))) (nI (gR ((qn10 + 1) + 1))) zn52 zn53 zn54 g20 g21 (nI ((o9 + 1) - 1)) g23 (nI qn18) zn55 zn16 v27 v28 v29 v30 v31 v32 v33 v34 v35 v36 v37 (nI ol)), (v9, .inl (cA 0, 700, .inl fb)), (v13, .inl (cA 1, 15, .inr (.inl fkw)))]) 4 hP hD [5, 6, 1] [0, 2, 3, 4] rfl rfl (by decide) (by decide) hk1 hFc hP1 hD1 rfl
      generalize H1 = H at hP hS ⊢
      obtain rfl : rn51 = 1 := hw
      obtain ⟨hP9, hD9⟩ := PDq.sub (ws' := [(oX10 w0 v0 v1 v2 v3 v4 g5 g6 (nI ed) g8 v9 (nI nb) g11 g12 v13 (nI ln) (nI (gP (qn10 + 1))) (nI (gR ((qn10 + 1) + 1))) zn52 zn53 zn54 g20 g21 (nI ((o9 + 1) - 1)) g23 (nI qn18) zn55 zn16 v27 v28 v29 v30 v31 v32 v33 v34 v35 v36 v37 (nI ol)), (v1, .inl (cA 0, 326, .inl fn21)), (v9, .inl (cA 0, 700, .inl fb)), (v13, .inl (cA 1, 15, .inr (.inl fkw))), (v28, .inl (cA 1, 10, .inr (.inl l28))), (v30, .inl (cA 1, 8, .inr (.inl fn23))), (v32, .inl (cA 0, 400, .inl fn22))]) hP hD [4, 0, 5, 6, 1, 2, 3] (by decide) rfl
      refine W.widen (k := 0) (n := 0) (Nat.le_of_ble_eq_true rfl) (Nat.le_of_ble_eq_true rfl) ?_
      exact (W.zret (v := 1) hx hb hr (by first | rfl | decide) (fun t ht hW => ⟨⟨1, 1, rfl, ⟨rfl, by decide⟩, (qn10 + 1), zn52, zn53, zn54, g20, g21, zn16, zn55, qn18, qn19, (nI ((o9 + 1) - 1)), fn21, fn22, fn23, zn24, hn50.1, (by omega), (by omega), hn56, hn29, hn30, hn31, (fun _ => (by rw [show (o9 + 1) - 1 = o9 by omega])), (fun _ => rfl), (fun _ => rfl), (fun _ => (by omega)), (fun _ => hn36), (fun _ => (by omega)), (fun _ => hn38), (fun _ => hn39), (fun _ => (P_open hk (by omega) hn40 hn47)), (fun _ => (CR9.opn hk hn41 rfl)), (fun _ => hn42), (fun h9 => absurd h9 (by decide)), by rw [ht]; exact hP9, hD9⟩, hS.F ht⟩) hS.2.2 dX10_bracket_45)
    · skip
      subst hr9
      refine lv_if_ne (tgt := 31) hx hb dX10_bracket_22 (by decide) (fun c9 => absurd c9 (by decide)) (fun c57 => ?_)
      refine lv_aload_n hx hb dX10_bracket_25 rfl (lv_at hl 0 rfl) ?_
      refine lv_iconst (v := 2) hx hb dX10_bracket_26 (by decide) ?_
      obtain ⟨hPc, hDc, hFc⟩ := PDq.cut (wc := [(oX10 w0 v0 v1 v2 v3 v4 g5 g6 (nI ed) g8 v9 (nI nb) g11 g12 v13 (nI ln) (nI (gP qn10)) (nI (gR (qn10 + 1))) zn11 zn12 zn13 g20 g21 (nI (o9 + 1)) g23 (nI qn18) zn17 zn16 v27 v28 v29 v30 v31 v32 v33 v34 v35 v36 v37 (nI ol))]) hP hD hS hA [5] (by decide) rfl
      refine va_calli (va_runV (As := [.int 2]) (rest := []) ⟨hx, hb, hml, hown, hts⟩ (y_fail l D cA sa w0 ed nb ol v0 v1 v2 v3 v4 v9 v13 v27 v28 v29 v30 v31 v32 v33 v34 v35 v36 v37 g8 g11 g12 zn13 g20 g21 (nI (o9 + 1)) g23 zn16 g5 g6 zn17 ln qn18 zn11 zn12 qn10 ct fb gP gR gS gK gV 2 H.size hln hct hn25 hTX hBY hn28) (cwV 1 hts gX10_bracket_X10_fail rfl rfl rfl (by decide +kernel) ⟨by show (0) + 1 ≤ 4 * (k9 + 1) + 20; omega, by show 8 + (2 + 11) + (0) ≤ 80 * (k9 + 1) + 320; omega⟩) ⟨Wd.blind, va_recv hK hPc (ci := 11) (q0 := 0) rfl rfl, fun U hU hW => ⟨rfl, Wd.call hPc hDc hK hC hZ hS hFc U hU hW⟩⟩ rfl rfl hl.1 rfl (lv_room (Nat.le_of_ble_eq_true rfl)) dX10_bracket_27 ⟨(Nat.le_of_ble_eq_true rfl), (Nat.le_of_ble_eq_true rfl)⟩) hS (fun q _ h => hFc q h) hFc (fun rn58 u t H1 locs ht hvm hw hB hz1 hk1 hS => ?_)
      obtain ⟨zn59, hn60, hP1, hD1⟩ := hB
      rw [ht] at hP1
      obtain ⟨hP, hD⟩ := PDq.join (w := [(v1, .inl (cA 0, 326, .inl fn21)), (v13, .inl (cA 1, 15, .inr (.inl fkw))), (v28, .inl (cA 1, 10, .inr (.inl l28))), (v30, .inl (cA 1, 8, .inr (.inl fn23))), (v32, .inl (cA 0, 400, .inl fn22)), (v9, .inl (cA 0, 700, .inl fb)), (oX10 w0 v0 v1 v2 v3 v4 g5 g6 (nI ed) g8 v9 (nI nb) g11 g12 v13 (nI ln) (nI (gP qn10)) (nI (gR (qn10 + 1))) zn11 zn12 zn13 zn59 (nI (gP qn10)) (nI (o9 + 1)) g23 (nI qn18) zn17 zn16 v27 v28 v29 v30 v31 v32 v33 v34 v35 v36 v37 (nI ol))]) 6 hP hD [5] [0, 1, 2, 3, 4, 6] rfl rfl (by decide) (by decide) hk1 hFc hP1 hD1 rfl
      generalize H1 = H at hP hS ⊢
      obtain rfl : rn58 = 0 := hw
      obtain ⟨hP9, hD9⟩ := PDq.sub (ws' := [(oX10 w0 v0 v1 v2 v3 v4 g5 g6 (nI ed) g8 v9 (nI nb) g11 g12 v13 (nI ln) (nI (gP qn10)) (nI (gR (qn10 + 1))) zn11 zn12 zn13 zn59 (nI (gP qn10)) (nI (o9 + 1)) g23 (nI qn18) zn17 zn16 v27 v28 v29 v30 v31 v32 v33 v34 v35 v36 v37 (nI ol)), (v1, .inl (cA 0, 326, .inl fn21)), (v9, .inl (cA 0, 700, .inl fb)), (v13, .inl (cA 1, 15, .inr (.inl fkw))), (v28, .inl (cA 1, 10, .inr (.inl l28))), (v30, .inl (cA 1, 8, .inr (.inl fn23))), (v32, .inl (cA 0, 400, .inl fn22))]) hP hD [6, 0, 5, 1, 2, 3, 4] (by decide) rfl
      refine W.widen (k := 0) (n := 0) (Nat.le_of_ble_eq_true rfl) (Nat.le_of_ble_eq_true rfl) ?_
      exact (W.zret (v := 0) hx hb hr (by first | rfl | decide) (fun t ht hW => ⟨⟨0, 0, rfl, ⟨rfl, by decide⟩, qn10, zn11, zn12, zn13, zn59, (nI (gP qn10)), zn16, zn17, qn18, qn19, (nI (o9 + 1)), fn21, fn22, fn23, zn24, hn25, hn26, (by omega), hn28, hn29, hn30, hn31, (fun h9 => absurd h9 (by decide)), (fun h9 => absurd h9 (by decide)), (fun h9 => absurd h9 (by decide)), (fun h9 => absurd h9 (by decide)), (fun h9 => absurd h9 (by decide)), (fun h9 => absurd h9 (by decide)), (fun h9 => absurd h9 (by decide)), (fun h9 => absurd h9 (by decide)), (fun h9 => absurd h9 (by decide)), (fun h9 => absurd h9 (by decide)), (fun h9 => absurd h9 (by decide)), (fun _ => (P_openCx hk (by omega) hn40 hn47 hn60 (TX.s hTX (show qn10 < ct by omega)))), by rw [ht]; exact hP9, hD9⟩, hS.F ht⟩) hS.2.2 dX10_bracket_30)

set_option maxHeartbeats 4000000 in
set_option maxRecDepth 100000 in
/-- reference: fact -/
theorem y_fact_S (l : Launch) (D : va_G) (cA : Nat → ClassId) (sa : Nat → Nat) (k9 : Nat) (IHf : YFactC l D cA sa k9) (IHc : YCondC l D cA sa k9) (w0 : Nat) (ed : Nat) (nb : Nat) (ol : Nat) (v0 : Nat) (v1 : Nat) (v2 : Nat) (v3 : Nat) (v4 : Nat) (v9 : Nat) (v13 : Nat) (v27 : Nat) (v28 : Nat) (v29 : Nat) (v30 : Nat) (v31 : Nat) (v32 : Nat) (v33 : Nat) (v34 : Nat) (v35 : Nat) (v36 : Nat) (v37 : Nat) (g8 : Int32) (g11 : Int32) (g12 : Int32) (g19 : Int32) (g20 : Int32) (g21 : Int32) (g23 : Int32) (g26 : Int32) (g5 : Int64) (g6 : Int64) (g25 : Int64) (ln : Nat) (cd : Nat) (tk : Int32) (kw : Int32) (ti : Nat) (ct : Nat) (fb : Nat → Int32) (fkw : Nat → Int64) (gP : Nat → Nat) (gR : Nat → Nat) (gS : Nat → Int32) (gK : Nat → Int32) (gV : Nat → Int64) (cn : Nat) (pq : Nat) (en : Nat) (dy : Nat) (fp : Nat → Int32) (sl : Nat) (o9 : Nat) (l28 : Nat → Int64) (l30 : Nat → Int64) (fc : Nat → Int32) (ml : List Int64) (pl : List Int64) (sz : Nat) (hln : ln ≤ 700) (hct : ct ≤ 701) (hti : ti < ct) (hTX : TX fb ln ct gP gR gS gV gK) (hBY : BYn ln fb) (hTK : TKR (gK ti) (gV ti) (fb (gP ti)) tk kw g19 g25) (hKW : KW 15 fkw) (hcn : cn ≤ 10) (hpq : pq ≤ 8) (hen : en ≤ 60) (hdy : dy ≤ 20000) (hri : RI cn pq en dy fp) (hcd : 2 * cd + sl ≤ gP ti) (hNM : NL ml cn l28) (hNP : NL pl pq l30) (ho : o9 + (k9 + 1) = 8) : Met l yX10_fact wsX10_fact ({ frames := 4 * (k9 + 1) + 21, cells := 0, slots := 0, locals := 80 * (k9 + 1) + 340 }) (va_Pc [.ref w0] (Wd D cA sa [(oX10 w0 v0 v1 v2 v3 v4 g5 g6 (nI ed) g8 v9 (nI nb) g11 g12 v13 (nI ln) (nI (gP ti)) (nI (gR (ti + 1))) tk kw g19 g20 g21 (nI o9) g23 (nI cd) g25 g26 v27 v28 v29 v30 v31 v32 v33 v34 v35 v36 v37 (nI ol)), (v1, .inl (cA 0, 326, .inl fp)), (v9, .inl (cA 0, 700, .inl fb)), (v13, .inl (cA 1, 15, .inr (.inl fkw))), (v28, .inl (cA 1, 10, .inr (.inl l28))), (v30, .inl (cA 1, 8, .inr (.inl l30))), (v32, .inl (cA 0, 400, .inl fc))] sz)) (va_Qi (fun (r : Int32) (u9 : Int32) => u9 = r ∧ (r = 0 ∨ r = 1)) (fun (u9 : Int32) t => ∃ tj : Nat, ∃ z17 : Int32, ∃ z18 : Int32, ∃ z19 : Int32, ∃ z20 : Int32, ∃ z21 : Int32, ∃ z26 : Int32, ∃ z25 : Int64, ∃ cd2 : Nat, ∃ pq2 : Nat, ∃ zop : Int32, ∃ zp : Nat → Int32, ∃ zc : Nat → Int32, ∃ zl : Nat → Int64, ∃ zpl : List Int64, tj < ct ∧ gP tj ≤ ln ∧ ti ≤ tj ∧ TKR (gK tj) (gV tj) (fb (gP tj)) z17 z18 z19 z25 ∧ pq2 ≤ 8 ∧ RI cn pq2 en dy zp ∧ NL zpl pq2 zl ∧ (u9 = 1 → zop = (nI o9)) ∧ (u9 = 1 → z20 = g20) ∧ (u9 = 1 → z21 = g21) ∧ (u9 = 1 → ti + 1 ≤ tj) ∧ (u9 = 1 → cd ≤ cd2) ∧ (u9 = 1 → 2 * cd2 + sl ≤ gP tj) ∧ (u9 = 1 → Kp cd fc zc) ∧ (u9 = 1 → Sg cd cd2 zc) ∧ (u9 = 1 → PRx gK gS gV ml 0 o9 ti pl (.inr (tj, zpl))) ∧ (u9 = 1 → CR9 gK gV 0 ti tj ml pl zpl cd cd2 fc zc) ∧ (u9 = 1 → K14 fp zp) ∧ (u9 = 0 → PRx gK gS gV ml 0 o9 ti pl (.inl (z20, z21))) ∧ Wq D (va_A [(oX10 w0 v0 v1 v2 v3 v4 g5 g6 (nI ed) g8 v9 (nI nb) g11 g12 v13 (nI ln) (nI (gP ti)) (nI (gR (ti + 1))) tk kw g19 g20 g21 (nI o9) g23 (nI cd) g25 g26 v27 v28 v29 v30 v31 v32 v33 v34 v35 v36 v37 (nI ol)), (v1, .inl (cA 0, 326, .inl fp)), (v9, .inl (cA 0, 700, .inl fb)), (v13, .inl (cA 1, 15, .inr (.inl fkw))), (v28, .inl (cA 1, 10, .inr (.inl l28))), (v30, .inl (cA 1, 8, .inr (.inl l30))), (v32, .inl (cA 0, 400, .inl fc))] sz) [(oX10 w0 v0 v1 v2 v3 v4 g5 g6 (nI ed) g8 v9 (nI nb) g11 g12 v13 (nI ln) (nI (gP tj)) (nI (gR (tj + 1))) z17 z18 z19 z20 z21 zop g23 (nI cd2) z25 z26 v27 v28 v29 v30 v31 v32 v33 v34 v35 v36 v37 (nI ol)), (v1, .inl (cA 0, 326, .inl zp)), (v9, .inl (cA 0, 700, .inl fb)), (v13, .inl (cA 1, 15, .inr (.inl fkw))), (v28, .inl (cA 1, 10, .inr (.inl l28))), (v30, .inl (cA 1, 8, .inr (.inl zl))), (v32, .inl (cA 0, 400, .inl zc))] t) (va_A [(oX10 w0 v0 v1 v2 v3 v4 g5 g6 (nI ed) g8 v9 (nI nb) g11 g12 v13 (nI ln) (nI (gP ti)) (nI (gR (ti + 1))) tk kw g19 g20 g21 (nI o9) g23 (nI cd) g25 g26 v27 v28 v29 v30 v31 v32 v33 v34 v35 v36 v37 (nI ol)), (v1, .inl (cA 0, 326, .inl fp)), (v9, .inl (cA 0, 700, .inl fb)), (v13, .inl (cA 1, 15, .inr (.inl fkw))), (v28, .inl (cA 1, 10, .inr (.inl l28))), (v30, .inl (cA 1, 8, .inr (.inl l30))), (v32, .inl (cA 0, 400, .inl fc))] sz)) 0 0 (va_A [(oX10 w0 v0 v1 v2 v3 v4 g5 g6 (nI ed) g8 v9 (nI nb) g11 g12 v13 (nI ln) (nI (gP ti)) (nI (gR (ti + 1))) tk kw g19 g20 g21 (nI o9) g23 (nI cd) g25 g26 v27 v28 v29 v30 v31 v32 v33 v34 v35 v36 v37 (nI ol)), (v1, .inl (cA 0, 326, .inl fp)), (v9, .inl (cA 0, 700, .inl fb)), (v13, .inl (cA 1, 15, .inr (.inl fkw))), (v28, .inl (cA 1, 10, .inr (.inl l28))), (v30, .inl (cA 1, 8, .inr (.inl l30))), (v32, .inl (cA 0, 400, .inl fc))] sz) := by
  refine Met.ofW (cc := cX10_fact) (maxL := 1) (ret := (some .boolean)) (by decide) rfl ?_
  intro p e s m args below meth c s₁ B hml hv
  obtain ⟨rfl, hsz, hP, hK, hD0, hC, hZ⟩ := hv
  have hx := B.exec
  have hb := B.bytes
  have hr := B.returns
  have hts := atoms_spec (ws := wsX10_fact) B.pre
  have hown : s.vm.findClass RX10 = some m.cls := findClass_of_methodNamed B.named
  have hlocks := B.notSynchronized
  subst hsz
  have hD := hD0.self (sz := s.heap.size)
  generalize hAe : va_A [(oX10 w0 v0 v1 v2 v3 v4 g5 g6 (nI ed) g8 v9 (nI nb) g11 g12 v13 (nI ln) (nI (gP ti)) (nI (gR (ti + 1))) tk kw g19 g20 g21 (nI o9) g23 (nI cd) g25 g26 v27 v28 v29 v30 v31 v32 v33 v34 v35 v36 v37 (nI ol)), (v1, .inl (cA 0, 326, .inl fp)), (v9, .inl (cA 0, 700, .inl fb)), (v13, .inl (cA 1, 15, .inr (.inl fkw))), (v28, .inl (cA 1, 10, .inr (.inl l28))), (v30, .inl (cA 1, 8, .inr (.inl l30))), (v32, .inl (cA 0, 400, .inl fc))] s.heap.size = A at hD hZ ⊢
  have hA : ∀ q : Nat, s.heap.size ≤ q → A q := fun q h => by rw [← hAe]; exact Or.inr h
  have hS : va_S A s.heap s.heap [] := va_S.rf
  have hP : va_P D vwCl [(oX10 w0 v0 v1 v2 v3 v4 g5 g6 (nI ed) g8 v9 (nI nb) g11 g12 v13 (nI ln) (nI (gP ti)) (nI (gR (ti + 1))) tk kw g19 g20 g21 (nI o9) g23 (nI cd) g25 g26 v27 v28 v29 v30 v31 v32 v33 v34 v35 v36 v37 (nI ol)), (v1, .inl (cA 0, 326, .inl fp)), (v9, .inl (cA 0, 700, .inl fb)), (v13, .inl (cA 1, 15, .inr (.inl fkw))), (v28, .inl (cA 1, 10, .inr (.inl l28))), (v30, .inl (cA 1, 8, .inr (.inl l30))), (v32, .inl (cA 0, 400, .inl fc))] s.heap := hP
  have hl := lv_entry ([.ref w0]) (n := 1) (Nat.le_of_ble_eq_true rfl)
  rw [lg_entry_eq]
  generalize (lg_sl ([.ref w0]) ++ List.replicate (1 - (lg_sl ([.ref w0])).length) Slot.unset).toArray = ls at hl ⊢
  have hl : lv_has ls 1 [(0, .ref w0)] := hl
  have inX10 : ∀ w ∈ u_ws RX10 TX10 39, w ∈ wsX10_fact := by decide +kernel
  have hle9 := TX.le hTX hti
  refine lv_aload_n hx hb dX10_fact_0 rfl (lv_at hl 0 rfl) ?_
  refine lv_bipush (v := 40) hx hb dX10_fact_1 (by decide) ?_
  obtain ⟨hPc, hDc, hFc⟩ := PDq.cut (wc := [(oX10 w0 v0 v1 v2 v3 v4 g5 g6 (nI ed) g8 v9 (nI nb) g11 g12 v13 (nI ln) (nI (gP ti)) (nI (gR (ti + 1))) tk kw g19 g20 g21 (nI o9) g23 (nI cd) g25 g26 v27 v28 v29 v30 v31 v32 v33 v34 v35 v36 v37 (nI ol)), (v9, .inl (cA 0, 700, .inl fb))]) hP hD hS hA [0, 2] (by decide) rfl
  refine va_calli (va_runV (As := [.int 40]) (rest := []) ⟨hx, hb, hml, hown, hts⟩ (y_sym40 l D cA sa w0 ed nb ol v0 v1 v2 v3 v4 v9 v13 v27 v28 v29 v30 v31 v32 v33 v34 v35 v36 v37 g8 g11 g12 g19 g20 g21 (nI o9) g23 g26 g5 g6 g25 ln cd tk kw ti ct fb gP gR gS gK gV s.heap.size hln hct hti hTX hBY hTK) (cwV 1 hts gX10_fact_X10_isSymbol rfl rfl rfl (by decide +kernel) ⟨by show (0) + 1 ≤ 4 * (k9 + 1) + 21; omega, by show 8 + (2 + 11) + (0) ≤ 80 * (k9 + 1) + 340; omega⟩) ⟨Wd.blind, va_recv hK hPc (ci := 11) (q0 := 0) rfl rfl, fun U hU hW => ⟨rfl, Wd.call hPc hDc hK hC hZ hS hFc U hU hW⟩⟩ rfl rfl hl.1 rfl (lv_room (Nat.le_of_ble_eq_true rfl)) dX10_fact_3 ⟨(Nat.le_of_ble_eq_true rfl), (Nat.le_of_ble_eq_true rfl)⟩) hS (fun q _ h => hFc q h) hFc (fun rn1 u t H1 locs ht hvm hw hB hz1 hk1 hS => ?_)
  obtain ⟨hP1, hD1⟩ := hB
  rw [ht] at hP1
  obtain ⟨hP, hD⟩ := PDq.join (w := [(v1, .inl (cA 0, 326, .inl fp)), (v13, .inl (cA 1, 15, .inr (.inl fkw))), (v28, .inl (cA 1, 10, .inr (.inl l28))), (v30, .inl (cA 1, 8, .inr (.inl l30))), (v32, .inl (cA 0, 400, .inl fc)), (oX10 w0 v0 v1 v2 v3 v4 g5 g6 (nI ed) g8 v9 (nI nb) g11 g12 v13 (nI ln) (nI (gP ti)) (nI (gR (ti + 1))) tk kw g19 g20 g21 (nI o9) g23 (nI cd) g25 g26 v27 v28 v29 v30 v31 v32 v33 v34 v35 v36 v37 (nI ol)), (v9, .inl (cA 0, 700, .inl fb))]) 5 hP hD [0, 2] [1, 3, 4, 5, 6] rfl rfl (by decide) (by decide) hk1 hFc hP1 hD1 rfl
  generalize H1 = H at hP hS ⊢
  rcases hw with ⟨hr9, hn2⟩ | ⟨hr9, hn2⟩
  · skip
    subst hr9
    refine lv_if_eq (tgt := 14) hx hb dX10_fact_6 (by decide) (fun c9 => absurd c9 (by decide)) (fun c3 => ?_)
    refine lv_aload_n hx hb dX10_fact_9 rfl (lv_at hl 0 rfl) ?_
    obtain ⟨hPc, hDc, hFc⟩ := PDq.cut (wc := [(oX10 w0 v0 v1 v2 v3 v4 g5 g6 (nI ed) g8 v9 (nI nb) g11 g12 v13 (nI ln) (nI (gP ti)) (nI (gR (ti + 1))) tk kw g19 g20 g21 (nI o9) g23 (nI cd) g25 g26 v27 v28 v29 v30 v31 v32 v33 v34 v35 v36 v37 (nI ol)), (v1, .inl (cA 0, 326, .inl fp)), (v9, .inl (cA 0, 700, .inl fb)), (v13, .inl (cA 1, 15, .inr (.inl fkw))), (v28, .inl (cA 1, 10, .inr (.inl l28))), (v30, .inl (cA 1, 8, .inr (.inl l30))), (v32, .inl (cA 0, 400, .inl fc))]) hP hD hS hA [5, 0, 6, 1, 2, 3, 4] (by decide) rfl
    refine va_calli (va_runV (As := []) (rest := []) ⟨hx, hb, hml, hown, hts⟩ (y_bracket_S l D cA sa k9 IHf IHc w0 ed nb ol v0 v1 v2 v3 v4 v9 v13 v27 v28 v29 v30 v31 v32 v33 v34 v35 v36 v37 g8 g11 g12 g19 g20 g21 g23 g26 g5 g6 g25 ln cd tk kw ti ct fb fkw gP gR gS gK gV cn pq en dy fp sl o9 l28 l30 fc ml pl H.size hln hct hti hTX hBY hTK hKW hcn hpq hen hdy hri hcd hNM hNP hn2 ho) (cwV 0 hts gX10_fact_X10_bracket rfl rfl rfl (by decide +kernel) ⟨by show (4 * (k9 + 1) + 20) + 1 ≤ 4 * (k9 + 1) + 21; omega, by show 8 + (1 + 11) + (80 * (k9 + 1) + 320) ≤ 80 * (k9 + 1) + 340; omega⟩) ⟨Wd.blind, va_recv hK hPc (ci := 11) (q0 := 0) rfl rfl, fun U hU hW => ⟨rfl, Wd.call hPc hDc hK hC hZ hS hFc U hU hW⟩⟩ rfl rfl hl.1 rfl (lv_room (Nat.le_of_ble_eq_true rfl)) dX10_fact_10 ⟨(Nat.le_of_ble_eq_true rfl), (Nat.le_of_ble_eq_true rfl)⟩) hS (fun q _ h => hFc q h) hFc (fun rn4 u t H1 locs ht hvm hw hB hz1 hk1 hS => ?_)
    obtain ⟨qn5, zn6, zn7, zn8, zn9, zn10, zn11, zn12, qn13, qn14, zn15, fn16, fn17, fn18, zn19, hn20, hn21, hn22, hn23, hn24, hn25, hn26, hn27, hn28, hn29, hn30, hn31, hn32, hn33, hn34, hn35, hn36, hn37, hn38, hP1, hD1⟩ := hB
    rw [ht] at hP1
    obtain ⟨hP, hD⟩ := PDq.join (w := [(oX10 w0 v0 v1 v2 v3 v4 g5 g6 (nI ed) g8 v9 (nI nb) g11 g12 v13 (nI ln) (nI (gP qn5)) (nI (gR (qn5 + 1))) zn6 zn7 zn8 zn9 zn10 zn15 g23 (nI qn13) zn12 zn11 v27 v28 v29 v30 v31 v32 v33 v34 v35 v36 v37 (nI ol)), (v1, .inl (cA 0, 326, .inl fn16)), (v9, .inl (cA 0, 700, .inl fb)), (v13, .inl (cA 1, 15, .inr (.inl fkw))), (v28, .inl (cA 1, 10, .inr (.inl l28))), (v30, .inl (cA 1, 8, .inr (.inl fn18))), (v32, .inl (cA 0, 400, .inl fn17))]) 0 hP hD [5, 0, 6, 1, 2, 3, 4] [] rfl rfl (by decide) (by decide) hk1 hFc hP1 hD1 rfl
    generalize H1 = H at hP hS ⊢
    rcases hw.2 with hr9 | hr9
    · skip
      have hn38 := hn38 (hw.1.trans hr9)
      subst hr9
      obtain ⟨hP9, hD9⟩ := PDq.sub (ws' := [(oX10 w0 v0 v1 v2 v3 v4 g5 g6 (nI ed) g8 v9 (nI nb) g11 g12 v13 (nI ln) (nI (gP qn5)) (nI (gR (qn5 + 1))) zn6 zn7 zn8 zn9 zn10 zn15 g23 (nI qn13) zn12 zn11 v27 v28 v29 v30 v31 v32 v33 v34 v35 v36 v37 (nI ol)), (v1, .inl (cA 0, 326, .inl fn16)), (v9, .inl (cA 0, 700, .inl fb)), (v13, .inl (cA 1, 15, .inr (.inl fkw))), (v28, .inl (cA 1, 10, .inr (.inl l28))), (v30, .inl (cA 1, 8, .inr (.inl fn18))), (v32, .inl (cA 0, 400, .inl fn17))]) hP hD [0, 1, 2, 3, 4, 5, 6] (by decide) rfl
      refine W.widen (k := 0) (n := 0) (Nat.le_of_ble_eq_true rfl) (Nat.le_of_ble_eq_true rfl) ?_
      exact (W.zret (v := 0) hx hb hr (by first | rfl | decide) (fun t ht hW => ⟨⟨0, 0, rfl, ⟨rfl, by decide⟩, qn5, zn6, zn7, zn8, zn9, zn10, zn11, zn12, qn13, qn14, zn15, fn16, fn17, fn18, zn19, hn20, hn21, hn22, hn23, hn24, hn25, hn26, (fun h9 => absurd h9 (by decide)), (fun h9 => absurd h9 (by decide)), (fun h9 => absurd h9 (by decide)), (fun h9 => absurd h9 (by decide)), (fun h9 => absurd h9 (by decide)), (fun h9 => absurd h9 (by decide)), (fun h9 => absurd h9 (by decide)), (fun h9 => absurd h9 (by decide)), (fun h9 => absurd h9 (by decide)), (fun h9 => absurd h9 (by decide)), (fun h9 => absurd h9 (by decide)), (fun _ => hn38), by rw [ht]; exact hP9, hD9⟩, hS.F ht⟩) hS.2.2 dX10_fact_13)
    · skip
      have hn27 := hn27 (hw.1.trans hr9)
      subst hn27
      obtain ⟨hP, hD⟩ : PDq D A [(oX10 w0 v0 v1 v2 v3 v4 g5 g6 (nI ed) g8 v9 (nI nb) g11 g12 v13 (nI ln) (nI (gP qn5)) (nI (gR (qn5 + 1))) zn6 zn7 zn8 zn9 zn10 (nI o9) g23 (nI qn13) zn12 zn11 v27 v28 v29 v30 v31 v32 v33 v34 v35 v36 v37 (nI ol)), (v1, .inl (cA 0, 326, .inl fn16)), (v9, .inl (cA 0, 700, .inl fb)), (v13, .inl (cA 1, 15, .inr (.inl fkw))), (v28, .inl (cA 1, 10, .inr (.inl l28))), (v30, .inl (cA 1, 8, .inr (.inl fn18))), (v32, .inl (cA 0, 400, .inl fn17))] H := ⟨hP, hD⟩
      have hn28 := hn28 (hw.1.trans hr9)
      obtain rfl : g20 = zn9 := hn28.symm
      obtain ⟨hP, hD⟩ : PDq D A [(oX10 w0 v0 v1 v2 v3 v4 g5 g6 (nI ed) g8 v9 (nI nb) g11 g12 v13 (nI ln) (nI (gP qn5)) (nI (gR (qn5 + 1))) zn6 zn7 zn8 g20 zn10 (nI o9) g23 (nI qn13) zn12 zn11 v27 v28 v29 v30 v31 v32 v33 v34 v35 v36 v37 (nI ol)), (v1, .inl (cA 0, 326, .inl fn16)), (v9, .inl (cA 0, 700, .inl fb)), (v13, .inl (cA 1, 15, .inr (.inl fkw))), (v28, .inl (cA 1, 10, .inr (.inl l28))), (v30, .inl (cA 1, 8, .inr (.inl fn18))), (v32, .inl (cA 0, 400, .inl fn17))] H := ⟨hP, hD⟩
      have hn29 := hn29 (hw.1.trans hr9)
      obtain rfl : g21 = zn10 := hn29.symm
      obtain ⟨hP, hD⟩ : PDq D A [(oX10 w0 v0 v1 v2 v3 v4 g5 g6 (nI ed) g8 v9 (nI nb) g11 g12 v13 (nI ln) (nI (gP qn5)) (nI (gR (qn5 + 1))) zn6 zn7 zn8 g20 g21 (nI o9) g23 (nI qn13) zn12 zn11 v27 v28 v29 v30 v31 v32 v33 v34 v35 v36 v37 (nI ol)), (v1, .inl (cA 0, 326, .inl fn16)), (v9, .inl (cA 0, 700, .inl fb)), (v13, .inl (cA 1, 15, .inr (.inl fkw))), (v28, .inl (cA 1, 10, .inr (.inl l28))), (v30, .inl (cA 1, 8, .inr (.inl fn18))), (v32, .inl (cA 0, 400, .inl fn17))] H := ⟨hP, hD⟩
      have hn30 := hn30 (hw.1.trans hr9)
      have hn31 := hn31 (hw.1.trans hr9)
      have hn32 := hn32 (hw.1.trans hr9)
      have hn33 := hn33 (hw.1.trans hr9)
      have hn34 := hn34 (hw.1.trans hr9)
      have hn35 := hn35 (hw.1.trans hr9)
      have hn36 := hn36 (hw.1.trans hr9)
      have hn37 := hn37 (hw.1.trans hr9)
      subst hr9
      obtain ⟨hP9, hD9⟩ := PDq.sub (ws' := [(oX10 w0 v0 v1 v2 v3 v4 g5 g6 (nI ed) g8 v9 (nI nb) g11 g12 v13 (nI ln) (nI (gP qn5)) (nI (gR (qn5 + 1))) zn6 zn7 zn8 g20 g21 (nI o9) g23 (nI qn13) zn12 zn11 v27 v28 v29 v30 v31 v32 v33 v34 v35 v36 v37 (nI ol)), (v1, .inl (cA 0, 326, .inl fn16)), (v9, .inl (cA 0, 700, .inl fb)), (v13, .inl (cA 1, 15, .inr (.inl fkw))), (v28, .inl (cA 1, 10, .inr (.inl l28))), (v30, .inl (cA 1, 8, .inr (.inl fn18))), (v32, .inl (cA 0, 400, .inl fn17))]) hP hD [0, 1, 2, 3, 4, 5, 6] (by decide) rfl
      refine W.widen (k := 0) (n := 0) (Nat.le_of_ble_eq_true rfl) (Nat.le_of_ble_eq_true rfl) ?_
      exact (W.zret (v := 1) hx hb hr (by first | rfl | decide) (fun t ht hW => ⟨⟨1, 1, rfl, ⟨rfl, by decide⟩, qn5, zn6, zn7, zn8, g20, g21, zn11, zn12, qn13, qn14, (nI o9), fn16, fn17, fn18, zn19, hn20, hn21, hn22, hn23, hn24, hn25, hn26, (fun _ => rfl), (fun _ => rfl), (fun _ => rfl), (fun _ => hn30), (fun _ => hn31), (fun _ => hn32), (fun _ => hn33), (fun _ => hn34), (fun _ => hn35), (fun _ => hn36), (fun _ => hn37), (fun h9 => absurd h9 (by decide)), by rw [ht]; exact hP9, hD9⟩, hS.F ht⟩) hS.2.2 dX10_fact_13)
  · skip
    subst hr9
    refine lv_if_eq (tgt := 14) hx hb dX10_fact_6 (by decide) (fun c39 => ?_) (fun c9 => absurd c9 (by decide))
    refine lv_aload_n hx hb dX10_fact_14 rfl (lv_at hl 0 rfl) ?_
    refine va_get (D := D) (ci := 11) (v := .int tk) (C := RX10) (T := TX10) (N := 39) hx hb hts inX10 hown hK hP 5 rfl rfl 17 (by decide) (hts (.fieldLink RX10 126 "EscrowDeskModel" "token" "I") (by decide +kernel)) (fun _ h9 => h9) rfl dX10_fact_15 ?_
    refine lv_iconst (v := 2) hx hb dX10_fact_18 (by decide) ?_
    refine lv_icmp_eq (tgt := 28) hx hb dX10_fact_19 (by decide) (fun c40 => ?_) (fun c40 => ?_)
    · skip
      refine lv_aload_n hx hb dX10_fact_28 rfl (lv_at hl 0 rfl) ?_
      refine va_get (D := D) (ci := 11) (v := .int kw) (C := RX10) (T := TX10) (N := 39) hx hb hts inX10 hown hK hP 5 rfl rfl 18 (by decide) (hts (.fieldLink RX10 120 "EscrowDeskModel" "keyword" "I") (by decide +kernel)) (fun _ h9 => h9) rfl dX10_fact_29 ?_
      by_cases hn41 : kw = 8
      · skip
        refine W.eq (g2 := F0 m 32 ls [.int 8]) (by rw [hn41]) ?_
        refine lv_tableIn (off := 44) (tgt := 76) hx hb dX10_fact_32 (by decide) (by decide) (by decide) (by decide) ?_
        refine lv_aload_n hx hb dX10_fact_76 rfl (lv_at hl 0 rfl) ?_
        obtain ⟨hPc, hDc, hFc⟩ := PDq.cut (wc := [(oX10 w0 v0 v1 v2 v3 v4 g5 g6 (nI ed) g8 v9 (nI nb) g11 g12 v13 (nI ln) (nI (gP ti)) (nI (gR (ti + 1))) tk kw g19 g20 g21 (nI o9) g23 (nI cd) g25 g26 v27 v28 v29 v30 v31 v32 v33 v34 v35 v36 v37 (nI ol)), (v1, .inl (cA 0, 326, .inl fp)), (v9, .inl (cA 0, 700, .inl fb)), (v13, .inl (cA 1, 15, .inr (.inl fkw))), (v28, .inl (cA 1, 10, .inr (.inl l28))), (v30, .inl (cA 1, 8, .inr (.inl l30))), (v32, .inl (cA 0, 400, .inl fc))]) hP hD hS hA [5, 0, 6, 1, 2, 3, 4] (by decide) rfl
        refine va_calli (va_runV (As := []) (rest := []) ⟨hx, hb, hml, hown, hts⟩ (y_notFact_S l D cA sa k9 IHf IHc w0 ed nb ol v0 v1 v2 v3 v4 v9 v13 v27 v28 v29 v30 v31 v32 v33 v34 v35 v36 v37 g8 g11 g12 g19 g20 g21 g23 g26 g5 g6 g25 ln cd tk kw ti ct fb fkw gP gR gS gK gV cn pq en dy fp sl o9 l28 l30 fc ml pl H.size hln hct hti hTX hBY hTK hKW hcn hpq hen hdy hri hcd hNM hNP (TKR.kwd (n := 8) hTK (by decide) c40 hn41) ho) (cwV 0 hts gX10_fact_X10_notFact rfl rfl rfl (by decide +kernel) ⟨by show (4 * (k9 + 1) + 20) + 1 ≤ 4 * (k9 + 1) + 21; omega, by show 8 + (1 + 11) + (80 * (k9 + 1) + 320) ≤ 80 * (k9 + 1) + 340; omega⟩) ⟨Wd.blind, va_recv hK hPc (ci := 11) (q0 := 0) rfl rfl, fun U hU hW => ⟨rfl, Wd.call hPc hDc hK hC hZ hS hFc U hU hW⟩⟩ rfl rfl hl.1 rfl (lv_room (Nat.le_of_ble_eq_true rfl)) dX10_fact_77 ⟨(Nat.le_of_ble_eq_true rfl), (Nat.le_of_ble_eq_true rfl)⟩) hS (fun q _ h => hFc q h) hFc (fun rn42 u t H1 locs ht hvm hw hB hz1 hk1 hS => ?_)
        obtain ⟨qn43, zn44, zn45, zn46, zn47, zn48, zn49, zn50, qn51, qn52, zn53, fn54, fn55, fn56, zn57, hn58, hn59, hn60, hn61, hn62, hn63, hn64, hn65, hn66, hn67, hn68, hn69, hn70, hn71, hn72, hn73, hn74, hn75, hn76, hP1, hD1⟩ := hB
        rw [ht] at hP1
        obtain ⟨hP, hD⟩ := PDq.join (w := [(oX10 w0 v0 v1 v2 v3 v4 g5 g6 (nI ed) g8 v9 (nI nb) g11 g12 v13 (nI ln) (nI (gP qn43)) (nI (gR (qn43 + 1))) zn44 zn45 zn46 zn47 zn48 zn53 g23 (nI qn51) zn50 zn49 v27 v28 v29 v30 v31 v32 v33 v34 v35 v36 v37 (nI ol)), (v1, .inl (cA 0, 326, .inl fn54)), (v9, .inl (cA 0, 700, .inl fb)), (v13, .inl (cA 1, 15, .inr (.inl fkw))), (v28, .inl (cA 1, 10, .inr (.inl l28))), (v30, .inl (cA 1, 8, .inr (.inl fn56))), (v32, .inl (cA 0, 400, .inl fn55))]) 0 hP hD [5, 0, 6, 1, 2, 3, 4] [] rfl rfl (by decide) (by decide) hk1 hFc hP1 hD1 rfl
        generalize H1 = H at hP hS ⊢
        rcases hw.2 with hr9 | hr9
        · skip
          have hn76 := hn76 (hw.1.trans hr9)
          subst hr9
          obtain ⟨hP9, hD9⟩ := PDq.sub (ws' := [(oX10 w0 v0 v1 v2 v3 v4 g5 g6 (nI ed) g8 v9 (nI nb) g11 g12 v13 (nI ln) (nI (gP qn43)) (nI (gR (qn43 + 1))) zn44 zn45 zn46 zn47 zn48 zn53 g23 (nI qn51) zn50 zn49 v27 v28 v29 v30 v31 v32 v33 v34 v35 v36 v37 (nI ol)), (v1, .inl (cA 0, 326, .inl fn54)), (v9, .inl (cA 0, 700, .inl fb)), (v13, .inl (cA 1, 15, .inr (.inl fkw))), (v28, .inl (cA 1, 10, .inr (.inl l28))), (v30, .inl (cA 1, 8, .inr (.inl fn56))), (v32, .inl (cA 0, 400, .inl fn55))]) hP hD [0, 1, 2, 3, 4, 5, 6] (by decide) rfl
          refine W.widen (k := 0) (n := 0) (Nat.le_of_ble_eq_true rfl) (Nat.le_of_ble_eq_true rfl) ?_
          exact (W.zret (v := 0) hx hb hr (by first | rfl | decide) (fun t ht hW => ⟨⟨0, 0, rfl, ⟨rfl, by decide⟩, qn43, zn44, zn45, zn46, zn47, zn48, zn49, zn50, qn51, qn52, zn53, fn54, fn55, fn56, zn57, hn58, hn59, hn60, hn61, hn62, hn63, hn64, (fun h9 => absurd h9 (by decide)), (fun h9 => absurd h9 (by decide)), (fun h9 => absurd h9 (by decide)), (fun h9 => absurd h9 (by decide)), (fun h9 => absurd h9 (by decide)), (fun h9 => absurd h9 (by decide)), (fun h9 => absurd h9 (by decide)), (fun h9 => absurd h9 (by decide)), (fun h9 => absurd h9 (by decide)), (fun h9 => absurd h9 (by decide)), (fun h9 => absurd h9 (by decide)), (fun _ => hn76), by rw [ht]; exact hP9, hD9⟩, hS.F ht⟩) hS.2.2 dX10_fact_80)
        · skip
          have hn65 := hn65 (hw.1.trans hr9)
          subst hn65
          obtain ⟨hP, hD⟩ : PDq D A [(oX10 w0 v0 v1 v2 v3 v4 g5 g6 (nI ed) g8 v9 (nI nb) g11 g12 v13 (nI ln) (nI (gP qn43)) (nI (gR (qn43 + 1))) zn44 zn45 zn46 zn47 zn48 (nI o9) g23 (nI qn51) zn50 zn49 v27 v28 v29 v30 v31 v32 v33 v34 v35 v36 v37 (nI ol)), (v1, .inl (cA 0, 326, .inl fn54)), (v9, .inl (cA 0, 700, .inl fb)), (v13, .inl (cA 1, 15, .inr (.inl fkw))), (v28, .inl (cA 1, 10, .inr (.inl l28))), (v30, .inl (cA 1, 8, .inr (.inl fn56))), (v32, .inl (cA 0, 400, .inl fn55))] H := ⟨hP, hD⟩
          have hn66 := hn66 (hw.1.trans hr9)
          obtain rfl : g20 = zn47 := hn66.symm
          obtain ⟨hP, hD⟩ : PDq D A [(oX10 w0 v0 v1 v2 v3 v4 g5 g6 (nI ed) g8 v9 (nI nb) g11 g12 v13 (nI ln) (nI (gP qn43)) (nI (gR (qn43 + 1))) zn44 zn45 zn46 g20 zn48 (nI o9) g23 (nI qn51) zn50 zn49 v27 v28 v29 v30 v31 v32 v33 v34 v35 v36 v37 (nI ol)), (v1, .inl (cA 0, 326, .inl fn54)), (v9, .inl (cA 0, 700, .inl fb)), (v13, .inl (cA 1, 15, .inr (.inl fkw))), (v28, .inl (cA 1, 10, .inr (.inl l28))), (v30, .inl (cA 1, 8, .inr (.inl fn56))), (v32, .inl (cA 0, 400, .inl fn55))] H := ⟨hP, hD⟩
          have hn67 := hn67 (hw.1.trans hr9)
          obtain rfl : g21 = zn48 := hn67.symm
          obtain ⟨hP, hD⟩ : PDq D A [(oX10 w0 v0 v1 v2 v3 v4 g5 g6 (nI ed) g8 v9 (nI nb) g11 g12 v13 (nI ln) (nI (gP qn43)) (nI (gR (qn43 + 1))) zn44 zn45 zn46 g20 g21 (nI o9) g23 (nI qn51) zn50 zn49 v27 v28 v29 v30 v31 v32 v33 v34 v35 v36 v37 (nI ol)), (v1, .inl (cA 0, 326, .inl fn54)), (v9, .inl (cA 0, 700, .inl fb)), (v13, .inl (cA 1, 15, .inr (.inl fkw))), (v28, .inl (cA 1, 10, .inr (.inl l28))), (v30, .inl (cA 1, 8, .inr (.inl fn56))), (v32, .inl (cA 0, 400, .inl fn55))] H := ⟨hP, hD⟩
          have hn68 := hn68 (hw.1.trans hr9)
          have hn69 := hn69 (hw.1.trans hr9)
          have hn70 := hn70 (hw.1.trans hr9)
          have hn71 := hn71 (hw.1.trans hr9)
          have hn72 := hn72 (hw.1.trans hr9)
          have hn73 := hn73 (hw.1.trans hr9)
          have hn74 := hn74 (hw.1.trans hr9)
          have hn75 := hn75 (hw.1.trans hr9)
          subst hr9
          obtain ⟨hP9, hD9⟩ := PDq.sub (ws' := [(oX10 w0 v0 v1 v2 v3 v4 g5 g6 (nI ed) g8 v9 (nI nb) g11 g12 v13 (nI ln) (nI (gP qn43)) (nI (gR (qn43 + 1))) zn44 zn45 zn46 g20 g21 (nI o9) g23 (nI qn51) zn50 zn49 v27 v28 v29 v30 v31 v32 v33 v34 v35 v36 v37 (nI ol)), (v1, .inl (cA 0, 326, .inl fn54)), (v9, .inl (cA 0, 700, .inl fb)), (v13, .inl (cA 1, 15, .inr (.inl fkw))), (v28, .inl (cA 1, 10, .inr (.inl l28))), (v30, .inl (cA 1, 8, .inr (.inl fn56))), (v32, .inl (cA 0, 400, .inl fn55))]) hP hD [0, 1, 2, 3, 4, 5, 6] (by decide) rfl
          refine W.widen (k := 0) (n := 0) (Nat.le_of_ble_eq_true rfl) (Nat.le_of_ble_eq_true rfl) ?_
          exact (W.zret (v := 1) hx hb hr (by first | rfl | decide) (fun t ht hW => ⟨⟨1, 1, rfl, ⟨rfl, by decide⟩, qn43, zn44, zn45, zn46, g20, g21, zn49, zn50, qn51, qn52, (nI o9), fn54, fn55, fn56, zn57, hn58, hn59, hn60, hn61, hn62, hn63, hn64, (fun _ => rfl), (fun _ => rfl), (fun _ => rfl), (fun _ => hn68), (fun _ => hn69), (fun _ => hn70), (fun _ => hn71), (fun _ => hn72), (fun _ => hn73), (fun _ => hn74), (fun _ => hn75), (fun h9 => absurd h9 (by decide)), by rw [ht]; exact hP9, hD9⟩, hS.F ht⟩) hS.2.2 dX10_fact_80)
      · skip
        by_cases hn77 : kw = 9
        · skip
          refine W.eq (g2 := F0 m 32 ls [.int 9]) (by rw [hn77]) ?_
          refine lv_tableIn (off := 49) (tgt := 81) hx hb dX10_fact_32 (by decide) (by decide) (by decide) (by decide) ?_
          refine lv_aload_n hx hb dX10_fact_81 rfl (lv_at hl 0 rfl) ?_
          refine lv_iconst (v := 0) hx hb dX10_fact_82 (by decide) ?_
          refine lv_sipush (v := 999) hx hb dX10_fact_83 (by decide) ?_
          obtain ⟨hPc, hDc, hFc⟩ := PDq.cut (wc := [(oX10 w0 v0 v1 v2 v3 v4 g5 g6 (nI ed) g8 v9 (nI nb) g11 g12 v13 (nI ln) (nI (gP ti)) (nI (gR (ti + 1))) tk kw g19 g20 g21 (nI o9) g23 (nI cd) g25 g26 v27 v28 v29 v30 v31 v32 v33 v34 v35 v36 v37 (nI ol)), (v1, .inl (cA 0, 326, .inl fp)), (v9, .inl (cA 0, 700, .inl fb)), (v13, .inl (cA 1, 15, .inr (.inl fkw))), (v28, .inl (cA 1, 10, .inr (.inl l28))), (v30, .inl (cA 1, 8, .inr (.inl l30))), (v32, .inl (cA 0, 400, .inl fc))]) hP hD hS hA [5, 0, 6, 1, 2, 3, 4] (by decide) rfl
          refine va_calli (va_runV (As := [.int 0, .int 999]) (rest := []) ⟨hx, hb, hml, hown, hts⟩ (y_numberFact0 l D cA sa w0 ed nb ol v0 v1 v2 v3 v4 v9 v13 v27 v28 v29 v30 v31 v32 v33 v34 v35 v36 v37 g8 g11 g12 g19 g20 g21 g23 g26 g5 g6 g25 ln cd tk kw ti ct fb fkw gP gR gS gK gV cn pq en dy fp sl o9 l28 l30 fc ml pl (nI o9) H.size hln hct hti hTX hBY hTK hKW hcn hpq hen hdy hri hcd hNM hNP (TKR.kwd (n := 9) hTK (by decide) c40 hn77)) (cwV 2 hts gX10_fact_X10_numberFact rfl rfl rfl (by decide +kernel) ⟨by show (3) + 1 ≤ 4 * (k9 + 1) + 21; omega, by show 8 + (3 + 11) + (66) ≤ 80 * (k9 + 1) + 340; omega⟩) ⟨Wd.blind, va_recv hK hPc (ci := 11) (q0 := 0) rfl rfl, fun U hU hW => ⟨rfl, Wd.call hPc hDc hK hC hZ hS hFc U hU hW⟩⟩ rfl rfl hl.1 rfl (lv_room (Nat.le_of_ble_eq_true rfl)) dX10_fact_86 ⟨(Nat.le_of_ble_eq_true rfl), (Nat.le_of_ble_eq_true rfl)⟩) hS (fun q _ h => hFc q h) hFc (fun rn78 u t H1 locs ht hvm hw hB hz1 hk1 hS => ?_)
          obtain ⟨qn79, zn80, zn81, zn82, zn83, zn84, zn85, zn86, qn87, qn88, fn89, fn90, fn91, zn92, hn93, hn94, hn95, hn96, hn97, hn98, hn99, hn100, hn101, hn102, hn103, hn104, hn105, hn106, hn107, hn108, hn109, hn110, hP1, hD1⟩ := hB
          rw [ht] at hP1
          obtain ⟨hP, hD⟩ := PDq.join (w := [(oX10 w0 v0 v1 v2 v3 v4 g5 g6 (nI ed) g8 v9 (nI nb) g11 g12 v13 (nI ln) (nI (gP qn79)) (nI (gR (qn79 + 1))) zn80 zn81 zn82 zn83 zn84 (nI o9) g23 (nI qn87) zn86 zn85 v27 v28 v29 v30 v31 v32 v33 v34 v35 v36 v37 (nI ol)), (v1, .inl (cA 0, 326, .inl fn89)), (v9, .inl (cA 0, 700, .inl fb)), (v13, .inl (cA 1, 15, .inr (.inl fkw))), (v28, .inl (cA 1, 10, .inr (.inl l28))), (v30, .inl (cA 1, 8, .inr (.inl fn91))), (v32, .inl (cA 0, 400, .inl fn90))]) 0 hP hD [5, 0, 6, 1, 2, 3, 4] [] rfl rfl (by decide) (by decide) hk1 hFc hP1 hD1 rfl
          generalize H1 = H at hP hS ⊢
          rcases hw.2 with hr9 | hr9
          · skip
            have hn110 := hn110 (hw.1.trans hr9)
            subst hr9
            obtain ⟨hP9, hD9⟩ := PDq.sub (ws' := [(oX10 w0 v0 v1 v2 v3 v4 g5 g6 (nI ed) g8 v9 (nI nb) g11 g12 v13 (nI ln) (nI (gP qn79)) (nI (gR (qn79 + 1))) zn80 zn81 zn82 zn83 zn84 (nI o9) g23 (nI qn87) zn86 zn85 v27 v28 v29 v30 v31 v32 v33 v34 v35 v36 v37 (nI ol)), (v1, .inl (cA 0, 326, .inl fn89)), (v9, .inl (cA 0, 700, .inl fb)), (v13, .inl (cA 1, 15, .inr (.inl fkw))), (v28, .inl (cA 1, 10, .inr (.inl l28))), (v30, .inl (cA 1, 8, .inr (.inl fn91))), (v32, .inl (cA 0, 400, .inl fn90))]) hP hD [0, 1, 2, 3, 4, 5, 6] (by decide) rfl
            refine W.widen (k := 0) (n := 0) (Nat.le_of_ble_eq_true rfl) (Nat.le_of_ble_eq_true rfl) ?_
            exact (W.zret (v := 0) hx hb hr (by first | rfl | decide) (fun t ht hW => ⟨⟨0, 0, rfl, ⟨rfl, by decide⟩, qn79, zn80, zn81, zn82, zn83, zn84, zn85, zn86, qn87, qn88, (nI o9), fn89, fn90, fn91, zn92, hn93, hn94, hn95, hn96, hn97, hn98, hn99, (fun h9 => absurd h9 (by decide)), (fun h9 => absurd h9 (by decide)), (fun h9 => absurd h9 (by decide)), (fun h9 => absurd h9 (by decide)), (fun h9 => absurd h9 (by decide)), (fun h9 => absurd h9 (by decide)), (fun h9 => absurd h9 (by decide)), (fun h9 => absurd h9 (by decide)), (fun h9 => absurd h9 (by decide)), (fun h9 => absurd h9 (by decide)), (fun h9 => absurd h9 (by decide)), (fun _ => hn110), by rw [ht]; exact hP9, hD9⟩, hS.F ht⟩) hS.2.2 dX10_fact_89)
          · skip
            have hn100 := hn100 (hw.1.trans hr9)
            obtain rfl : g20 = zn83 := hn100.symm
            obtain ⟨hP, hD⟩ : PDq D A [(oX10 w0 v0 v1 v2 v3 v4 g5 g6 (nI ed) g8 v9 (nI nb) g11 g12 v13 (nI ln) (nI (gP qn79)) (nI (gR (qn79 + 1))) zn80 zn81 zn82 g20 zn84 (nI o9) g23 (nI qn87) zn86 zn85 v27 v28 v29 v30 v31 v32 v33 v34 v35 v36 v37 (nI ol)), (v1, .inl (cA 0, 326, .inl fn89)), (v9, .inl (cA 0, 700, .inl fb)), (v13, .inl (cA 1, 15, .inr (.inl fkw))), (v28, .inl (cA 1, 10, .inr (.inl l28))), (v30, .inl (cA 1, 8, .inr (.inl fn91))), (v32, .inl (cA 0, 400, .inl fn90))] H := ⟨hP, hD⟩
            have hn101 := hn101 (hw.1.trans hr9)
            obtain rfl : g21 = zn84 := hn101.symm
            obtain ⟨hP, hD⟩ : PDq D A [(oX10 w0 v0 v1 v2 v3 v4 g5 g6 (nI ed) g8 v9 (nI nb) g11 g12 v13 (nI ln) (nI (gP qn79)) (nI (gR (qn79 + 1))) zn80 zn81 zn82 g20 g21 (nI o9) g23 (nI qn87) zn86 zn85 v27 v28 v29 v30 v31 v32 v33 v34 v35 v36 v37 (nI ol)), (v1, .inl (cA 0, 326, .inl fn89)), (v9, .inl (cA 0, 700, .inl fb)), (v13, .inl (cA 1, 15, .inr (.inl fkw))), (v28, .inl (cA 1, 10, .inr (.inl l28))), (v30, .inl (cA 1, 8, .inr (.inl fn91))), (v32, .inl (cA 0, 400, .inl fn90))] H := ⟨hP, hD⟩
            have hn102 := hn102 (hw.1.trans hr9)
            have hn103 := hn103 (hw.1.trans hr9)
            have hn104 := hn104 (hw.1.trans hr9)
            have hn105 := hn105 (hw.1.trans hr9)
            have hn106 := hn106 (hw.1.trans hr9)
            have hn107 := hn107 (hw.1.trans hr9)
            have hn108 := hn108 (hw.1.trans hr9)
            have hn109 := hn109 (hw.1.trans hr9)
            subst hr9
            obtain ⟨hP9, hD9⟩ := PDq.sub (ws' := [(oX10 w0 v0 v1 v2 v3 v4 g5 g6 (nI ed) g8 v9 (nI nb) g11 g12 v13 (nI ln) (nI (gP qn79)) (nI (gR (qn79 + 1))) zn80 zn81 zn82 g20 g21 (nI o9) g23 (nI qn87) zn86 zn85 v27 v28 v29 v30 v31 v32 v33 v34 v35 v36 v37 (nI ol)), (v1, .inl (cA 0, 326, .inl fn89)), (v9, .inl (cA 0, 700, .inl fb)), (v13, .inl (cA 1, 15, .inr (.inl fkw))), (v28, .inl (cA 1, 10, .inr (.inl l28))), (v30, .inl (cA 1, 8, .inr (.inl fn91))), (v32, .inl (cA 0, 400, .inl fn90))]) hP hD [0, 1, 2, 3, 4, 5, 6] (by decide) rfl
            refine W.widen (k := 0) (n := 0) (Nat.le_of_ble_eq_true rfl) (Nat.le_of_ble_eq_true rfl) ?_
            exact (W.zret (v := 1) hx hb hr (by first | rfl | decide) (fun t ht hW => ⟨⟨1, 1, rfl, ⟨rfl, by decide⟩, qn79, zn80, zn81, zn82, g20, g21, zn85, zn86, qn87, qn88, (nI o9), fn89, fn90, fn91, zn92, hn93, hn94, hn95, hn96, hn97, hn98, hn99, (fun _ => rfl), (fun _ => rfl), (fun _ => rfl), (fun _ => hn102), (fun _ => hn103), (fun _ => hn104), (fun _ => hn105), (fun _ => hn106), (fun _ => hn107), (fun _ => hn108), (fun _ => hn109), (fun h9 => absurd h9 (by decide)), by rw [ht]; exact hP9, hD9⟩, hS.F ht⟩) hS.2.2 dX10_fact_89)
        · skip
          by_cases hn111 : kw = 10
          · skip
            refine W.eq (g2 := F0 m 32 ls [.int 10]) (by rw [hn111]) ?_
            refine lv_tableIn (off := 58) (tgt := 90) hx hb dX10_fact_32 (by decide) (by decide) (by decide) (by decide) ?_
            refine lv_aload_n hx hb dX10_fact_90 rfl (lv_at hl 0 rfl) ?_
            obtain ⟨hPc, hDc, hFc⟩ := PDq.cut (wc := [(oX10 w0 v0 v1 v2 v3 v4 g5 g6 (nI ed) g8 v9 (nI nb) g11 g12 v13 (nI ln) (nI (gP ti)) (nI (gR (ti + 1))) tk kw g19 g20 g21 (nI o9) g23 (nI cd) g25 g26 v27 v28 v29 v30 v31 v32 v33 v34 v35 v36 v37 (nI ol)), (v1, .inl (cA 0, 326, .inl fp)), (v9, .inl (cA 0, 700, .inl fb)), (v13, .inl (cA 1, 15, .inr (.inl fkw))), (v28, .inl (cA 1, 10, .inr (.inl l28))), (v30, .inl (cA 1, 8, .inr (.inl l30))), (v32, .inl (cA 0, 400, .inl fc))]) hP hD hS hA [5, 0, 6, 1, 2, 3, 4] (by decide) rfl
            refine va_calli (va_runV (As := []) (rest := []) ⟨hx, hb, hml, hown, hts⟩ (y_proofFact l D cA sa w0 ed nb ol v0 v1 v2 v3 v4 v9 v13 v27 v28 v29 v30 v31 v32 v33 v34 v35 v36 v37 g8 g11 g12 g19 g20 g21 g23 g26 g5 g6 g25 ln cd tk kw ti ct fb fkw gP gR gS gK gV cn pq en dy fp sl o9 l28 l30 fc ml pl (nI o9) H.size hln hct hti hTX hBY hTK hKW hcn hpq hen hdy hri hcd hNM hNP (TKR.kwd (n := 10) hTK (by decide) c40 hn111)) (cwV 0 hts gX10_fact_X10_proofFact rfl rfl rfl (by decide +kernel) ⟨by show (2) + 1 ≤ 4 * (k9 + 1) + 21; omega, by show 8 + (2 + 11) + (44) ≤ 80 * (k9 + 1) + 340; omega⟩) ⟨Wd.blind, va_recv hK hPc (ci := 11) (q0 := 0) rfl rfl, fun U hU hW => ⟨rfl, Wd.call hPc hDc hK hC hZ hS hFc U hU hW⟩⟩ rfl rfl hl.1 rfl (lv_room (Nat.le_of_ble_eq_true rfl)) dX10_fact_91 ⟨(Nat.le_of_ble_eq_true rfl), (Nat.le_of_ble_eq_true rfl)⟩) hS (fun q _ h => hFc q h) hFc (fun rn112 u t H1 locs ht hvm hw hB hz1 hk1 hS => ?_)
            obtain ⟨qn113, zn114, zn115, zn116, zn117, zn118, zn119, zn120, qn121, qn122, fn123, fn124, fn125, zn126, hn127, hn128, hn129, hn130, hn131, hn132, hn133, hn134, hn135, hn136, hn137, hn138, hn139, hn140, hn141, hn142, hn143, hn144, hP1, hD1⟩ := hB
            rw [ht] at hP1
            obtain ⟨hP, hD⟩ := PDq.join (w := [(oX10 w0 v0 v1 v2 v3 v4 g5 g6 (nI ed) g8 v9 (nI nb) g11 g12 v13 (nI ln) (nI (gP qn113)) (nI (gR (qn113 + 1))) zn114 zn115 zn116 zn117 zn118 (nI o9) g23 (nI qn121) zn120 zn119 v27 v28 v29 v30 v31 v32 v33 v34 v35 v36 v37 (nI ol)), (v1, .inl (cA 0, 326, .inl fn123)), (v9, .inl (cA 0, 700, .inl fb)), (v13, .inl (cA 1, 15, .inr (.inl fkw))), (v28, .inl (cA 1, 10, .inr (.inl l28))), (v30, .inl (cA 1, 8, .inr (.inl fn125))), (v32, .inl (cA 0, 400, .inl fn124))]) 0 hP hD [5, 0, 6, 1, 2, 3, 4] [] rfl rfl (by decide) (by decide) hk1 hFc hP1 hD1 rfl
            generalize H1 = H at hP hS ⊢
            rcases hw.2 with hr9 | hr9
            · skip
              have hn144 := hn144 (hw.1.trans hr9)
              subst hr9
              obtain ⟨hP9, hD9⟩ := PDq.sub (ws' := [(oX10 w0 v0 v1 v2 v3 v4 g5 g6 (nI ed) g8 v9 (nI nb) g11 g12 v13 (nI ln) (nI (gP qn113)) (nI (gR (qn113 + 1))) zn114 zn115 zn116 zn117 zn118 (nI o9) g23 (nI qn121) zn120 zn119 v27 v28 v29 v30 v31 v32 v33 v34 v35 v36 v37 (nI ol)), (v1, .inl (cA 0, 326, .inl fn123)), (v9, .inl (cA 0, 700, .inl fb)), (v13, .inl (cA 1, 15, .inr (.inl fkw))), (v28, .inl (cA 1, 10, .inr (.inl l28))), (v30, .inl (cA 1, 8, .inr (.inl fn125))), (v32, .inl (cA 0, 400, .inl fn124))]) hP hD [0, 1, 2, 3, 4, 5, 6] (by decide) rfl
              refine W.widen (k := 0) (n := 0) (Nat.le_of_ble_eq_true rfl) (Nat.le_of_ble_eq_true rfl) ?_
              exact (W.zret (v := 0) hx hb hr (by first | rfl | decide) (fun t ht hW => ⟨⟨0, 0, rfl, ⟨rfl, by decide⟩, qn113, zn114, zn115, zn116, zn117, zn118, zn119, zn120, qn121, qn122, (nI o9), fn123, fn124, fn125, zn126, hn127, hn128, hn129, hn130, hn131, hn132, hn133, (fun h9 => absurd h9 (by decide)), (fun h9 => absurd h9 (by decide)), (fun h9 => absurd h9 (by decide)), (fun h9 => absurd h9 (by decide)), (fun h9 => absurd h9 (by decide)), (fun h9 => absurd h9 (by decide)), (fun h9 => absurd h9 (by decide)), (fun h9 => absurd h9 (by decide)), (fun h9 => absurd h9 (by decide)), (fun h9 => absurd h9 (by decide)), (fun h9 => absurd h9 (by decide)), (fun _ => hn144), by rw [ht]; exact hP9, hD9⟩, hS.F ht⟩) hS.2.2 dX10_fact_94)
            · skip
              have hn134 := hn134 (hw.1.trans hr9)
              obtain rfl : g20 = zn117 := hn134.symm
              obtain ⟨hP, hD⟩ : PDq D A [(oX10 w0 v0 v1 v2 v3 v4 g5 g6 (nI ed) g8 v9 (nI nb) g11 g12 v13 (nI ln) (nI (gP qn113)) (nI (gR (qn113 + 1))) zn114 zn115 zn116 g20 zn118 (nI o9) g23 (nI qn121) zn120 zn119 v27 v28 v29 v30 v31 v32 v33 v34 v35 v36 v37 (nI ol)), (v1, .inl (cA 0, 326, .inl fn123)), (v9, .inl (cA 0, 700, .inl fb)), (v13, .inl (cA 1, 15, .inr (.inl fkw))), (v28, .inl (cA 1, 10, .inr (.inl l28))), (v30, .inl (cA 1, 8, .inr (.inl fn125))), (v32, .inl (cA 0, 400, .inl fn124))] H := ⟨hP, hD⟩
              have hn135 := hn135 (hw.1.trans hr9)
              obtain rfl : g21 = zn118 := hn135.symm
              obtain ⟨hP, hD⟩ : PDq D A [(oX10 w0 v0 v1 v2 v3 v4 g5 g6 (nI ed) g8 v9 (nI nb) g11 g12 v13 (nI ln) (nI (gP qn113)) (nI (gR (qn113 + 1))) zn114 zn115 zn116 g20 g21 (nI o9) g23 (nI qn121) zn120 zn119 v27 v28 v29 v30 v31 v32 v33 v34 v35 v36 v37 (nI ol)), (v1, .inl (cA 0, 326, .inl fn123)), (v9, .inl (cA 0, 700, .inl fb)), (v13, .inl (cA 1, 15, .inr (.inl fkw))), (v28, .inl (cA 1, 10, .inr (.inl l28))), (v30, .inl (cA 1, 8, .inr (.inl fn125))), (v32, .inl (cA 0, 400, .inl fn124))] H := ⟨hP, hD⟩
              have hn136 := hn136 (hw.1.trans hr9)
              have hn137 := hn137 (hw.1.trans hr9)
              have hn138 := hn138 (hw.1.trans hr9)
              have hn139 := hn139 (hw.1.trans hr9)
              have hn140 := hn140 (hw.1.trans hr9)
              have hn141 := hn141 (hw.1.trans hr9)
              have hn142 := hn142 (hw.1.trans hr9)
              have hn143 := hn143 (hw.1.trans hr9)
              subst hr9
              obtain ⟨hP9, hD9⟩ := PDq.sub (ws' := [(oX10 w0 v0 v1 v2 v3 v4 g5 g6 (nI ed) g8 v9 (nI nb) g11 g12 v13 (nI ln) (nI (gP qn113)) (nI (gR (qn113 + 1))) zn114 zn115 zn116 g20 g21 (nI o9) g23 (nI qn121) zn120 zn119 v27 v28 v29 v30 v31 v32 v33 v34 v35 v36 v37 (nI ol)), (v1, .inl (cA 0, 326, .inl fn123)), (v9, .inl (cA 0, 700, .inl fb)), (v13, .inl (cA 1, 15, .inr (.inl fkw))), (v28, .inl (cA 1, 10, .inr (.inl l28))), (v30, .inl (cA 1, 8, .inr (.inl fn125))), (v32, .inl (cA 0, 400, .inl fn124))]) hP hD [0, 1, 2, 3, 4, 5, 6] (by decide) rfl
              refine W.widen (k := 0) (n := 0) (Nat.le_of_ble_eq_true rfl) (Nat.le_of_ble_eq_true rfl) ?_
              exact (W.zret (v := 1) hx hb hr (by first | rfl | decide) (fun t ht hW => ⟨⟨1, 1, rfl, ⟨rfl, by decide⟩, qn113, zn114, zn115, zn116, g20, g21, zn119, zn120, qn121, qn122, (nI o9), fn123, fn124, fn125, zn126, hn127, hn128, hn129, hn130, hn131, hn132, hn133, (fun _ => rfl), (fun _ => rfl), (fun _ => rfl), (fun _ => hn136), (fun _ => hn137), (fun _ => hn138), (fun _ => hn139), (fun _ => hn140), (fun _ => hn141), (fun _ => hn142), (fun _ => hn143), (fun h9 => absurd h9 (by decide)), by rw [ht]; exact hP9, hD9⟩, hS.F ht⟩) hS.2.2 dX10_fact_94)
          · skip
            by_cases hn145 : kw = 11
            · skip
              refine W.eq (g2 := F0 m 32 ls [.int 11]) (by rw [hn145]) ?_
              refine lv_tableIn (off := 63) (tgt := 95) hx hb dX10_fact_32 (by decide) (by decide) (by decide) (by decide) ?_
              refine lv_aload_n hx hb dX10_fact_95 rfl (lv_at hl 0 rfl) ?_
              obtain ⟨hPc, hDc, hFc⟩ := PDq.cut (wc := [(oX10 w0 v0 v1 v2 v3 v4 g5 g6 (nI ed) g8 v9 (nI nb) g11 g12 v13 (nI ln) (nI (gP ti)) (nI (gR (ti + 1))) tk kw g19 g20 g21 (nI o9) g23 (nI cd) g25 g26 v27 v28 v29 v30 v31 v32 v33 v34 v35 v36 v37 (nI ol)), (v1, .inl (cA 0, 326, .inl fp)), (v9, .inl (cA 0, 700, .inl fb)), (v13, .inl (cA 1, 15, .inr (.inl fkw))), (v28, .inl (cA 1, 10, .inr (.inl l28))), (v30, .inl (cA 1, 8, .inr (.inl l30))), (v32, .inl (cA 0, 400, .inl fc))]) hP hD hS hA [5, 0, 6, 1, 2, 3, 4] (by decide) rfl
              refine va_calli (va_runV (As := []) (rest := []) ⟨hx, hb, hml, hown, hts⟩ (y_doneFact l D cA sa w0 ed nb ol v0 v1 v2 v3 v4 v9 v13 v27 v28 v29 v30 v31 v32 v33 v34 v35 v36 v37 g8 g11 g12 g19 g20 g21 g23 g26 g5 g6 g25 ln cd tk kw ti ct fb fkw gP gR gS gK gV cn pq en dy fp sl o9 l28 l30 fc ml pl (nI o9) H.size hln hct hti hTX hBY hTK hKW hcn hpq hen hdy hri hcd hNM hNP (TKR.kwd (n := 11) hTK (by decide) c40 hn145)) (cwV 0 hts gX10_fact_X10_doneFact rfl rfl rfl (by decide +kernel) ⟨by show (2) + 1 ≤ 4 * (k9 + 1) + 21; omega, by show 8 + (2 + 11) + (44) ≤ 80 * (k9 + 1) + 340; omega⟩) ⟨Wd.blind, va_recv hK hPc (ci := 11) (q0 := 0) rfl rfl, fun U hU hW => ⟨rfl, Wd.call hPc hDc hK hC hZ hS hFc U hU hW⟩⟩ rfl rfl hl.1 rfl (lv_room (Nat.le_of_ble_eq_true rfl)) dX10_fact_96 ⟨(Nat.le_of_ble_eq_true rfl), (Nat.le_of_ble_eq_true rfl)⟩) hS (fun q _ h => hFc q h) hFc (fun rn146 u t H1 locs ht hvm hw hB hz1 hk1 hS => ?_)
              obtain ⟨qn147, zn148, zn149, zn150, zn151, zn152, zn153, zn154, qn155, qn156, fn157, fn158, fn159, zn160, hn161, hn162, hn163, hn164, hn165, hn166, hn167, hn168, hn169, hn170, hn171, hn172, hn173, hn174, hn175, hn176, hn177, hn178, hP1, hD1⟩ := hB
              rw [ht] at hP1
              obtain ⟨hP, hD⟩ := PDq.join (w := [(oX10 w0 v0 v1 v2 v3 v4 g5 g6 (nI ed) g8 v9 (nI nb) g11 g12 v13 (nI ln) (nI (gP qn147)) (nI (gR (qn147 + 1))) zn148 zn149 zn150 zn151 zn152 (nI o9) g23 (nI qn155) zn154 zn153 v27 v28 v29 v30 v31 v32 v33 v34 v35 v36 v37 (nI ol)), (v1, .inl (cA 0, 326, .inl fn157)), (v9, .inl (cA 0, 700, .inl fb)), (v13, .inl (cA 1, 15, .inr (.inl fkw))), (v28, .inl (cA 1, 10, .inr (.inl l28))), (v30, .inl (cA 1, 8, .inr (.inl fn159))), (v32, .inl (cA 0, 400, .inl fn158))]) 0 hP hD [5, 0, 6, 1, 2, 3, 4] [] rfl rfl (by decide) (by decide) hk1 hFc hP1 hD1 rfl
              generalize H1 = H at hP hS ⊢
              rcases hw.2 with hr9 | hr9
              · skip
                have hn178 := hn178 (hw.1.trans hr9)
                subst hr9
                obtain ⟨hP9, hD9⟩ := PDq.sub (ws' := [(oX10 w0 v0 v1 v2 v3 v4 g5 g6 (nI ed) g8 v9 (nI nb) g11 g12 v13 (nI ln) (nI (gP qn147)) (nI (gR (qn147 + 1))) zn148 zn149 zn150 zn151 zn152 (nI o9) g23 (nI qn155) zn154 zn153 v27 v28 v29 v30 v31 v32 v33 v34 v35 v36 v37 (nI ol)), (v1, .inl (cA 0, 326, .inl fn157)), (v9, .inl (cA 0, 700, .inl fb)), (v13, .inl (cA 1, 15, .inr (.inl fkw))), (v28, .inl (cA 1, 10, .inr (.inl l28))), (v30, .inl (cA 1, 8, .inr (.inl fn159))), (v32, .inl (cA 0, 400, .inl fn158))]) hP hD [0, 1, 2, 3, 4, 5, 6] (by decide) rfl
                refine W.widen (k := 0) (n := 0) (Nat.le_of_ble_eq_true rfl) (Nat.le_of_ble_eq_true rfl) ?_
                exact (W.zret (v := 0) hx hb hr (by first | rfl | decide) (fun t ht hW => ⟨⟨0, 0, rfl, ⟨rfl, by decide⟩, qn147, zn148, zn149, zn150, zn151, zn152, zn153, zn154, qn155, qn156, (nI o9), fn157, fn158, fn159, zn160, hn161, hn162, hn163, hn164, hn165, hn166, hn167, (fun h9 => absurd h9 (by decide)), (fun h9 => absurd h9 (by decide)), (fun h9 => absurd h9 (by decide)), (fun h9 => absurd h9 (by decide)), (fun h9 => absurd h9 (by decide)), (fun h9 => absurd h9 (by decide)), (fun h9 => absurd h9 (by decide)), (fun h9 => absurd h9 (by decide)), (fun h9 => absurd h9 (by decide)), (fun h9 => absurd h9 (by decide)), (fun h9 => absurd h9 (by decide)), (fun _ => hn178), by rw [ht]; exact hP9, hD9⟩, hS.F ht⟩) hS.2.2 dX10_fact_99)
              · skip
                have hn168 := hn168 (hw.1.trans hr9)
                obtain rfl : g20 = zn151 := hn168.symm
                obtain ⟨hP, hD⟩ : PDq D A [(oX10 w0 v0 v1 v2 v3 v4 g5 g6 (nI ed) g8 v9 (nI nb) g11 g12 v13 (nI ln) (nI (gP qn147)) (nI (gR (qn147 + 1))) zn148 zn149 zn150 g20 zn152 (nI o9) g23 (nI qn155) zn154 zn153 v27 v28 v29 v30 v31 v32 v33 v34 v35 v36 v37 (nI ol)), (v1, .inl (cA 0, 326, .inl fn157)), (v9, .inl (cA 0, 700, .inl fb)), (v13, .inl (cA 1, 15, .inr (.inl fkw))), (v28, .inl (cA 1, 10, .inr (.inl l28))), (v30, .inl (cA 1, 8, .inr (.inl fn159))), (v32, .inl (cA 0, 400, .inl fn158))] H := ⟨hP, hD⟩
                have hn169 := hn169 (hw.1.trans hr9)
                obtain rfl : g21 = zn152 := hn169.symm
                obtain ⟨hP, hD⟩ : PDq D A [(oX10 w0 v0 v1 v2 v3 v4 g5 g6 (nI ed) g8 v9 (nI nb) g11 g12 v13 (nI ln) (nI (gP qn147)) (nI (gR (qn147 + 1))) zn148 zn149 zn150 g20 g21 (nI o9) g23 (nI qn155) zn154 zn153 v27 v28 v29 v30 v31 v32 v33 v34 v35 v36 v37 (nI ol)), (v1, .inl (cA 0, 326, .inl fn157)), (v9, .inl (cA 0, 700, .inl fb)), (v13, .inl (cA 1, 15, .inr (.inl fkw))), (v28, .inl (cA 1, 10, .inr (.inl l28))), (v30, .inl (cA 1, 8, .inr (.inl fn159))), (v32, .inl (cA 0, 400, .inl fn158))] H := ⟨hP, hD⟩
                have hn170 := hn170 (hw.1.trans hr9)
                have hn171 := hn171 (hw.1.trans hr9)
                have hn172 := hn172 (hw.1.trans hr9)
                have hn173 := hn173 (hw.1.trans hr9)
                have hn174 := hn174 (hw.1.trans hr9)
                have hn175 := hn175 (hw.1.trans hr9)
                have hn176 := hn176 (hw.1.trans hr9)
                have hn177 := hn177 (hw.1.trans hr9)
                subst hr9
                obtain ⟨hP9, hD9⟩ := PDq.sub (ws' := [(oX10 w0 v0 v1 v2 v3 v4 g5 g6 (nI ed) g8 v9 (nI nb) g11 g12 v13 (nI ln) (nI (gP qn147)) (nI (gR (qn147 + 1))) zn148 zn149 zn150 g20 g21 (nI o9) g23 (nI qn155) zn154 zn153 v27 v28 v29 v30 v31 v32 v33 v34 v35 v36 v37 (nI ol)), (v1, .inl (cA 0, 326, .inl fn157)), (v9, .inl (cA 0, 700, .inl fb)), (v13, .inl (cA 1, 15, .inr (.inl fkw))), (v28, .inl (cA 1, 10, .inr (.inl l28))), (v30, .inl (cA 1, 8, .inr (.inl fn159))), (v32, .inl (cA 0, 400, .inl fn158))]) hP hD [0, 1, 2, 3, 4, 5, 6] (by decide) rfl
                refine W.widen (k := 0) (n := 0) (Nat.le_of_ble_eq_true rfl) (Nat.le_of_ble_eq_true rfl) ?_
                exact (W.zret (v := 1) hx hb hr (by first | rfl | decide) (fun t ht hW => ⟨⟨1, 1, rfl, ⟨rfl, by decide⟩, qn147, zn148, zn149, zn150, g20, g21, zn153, zn154, qn155, qn156, (nI o9), fn157, fn158, fn159, zn160, hn161, hn162, hn163, hn164, hn165, hn166, hn167, (fun _ => rfl), (fun _ => rfl), (fun _ => rfl), (fun _ => hn170), (fun _ => hn171), (fun _ => hn172), (fun _ => hn173), (fun _ => hn174), (fun _ => hn175), (fun _ => hn176), (fun _ => hn177), (fun h9 => absurd h9 (by decide)), by rw [ht]; exact hP9, hD9⟩, hS.F ht⟩) hS.2.2 dX10_fact_99)
            · skip
              by_cases hn179 : kw = 12
              · skip
                refine W.eq (g2 := F0 m 32 ls [.int 12]) (by rw [hn179]) ?_
                refine lv_tableIn (off := 68) (tgt := 100) hx hb dX10_fact_32 (by decide) (by decide) (by decide) (by decide) ?_
                refine lv_aload_n hx hb dX10_fact_100 rfl (lv_at hl 0 rfl) ?_
                refine lv_iconst (v := 3) hx hb dX10_fact_101 (by decide) ?_
                refine lv_ldc (v := 99999) hx hb hown (hts (.constant RX10 218 99999) (by decide +kernel)) dX10_fact_102 ?_
                obtain ⟨hPc, hDc, hFc⟩ := PDq.cut (wc := [(oX10 w0 v0 v1 v2 v3 v4 g5 g6 (nI ed) g8 v9 (nI nb) g11 g12 v13 (nI ln) (nI (gP ti)) (nI (gR (ti + 1))) tk kw g19 g20 g21 (nI o9) g23 (nI cd) g25 g26 v27 v28 v29 v30 v31 v32 v33 v34 v35 v36 v37 (nI ol)), (v1, .inl (cA 0, 326, .inl fp)), (v9, .inl (cA 0, 700, .inl fb)), (v13, .inl (cA 1, 15, .inr (.inl fkw))), (v28, .inl (cA 1, 10, .inr (.inl l28))), (v30, .inl (cA 1, 8, .inr (.inl l30))), (v32, .inl (cA 0, 400, .inl fc))]) hP hD hS hA [5, 0, 6, 1, 2, 3, 4] (by decide) rfl
                refine va_calli (va_runV (As := [.int 3, .int 99999]) (rest := []) ⟨hx, hb, hml, hown, hts⟩ (y_numberFact3 l D cA sa w0 ed nb ol v0 v1 v2 v3 v4 v9 v13 v27 v28 v29 v30 v31 v32 v33 v34 v35 v36 v37 g8 g11 g12 g19 g20 g21 g23 g26 g5 g6 g25 ln cd tk kw ti ct fb fkw gP gR gS gK gV cn pq en dy fp sl o9 l28 l30 fc ml pl (nI o9) H.size hln hct hti hTX hBY hTK hKW hcn hpq hen hdy hri hcd hNM hNP (TKR.kwd (n := 12) hTK (by decide) c40 hn179)) (cwV 2 hts gX10_fact_X10_numberFact rfl rfl rfl (by decide +kernel) ⟨by show (3) + 1 ≤ 4 * (k9 + 1) + 21; omega, by show 8 + (3 + 11) + (66) ≤ 80 * (k9 + 1) + 340; omega⟩) ⟨Wd.blind, va_recv hK hPc (ci := 11) (q0 := 0) rfl rfl, fun U hU hW => ⟨rfl, Wd.call hPc hDc hK hC hZ hS hFc U hU hW⟩⟩ rfl rfl hl.1 rfl (lv_room (Nat.le_of_ble_eq_true rfl)) dX10_fact_104 ⟨(Nat.le_of_ble_eq_true rfl), (Nat.le_of_ble_eq_true rfl)⟩) hS (fun q _ h => hFc q h) hFc (fun rn180 u t H1 locs ht hvm hw hB hz1 hk1 hS => ?_)
                obtain ⟨qn181, zn182, zn183, zn184, zn185, zn186, zn187, zn188, qn189, qn190, fn191, fn192, fn193, zn194, hn195, hn196, hn197, hn198, hn199, hn200, hn201, hn202, hn203, hn204, hn205, hn206, hn207, hn208, hn209, hn210, hn211, hn212, hP1, hD1⟩ := hB
                rw [ht] at hP1
                obtain ⟨hP, hD⟩ := PDq.join (w := [(oX10 w0 v0 v1 v2 v3 v4 g5 g6 (nI ed) g8 v9 (nI nb) g11 g12 v13 (nI ln) (nI (gP qn181)) (nI (gR (qn181 + 1))) zn182 zn183 zn184 zn185 zn186 (nI o9) g23 (nI qn189) zn188 zn187 v27 v28 v29 v30 v31 v32 v33 v34 v35 v36 v37 (nI ol)), (v1, .inl (cA 0, 326, .inl fn191)), (v9, .inl (cA 0, 700, .inl fb)), (v13, .inl (cA 1, 15, .inr (.inl fkw))), (v28, .inl (cA 1, 10, .inr (.inl l28))), (v30, .inl (cA 1, 8, .inr (.inl fn193))), (v32, .inl (cA 0, 400, .inl fn192))]) 0 hP hD [5, 0, 6, 1, 2, 3, 4] [] rfl rfl (by decide) (by decide) hk1 hFc hP1 hD1 rfl
                generalize H1 = H at hP hS ⊢
                rcases hw.2 with hr9 | hr9
                · skip
                  have hn212 := hn212 (hw.1.trans hr9)
                  subst hr9
                  obtain ⟨hP9, hD9⟩ := PDq.sub (ws' := [(oX10 w0 v0 v1 v2 v3 v4 g5 g6 (nI ed) g8 v9 (nI nb) g11 g12 v13 (nI ln) (nI (gP qn181)) (nI (gR (qn181 + 1))) zn182 zn183 zn184 zn185 zn186 (nI o9) g23 (nI qn189) zn188 zn187 v27 v28 v29 v30 v31 v32 v33 v34 v35 v36 v37 (nI ol)), (v1, .inl (cA 0, 326, .inl fn191)), (v9, .inl (cA 0, 700, .inl fb)), (v13, .inl (cA 1, 15, .inr (.inl fkw))), (v28, .inl (cA 1, 10, .inr (.inl l28))), (v30, .inl (cA 1, 8, .inr (.inl fn193))), (v32, .inl (cA 0, 400, .inl fn192))]) hP hD [0, 1, 2, 3, 4, 5, 6] (by decide) rfl
                  refine W.widen (k := 0) (n := 0) (Nat.le_of_ble_eq_true rfl) (Nat.le_of_ble_eq_true rfl) ?_
                  exact (W.zret (v := 0) hx hb hr (by first | rfl | decide) (fun t ht hW => ⟨⟨0, 0, rfl, ⟨rfl, by decide⟩, qn181, zn182, zn183, zn184, zn185, zn186, zn187, zn188, qn189, qn190, (nI o9), fn191, fn192, fn193, zn194, hn195, hn196, hn197, hn198, hn199, hn200, hn201, (fun h9 => absurd h9 (by decide)), (fun h9 => absurd h9 (by decide)), (fun h9 => absurd h9 (by decide)), (fun h9 => absurd h9 (by decide)), (fun h9 => absurd h9 (by decide)), (fun h9 => absurd h9 (by decide)), (fun h9 => absurd h9 (by decide)), (fun h9 => absurd h9 (by decide)), (fun h9 => absurd h9 (by decide)), (fun h9 => absurd h9 (by decide)), (fun h9 => absurd h9 (by decide)), (fun _ => hn212), by rw [ht]; exact hP9, hD9⟩, hS.F ht⟩) hS.2.2 dX10_fact_107)
                · skip
                  have hn202 := hn202 (hw.1.trans hr9)
                  obtain rfl : g20 = zn185 := hn202.symm
                  obtain ⟨hP, hD⟩ : PDq D A [(oX10 w0 v0 v1 v2 v3 v4 g5 g6 (nI ed) g8 v9 (nI nb) g11 g12 v13 (nI ln) (nI (gP qn181)) (nI (gR (qn181 + 1))) zn182 zn183 zn184 g20 zn186 (nI o9) g23 (nI qn189) zn188 zn187 v27 v28 v29 v30 v31 v32 v33 v34 v35 v36 v37 (nI ol)), (v1, .inl (cA 0, 326, .inl fn191)), (v9, .inl (cA 0, 700, .inl fb)), (v13, .inl (cA 1, 15, .inr (.inl fkw))), (v28, .inl (cA 1, 10, .inr (.inl l28))), (v30, .inl (cA 1, 8, .inr (.inl fn193))), (v32, .inl (cA 0, 400, .inl fn192))] H := ⟨hP, hD⟩
                  have hn203 := hn203 (hw.1.trans hr9)
                  obtain rfl : g21 = zn186 := hn203.symm
                  obtain ⟨hP, hD⟩ : PDq D A [(oX10 w0 v0 v1 v2 v3 v4 g5 g6 (nI ed) g8 v9 (nI nb) g11 g12 v13 (nI ln) (nI (gP qn181)) (nI (gR (qn181 + 1))) zn182 zn183 zn184 g20 g21 (nI o9) g23 (nI qn189) zn188 zn187 v27 v28 v29 v30 v31 v32 v33 v34 v35 v36 v37 (nI ol)), (v1, .inl (cA 0, 326, .inl fn191)), (v9, .inl (cA 0, 700, .inl fb)), (v13, .inl (cA 1, 15, .inr (.inl fkw))), (v28, .inl (cA 1, 10, .inr (.inl l28))), (v30, .inl (cA 1, 8, .inr (.inl fn193))), (v32, .inl (cA 0, 400, .inl fn192))] H := ⟨hP, hD⟩
                  have hn204 := hn204 (hw.1.trans hr9)
                  have hn205 := hn205 (hw.1.trans hr9)
                  have hn206 := hn206 (hw.1.trans hr9)
                  have hn207 := hn207 (hw.1.trans hr9)
                  have hn208 := hn208 (hw.1.trans hr9)
                  have hn209 := hn209 (hw.1.trans hr9)
                  have hn210 := hn210 (hw.1.trans hr9)
                  have hn211 := hn211 (hw.1.trans hr9)
                  subst hr9
                  obtain ⟨hP9, hD9⟩ := PDq.sub (ws' := [(oX10 w0 v0 v1 v2 v3 v4 g5 g6 (nI ed) g8 v9 (nI nb) g11 g12 v13 (nI ln) (nI (gP qn181)) (nI (gR (qn181 + 1))) zn182 zn183 zn184 g20 g21 (nI o9) g23 (nI qn189) zn188 zn187 v27 v28 v29 v30 v31 v32 v33 v34 v35 v36 v37 (nI ol)), (v1, .inl (cA 0, 326, .inl fn191)), (v9, .inl (cA 0, 700, .inl fb)), (v13, .inl (cA 1, 15, .inr (.inl fkw))), (v28, .inl (cA 1, 10, .inr (.inl l28))), (v30, .inl (cA 1, 8, .inr (.inl fn193))), (v32, .inl (cA 0, 400, .inl fn192))]) hP hD [0, 1, 2, 3, 4, 5, 6] (by decide) rfl
                  refine W.widen (k := 0) (n := 0) (Nat.le_of_ble_eq_true rfl) (Nat.le_of_ble_eq_true rfl) ?_
                  exact (W.zret (v := 1) hx hb hr (by first | rfl | decide) (fun t ht hW => ⟨⟨1, 1, rfl, ⟨rfl, by decide⟩, qn181, zn182, zn183, zn184, g20, g21, zn187, zn188, qn189, qn190, (nI o9), fn191, fn192, fn193, zn194, hn195, hn196, hn197, hn198, hn199, hn200, hn201, (fun _ => rfl), (fun _ => rfl), (fun _ => rfl), (fun _ => hn204), (fun _ => hn205), (fun _ => hn206), (fun _ => hn207), (fun _ => hn208), (fun _ => hn209), (fun _ => hn210), (fun _ => hn211), (fun h9 => absurd h9 (by decide)), by rw [ht]; exact hP9, hD9⟩, hS.F ht⟩) hS.2.2 dX10_fact_107)
              · skip
                by_cases hn213 : kw = 13
                · skip
                  refine W.eq (g2 := F0 m 32 ls [.int 13]) (by rw [hn213]) ?_
                  refine lv_tableIn (off := 76) (tgt := 108) hx hb dX10_fact_32 (by decide) (by decide) (by decide) (by decide) ?_
                  refine lv_aload_n hx hb dX10_fact_108 rfl (lv_at hl 0 rfl) ?_
                  refine lv_iconst (v := 4) hx hb dX10_fact_109 (by decide) ?_
                  obtain ⟨hPc, hDc, hFc⟩ := PDq.cut (wc := [(oX10 w0 v0 v1 v2 v3 v4 g5 g6 (nI ed) g8 v9 (nI nb) g11 g12 v13 (nI ln) (nI (gP ti)) (nI (gR (ti + 1))) tk kw g19 g20 g21 (nI o9) g23 (nI cd) g25 g26 v27 v28 v29 v30 v31 v32 v33 v34 v35 v36 v37 (nI ol)), (v1, .inl (cA 0, 326, .inl fp)), (v9, .inl (cA 0, 700, .inl fb)), (v13, .inl (cA 1, 15, .inr (.inl fkw))), (v28, .inl (cA 1, 10, .inr (.inl l28))), (v30, .inl (cA 1, 8, .inr (.inl l30))), (v32, .inl (cA 0, 400, .inl fc))]) hP hD hS hA [5, 0, 6, 1, 2, 3, 4] (by decide) rfl
                  refine va_calli (va_runV (As := [.int 4]) (rest := []) ⟨hx, hb, hml, hown, hts⟩ (y_plainFact4 l D cA sa w0 ed nb ol v0 v1 v2 v3 v4 v9 v13 v27 v28 v29 v30 v31 v32 v33 v34 v35 v36 v37 g8 g11 g12 g19 g20 g21 g23 g26 g5 g6 g25 ln cd tk kw ti ct fb fkw gP gR gS gK gV cn pq en dy fp sl o9 l28 l30 fc ml pl (nI o9) H.size hln hct hti hTX hBY hTK hKW hcn hpq hen hdy hri hcd hNM hNP (TKR.kwd (n := 13) hTK (by decide) c40 hn213)) (cwV 1 hts gX10_fact_X10_plainFact rfl rfl rfl (by decide +kernel) ⟨by show (2) + 1 ≤ 4 * (k9 + 1) + 21; omega, by show 8 + (2 + 11) + (44) ≤ 80 * (k9 + 1) + 340; omega⟩) ⟨Wd.blind, va_recv hK hPc (ci := 11) (q0 := 0) rfl rfl, fun U hU hW => ⟨rfl, Wd.call hPc hDc hK hC hZ hS hFc U hU hW⟩⟩ rfl rfl hl.1 rfl (lv_room (Nat.le_of_ble_eq_true rfl)) dX10_fact_110 ⟨(Nat.le_of_ble_eq_true rfl), (Nat.le_of_ble_eq_true rfl)⟩) hS (fun q _ h => hFc q h) hFc (fun rn214 u t H1 locs ht hvm hw hB hz1 hk1 hS => ?_)
                  obtain ⟨qn215, zn216, zn217, zn218, zn219, zn220, zn221, zn222, qn223, qn224, fn225, fn226, fn227, zn228, hn229, hn230, hn231, hn232, hn233, hn234, hn235, hn236, hn237, hn238, hn239, hn240, hn241, hn242, hn243, hn244, hn245, hn246, hP1, hD1⟩ := hB
                  rw [ht] at hP1
                  obtain ⟨hP, hD⟩ := PDq.join (w := [(oX10 w0 v0 v1 v2 v3 v4 g5 g6 (nI ed) g8 v9 (nI nb) g11 g12 v13 (nI ln) (nI (gP qn215)) (nI (gR (qn215 + 1))) zn216 zn217 zn218 zn219 zn220 (nI o9) g23 (nI qn223) zn222 zn221 v27 v28 v29 v30 v31 v32 v33 v34 v35 v36 v37 (nI ol)), (v1, .inl (cA 0, 326, .inl fn225)), (v9, .inl (cA 0, 700, .inl fb)), (v13, .inl (cA 1, 15, .inr (.inl fkw))), (v28, .inl (cA 1, 10, .inr (.inl l28))), (v30, .inl (cA 1, 8, .inr (.inl fn227))), (v32, .inl (cA 0, 400, .inl fn226))]) 0 hP hD [5, 0, 6, 1, 2, 3, 4] [] rfl rfl (by decide) (by decide) hk1 hFc hP1 hD1 rfl
                  generalize H1 = H at hP hS ⊢
                  rcases hw.2 with hr9 | hr9
                  · skip
                    have hn246 := hn246 (hw.1.trans hr9)
                    subst hr9
                    obtain ⟨hP9, hD9⟩ := PDq.sub (ws' := [(oX10 w0 v0 v1 v2 v3 v4 g5 g6 (nI ed) g8 v9 (nI nb) g11 g12 v13 (nI ln) (nI (gP qn215)) (nI (gR (qn215 + 1))) zn216 zn217 zn218 zn219 zn220 (nI o9) g23 (nI qn223) zn222 zn221 v27 v28 v29 v30 v31 v32 v33 v34 v35 v36 v37 (nI ol)), (v1, .inl (cA 0, 326, .inl fn225)), (v9, .inl (cA 0, 700, .inl fb)), (v13, .inl (cA 1, 15, .inr (.inl fkw))), (v28, .inl (cA 1, 10, .inr (.inl l28))), (v30, .inl (cA 1, 8, .inr (.inl fn227))), (v32, .inl (cA 0, 400, .inl fn226))]) hP hD [0, 1, 2, 3, 4, 5, 6] (by decide) rfl
                    refine W.widen (k := 0) (n := 0) (Nat.le_of_ble_eq_true rfl) (Nat.le_of_ble_eq_true rfl) ?_
                    exact (W.zret (v := 0) hx hb hr (by first | rfl | decide) (fun t ht hW => ⟨⟨0, 0, rfl, ⟨rfl, by decide⟩, qn215, zn216, zn217, zn218, zn219, zn220, zn221, zn222, qn223, qn224, (nI o9), fn225, fn226, fn227, zn228, hn229, hn230, hn231, hn232, hn233, hn234, hn235, (fun h9 => absurd h9 (by decide)), (fun h9 => absurd h9 (by decide)), (fun h9 => absurd h9 (by decide)), (fun h9 => absurd h9 (by decide)), (fun h9 => absurd h9 (by decide)), (fun h9 => absurd h9 (by decide)), (fun h9 => absurd h9 (by decide)), (fun h9 => absurd h9 (by decide)), (fun h9 => absurd h9 (by decide)), (fun h9 => absurd h9 (by decide)), (fun h9 => absurd h9 (by decide)), (fun _ => hn246), by rw [ht]; exact hP9, hD9⟩, hS.F ht⟩) hS.2.2 dX10_fact_113)
                  · skip
                    have hn236 := hn236 (hw.1.trans hr9)
                    obtain rfl : g20 = zn219 := hn236.symm
                    obtain ⟨hP, hD⟩ : PDq D A [(oX10 w0 v0 v1 v2 v3 v4 g5 g6 (nI ed) g8 v9 (nI nb) g11 g12 v13 (nI ln) (nI (gP qn215)) (nI (gR (qn215 + 1))) zn216 zn217 zn218 g20 zn220 (nI o9) g23 (nI qn223) zn222 zn221 v27 v28 v29 v30 v31 v32 v33 v34 v35 v36 v37 (nI ol)), (v1, .inl (cA 0, 326, .inl fn225)), (v9, .inl (cA 0, 700, .inl fb)), (v13, .inl (cA 1, 15, .inr (.inl fkw))), (v28, .inl (cA 1, 10, .inr (.inl l28))), (v30, .inl (cA 1, 8, .inr (.inl fn227))), (v32, .inl (cA 0, 400, .inl fn226))] H := ⟨hP, hD⟩
                    have hn237 := hn237 (hw.1.trans hr9)
                    obtain rfl : g21 = zn220 := hn237.symm
                    obtain ⟨hP, hD⟩ : PDq D A [(oX10 w0 v0 v1 v2 v3 v4 g5 g6 (nI ed) g8 v9 (nI nb) g11 g12 v13 (nI ln) (nI (gP qn215)) (nI (gR (qn215 + 1))) zn216 zn217 zn218 g20 g21 (nI o9) g23 (nI qn223) zn222 zn221 v27 v28 v29 v30 v31 v32 v33 v34 v35 v36 v37 (nI ol)), (v1, .inl (cA 0, 326, .inl fn225)), (v9, .inl (cA 0, 700, .inl fb)), (v13, .inl (cA 1, 15, .inr (.inl fkw))), (v28, .inl (cA 1, 10, .inr (.inl l28))), (v30, .inl (cA 1, 8, .inr (.inl fn227))), (v32, .inl (cA 0, 400, .inl fn226))] H := ⟨hP, hD⟩
                    have hn238 := hn238 (hw.1.trans hr9)
                    have hn239 := hn239 (hw.1.trans hr9)
                    have hn240 := hn240 (hw.1.trans hr9)
                    have hn241 := hn241 (hw.1.trans hr9)
                    have hn242 := hn242 (hw.1.trans hr9)
                    have hn243 := hn243 (hw.1.trans hr9)
                    have hn244 := hn244 (hw.1.trans hr9)
                    have hn245 := hn245 (hw.1.trans hr9)
                    subst hr9
                    obtain ⟨hP9, hD9⟩ := PDq.sub (ws' := [(oX10 w0 v0 v1 v2 v3 v4 g5 g6 (nI ed) g8 v9 (nI nb) g11 g12 v13 (nI ln) (nI (gP qn215)) (nI (gR (qn215 + 1))) zn216 zn217 zn218 g20 g21 (nI o9) g23 (nI qn223) zn222 zn221 v27 v28 v29 v30 v31 v32 v33 v34 v35 v36 v37 (nI ol)), (v1, .inl (cA 0, 326, .inl fn225)), (v9, .inl (cA 0, 700, .inl fb)), (v13, .inl (cA 1, 15, .inr (.inl fkw))), (v28, .inl (cA 1, 10, .inr (.inl l28))), (v30, .inl (cA 1, 8, .inr (.inl fn227))), (v32, .inl (cA 0, 400, .inl fn226))]) hP hD [0, 1, 2, 3, 4, 5, 6] (by decide) rfl
                    refine W.widen (k := 0) (n := 0) (Nat.le_of_ble_eq_true rfl) (Nat.le_of_ble_eq_true rfl) ?_
                    exact (W.zret (v := 1) hx hb hr (by first | rfl | decide) (fun t ht hW => ⟨⟨1, 1, rfl, ⟨rfl, by decide⟩, qn215, zn216, zn217, zn218, g20, g21, zn221, zn222, qn223, qn224, (nI o9), fn225, fn226, fn227, zn228, hn229, hn230, hn231, hn232, hn233, hn234, hn235, (fun _ => rfl), (fun _ => rfl), (fun _ => rfl), (fun _ => hn238), (fun _ => hn239), (fun _ => hn240), (fun _ => hn241), (fun _ => hn242), (fun _ => hn243), (fun _ => hn244), (fun _ => hn245), (fun h9 => absurd h9 (by decide)), by rw [ht]; exact hP9, hD9⟩, hS.F ht⟩) hS.2.2 dX10_fact_113)
                · skip
                  by_cases hn247 : kw = 14
                  · skip
                    refine W.eq (g2 := F0 m 32 ls [.int 14]) (by rw [hn247]) ?_
                    refine lv_tableIn (off := 82) (tgt := 114) hx hb dX10_fact_32 (by decide) (by decide) (by decide) (by decide) ?_
                    refine lv_aload_n hx hb dX10_fact_114 rfl (lv_at hl 0 rfl) ?_
                    refine lv_iconst (v := 5) hx hb dX10_fact_115 (by decide) ?_
                    obtain ⟨hPc, hDc, hFc⟩ := PDq.cut (wc := [(oX10 w0 v0 v1 v2 v3 v4 g5 g6 (nI ed) g8 v9 (nI nb) g11 g12 v13 (nI ln) (nI (gP ti)) (nI (gR (ti + 1))) tk kw g19 g20 g21 (nI o9) g23 (nI cd) g25 g26 v27 v28 v29 v30 v31 v32 v33 v34 v35 v36 v37 (nI ol)), (v1, .inl (cA 0, 326, .inl fp)), (v9, .inl (cA 0, 700, .inl fb)), (v13, .inl (cA 1, 15, .inr (.inl fkw))), (v28, .inl (cA 1, 10, .inr (.inl l28))), (v30, .inl (cA 1, 8, .inr (.inl l30))), (v32, .inl (cA 0, 400, .inl fc))]) hP hD hS hA [5, 0, 6, 1, 2, 3, 4] (by decide) rfl
                    refine va_calli (va_runV (As := [.int 5]) (rest := []) ⟨hx, hb, hml, hown, hts⟩ (y_plainFact5 l D cA sa w0 ed nb ol v0 v1 v2 v3 v4 v9 v13 v27 v28 v29 v30 v31 v32 v33 v34 v35 v36 v37 g8 g11 g12 g19 g20 g21 g23 g26 g5 g6 g25 ln cd tk kw ti ct fb fkw gP gR gS gK gV cn pq en dy fp sl o9 l28 l30 fc ml pl (nI o9) H.size hln hct hti hTX hBY hTK hKW hcn hpq hen hdy hri hcd hNM hNP (TKR.kwd (n := 14) hTK (by decide) c40 hn247)) (cwV 1 hts gX10_fact_X10_plainFact rfl rfl rfl (by decide +kernel) ⟨by show (2) + 1 ≤ 4 * (k9 + 1) + 21; omega, by show 8 + (2 + 11) + (44) ≤ 80 * (k9 + 1) + 340; omega⟩) ⟨Wd.blind, va_recv hK hPc (ci := 11) (q0 := 0) rfl rfl, fun U hU hW => ⟨rfl, Wd.call hPc hDc hK hC hZ hS hFc U hU hW⟩⟩ rfl rfl hl.1 rfl (lv_room (Nat.le_of_ble_eq_true rfl)) dX10_fact_116 ⟨(Nat.le_of_ble_eq_true rfl), (Nat.le_of_ble_eq_true rfl)⟩) hS (fun q _ h => hFc q h) hFc (fun rn248 u t H1 locs ht hvm hw hB hz1 hk1 hS => ?_)
                    obtain ⟨qn249, zn250, zn251, zn252, zn253, zn254, zn255, zn256, qn257, qn258, fn259, fn260, fn261, zn262, hn263, hn264, hn265, hn266, hn267, hn268, hn269, hn270, hn271, hn272, hn273, hn274, hn275, hn276, hn277, hn278, hn279, hn280, hP1, hD1⟩ := hB
                    rw [ht] at hP1
                    obtain ⟨hP, hD⟩ := PDq.join (w := [(oX10 w0 v0 v1 v2 v3 v4 g5 g6 (nI ed) g8 v9 (nI nb) g11 g12 v13 (nI ln) (nI (gP qn249)) (nI (gR (qn249 + 1))) zn250 zn251 zn252 zn253 zn254 (nI o9) g23 (nI qn257) zn256 zn255 v27 v28 v29 v30 v31 v32 v33 v34 v35 v36 v37 (nI ol)), (v1, .inl (cA 0, 326, .inl fn259)), (v9, .inl (cA 0, 700, .inl fb)), (v13, .inl (cA 1, 15, .inr (.inl fkw))), (v28, .inl (cA 1, 10, .inr (.inl l28))), (v30, .inl (cA 1, 8, .inr (.inl fn261))), (v32, .inl (cA 0, 400, .inl fn260))]) 0 hP hD [5, 0, 6, 1, 2, 3, 4] [] rfl rfl (by decide) (by decide) hk1 hFc hP1 hD1 rfl
                    generalize H1 = H at hP hS ⊢
                    rcases hw.2 with hr9 | hr9
                    · skip
                      have hn280 := hn280 (hw.1.trans hr9)
                      subst hr9
                      obtain ⟨hP9, hD9⟩ := PDq.sub (ws' := [(oX10 w0 v0 v1 v2 v3 v4 g5 g6 (nI ed) g8 v9 (nI nb) g11 g12 v13 (nI ln) (nI (gP qn249)) (nI (gR (qn249 + 1))) zn250 zn251 zn252 zn253 zn254 (nI o9) g23 (nI qn257) zn256 zn255 v27 v28 v29 v30 v31 v32 v33 v34 v35 v36 v37 (nI ol)), (v1, .inl (cA 0, 326, .inl fn259)), (v9, .inl (cA 0, 700, .inl fb)), (v13, .inl (cA 1, 15, .inr (.inl fkw))), (v28, .inl (cA 1, 10, .inr (.inl l28))), (v30, .inl (cA 1, 8, .inr (.inl fn261))), (v32, .inl (cA 0, 400, .inl fn260))]) hP hD [0, 1, 2, 3, 4, 5, 6] (by decide) rfl
                      refine W.widen (k := 0) (n := 0) (Nat.le_of_ble_eq_true rfl) (Nat.le_of_ble_eq_true rfl) ?_
                      exact (W.zret (v := 0) hx hb hr (by first | rfl | decide) (fun t ht hW => ⟨⟨0, 0, rfl, ⟨rfl, by decide⟩, qn249, zn250, zn251, zn252, zn253, zn254, zn255, zn256, qn257, qn258, (nI o9), fn259, fn260, fn261, zn262, hn263, hn264, hn265, hn266, hn267, hn268, hn269, (fun h9 => absurd h9 (by decide)), (fun h9 => absurd h9 (by decide)), (fun h9 => absurd h9 (by decide)), (fun h9 => absurd h9 (by decide)), (fun h9 => absurd h9 (by decide)), (fun h9 => absurd h9 (by decide)), (fun h9 => absurd h9 (by decide)), (fun h9 => absurd h9 (by decide)), (fun h9 => absurd h9 (by decide)), (fun h9 => absurd h9 (by decide)), (fun h9 => absurd h9 (by decide)), (fun _ => hn280), by rw [ht]; exact hP9, hD9⟩, hS.F ht⟩) hS.2.2 dX10_fact_119)
                    · skip
                      have hn270 := hn270 (hw.1.trans hr9)
                      obtain rfl : g20 = zn253 := hn270.symm
                      obtain ⟨hP, hD⟩ : PDq D A [(oX10 w0 v0 v1 v2 v3 v4 g5 g6 (nI ed) g8 v9 (nI nb) g11 g12 v13 (nI ln) (nI (gP qn249)) (nI (gR (qn249 + 1))) zn250 zn251 zn252 g20 zn254 (nI o9) g23 (nI qn257) zn256 zn255 v27 v28 v29 v30 v31 v32 v33 v34 v35 v36 v37 (nI ol)), (v1, .inl (cA 0, 326, .inl fn259)), (v9, .inl (cA 0, 700, .inl fb)), (v13, .inl (cA 1, 15, .inr (.inl fkw))), (v28, .inl (cA 1, 10, .inr (.inl l28))), (v30, .inl (cA 1, 8, .inr (.inl fn261))), (v32, .inl (cA 0, 400, .inl fn260))] H := ⟨hP, hD⟩
                      have hn271 := hn271 (hw.1.trans hr9)
                      obtain rfl : g21 = zn254 := hn271.symm
                      obtain ⟨hP, hD⟩ : PDq D A [(oX10 w0 v0 v1 v2 v3 v4 g5 g6 (nI ed) g8 v9 (nI nb) g11 g12 v13 (nI ln) (nI (gP qn249)) (nI (gR (qn249 + 1))) zn250 zn251 zn252 g20 g21 (nI o9) g23 (nI qn257) zn256 zn255 v27 v28 v29 v30 v31 v32 v33 v34 v35 v36 v37 (nI ol)), (v1, .inl (cA 0, 326, .inl fn259)), (v9, .inl (cA 0, 700, .inl fb)), (v13, .inl (cA 1, 15, .inr (.inl fkw))), (v28, .inl (cA 1, 10, .inr (.inl l28))), (v30, .inl (cA 1, 8, .inr (.inl fn261))), (v32, .inl (cA 0, 400, .inl fn260))] H := ⟨hP, hD⟩
                      have hn272 := hn272 (hw.1.trans hr9)
                      have hn273 := hn273 (hw.1.trans hr9)
                      have hn274 := hn274 (hw.1.trans hr9)
                      have hn275 := hn275 (hw.1.trans hr9)
                      have hn276 := hn276 (hw.1.trans hr9)
                      have hn277 := hn277 (hw.1.trans hr9)
                      have hn278 := hn278 (hw.1.trans hr9)
                      have hn279 := hn279 (hw.1.trans hr9)
                      subst hr9
                      obtain ⟨hP9, hD9⟩ := PDq.sub (ws' := [(oX10 w0 v0 v1 v2 v3 v4 g5 g6 (nI ed) g8 v9 (nI nb) g11 g12 v13 (nI ln) (nI (gP qn249)) (nI (gR (qn249 + 1))) zn250 zn251 zn252 g20 g21 (nI o9) g23 (nI qn257) zn256 zn255 v27 v28 v29 v30 v31 v32 v33 v34 v35 v36 v37 (nI ol)), (v1, .inl (cA 0, 326, .inl fn259)), (v9, .inl (cA 0, 700, .inl fb)), (v13, .inl (cA 1, 15, .inr (.inl fkw))), (v28, .inl (cA 1, 10, .inr (.inl l28))), (v30, .inl (cA 1, 8, .inr (.inl fn261))), (v32, .inl (cA 0, 400, .inl fn260))]) hP hD [0, 1, 2, 3, 4, 5, 6] (by decide) rfl
                      refine W.widen (k := 0) (n := 0) (Nat.le_of_ble_eq_true rfl) (Nat.le_of_ble_eq_true rfl) ?_
                      exact (W.zret (v := 1) hx hb hr (by first | rfl | decide) (fun t ht hW => ⟨⟨1, 1, rfl, ⟨rfl, by decide⟩, qn249, zn250, zn251, zn252, g20, g21, zn255, zn256, qn257, qn258, (nI o9), fn259, fn260, fn261, zn262, hn263, hn264, hn265, hn266, hn267, hn268, hn269, (fun _ => rfl), (fun _ => rfl), (fun _ => rfl), (fun _ => hn272), (fun _ => hn273), (fun _ => hn274), (fun _ => hn275), (fun _ => hn276), (fun _ => hn277), (fun _ => hn278), (fun _ => hn279), (fun h9 => absurd h9 (by decide)), by rw [ht]; exact hP9, hD9⟩, hS.F ht⟩) hS.2.2 dX10_fact_119)
                  · skip
                    refine lv_tableOut (tgt := 120) hx hb dX10_fact_32 (by have q0 : ¬ (kw).toInt = 8 := fun e9 => hn41 (Int32.toInt_inj.mp (e9.trans (by decide))); have q1 : ¬ (kw).toInt = 9 := fun e9 => hn77 (Int32.toInt_inj.mp (e9.trans (by decide))); have q2 : ¬ (kw).toInt = 10 := fun e9 => hn111 (Int32.toInt_inj.mp (e9.trans (by decide))); have q3 : ¬ (kw).toInt = 11 := fun e9 => hn145 (Int32.toInt_inj.mp (e9.trans (by decide))); have q4 : ¬ (kw).toInt = 12 := fun e9 => hn179 (Int32.toInt_inj.mp (e9.trans (by decide))); have q5 : ¬ (kw).toInt = 13 := fun e9 => hn213 (Int32.toInt_inj.mp (e9.trans (by decide))); have q6 : ¬ (kw).toInt = 14 := fun e9 => hn247 (Int32.toInt_inj.mp (e9.trans (by decide))); omega) (by decide) ?_
                    refine lv_aload_n hx hb dX10_fact_120 rfl (lv_at hl 0 rfl) ?_
                    refine lv_iconst (v := 2) hx hb dX10_fact_121 (by decide) ?_
                    obtain ⟨hPc, hDc, hFc⟩ := PDq.cut (wc := [(oX10 w0 v0 v1 v2 v3 v4 g5 g6 (nI ed) g8 v9 (nI nb) g11 g12 v13 (nI ln) (nI (gP ti)) (nI (gR (ti + 1))) tk kw g19 g20 g21 (nI o9) g23 (nI cd) g25 g26 v27 v28 v29 v30 v31 v32 v33 v34 v35 v36 v37 (nI ol))]) hP hD hS hA [5] (by decide) rfl
                    refine va_calli (va_runV (As := [.int 2]) (rest := []) ⟨hx, hb, hml, hown, hts⟩ (y_fail l D cA sa w0 ed nb ol v0 v1 v2 v3 v4 v9 v13 v27 v28 v29 v30 v31 v32 v33 v34 v35 v36 v37 g8 g11 g12 g19 g20 g21 (nI o9) g23 g26 g5 g6 g25 ln cd tk kw ti ct fb gP gR gS gK gV 2 H.size hln hct hti hTX hBY hTK) (cwV 1 hts gX10_fact_X10_fail rfl rfl rfl (by decide +kernel) ⟨by show (0) + 1 ≤ 4 * (k9 + 1) + 21; omega, by show 8 + (2 + 11) + (0) ≤ 80 * (k9 + 1) + 340; omega⟩) ⟨Wd.blind, va_recv hK hPc (ci := 11) (q0 := 0) rfl rfl, fun U hU hW => ⟨rfl, Wd.call hPc hDc hK hC hZ hS hFc U hU hW⟩⟩ rfl rfl hl.1 rfl (lv_room (Nat.le_of_ble_eq_true rfl)) dX10_fact_122 ⟨(Nat.le_of_ble_eq_true rfl), (Nat.le_of_ble_eq_true rfl)⟩) hS (fun q _ h => hFc q h) hFc (fun rn281 u t H1 locs ht hvm hw hB hz1 hk1 hS => ?_)
                    obtain ⟨zn282, hn283, hP1, hD1⟩ := hB
                    rw [ht] at hP1
                    obtain ⟨hP, hD⟩ := PDq.join (w := [(v1, .inl (cA 0, 326, .inl fp)), (v13, .inl (cA 1, 15, .inr (.inl fkw))), (v28, .inl (cA 1, 10, .inr (.inl l28))), (v30, .inl (cA 1, 8, .inr (.inl l30))), (v32, .inl (cA 0, 400, .inl fc)), (v9, .inl (cA 0, 700, .inl fb)), (oX10 w0 v0 v1 v2 v3 v4 g5 g6 (nI ed) g8 v9 (nI nb) g11 g12 v13 (nI ln) (nI (gP ti)) (nI (gR (ti + 1))) tk kw g19 zn282 (nI (gP ti)) (nI o9) g23 (nI cd) g25 g26 v27 v28 v29 v30 v31 v32 v33 v34 v35 v36 v37 (nI ol))]) 6 hP hD [5] [0, 1, 2, 3, 4, 6] rfl rfl (by decide) (by decide) hk1 hFc hP1 hD1 rfl
                    generalize H1 = H at hP hS ⊢
                    obtain rfl : rn281 = 0 := hw
                    obtain ⟨hP9, hD9⟩ := PDq.sub (ws' := [(oX10 w0 v0 v1 v2 v3 v4 g5 g6 (nI ed) g8 v9 (nI nb) g11 g12 v13 (nI ln) (nI (gP ti)) (nI (gR (ti + 1))) tk kw g19 zn282 (nI (gP ti)) (nI o9) g23 (nI cd) g25 g26 v27 v28 v29 v30 v31 v32 v33 v34 v35 v36 v37 (nI ol)), (v1, .inl (cA 0, 326, .inl fp)), (v9, .inl (cA 0, 700, .inl fb)), (v13, .inl (cA 1, 15, .inr (.inl fkw))), (v28, .inl (cA 1, 10, .inr (.inl l28))), (v30, .inl (cA 1, 8, .inr (.inl l30))), (v32, .inl (cA 0, 400, .inl fc))]) hP hD [6, 0, 5, 1, 2, 3, 4] (by decide) rfl
                    refine W.widen (k := 0) (n := 0) (Nat.le_of_ble_eq_true rfl) (Nat.le_of_ble_eq_true rfl) ?_
                    exact (W.zret (v := 0) hx hb hr (by first | rfl | decide) (fun t ht hW => ⟨⟨0, 0, rfl, ⟨rfl, by decide⟩, ti, tk, kw, g19, zn282, (nI (gP ti)), g26, g25, cd, pq, (nI o9), fp, fc, l30, pl, hti, (by omega), (by omega), hTK, hpq, hri, hNP, (fun h9 => absurd h9 (by decide)), (fun h9 => absurd h9 (by decide)), (fun h9 => absurd h9 (by decide)), (fun h9 => absurd h9 (by decide)), (fun h9 => absurd h9 (by decide)), (fun h9 => absurd h9 (by decide)), (fun h9 => absurd h9 (by decide)), (fun h9 => absurd h9 (by decide)), (fun h9 => absurd h9 (by decide)), (fun h9 => absurd h9 (by decide)), (fun h9 => absurd h9 (by decide)), (fun _ => (P_nonex hn2 (TKR.nsw hTK 8 14 (by decide) (fun n9 a9 b9 => by rcases (show n9 = 8 ∨ n9 = 9 ∨ n9 = 10 ∨ n9 = 11 ∨ n9 = 12 ∨ n9 = 13 ∨ n9 = 14 by omega) with rfl | rfl | rfl | rfl | rfl | rfl | rfl; exact hn41; exact hn77; exact hn111; exact hn145; exact hn179; exact hn213; exact hn247)) hn283 (TX.s hTX (show ti < ct by omega)))), by rw [ht]; exact hP9, hD9⟩, hS.F ht⟩) hS.2.2 dX10_fact_125)
    · skip
      refine lv_aload_n hx hb dX10_fact_22 rfl (lv_at hl 0 rfl) ?_
      refine lv_iconst (v := 2) hx hb dX10_fact_23 (by decide) ?_
      obtain ⟨hPc, hDc, hFc⟩ := PDq.cut (wc := [(oX10 w0 v0 v1 v2 v3 v4 g5 g6 (nI ed) g8 v9 (nI nb) g11 g12 v13 (nI ln) (nI (gP ti)) (nI (gR (ti + 1))) tk kw g19 g20 g21 (nI o9) g23 (nI cd) g25 g26 v27 v28 v29 v30 v31 v32 v33 v34 v35 v36 v37 (nI ol))]) hP hD hS hA [5] (by decide) rfl
      refine va_calli (va_runV (As := [.int 2]) (rest := []) ⟨hx, hb, hml, hown, hts⟩ (y_fail l D cA sa w0 ed nb ol v0 v1 v2 v3 v4 v9 v13 v27 v28 v29 v30 v31 v32 v33 v34 v35 v36 v37 g8 g11 g12 g19 g20 g21 (nI o9) g23 g26 g5 g6 g25 ln cd tk kw ti ct fb gP gR gS gK gV 2 H.size hln hct hti hTX hBY hTK) (cwV 1 hts gX10_fact_X10_fail rfl rfl rfl (by decide +kernel) ⟨by show (0) + 1 ≤ 4 * (k9 + 1) + 21; omega, by show 8 + (2 + 11) + (0) ≤ 80 * (k9 + 1) + 340; omega⟩) ⟨Wd.blind, va_recv hK hPc (ci := 11) (q0 := 0) rfl rfl, fun U hU hW => ⟨rfl, Wd.call hPc hDc hK hC hZ hS hFc U hU hW⟩⟩ rfl rfl hl.1 rfl (lv_room (Nat.le_of_ble_eq_true rfl)) dX10_fact_24 ⟨(Nat.le_of_ble_eq_true rfl), (Nat.le_of_ble_eq_true rfl)⟩) hS (fun q _ h => hFc q h) hFc (fun rn284 u t H1 locs ht hvm hw hB hz1 hk1 hS => ?_)
      obtain ⟨zn285, hn286, hP1, hD1⟩ := hB
      rw [ht] at hP1
      obtain ⟨hP, hD⟩ := PDq.join (w := [(v1, .inl (cA 0, 326, .inl fp)), (v13, .inl (cA 1, 15, .inr (.inl fkw))), (v28, .inl (cA 1, 10, .inr (.inl l28))), (v30, .inl (cA 1, 8, .inr (.inl l30))), (v32, .inl (cA 0, 400, .inl fc)), (v9, .inl (cA 0, 700, .inl fb)), (oX10 w0 v0 v1 v2 v3 v4 g5 g6 (nI ed) g8 v9 (nI nb) g11 g12 v13 (nI ln) (nI (gP ti)) (nI (gR (ti + 1))) tk kw g19 zn285 (nI (gP ti)) (nI o9) g23 (nI cd) g25 g26 v27 v28 v29 v30 v31 v32 v33 v34 v35 v36 v37 (nI ol))]) 6 hP hD [5] [0, 1, 2, 3, 4, 6] rfl rfl (by decide) (by decide) hk1 hFc hP1 hD1 rfl
      generalize H1 = H at hP hS ⊢
      obtain rfl : rn284 = 0 := hw
      obtain ⟨hP9, hD9⟩ := PDq.sub (ws' := [(oX10 w0 v0 v1 v2 v3 v4 g5 g6 (nI ed) g8 v9 (nI nb) g11 g12 v13 (nI ln) (nI (gP ti)) (nI (gR (ti + 1))) tk kw g19 zn285 (nI (gP ti)) (nI o9) g23 (nI cd) g25 g26 v27 v28 v29 v30 v31 v32 v33 v34 v35 v36 v37 (nI ol)), (v1, .inl (cA 0, 326, .inl fp)), (v9, .inl (cA 0, 700, .inl fb)), (v13, .inl (cA 1, 15, .inr (.inl fkw))), (v28, .inl (cA 1, 10, .inr (.inl l28))), (v30, .inl (cA 1, 8, .inr (.inl l30))), (v32, .inl (cA 0, 400, .inl fc))]) hP hD [6, 0, 5, 1, 2, 3, 4] (by decide) rfl
      refine W.widen (k := 0) (n := 0) (Nat.le_of_ble_eq_true rfl) (Nat.le_of_ble_eq_true rfl) ?_
      exact (W.zret (v := 0) hx hb hr (by first | rfl | decide) (fun t ht hW => ⟨⟨0, 0, rfl, ⟨rfl, by decide⟩, ti, tk, kw, g19, zn285, (nI (gP ti)), g26, g25, cd, pq, (nI o9), fp, fc, l30, pl, hti, (by omega), (by omega), hTK, hpq, hri, hNP, (fun h9 => absurd h9 (by decide)), (fun h9 => absurd h9 (by decide)), (fun h9 => absurd h9 (by decide)), (fun h9 => absurd h9 (by decide)), (fun h9 => absurd h9 (by decide)), (fun h9 => absurd h9 (by decide)), (fun h9 => absurd h9 (by decide)), (fun h9 => absurd h9 (by decide)), (fun h9 => absurd h9 (by decide)), (fun h9 => absurd h9 (by decide)), (fun h9 => absurd h9 (by decide)), (fun _ => (P_nonex hn2 (TKR.n2 hTK c40 16 22 (by decide)) hn286 (TX.s hTX (show ti < ct by omega)))), by rw [ht]; exact hP9, hD9⟩, hS.F ht⟩) hS.2.2 dX10_fact_27)

set_option maxHeartbeats 4000000 in
set_option maxRecDepth 100000 in
/-- reference: both -/
theorem y_both_S (l : Launch) (D : va_G) (cA : Nat → ClassId) (sa : Nat → Nat) (k9 : Nat) (IHf : YFactC l D cA sa k9) (IHc : YCondC l D cA sa k9) (w0 : Nat) (ed : Nat) (nb : Nat) (ol : Nat) (v0 : Nat) (v1 : Nat) (v2 : Nat) (v3 : Nat) (v4 : Nat) (v9 : Nat) (v13 : Nat) (v27 : Nat) (v28 : Nat) (v29 : Nat) (v30 : Nat) (v31 : Nat) (v32 : Nat) (v33 : Nat) (v34 : Nat) (v35 : Nat) (v36 : Nat) (v37 : Nat) (g8 : Int32) (g11 : Int32) (g12 : Int32) (g19 : Int32) (g20 : Int32) (g21 : Int32) (g23 : Int32) (g26 : Int32) (g5 : Int64) (g6 : Int64) (g25 : Int64) (ln : Nat) (cd : Nat) (tk : Int32) (kw : Int32) (ti : Nat) (ct : Nat) (fb : Nat → Int32) (fkw : Nat → Int64) (gP : Nat → Nat) (gR : Nat → Nat) (gS : Nat → Int32) (gK : Nat → Int32) (gV : Nat → Int64) (cn : Nat) (pq : Nat) (en : Nat) (dy : Nat) (fp : Nat → Int32) (sl : Nat) (o9 : Nat) (l28 : Nat → Int64) (l30 : Nat → Int64) (fc : Nat → Int32) (ml : List Int64) (pl : List Int64) (sz : Nat) (hln : ln ≤ 700) (hct : ct ≤ 701) (hti : ti < ct) (hTX : TX fb ln ct gP gR gS gV gK) (hBY : BYn ln fb) (hTK : TKR (gK ti) (gV ti) (fb (gP ti)) tk kw g19 g25) (hKW : KW 15 fkw) (hcn : cn ≤ 10) (hpq : pq ≤ 8) (hen : en ≤ 60) (hdy : dy ≤ 20000) (hri : RI cn pq en dy fp) (hcd : 2 * cd + sl ≤ gP ti) (hNM : NL ml cn l28) (hNP : NL pl pq l30) (ho : o9 + (k9 + 1) = 8) : Met l yX10_both wsX10_both ({ frames := 4 * (k9 + 1) + 22, cells := 0, slots := 0, locals := 80 * (k9 + 1) + 360 }) (va_Pc [.ref w0] (Wd D cA sa [(oX10 w0 v0 v1 v2 v3 v4 g5 g6 (nI ed) g8 v9 (nI nb) g11 g12 v13 (nI ln) (nI (gP ti)) (nI (gR (ti + 1))) tk kw g19 g20 g21 (nI o9) g23 (nI cd) g25 g26 v27 v28 v29 v30 v31 v32 v33 v34 v35 v36 v37 (nI ol)), (v1, .inl (cA 0, 326, .inl fp)), (v9, .inl (cA 0, 700, .inl fb)), (v13, .inl (cA 1, 15, .inr (.inl fkw))), (v28, .inl (cA 1, 10, .inr (.inl l28))), (v30, .inl (cA 1, 8, .inr (.inl l30))), (v32, .inl (cA 0, 400, .inl fc))] sz)) (va_Qi (fun (r : Int32) (u9 : Int32) => u9 = r ∧ (r = 0 ∨ r = 1)) (fun (u9 : Int32) t => ∃ tj : Nat, ∃ z17 : Int32, ∃ z18 : Int32, ∃ z19 : Int32, ∃ z20 : Int32, ∃ z21 : Int32, ∃ z26 : Int32, ∃ z25 : Int64, ∃ cd2 : Nat, ∃ pq2 : Nat, ∃ zop : Int32, ∃ zp : Nat → Int32, ∃ zc : Nat → Int32, ∃ zl : Nat → Int64, ∃ zpl : List Int64, tj < ct ∧ gP tj ≤ ln ∧ ti ≤ tj ∧ TKR (gK tj) (gV tj) (fb (gP tj)) z17 z18 z19 z25 ∧ pq2 ≤ 8 ∧ RI cn pq2 en dy zp ∧ NL zpl pq2 zl ∧ (u9 = 1 → zop = (nI o9)) ∧ (u9 = 1 → z20 = g20) ∧ (u9 = 1 → z21 = g21) ∧ (u9 = 1 → ti + 1 ≤ tj) ∧ (u9 = 1 → cd ≤ cd2) ∧ (u9 = 1 → 2 * cd2 + sl ≤ gP tj) ∧ (u9 = 1 → Kp cd fc zc) ∧ (u9 = 1 → Sg cd cd2 zc) ∧ (u9 = 1 → PRx gK gS gV ml 1 o9 ti pl (.inr (tj, zpl))) ∧ (u9 = 1 → CR9 gK gV 1 ti tj ml pl zpl cd cd2 fc zc) ∧ (u9 = 1 → K14 fp zp) ∧ (u9 = 0 → PRx gK gS gV ml 1 o9 ti pl (.inl (z20, z21))) ∧ Wq D (va_A [(oX10 w0 v0 v1 v2 v3 v4 g5 g6 (nI ed) g8 v9 (nI nb) g11 g12 v13 (nI ln) (nI (gP ti)) (nI (gR (ti + 1))) tk kw g19 g20 g21 (nI o9) g23 (nI cd) g25 g26 v27 v28 v29 v30 v31 v32 v33 v34 v35 v36 v37 (nI ol)), (v1, .inl (cA 0, 326, .inl fp)), (v9, .inl (cA 0, 700, .inl fb)), (v13, .inl (cA 1, 15, .inr (.inl fkw))), (v28, .inl (cA 1, 10, .inr (.inl l28))), (v30, .inl (cA 1, 8, .inr (.inl l30))), (v32, .inl (cA 0, 400, .inl fc))] sz) [(oX10 w0 v0 v1 v2 v3 v4 g5 g6 (nI ed) g8 v9 (nI nb) g11 g12 v13 (nI ln) (nI (gP tj)) (nI (gR (tj + 1))) z17 z18 z19 z20 z21 zop g23 (nI cd2) z25 z26 v27 v28 v29 v30 v31 v32 v33 v34 v35 v36 v37 (nI ol)), (v1, .inl (cA 0, 326, .inl zp)), (v9, .inl (cA 0, 700, .inl fb)), (v13, .inl (cA 1, 15, .inr (.inl fkw))), (v28, .inl (cA 1, 10, .inr (.inl l28))), (v30, .inl (cA 1, 8, .inr (.inl zl))), (v32, .inl (cA 0, 400, .inl zc))] t) (va_A [(oX10 w0 v0 v1 v2 v3 v4 g5 g6 (nI ed) g8 v9 (nI nb) g11 g12 v13 (nI ln) (nI (gP ti)) (nI (gR (ti + 1))) tk kw g19 g20 g21 (nI o9) g23 (nI cd) g25 g26 v27 v28 v29 v30 v31 v32 v33 v34 v35 v36 v37 (nI ol)), (v1, .inl (cA 0, 326, .inl fp)), (v9, .inl (cA 0, 700, .inl fb)), (v13, .inl (cA 1, 15, .inr (.inl fkw))), (v28, .inl (cA 1, 10, .inr (.inl l28))), (v30, .inl (cA 1, 8, .inr (.inl l30))), (v32, .inl (cA 0, 400, .inl fc))] sz)) 0 0 (va_A [(oX10 w0 v0 v1 v2 v3 v4 g5 g6 (nI ed) g8 v9 (nI nb) g11 g12 v13 (nI ln) (nI (gP ti)) (nI (gR (ti + 1))) tk kw g19 g20 g21 (nI o9) g23 (nI cd) g25 g26 v27 v28 v29 v30 v31 v32 v33 v34 v35 v36 v37 (nI ol)), (v1, .inl (cA 0, 326, .inl fp)), (v9, .inl (cA 0, 700, .inl fb)), (v13, .inl (cA 1, 15, .inr (.inl fkw))), (v28, .inl (cA 1, 10, .inr (.inl l28))), (v30, .inl (cA 1, 8, .inr (.inl l30))), (v32, .inl (cA 0, 400, .inl fc))] sz) := by
  refine Met.ofW (cc := cX10_both) (maxL := 1) (ret := (some .boolean)) (by decide) rfl ?_
  intro p e s m args below meth c s₁ B hml hv
  obtain ⟨rfl, hsz, hP, hK, hD0, hC, hZ⟩ := hv
  have hx := B.exec
  have hb := B.bytes
  have hr := B.returns
  have hts := atoms_spec (ws := wsX10_both) B.pre
  have hown : s.vm.findClass RX10 = some m.cls := findClass_of_methodNamed B.named
  have hlocks := B.notSynchronized
  subst hsz
  have hD := hD0.self (sz := s.heap.size)
  generalize hAe : va_A [(oX10 w0 v0 v1 v2 v3 v4 g5 g6 (nI ed) g8 v9 (nI nb) g11 g12 v13 (nI ln) (nI (gP ti)) (nI (gR (ti + 1))) tk kw g19 g20 g21 (nI o9) g23 (nI cd) g25 g26 v27 v28 v29 v30 v31 v32 v33 v34 v35 v36 v37 (nI ol)), (v1, .inl (cA 0, 326, .inl fp)), (v9, .inl (cA 0, 700, .inl fb)), (v13, .inl (cA 1, 15, .inr (.inl fkw))), (v28, .inl (cA 1, 10, .inr (.inl l28))), (v30, .inl (cA 1, 8, .inr (.inl l30))), (v32, .inl (cA 0, 400, .inl fc))] s.heap.size = A at hD hZ ⊢
  have hA : ∀ q : Nat, s.heap.size ≤ q → A q := fun q h => by rw [← hAe]; exact Or.inr h
  have hS : va_S A s.heap s.heap [] := va_S.rf
  have hP : va_P D vwCl [(oX10 w0 v0 v1 v2 v3 v4 g5 g6 (nI ed) g8 v9 (nI nb) g11 g12 v13 (nI ln) (nI (gP ti)) (nI (gR (ti + 1))) tk kw g19 g20 g21 (nI o9) g23 (nI cd) g25 g26 v27 v28 v29 v30 v31 v32 v33 v34 v35 v36 v37 (nI ol)), (v1, .inl (cA 0, 326, .inl fp)), (v9, .inl (cA 0, 700, .inl fb)), (v13, .inl (cA 1, 15, .inr (.inl fkw))), (v28, .inl (cA 1, 10, .inr (.inl l28))), (v30, .inl (cA 1, 8, .inr (.inl l30))), (v32, .inl (cA 0, 400, .inl fc))] s.heap := hP
  have hl := lv_entry ([.ref w0]) (n := 1) (Nat.le_of_ble_eq_true rfl)
  rw [lg_entry_eq]
  generalize (lg_sl ([.ref w0]) ++ List.replicate (1 - (lg_sl ([.ref w0])).length) Slot.unset).toArray = ls at hl ⊢
  have hl : lv_has ls 1 [(0, .ref w0)] := hl
  have hle9 := TX.le hTX hti
  refine lv_aload_n hx hb dX10_both_0 rfl (lv_at hl 0 rfl) ?_
  obtain ⟨hPc, hDc, hFc⟩ := PDq.cut (wc := [(oX10 w0 v0 v1 v2 v3 v4 g5 g6 (nI ed) g8 v9 (nI nb) g11 g12 v13 (nI ln) (nI (gP ti)) (nI (gR (ti + 1))) tk kw g19 g20 g21 (nI o9) g23 (nI cd) g25 g26 v27 v28 v29 v30 v31 v32 v33 v34 v35 v36 v37 (nI ol)), (v1, .inl (cA 0, 326, .inl fp)), (v9, .inl (cA 0, 700, .inl fb)), (v13, .inl (cA 1, 15, .inr (.inl fkw))), (v28, .inl (cA 1, 10, .inr (.inl l28))), (v30, .inl (cA 1, 8, .inr (.inl l30))), (v32, .inl (cA 0, 400, .inl fc))]) hP hD hS hA [0, 1, 2, 3, 4, 5, 6] (by decide) rfl
  refine va_calli (va_runV (As := []) (rest := []) ⟨hx, hb, hml, hown, hts⟩ (y_fact_S l D cA sa k9 IHf IHc w0 ed nb ol v0 v1 v2 v3 v4 v9 v13 v27 v28 v29 v30 v31 v32 v33 v34 v35 v36 v37 g8 g11 g12 g19 g20 g21 g23 g26 g5 g6 g25 ln cd tk kw ti ct fb fkw gP gR gS gK gV cn pq en dy fp sl o9 l28 l30 fc ml pl s.heap.size hln hct hti hTX hBY hTK hKW hcn hpq hen hdy hri hcd hNM hNP ho) (cwV 0 hts gX10_both_X10_fact rfl rfl rfl (by decide +kernel) ⟨by show (4 * (k9 + 1) + 21) + 1 ≤ 4 * (k9 + 1) + 22; omega, by show 8 + (1 + 11) + (80 * (k9 + 1) + 340) ≤ 80 * (k9 + 1) + 360; omega⟩) ⟨Wd.blind, va_recv hK hPc (ci := 11) (q0 := 0) rfl rfl, fun U hU hW => ⟨rfl, Wd.call hPc hDc hK hC hZ hS hFc U hU hW⟩⟩ rfl rfl hl.1 rfl (lv_room (Nat.le_of_ble_eq_true rfl)) dX10_both_1 ⟨(Nat.le_of_ble_eq_true rfl), (Nat.le_of_ble_eq_true rfl)⟩) hS (fun q _ h => hFc q h) hFc (fun rn1 u t H1 locs ht hvm hw hB hz1 hk1 hS => ?_)
  obtain ⟨qn2, zn3, zn4, zn5, zn6, zn7, zn8, zn9, qn10, qn11, zn12, fn13, fn14, fn15, zn16, hn17, hn18, hn19, hn20, hn21, hn22, hn23, hn24, hn25, hn26, hn27, hn28, hn29, hn30, hn31, hn32, hn33, hn34, hn35, hP1, hD1⟩ := hB
  rw [ht] at hP1
  obtain ⟨hP, hD⟩ := PDq.join (w := [(oX10 w0 v0 v1 v2 v3 v4 g5 g6 (nI ed) g8 v9 (nI nb) g11 g12 v13 (nI ln) (nI (gP qn2)) (nI (gR (qn2 + 1))) zn3 zn4 zn5 zn6 zn7 zn12 g23 (nI qn10) zn9 zn8 v27 v28 v29 v30 v31 v32 v33 v34 v35 v36 v37 (nI ol)), (v1, .inl (cA 0, 326, .inl fn13)), (v9, .inl (cA 0, 700, .inl fb)), (v13, .inl (cA 1, 15, .inr (.inl fkw))), (v28, .inl (cA 1, 10, .inr (.inl l28))), (v30, .inl (cA 1, 8, .inr (.inl fn15))), (v32, .inl (cA 0, 400, .inl fn14))]) 0 hP hD [0, 1, 2, 3, 4, 5, 6] [] rfl rfl (by decide) (by decide) hk1 hFc hP1 hD1 rfl
  generalize H1 = H at hP hS ⊢
  rcases hw.2 with hr9 | hr9
  · skip
    have hn35 := hn35 (hw.1.trans hr9)
    subst hr9
    refine lv_if_ne (tgt := 9) hx hb dX10_both_4 (by decide) (fun c9 => absurd c9 (by decide)) (fun c36 => ?_)
    refine lv_iconst (v := 0) hx hb dX10_both_7 (by decide) ?_
    obtain ⟨hP9, hD9⟩ := PDq.sub (ws' := [(oX10 w0 v0 v1 v2 v3 v4 g5 g6 (nI ed) g8 v9 (nI nb) g11 g12 v13 (nI ln) (nI (gP qn2)) (nI (gR (qn2 + 1))) zn3 zn4 zn5 zn6 zn7 zn12 g23 (nI qn10) zn9 zn8 v27 v28 v29 v30 v31 v32 v33 v34 v35 v36 v37 (nI ol)), (v1, .inl (cA 0, 326, .inl fn13)), (v9, .inl (cA 0, 700, .inl fb)), (v13, .inl (cA 1, 15, .inr (.inl fkw))), (v28, .inl (cA 1, 10, .inr (.inl l28))), (v30, .inl (cA 1, 8, .inr (.inl fn15))), (v32, .inl (cA 0, 400, .inl fn14))]) hP hD [0, 1, 2, 3, 4, 5, 6] (by decide) rfl
    refine W.widen (k := 0) (n := 0) (Nat.le_of_ble_eq_true rfl) (Nat.le_of_ble_eq_true rfl) ?_
    exact (W.zret (v := 0) hx hb hr (by first | rfl | decide) (fun t ht hW => ⟨⟨0, 0, rfl, ⟨rfl, by decide⟩, qn2, zn3, zn4, zn5, zn6, zn7, zn8, zn9, qn10, qn11, zn12, fn13, fn14, fn15, zn16, hn17, hn18, hn19, hn20, hn21, hn22, hn23, (fun h9 => absurd h9 (by decide)), (fun h9 => absurd h9 (by decide)), (fun h9 => absurd h9 (by decide)), (fun h9 => absurd h9 (by decide)), (fun h9 => absurd h9 (by decide)), (fun h9 => absurd h9 (by decide)), (fun h9 => absurd h9 (by decide)), (fun h9 => absurd h9 (by decide)), (fun h9 => absurd h9 (by decide)), (fun h9 => absurd h9 (by decide)), (fun h9 => absurd h9 (by decide)), (fun _ => (P_bothE hn35)), by rw [ht]; exact hP9, hD9⟩, hS.F ht⟩) hS.2.2 dX10_both_8)
  · skip
    have hn24 := hn24 (hw.1.trans hr9)
    subst hn24
    obtain ⟨hP, hD⟩ : PDq D A [(oX10 w0 v0 v1 v2 v3 v4 g5 g6 (nI ed) g8 v9 (nI nb) g11 g12 v13 (nI ln) (nI (gP qn2)) (nI (gR (qn2 + 1))) zn3 zn4 zn5 zn6 zn7 (nI o9) g23 (nI qn10) zn9 zn8 v27 v28 v29 v30 v31 v32 v33 v34 v35 v36 v37 (nI ol)), (v1, .inl (cA 0, 326, .inl fn13)), (v9, .inl (cA 0, 700, .inl fb)), (v13, .inl (cA 1, 15, .inr (.inl fkw))), (v28, .inl (cA 1, 10, .inr (.inl l28))), (v30, .inl (cA 1, 8, .inr (.inl fn15))), (v32, .inl (cA 0, 400, .inl fn14))] H := ⟨hP, hD⟩
    have hn25 := hn25 (hw.1.trans hr9)
    obtain rfl : g20 = zn6 := hn25.symm
    obtain ⟨hP, hD⟩ : PDq D A [(oX10 w0 v0 v1 v2 v3 v4 g5 g6 (nI ed) g8 v9 (nI nb) g11 g12 v13 (nI ln) (nI (gP qn2)) (nI (gR (qn2 + 1))) zn3 zn4 zn5 g20 zn7 (nI o9) g23 (nI qn10) zn9 zn8 v27 v28 v29 v30 v31 v32 v33 v34 v35 v36 v37 (nI ol)), (v1, .inl (cA 0, 326, .inl fn13)), (v9, .inl (cA 0, 700, .inl fb)), (v13, .inl (cA 1, 15, .inr (.inl fkw))), (v28, .inl (cA 1, 10, .inr (.inl l28))), (v30, .inl (cA 1, 8, .inr (.inl fn15))), (v32, .inl (cA 0, 400, .inl fn14))] H := ⟨hP, hD⟩
    have hn26 := hn26 (hw.1.trans hr9)
    obtain rfl : g21 = zn7 := hn26.symm
    obtain ⟨hP, hD⟩ : PDq D A [(oX10 w0 v0 v1 v2 v3 v4 g5 g6 (nI ed) g8 v9 (nI nb) g11 g12 v13 (nI ln) (nI (gP qn2)) (nI (gR (qn2 + 1))) zn3 zn4 zn5 g20 g21 (nI o9) g23 (nI qn10) zn9 zn8 v27 v28 v29 v30 v31 v32 v33 v34 v35 v36 v37 (nI ol)), (v1, .inl (cA 0, 326, .inl fn13)), (v9, .inl (cA 0, 700, .inl fb)), (v13, .inl (cA 1, 15, .inr (.inl fkw))), (v28, .inl (cA 1, 10, .inr (.inl l28))), (v30, .inl (cA 1, 8, .inr (.inl fn15))), (v32, .inl (cA 0, 400, .inl fn14))] H := ⟨hP, hD⟩
    have hn27 := hn27 (hw.1.trans hr9)
    have hn28 := hn28 (hw.1.trans hr9)
    have hn29 := hn29 (hw.1.trans hr9)
    have hn30 := hn30 (hw.1.trans hr9)
    have hn31 := hn31 (hw.1.trans hr9)
    have hn32 := hn32 (hw.1.trans hr9)
    have hn33 := hn33 (hw.1.trans hr9)
    have hn34 := hn34 (hw.1.trans hr9)
    subst hr9
    refine lv_if_ne (tgt := 9) hx hb dX10_both_4 (by decide) (fun c37 => ?_) (fun c9 => absurd c9 (by decide))
    have loop1 : ∀ (n1 i1 : Nat) (tii : Nat) (qi : Nat) (pli : List Int64) (u0_17_1 : Int32) (u0_18_1 : Int32) (u0_19_1 : Int32) (cdi : Nat) (u0_25_1 : Int64) (u0_26_1 : Int32) (f1_1 : Nat → Int32) (f5_1 : Nat → Int64) (f6_1 : Nat → Int32) (H : Heap) (locs : List Loc) (ls : Array Slot), i1 + n1 = 701 → i1 ≤ tii → tii < ct → gP tii ≤ ln → TKR (gK tii) (gV tii) (fb (gP tii)) u0_17_1 u0_18_1 u0_19_1 u0_25_1 → ti + 1 ≤ tii → cd ≤ cdi → 2 * cdi + sl ≤ gP tii → qi ≤ 8 → RI cn qi en dy f1_1 → NL pli qi f5_1 → Kp cd fc f6_1 → Sg cd cdi f6_1 → Cn gK gS gV ml 1 o9 ti pl 2 tii pli → CRL gK gV 1 ti 2 tii ml pl pli cd cdi fc f6_1 → K14 fp f1_1 → va_P D vwCl [(oX10 w0 v0 v1 v2 v3 v4 g5 g6 (nI ed) g8 v9 (nI nb) g11 g12 v13 (nI ln) (nI (gP tii)) (nI (gR (tii + 1))) u0_17_1 u0_18_1 u0_19_1 g20 g21 (nI o9) g23 (nI cdi) u0_25_1 u0_26_1 v27 v28 v29 v30 v31 v32 v33 v34 v35 v36 v37 (nI ol)), (v1, .inl (cA 0, 326, .inl f1_1)), (v9, .inl (cA 0, 700, .inl fb)), (v13, .inl (cA 1, 15, .inr (.inl fkw))), (v28, .inl (cA 1, 10, .inr (.inl l28))), (v30, .inl (cA 1, 8, .inr (.inl f5_1))), (v32, .inl (cA 0, 400, .inl f6_1))] H → va_D A [(oX10 w0 v0 v1 v2 v3 v4 g5 g6 (nI ed) g8 v9 (nI nb) g11 g12 v13 (nI ln) (nI (gP tii)) (nI (gR (tii + 1))) u0_17_1 u0_18_1 u0_19_1 g20 g21 (nI o9) g23 (nI cdi) u0_25_1 u0_26_1 v27 v28 v29 v30 v31 v32 v33 v34 v35 v36 v37 (nI ol)), (v1, .inl (cA 0, 326, .inl f1_1)), (v9, .inl (cA 0, 700, .inl fb)), (v13, .inl (cA 1, 15, .inr (.inl fkw))), (v28, .inl (cA 1, 10, .inr (.inl l28))), (v30, .inl (cA 1, 8, .inr (.inl f5_1))), (v32, .inl (cA 0, 400, .inl f6_1))] → va_S A s.heap H locs → lv_has ls 1 [(0, .ref w0)] → W p l e (headSpec wsX10_both ({ frames := 4 * (k9 + 1) + 22, cells := 0, slots := 0, locals := 80 * (k9 + 1) + 360 } : Room)).room s m ([.ref w0] : List Value).toArray below meth c H locs 0 0 (MQ below (va_Qi (fun (r : Int32) (u9 : Int32) => u9 = r ∧ (r = 0 ∨ r = 1)) (fun (u9 : Int32) t => ∃ tj : Nat, ∃ z17 : Int32, ∃ z18 : Int32, ∃ z19 : Int32, ∃ z20 : Int32, ∃ z21 : Int32, ∃ z26 : Int32, ∃ z25 : Int64, ∃ cd2 : Nat, ∃ pq2 : Nat, ∃ zop : Int32, ∃ zp : Nat → Int32, ∃ zc : Nat → Int32, ∃ zl : Nat → Int64, ∃ zpl : List Int64, tj < ct ∧ gP tj ≤ ln ∧ ti ≤ tj ∧ TKR (gK tj) (gV tj) (fb (gP tj)) z17 z18 z19 z25 ∧ pq2 ≤ 8 ∧ RI cn pq2 en dy zp ∧ NL zpl pq2 zl ∧ (u9 = 1 → zop = (nI o9)) ∧ (u9 = 1 → z20 = g20) ∧ (u9 = 1 → z21 = g21) ∧ (u9 = 1 → ti + 1 ≤ tj) ∧ (u9 = 1 → cd ≤ cd2) ∧ (u9 = 1 → 2 * cd2 + sl ≤ gP tj) ∧ (u9 = 1 → Kp cd fc zc) ∧ (u9 = 1 → Sg cd cd2 zc) ∧ (u9 = 1 → PRx gK gS gV ml 1 o9 ti pl (.inr (tj, zpl))) ∧ (u9 = 1 → CR9 gK gV 1 ti tj ml pl zpl cd cd2 fc zc) ∧ (u9 = 1 → K14 fp zp) ∧ (u9 = 0 → PRx gK gS gV ml 1 o9 ti pl (.inl (z20, z21))) ∧ Wq D A [(oX10 w0 v0 v1 v2 v3 v4 g5 g6 (nI ed) g8 v9 (nI nb) g11 g12 v13 (nI ln) (nI (gP tj)) (nI (gR (tj + 1))) z17 z18 z19 z20 z21 zop g23 (nI cd2) z25 z26 v27 v28 v29 v30 v31 v32 v33 v34 v35 v36 v37 (nI ol)), (v1, .inl (cA 0, 326, .inl zp)), (v9, .inl (cA 0, 700, .inl fb)), (v13, .inl (cA 1, 15, .inr (.inl fkw))), (v28, .inl (cA 1, 10, .inr (.inl l28))), (v30, .inl (cA 1, 8, .inr (.inl zl))), (v32, .inl (cA 0, 400, .inl zc))] t) A) ([.ref w0] : List Value).toArray s 0 0 A) (F0 m 9 ls []) := by
      intro n1
      induction n1 with
      | zero =>
        intro i1 tii qi pli u0_17_1 u0_18_1 u0_19_1 cdi u0_25_1 u0_26_1 f1_1 f5_1 f6_1 H locs ls hi1 hv0_1 hv1_1 hv2_1 hv3_1 hv4_1 hv5_1 hv6_1 hv7_1 hv8_1 hv9_1 hv10_1 hv11_1 hv12_1 hv13_1 hv14_1 hP hD hS hl
        obtain rfl : 701 = i1 := by omega
        exact absurd hv0_1 (by omega)
      | succ n1 ih1 =>
        intro i1 tii qi pli u0_17_1 u0_18_1 u0_19_1 cdi u0_25_1 u0_26_1 f1_1 f5_1 f6_1 H locs ls hi1 hv0_1 hv1_1 hv2_1 hv3_1 hv4_1 hv5_1 hv6_1 hv7_1 hv8_1 hv9_1 hv10_1 hv11_1 hv12_1 hv13_1 hv14_1 hP hD hS hl
        refine lv_aload_n hx hb dX10_both_9 rfl (lv_at hl 0 rfl) ?_
        refine lv_bipush (v := 7) hx hb dX10_both_10 (by decide) ?_
        obtain ⟨hPc, hDc, hFc⟩ := PDq.cut (wc := [(oX10 w0 v0 v1 v2 v3 v4 g5 g6 (nI ed) g8 v9 (nI nb) g11 g12 v13 (nI ln) (nI (gP tii)) (nI (gR (tii + 1))) u0_17_1 u0_18_1 u0_19_1 g20 g21 (nI o9) g23 (nI cdi) u0_25_1 u0_26_1 v27 v28 v29 v30 v31 v32 v33 v34 v35 v36 v37 (nI ol))]) hP hD hS hA [0] (by decide) rfl
        refine va_calli (va_runV (As := [.int 7]) (rest := []) ⟨hx, hb, hml, hown, hts⟩ (y_kw7 l D cA sa w0 ed nb ol v0 v1 v2 v3 v4 v9 v13 v27 v28 v29 v30 v31 v32 v33 v34 v35 v36 v37 g8 g11 g12 u0_19_1 g20 g21 (nI o9) g23 u0_26_1 g5 g6 u0_25_1 ln cdi u0_17_1 u0_18_1 tii ct fb gP gR gS gK gV H.size hln hct hv1_1 hTX hBY hv3_1) (cwV 1 hts gX10_both_X10_isKeyword rfl rfl rfl (by decide +kernel) ⟨by show (0) + 1 ≤ 4 * (k9 + 1) + 22; omega, by show 8 + (2 + 11) + (0) ≤ 80 * (k9 + 1) + 360; omega⟩) ⟨Wd.blind, va_recv hK hPc (ci := 11) (q0 := 0) rfl rfl, fun U hU hW => ⟨rfl, Wd.call hPc hDc hK hC hZ hS hFc U hU hW⟩⟩ rfl rfl hl.1 rfl (lv_room (Nat.le_of_ble_eq_true rfl)) dX10_both_12 ⟨(Nat.le_of_ble_eq_true rfl), (Nat.le_of_ble_eq_true rfl)⟩) hS (fun q _ h => hFc q h) hFc (fun rn38 u t H1 locs ht hvm hw hB hz1 hk1 hS => ?_)
        obtain ⟨hP1, hD1⟩ := hB
        rw [ht] at hP1
        obtain ⟨hP, hD⟩ := PDq.join (w := [(v1, .inl (cA 0, 326, .inl f1_1)), (v9, .inl (cA 0, 700, .inl fb)), (v13, .inl (cA 1, 15, .inr (.inl fkw))), (v28, .inl (cA 1, 10, .inr (.inl l28))), (v30, .inl (cA 1, 8, .inr (.inl f5_1))), (v32, .inl (cA 0, 400, .inl f6_1)), (oX10 w0 v0 v1 v2 v3 v4 g5 g6 (nI ed) g8 v9 (nI nb) g11 g12 v13 (nI ln) (nI (gP tii)) (nI (gR (tii + 1))) u0_17_1 u0_18_1 u0_19_1 g20 g21 (nI o9) g23 (nI cdi) u0_25_1 u0_26_1 v27 v28 v29 v30 v31 v32 v33 v34 v35 v36 v37 (nI ol))]) 6 hP hD [0] [1, 2, 3, 4, 5, 6] rfl rfl (by decide) (by decide) hk1 hFc hP1 hD1 rfl
        generalize H1 = H at hP hS ⊢
        rcases hw with ⟨hr9, hn39⟩ | ⟨hr9, hn39⟩
        · skip
          subst hr9
          refine lv_if_eq (tgt := 41) hx hb dX10_both_15 (by decide) (fun c9 => absurd c9 (by decide)) (fun c40 => ?_)
          refine lv_aload_n hx hb dX10_both_18 rfl (lv_at hl 0 rfl) ?_
          have hn41 := TX.go2 hTX (show tii < ct by omega) (by rw [hn39]; decide)
          have hn41a := TX.le hTX (show tii < ct by omega)
          have hn41b := TX.le hTX hn41.1
          obtain ⟨hPc, hDc, hFc⟩ := PDq.cut (wc := [(oX10 w0 v0 v1 v2 v3 v4 g5 g6 (nI ed) g8 v9 (nI nb) g11 g12 v13 (nI ln) (nI (gP tii)) (nI (gR (tii + 1))) u0_17_1 u0_18_1 u0_19_1 g20 g21 (nI o9) g23 (nI cdi) u0_25_1 u0_26_1 v27 v28 v29 v30 v31 v32 v33 v34 v35 v36 v37 (nI ol)), (v9, .inl (cA 0, 700, .inl fb)), (v13, .inl (cA 1, 15, .inr (.inl fkw)))]) hP hD hS hA [6, 1, 2] (by decide) rfl
          refine va_calli (va_runV (As := []) (rest := []) ⟨hx, hb, hml, hown, hts⟩ (y_advance l D cA sa w0 ed nb ol v0 v1 v2 v3 v4 v9 v13 v27 v28 v29 v30 v31 v32 v33 v34 v35 v36 v37 g8 g11 g12 (nI (gP tii)) u0_17_1 u0_18_1 u0_19_1 g20 g21 (nI o9) g23 (nI cdi) u0_26_1 g5 g6 u0_25_1 ln (gR (tii + 1)) fb fkw (gP (tii + 1)) (gR ((tii + 1) + 1)) (gK (tii + 1)) (gV (tii + 1)) H.size hln (by omega) hKW hBY (TX.t hTX hn41.1)) (cwV 0 hts gX10_both_X10_advance rfl rfl rfl (by decide +kernel) ⟨by show (1) + 1 ≤ 4 * (k9 + 1) + 22; omega, by show 8 + (2 + 11) + (23) ≤ 80 * (k9 + 1) + 360; omega⟩) ⟨Wd.blind, va_recv hK hPc (ci := 11) (q0 := 0) rfl rfl, fun U hU hW => ⟨rfl, Wd.call hPc hDc hK hC hZ hS hFc U hU hW⟩⟩ rfl rfl hl.1 rfl (lv_room (Nat.le_of_ble_eq_true rfl)) dX10_both_19 ⟨(Nat.le_of_ble_eq_true rfl), (Nat.le_of_ble_eq_true rfl)⟩) hS (fun q _ h => hFc q h) hFc (fun rn42 u t H1 locs ht hvm hw hB hz1 hk1 hS => ?_)
          obtain ⟨zn43, zn44, zn45, zn46, hn47, hP1, hD1⟩ := hB
          rw [ht] at hP1
          obtain ⟨hP, hD⟩ := PDq.join (w := [(v1, .inl (cA 0, 326, .inl f1_1)), (v28, .inl (cA 1, 10, .inr (.inl l28))), (v30, .inl (cA 1, 8, .inr (.inl f5_1))), (v32, .inl (cA 0, 400, .inl f6_1)), (oX10 w0 v0 v1 v2 v3 v4 g5 g6 (nI ed) g8 v9 (nI nb) g11 g12 v13 (nI ln) (nI (gP (tii + 1))) (nI (gR ((tii + 1) + 1))) zn43 zn44 zn45 g20 g21 (nI o9) g23 (nI cdi) zn46 u0_26_1 v27 v28 v29 v30 v31 v32 v33 v34 v35 v36 v37 (nI ol)), (v9, .inl (cA 0, 700, .inl fb)), (v13, .inl (cA 1, 15, .inr (.inl fkw)))]) 4 hP hD [6, 1, 2] [0, 3, 4, 5] rfl rfl (by decide) (by decide) hk1 hFc hP1 hD1 rfl
          generalize H1 = H at hP hS ⊢
          obtain rfl : rn42 = 1 := hw
          refine lv_pop hx hb dX10_both_22 rfl ?_
          refine lv_aload_n hx hb dX10_both_23 rfl (lv_at hl 0 rfl) ?_
          obtain ⟨hPc, hDc, hFc⟩ := PDq.cut (wc := [(oX10 w0 v0 v1 v2 v3 v4 g5 g6 (nI ed) g8 v9 (nI nb) g11 g12 v13 (nI ln) (nI (gP (tii + 1))) (nI (gR ((tii + 1) + 1))) zn43 zn44 zn45 g20 g21 (nI o9) g23 (nI cdi) zn46 u0_26_1 v27 v28 v29 v30 v31 v32 v33 v34 v35 v36 v37 (nI ol)), (v1, .inl (cA 0, 326, .inl f1_1)), (v9, .inl (cA 0, 700, .inl fb)), (v13, .inl (cA 1, 15, .inr (.inl fkw))), (v28, .inl (cA 1, 10, .inr (.inl l28))), (v30, .inl (cA 1, 8, .inr (.inl f5_1))), (v32, .inl (cA 0, 400, .inl f6_1))]) hP hD hS hA [4, 0, 5, 6, 1, 2, 3] (by decide) rfl
          refine va_calli (va_runV (As := []) (rest := []) ⟨hx, hb, hml, hown, hts⟩ (y_fact_S l D cA sa k9 IHf IHc w0 ed nb ol v0 v1 v2 v3 v4 v9 v13 v27 v28 v29 v30 v31 v32 v33 v34 v35 v36 v37 g8 g11 g12 zn45 g20 g21 g23 u0_26_1 g5 g6 zn46 ln cdi zn43 zn44 (tii + 1) ct fb fkw gP gR gS gK gV cn qi en dy f1_1 (sl + 2) o9 l28 f5_1 f6_1 ml pli H.size hln hct hn41.1 hTX hBY hn47 hKW hcn hv7_1 hen hdy hv8_1 (by omega) hNM hv9_1 ho) (cwV 0 hts gX10_both_X10_fact rfl rfl rfl (by decide +kernel) ⟨by show (4 * (k9 + 1) + 21) + 1 ≤ 4 * (k9 + 1) + 22; omega, by show 8 + (1 + 11) + (80 * (k9 + 1) + 340) ≤ 80 * (k9 + 1) + 360; omega⟩) ⟨Wd.blind, va_recv hK hPc (ci := 11) (q0 := 0) rfl rfl, fun U hU hW => ⟨rfl, Wd.call hPc hDc hK hC hZ hS hFc U hU hW⟩⟩ rfl rfl hl.1 rfl (lv_room (Nat.le_of_ble_eq_true rfl)) dX10_both_24 ⟨(Nat.le_of_ble_eq_true rfl), (Nat.le_of_ble_eq_true rfl)⟩) hS (fun q _ h => hFc q h) hFc (fun rn48 u t H1 locs ht hvm hw hB hz1 hk1 hS => ?_)
          obtain ⟨qn49, zn50, zn51, zn52, zn53, zn54, zn55, zn56, qn57, qn58, zn59, fn60, fn61, fn62, zn63, hn64, hn65, hn66, hn67, hn68, hn69, hn70, hn71, hn72, hn73, hn74, hn75, hn76, hn77, hn78, hn79, hn80, hn81, hn82, hP1, hD1⟩ := hB
          rw [ht] at hP1
          obtain ⟨hP, hD⟩ := PDq.join (w := [(oX10 w0 v0 v1 v2 v3 v4 g5 g6 (nI ed) g8 v9 (nI nb) g11 g12 v13 (nI ln) (nI (gP qn49)) (nI (gR (qn49 + 1))) zn50 zn51 zn52 zn53 zn54 zn59 g23 (nI qn57) zn56 zn55 v27 v28 v29 v30 v31 v32 v33 v34 v35 v36 v37 (nI ol)), (v1, .inl (cA 0, 326, .inl fn60)), (v9, .inl (cA 0, 700, .inl fb)), (v13, .inl (cA 1, 15, .inr (.inl fkw))), (v28, .inl (cA 1, 10, .inr (.inl l28))), (v30, .inl (cA 1, 8, .inr (.inl fn62))), (v32, .inl (cA 0, 400, .inl fn61))]) 0 hP hD [4, 0, 5, 6, 1, 2, 3] [] rfl rfl (by decide) (by decide) hk1 hFc hP1 hD1 rfl
          generalize H1 = H at hP hS ⊢
          rcases hw.2 with hr9 | hr9
          · skip
            have hn82 := hn82 (hw.1.trans hr9)
            subst hr9
            refine lv_if_ne (tgt := 32) hx hb dX10_both_27 (by decide) (fun c9 => absurd c9 (by decide)) (fun c83 => ?_)
            refine lv_iconst (v := 0) hx hb dX10_both_30 (by decide) ?_
            obtain ⟨hP9, hD9⟩ := PDq.sub (ws' := [(oX10 w0 v0 v1 v2 v3 v4 g5 g6 (nI ed) g8 v9 (nI nb) g11 g12 v13 (nI ln) (nI (gP qn49)) (nI (gR (qn49 + 1))) zn50 zn51 zn52 zn53 zn54 zn59 g23 (nI qn57) zn56 zn55 v27 v28 v29 v30 v31 v32 v33 v34 v35 v36 v37 (nI ol)), (v1, .inl (cA 0, 326, .inl fn60)), (v9, .inl (cA 0, 700, .inl fb)), (v13, .inl (cA 1, 15, .inr (.inl fkw))), (v28, .inl (cA 1, 10, .inr (.inl l28))), (v30, .inl (cA 1, 8, .inr (.inl fn62))), (v32, .inl (cA 0, 400, .inl fn61))]) hP hD [0, 1, 2, 3, 4, 5, 6] (by decide) rfl
            refine W.widen (k := 0) (n := 0) (Nat.le_of_ble_eq_true rfl) (Nat.le_of_ble_eq_true rfl) ?_
            exact (W.zret (v := 0) hx hb hr (by first | rfl | decide) (fun t ht hW => ⟨⟨0, 0, rfl, ⟨rfl, by decide⟩, qn49, zn50, zn51, zn52, zn53, zn54, zn55, zn56, qn57, qn58, zn59, fn60, fn61, fn62, zn63, hn64, hn65, (by omega), hn67, hn68, hn69, hn70, (fun h9 => absurd h9 (by decide)), (fun h9 => absurd h9 (by decide)), (fun h9 => absurd h9 (by decide)), (fun h9 => absurd h9 (by decide)), (fun h9 => absurd h9 (by decide)), (fun h9 => absurd h9 (by decide)), (fun h9 => absurd h9 (by decide)), (fun h9 => absurd h9 (by decide)), (fun h9 => absurd h9 (by decide)), (fun h9 => absurd h9 (by decide)), (fun h9 => absurd h9 (by decide)), (fun _ => (hv12_1 _ (P_andE hn39 hn82))), by rw [ht]; exact hP9, hD9⟩, hS.F ht⟩) hS.2.2 dX10_both_31)
          · skip
            have hn71 := hn71 (hw.1.trans hr9)
            subst hn71
            obtain ⟨hP, hD⟩ : PDq D A [(oX10 w0 v0 v1 v2 v3 v4 g5 g6 (nI ed) g8 v9 (nI nb) g11 g12 v13 (nI ln) (nI (gP qn49)) (nI (gR (qn49 + 1))) zn50 zn51 zn52 zn53 zn54 (nI o9) g23 (nI qn57) zn56 zn55 v27 v28 v29 v30 v31 v32 v33 v34 v35 v36 v37 (nI ol)), (v1, .inl (cA 0, 326, .inl fn60)), (v9, .inl (cA 0, 700, .inl fb)), (v13, .inl (cA 1, 15, .inr (.inl fkw))), (v28, .inl (cA 1, 10, .inr (.inl l28))), (v30, .inl (cA 1, 8, .inr (.inl fn62))), (v32, .inl (cA 0, 400, .inl fn61))] H := ⟨hP, hD⟩
            have hn72 := hn72 (hw.1.trans hr9)
            obtain rfl : g20 = zn53 := hn72.symm
            obtain ⟨hP, hD⟩ : PDq D A [(oX10 w0 v0 v1 v2 v3 v4 g5 g6 (nI ed) g8 v9 (nI nb) g11 g12 v13 (nI ln) (nI (gP qn49)) (nI (gR (qn49 + 1))) zn50 zn51 zn52 g20 zn54 (nI o9) g23 (nI qn57) zn56 zn55 v27 v28 v29 v30 v31 v32 v33 v34 v35 v36 v37 (nI ol)), (v1, .inl (cA 0, 326, .inl fn60)), (v9, .inl (cA 0, 700, .inl fb)), (v13, .inl (cA 1, 15, .inr (.inl fkw))), (v28, .inl (cA 1, 10, .inr (.inl l28))), (v30, .inl (cA 1, 8, .inr (.inl fn62))), (v32, .inl (cA 0, 400, .inl fn61))] H := ⟨hP, hD⟩
            have hn73 := hn73 (hw.1.trans hr9)
            obtain rfl : g21 = zn54 := hn73.symm
            obtain ⟨hP, hD⟩ : PDq D A [(oX10 w0 v0 v1 v2 v3 v4 g5 g6 (nI ed) g8 v9 (nI nb) g11 g12 v13 (nI ln) (nI (gP qn49)) (nI (gR (qn49 + 1))) zn50 zn51 zn52 g20 g21 (nI o9) g23 (nI qn57) zn56 zn55 v27 v28 v29 v30 v31 v32 v33 v34 v35 v36 v37 (nI ol)), (v1, .inl (cA 0, 326, .inl fn60)), (v9, .inl (cA 0, 700, .inl fb)), (v13, .inl (cA 1, 15, .inr (.inl fkw))), (v28, .inl (cA 1, 10, .inr (.inl l28))), (v30, .inl (cA 1, 8, .inr (.inl fn62))), (v32, .inl (cA 0, 400, .inl fn61))] H := ⟨hP, hD⟩
            have hn74 := hn74 (hw.1.trans hr9)
            have hn75 := hn75 (hw.1.trans hr9)
            have hn76 := hn76 (hw.1.trans hr9)
            have hn77 := hn77 (hw.1.trans hr9)
            have hn78 := hn78 (hw.1.trans hr9)
            have hn79 := hn79 (hw.1.trans hr9)
            have hn80 := hn80 (hw.1.trans hr9)
            have hn81 := hn81 (hw.1.trans hr9)
            subst hr9
            refine lv_if_ne (tgt := 32) hx hb dX10_both_27 (by decide) (fun c84 => ?_) (fun c9 => absurd c9 (by decide))
            refine lv_aload_n hx hb dX10_both_32 rfl (lv_at hl 0 rfl) ?_
            refine lv_iconst (v := (-1)) hx hb dX10_both_33 (by decide) ?_
            obtain ⟨hPc, hDc, hFc⟩ := PDq.cut (wc := [(oX10 w0 v0 v1 v2 v3 v4 g5 g6 (nI ed) g8 v9 (nI nb) g11 g12 v13 (nI ln) (nI (gP qn49)) (nI (gR (qn49 + 1))) zn50 zn51 zn52 g20 g21 (nI o9) g23 (nI qn57) zn56 zn55 v27 v28 v29 v30 v31 v32 v33 v34 v35 v36 v37 (nI ol)), (v32, .inl (cA 0, 400, .inl fn61))]) hP hD hS hA [0, 6] (by decide) rfl
            refine va_calli (va_runV (As := [.int (-1)]) (rest := []) ⟨hx, hb, hml, hown, hts⟩ (r_emit l D cA sa w0 ed nb ol v0 v1 v2 v3 v4 v9 v13 v27 v28 v29 v30 v31 v32 v33 v34 v35 v36 v37 g8 g11 g12 (nI ln) (nI (gP qn49)) (nI (gR (qn49 + 1))) zn50 zn51 zn52 g20 g21 (nI o9) g23 zn55 g5 g6 zn56 qn57 (-1) fn61 H.size (by omega)) (cwV 1 hts gX10_both_X10_emit rfl rfl rfl (by decide +kernel) ⟨by show (0) + 1 ≤ 4 * (k9 + 1) + 22; omega, by show 8 + (2 + 11) + (0) ≤ 80 * (k9 + 1) + 360; omega⟩) ⟨Wd.blind, va_recv hK hPc (ci := 11) (q0 := 0) rfl rfl, fun U hU hW => ⟨rfl, Wd.call hPc hDc hK hC hZ hS hFc U hU hW⟩⟩ rfl rfl hl.1 rfl (lv_room (Nat.le_of_ble_eq_true rfl)) dX10_both_34 ⟨(Nat.le_of_ble_eq_true rfl), (Nat.le_of_ble_eq_true rfl)⟩) hS (fun q _ h => hFc q h) hFc (fun rn85 u t H1 locs ht hvm hw hB hz1 hk1 hS => ?_)
            obtain ⟨fn86, hn87, hP1, hD1⟩ := hB
            rw [ht] at hP1
            obtain ⟨hP, hD⟩ := PDq.join (w := [(v1, .inl (cA 0, 326, .inl fn60)), (v9, .inl (cA 0, 700, .inl fb)), (v13, .inl (cA 1, 15, .inr (.inl fkw))), (v28, .inl (cA 1, 10, .inr (.inl l28))), (v30, .inl (cA 1, 8, .inr (.inl fn62))), (oX10 w0 v0 v1 v2 v3 v4 g5 g6 (nI ed) g8 v9 (nI nb) g11 g12 v13 (nI ln) (nI (gP qn49)) (nI (gR (qn49 + 1))) zn50 zn51 zn52 g20 g21 (nI o9) g23 (nI (qn57 + 1)) zn56 zn55 v27 v28 v29 v30 v31 v32 v33 v34 v35 v36 v37 (nI ol)), (v32, .inl (cA 0, 400, .inl fn86))]) 5 hP hD [0, 6] [1, 2, 3, 4, 5] rfl rfl (by decide) (by decide) hk1 hFc hP1 hD1 rfl
            generalize H1 = H at hP hS ⊢
            obtain rfl : rn85 = 1 := hw
            refine lv_pop hx hb dX10_both_37 rfl ?_
            have hn88 := Kp.tr (Kp.tr hv10_1 hn77 (by omega)) (Em.kp hn87) (by omega)
            have hn89 := Sg.join hv11_1 hn77 hn78 hn87 (by decide)
            refine lv_goto (tgt := 9) hx hb dX10_both_38 (by decide) ?_
            obtain ⟨hP9, hD9⟩ := PDq.sub (ws' := [(oX10 w0 v0 v1 v2 v3 v4 g5 g6 (nI ed) g8 v9 (nI nb) g11 g12 v13 (nI ln) (nI (gP qn49)) (nI (gR (qn49 + 1))) zn50 zn51 zn52 g20 g21 (nI o9) g23 (nI (qn57 + 1)) zn56 zn55 v27 v28 v29 v30 v31 v32 v33 v34 v35 v36 v37 (nI ol)), (v1, .inl (cA 0, 326, .inl fn60)), (v9, .inl (cA 0, 700, .inl fb)), (v13, .inl (cA 1, 15, .inr (.inl fkw))), (v28, .inl (cA 1, 10, .inr (.inl l28))), (v30, .inl (cA 1, 8, .inr (.inl fn62))), (v32, .inl (cA 0, 400, .inl fn86))]) hP hD [5, 0, 1, 2, 3, 4, 6] (by decide) rfl
            exact ih1 (i1 + 1) qn49 qn58 zn63 zn50 zn51 zn52 (qn57 + 1) zn56 zn55 fn60 fn62 fn86 H _ ls (by omega) (by omega) hn64 hn65 hn67 (by omega) (by omega) (by omega) hn68 hn69 hn70 hn88 hn89 (fun r9 h9 => hv12_1 r9 (P_and hn39 hn79 h9)) (CRL.and hv13_1 hn39 hn80 hn87 rfl (by have q9 := hNM.1; omega) (by have q9 := hn70.1; omega)) (K14.tr hv14_1 hn81) hP9 hD9 hS (lv_sub hl [0] rfl)
        · skip
          subst hr9
          refine lv_if_eq (tgt := 41) hx hb dX10_both_15 (by decide) (fun c90 => ?_) (fun c9 => absurd c9 (by decide))
          refine lv_iconst (v := 1) hx hb dX10_both_41 (by decide) ?_
          obtain ⟨hP9, hD9⟩ := PDq.sub (ws' := [(oX10 w0 v0 v1 v2 v3 v4 g5 g6 (nI ed) g8 v9 (nI nb) g11 g12 v13 (nI ln) (nI (gP tii)) (nI (gR (tii + 1))) u0_17_1 u0_18_1 u0_19_1 g20 g21 (nI o9) g23 (nI cdi) u0_25_1 u0_26_1 v27 v28 v29 v30 v31 v32 v33 v34 v35 v36 v37 (nI ol)), (v1, .inl (cA 0, 326, .inl f1_1)), (v9, .inl (cA 0, 700, .inl fb)), (v13, .inl (cA 1, 15, .inr (.inl fkw))), (v28, .inl (cA 1, 10, .inr (.inl l28))), (v30, .inl (cA 1, 8, .inr (.inl f5_1))), (v32, .inl (cA 0, 400, .inl f6_1))]) hP hD [6, 0, 1, 2, 3, 4, 5] (by decide) rfl
          refine W.widen (k := 0) (n := 0) (Nat.le_of_ble_eq_true rfl) (Nat.le_of_ble_eq_true rfl) ?_
          exact (W.zret (v := 1) hx hb hr (by first | rfl | decide) (fun t ht hW => ⟨⟨1, 1, rfl, ⟨rfl, by decide⟩, tii, u0_17_1, u0_18_1, u0_19_1, g20, g21, u0_26_1, u0_25_1, cdi, qi, (nI o9), f1_1, f6_1, f5_1, pli, hv1_1, hv2_1, (by omega), hv3_1, hv7_1, hv8_1, hv9_1, (fun _ => rfl), (fun _ => rfl), (fun _ => rfl), (fun _ => hv4_1), (fun _ => hv5_1), (fun _ => hv6_1), (fun _ => hv10_1), (fun _ => hv11_1), (fun _ => (hv12_1 _ (P_end2 hn39))), (fun _ => (CRL.end2 hv13_1 hn39)), (fun _ => hv14_1), (fun h9 => absurd h9 (by decide)), by rw [ht]; exact hP9, hD9⟩, hS.F ht⟩) hS.2.2 dX10_both_42)
    obtain ⟨hP9, hD9⟩ := PDq.sub (ws' := [(oX10 w0 v0 v1 v2 v3 v4 g5 g6 (nI ed) g8 v9 (nI nb) g11 g12 v13 (nI ln) (nI (gP qn2)) (nI (gR (qn2 + 1))) zn3 zn4 zn5 g20 g21 (nI o9) g23 (nI qn10) zn9 zn8 v27 v28 v29 v30 v31 v32 v33 v34 v35 v36 v37 (nI ol)), (v1, .inl (cA 0, 326, .inl fn13)), (v9, .inl (cA 0, 700, .inl fb)), (v13, .inl (cA 1, 15, .inr (.inl fkw))), (v28, .inl (cA 1, 10, .inr (.inl l28))), (v30, .inl (cA 1, 8, .inr (.inl fn15))), (v32, .inl (cA 0, 400, .inl fn14))]) hP hD [0, 1, 2, 3, 4, 5, 6] (by decide) rfl
    exact loop1 (701 - 0) 0 qn2 qn11 zn16 zn3 zn4 zn5 qn10 zn9 zn8 fn13 fn15 fn14 _ _ ls (by omega) (by omega) hn17 hn18 hn20 hn27 hn28 hn29 hn21 hn22 hn23 hn30 hn31 (fun r9 h9 => P_both hn32 h9) (CRL.both hn33) hn34 hP9 hD9 hS (lv_sub hl [0] rfl)

set_option maxHeartbeats 4000000 in
set_option maxRecDepth 100000 in
/-- reference: condition -/
theorem y_condition_S (l : Launch) (D : va_G) (cA : Nat → ClassId) (sa : Nat → Nat) (k9 : Nat) (IHf : YFactC l D cA sa k9) (IHc : YCondC l D cA sa k9) (w0 : Nat) (ed : Nat) (nb : Nat) (ol : Nat) (v0 : Nat) (v1 : Nat) (v2 : Nat) (v3 : Nat) (v4 : Nat) (v9 : Nat) (v13 : Nat) (v27 : Nat) (v28 : Nat) (v29 : Nat) (v30 : Nat) (v31 : Nat) (v32 : Nat) (v33 : Nat) (v34 : Nat) (v35 : Nat) (v36 : Nat) (v37 : Nat) (g8 : Int32) (g11 : Int32) (g12 : Int32) (g19 : Int32) (g20 : Int32) (g21 : Int32) (g23 : Int32) (g26 : Int32) (g5 : Int64) (g6 : Int64) (g25 : Int64) (ln : Nat) (cd : Nat) (tk : Int32) (kw : Int32) (ti : Nat) (ct : Nat) (fb : Nat → Int32) (fkw : Nat → Int64) (gP : Nat → Nat) (gR : Nat → Nat) (gS : Nat → Int32) (gK : Nat → Int32) (gV : Nat → Int64) (cn : Nat) (pq : Nat) (en : Nat) (dy : Nat) (fp : Nat → Int32) (sl : Nat) (o9 : Nat) (l28 : Nat → Int64) (l30 : Nat → Int64) (fc : Nat → Int32) (ml : List Int64) (pl : List Int64) (sz : Nat) (hln : ln ≤ 700) (hct : ct ≤ 701) (hti : ti < ct) (hTX : TX fb ln ct gP gR gS gV gK) (hBY : BYn ln fb) (hTK : TKR (gK ti) (gV ti) (fb (gP ti)) tk kw g19 g25) (hKW : KW 15 fkw) (hcn : cn ≤ 10) (hpq : pq ≤ 8) (hen : en ≤ 60) (hdy : dy ≤ 20000) (hri : RI cn pq en dy fp) (hcd : 2 * cd + sl ≤ gP ti) (hNM : NL ml cn l28) (hNP : NL pl pq l30) (ho : o9 + (k9 + 1) = 8) : Met l yX10_condition wsX10_condition ({ frames := 4 * (k9 + 1) + 23, cells := 0, slots := 0, locals := 80 * (k9 + 1) + 380 }) (va_Pc [.ref w0] (Wd D cA sa [(oX10 w0 v0 v1 v2 v3 v4 g5 g6 (nI ed) g8 v9 (nI nb) g11 g12 v13 (nI ln) (nI (gP ti)) (nI (gR (ti + 1))) tk kw g19 g20 g21 (nI o9) g23 (nI cd) g25 g26 v27 v28 v29 v30 v31 v32 v33 v34 v35 v36 v37 (nI ol)), (v1, .inl (cA 0, 326, .inl fp)), (v9, .inl (cA 0, 700, .inl fb)), (v13, .inl (cA 1, 15, .inr (.inl fkw))), (v28, .inl (cA 1, 10, .inr (.inl l28))), (v30, .inl (cA 1, 8, .inr (.inl l30))), (v32, .inl (cA 0, 400, .inl fc))] sz)) (va_Qi (fun (r : Int32) (u9 : Int32) => u9 = r ∧ (r = 0 ∨ r = 1)) (fun (u9 : Int32) t => ∃ tj : Nat, ∃ z17 : Int32, ∃ z18 : Int32, ∃ z19 : Int32, ∃ z20 : Int32, ∃ z21 : Int32, ∃ z26 : Int32, ∃ z25 : Int64, ∃ cd2 : Nat, ∃ pq2 : Nat, ∃ zop : Int32, ∃ zp : Nat → Int32, ∃ zc : Nat → Int32, ∃ zl : Nat → Int64, ∃ zpl : List Int64, tj < ct ∧ gP tj ≤ ln ∧ ti ≤ tj ∧ TKR (gK tj) (gV tj) (fb (gP tj)) z17 z18 z19 z25 ∧ pq2 ≤ 8 ∧ RI cn pq2 en dy zp ∧ NL zpl pq2 zl ∧ (u9 = 1 → zop = (nI o9)) ∧ (u9 = 1 → z20 = g20) ∧ (u9 = 1 → z21 = g21) ∧ (u9 = 1 → ti + 1 ≤ tj) ∧ (u9 = 1 → cd ≤ cd2) ∧ (u9 = 1 → 2 * cd2 + sl ≤ gP tj) ∧ (u9 = 1 → Kp cd fc zc) ∧ (u9 = 1 → Sg cd cd2 zc) ∧ (u9 = 1 → PRx gK gS gV ml 3 o9 ti pl (.inr (tj, zpl))) ∧ (u9 = 1 → CR9 gK gV 3 ti tj ml pl zpl cd cd2 fc zc) ∧ (u9 = 1 → K14 fp zp) ∧ (u9 = 0 → PRx gK gS gV ml 3 o9 ti pl (.inl (z20, z21))) ∧ Wq D (va_A [(oX10 w0 v0 v1 v2 v3 v4 g5 g6 (nI ed) g8 v9 (nI nb) g11 g12 v13 (nI ln) (nI (gP ti)) (nI (gR (ti + 1))) tk kw g19 g20 g21 (nI o9) g23 (nI cd) g25 g26 v27 v28 v29 v30 v31 v32 v33 v34 v35 v36 v37 (nI ol)), (v1, .inl (cA 0, 326, .inl fp)), (v9, .inl (cA 0, 700, .inl fb)), (v13, .inl (cA 1, 15, .inr (.inl fkw))), (v28, .inl (cA 1, 10, .inr (.inl l28))), (v30, .inl (cA 1, 8, .inr (.inl l30))), (v32, .inl (cA 0, 400, .inl fc))] sz) [(oX10 w0 v0 v1 v2 v3 v4 g5 g6 (nI ed) g8 v9 (nI nb) g11 g12 v13 (nI ln) (nI (gP tj)) (nI (gR (tj + 1))) z17 z18 z19 z20 z21 zop g23 (nI cd2) z25 z26 v27 v28 v29 v30 v31 v32 v33 v34 v35 v36 v37 (nI ol)), (v1, .inl (cA 0, 326, .inl zp)), (v9, .inl (cA 0, 700, .inl fb)), (v13, .inl (cA 1, 15, .inr (.inl fkw))), (v28, .inl (cA 1, 10, .inr (.inl l28))), (v30, .inl (cA 1, 8, .inr (.inl zl))), (v32, .inl (cA 0, 400, .inl zc))] t) (va_A [(oX10 w0 v0 v1 v2 v3 v4 g5 g6 (nI ed) g8 v9 (nI nb) g11 g12 v13 (nI ln) (nI (gP ti)) (nI (gR (ti + 1))) tk kw g19 g20 g21 (nI o9) g23 (nI cd) g25 g26 v27 v28 v29 v30 v31 v32 v33 v34 v35 v36 v37 (nI ol)), (v1, .inl (cA 0, 326, .inl fp)), (v9, .inl (cA 0, 700, .inl fb)), (v13, .inl (cA 1, 15, .inr (.inl fkw))), (v28, .inl (cA 1, 10, .inr (.inl l28))), (v30, .inl (cA 1, 8, .inr (.inl l30))), (v32, .inl (cA 0, 400, .inl fc))] sz)) 0 0 (va_A [(oX10 w0 v0 v1 v2 v3 v4 g5 g6 (nI ed) g8 v9 (nI nb) g11 g12 v13 (nI ln) (nI (gP ti)) (nI (gR (ti + 1))) tk kw g19 g20 g21 (nI o9) g23 (nI cd) g25 g26 v27 v28 v29 v30 v31 v32 v33 v34 v35 v36 v37 (nI ol)), (v1, .inl (cA 0, 326, .inl fp)), (v9, .inl (cA 0, 700, .inl fb)), (v13, .inl (cA 1, 15, .inr (.inl fkw))), (v28, .inl (cA 1, 10, .inr (.inl l28))), (v30, .inl (cA 1, 8, .inr (.inl l30))), (v32, .inl (cA 0, 400, .inl fc))] sz) := by
  refine Met.ofW (cc := cX10_condition) (maxL := 1) (ret := (some .boolean)) (by decide) rfl ?_
  intro p e s m args below meth c s₁ B hml hv
  obtain ⟨rfl, hsz, hP, hK, hD0, hC, hZ⟩ := hv
  have hx := B.exec
  have hb := B.bytes
  have hr := B.returns
  have hts := atoms_spec (ws := wsX10_condition) B.pre
  have hown : s.vm.findClass RX10 = some m.cls := findClass_of_methodNamed B.named
  have hlocks := B.notSynchronized
  subst hsz
  have hD := hD0.self (sz := s.heap.size)
  generalize hAe : va_A [(oX10 w0 v0 v1 v2 v3 v4 g5 g6 (nI ed) g8 v9 (nI nb) g11 g12 v13 (nI ln) (nI (gP ti)) (nI (gR (ti + 1))) tk kw g19 g20 g21 (nI o9) g23 (nI cd) g25 g26 v27 v28 v29 v30 v31 v32 v33 v34 v35 v36 v37 (nI ol)), (v1, .inl (cA 0, 326, .inl fp)), (v9, .inl (cA 0, 700, .inl fb)), (v13, .inl (cA 1, 15, .inr (.inl fkw))), (v28, .inl (cA 1, 10, .inr (.inl l28))), (v30, .inl (cA 1, 8, .inr (.inl l30))), (v32, .inl (cA 0, 400, .inl fc))] s.heap.size = A at hD hZ ⊢
  have hA : ∀ q : Nat, s.heap.size ≤ q → A q := fun q h => by rw [← hAe]; exact Or.inr h
  have hS : va_S A s.heap s.heap [] := va_S.rf
  have hP : va_P D vwCl [(oX10 w0 v0 v1 v2 v3 v4 g5 g6 (nI ed) g8 v9 (nI nb) g11 g12 v13 (nI ln) (nI (gP ti)) (nI (gR (ti + 1))) tk kw g19 g20 g21 (nI o9) g23 (nI cd) g25 g26 v27 v28 v29 v30 v31 v32 v33 v34 v35 v36 v37 (nI ol)), (v1, .inl (cA 0, 326, .inl fp)), (v9, .inl (cA 0, 700, .inl fb)), (v13, .inl (cA 1, 15, .inr (.inl fkw))), (v28, .inl (cA 1, 10, .inr (.inl l28))), (v30, .inl (cA 1, 8, .inr (.inl l30))), (v32, .inl (cA 0, 400, .inl fc))] s.heap := hP
  have hl := lv_entry ([.ref w0]) (n := 1) (Nat.le_of_ble_eq_true rfl)
  rw [lg_entry_eq]
  generalize (lg_sl ([.ref w0]) ++ List.replicate (1 - (lg_sl ([.ref w0])).length) Slot.unset).toArray = ls at hl ⊢
  have hl : lv_has ls 1 [(0, .ref w0)] := hl
  have hle9 := TX.le hTX hti
  refine lv_aload_n hx hb dX10_condition_0 rfl (lv_at hl 0 rfl) ?_
  obtain ⟨hPc, hDc, hFc⟩ := PDq.cut (wc := [(oX10 w0 v0 v1 v2 v3 v4 g5 g6 (nI ed) g8 v9 (nI nb) g11 g12 v13 (nI ln) (nI (gP ti)) (nI (gR (ti + 1))) tk kw g19 g20 g21 (nI o9) g23 (nI cd) g25 g26 v27 v28 v29 v30 v31 v32 v33 v34 v35 v36 v37 (nI ol)), (v1, .inl (cA 0, 326, .inl fp)), (v9, .inl (cA 0, 700, .inl fb)), (v13, .inl (cA 1, 15, .inr (.inl fkw))), (v28, .inl (cA 1, 10, .inr (.inl l28))), (v30, .inl (cA 1, 8, .inr (.inl l30))), (v32, .inl (cA 0, 400, .inl fc))]) hP hD hS hA [0, 1, 2, 3, 4, 5, 6] (by decide) rfl
  refine va_calli (va_runV (As := []) (rest := []) ⟨hx, hb, hml, hown, hts⟩ (y_both_S l D cA sa k9 IHf IHc w0 ed nb ol v0 v1 v2 v3 v4 v9 v13 v27 v28 v29 v30 v31 v32 v33 v34 v35 v36 v37 g8 g11 g12 g19 g20 g21 g23 g26 g5 g6 g25 ln cd tk kw ti ct fb fkw gP gR gS gK gV cn pq en dy fp sl o9 l28 l30 fc ml pl s.heap.size hln hct hti hTX hBY hTK hKW hcn hpq hen hdy hri hcd hNM hNP ho) (cwV 0 hts gX10_condition_X10_both rfl rfl rfl (by decide +kernel) ⟨by show (4 * (k9 + 1) + 22) + 1 ≤ 4 * (k9 + 1) + 23; omega, by show 8 + (1 + 11) + (80 * (k9 + 1) + 360) ≤ 80 * (k9 + 1) + 380; omega⟩) ⟨Wd.blind, va_recv hK hPc (ci := 11) (q0 := 0) rfl rfl, fun U hU hW => ⟨rfl, Wd.call hPc hDc hK hC hZ hS hFc U hU hW⟩⟩ rfl rfl hl.1 rfl (lv_room (Nat.le_of_ble_eq_true rfl)) dX10_condition_1 ⟨(Nat.le_of_ble_eq_true rfl), (Nat.le_of_ble_eq_true rfl)⟩) hS (fun q _ h => hFc q h) hFc (fun rn1 u t H1 locs ht hvm hw hB hz1 hk1 hS => ?_)
  obtain ⟨qn2, zn3, zn4, zn5, zn6, zn7, zn8, zn9, qn10, qn11, zn12, fn13, fn14, fn15, zn16, hn17, hn18, hn19, hn20, hn21, hn22, hn23, hn24, hn25, hn26, hn27, hn28, hn29, hn30, hn31, hn32, hn33, hn34, hn35, hP1, hD1⟩ := hB
  rw [ht] at hP1
  obtain ⟨hP, hD⟩ := PDq.join (w := [(oX10 w0 v0 v1 v2 v3 v4 g5 g6 (nI ed) g8 v9 (nI nb) g11 g12 v13 (nI ln) (nI (gP qn2)) (nI (gR (qn2 + 1))) zn3 zn4 zn5 zn6 zn7 zn12 g23 (nI qn10) zn9 zn8 v27 v28 v29 v30 v31 v32 v33 v34 v35 v36 v37 (nI ol)), (v1, .inl (cA 0, 326, .inl fn13)), (v9, .inl (cA 0, 700, .inl fb)), (v13, .inl (cA 1, 15, .inr (.inl fkw))), (v28, .inl (cA 1, 10, .inr (.inl l28))), (v30, .inl (cA 1, 8, .inr (.inl fn15))), (v32, .inl (cA 0, 400, .inl fn14))]) 0 hP hD [0, 1, 2, 3, 4, 5, 6] [] rfl rfl (by decide) (by decide) hk1 hFc hP1 hD1 rfl
  generalize H1 = H at hP hS ⊢
  rcases hw.2 with hr9 | hr9
  · skip
    have hn35 := hn35 (hw.1.trans hr9)
    subst hr9
    refine lv_if_ne (tgt := 9) hx hb dX10_condition_4 (by decide) (fun c9 => absurd c9 (by decide)) (fun c36 => ?_)
    refine lv_iconst (v := 0) hx hb dX10_condition_7 (by decide) ?_
    obtain ⟨hP9, hD9⟩ := PDq.sub (ws' := [(oX10 w0 v0 v1 v2 v3 v4 g5 g6 (nI ed) g8 v9 (nI nb) g11 g12 v13 (nI ln) (nI (gP qn2)) (nI (gR (qn2 + 1))) zn3 zn4 zn5 zn6 zn7 zn12 g23 (nI qn10) zn9 zn8 v27 v28 v29 v30 v31 v32 v33 v34 v35 v36 v37 (nI ol)), (v1, .inl (cA 0, 326, .inl fn13)), (v9, .inl (cA 0, 700, .inl fb)), (v13, .inl (cA 1, 15, .inr (.inl fkw))), (v28, .inl (cA 1, 10, .inr (.inl l28))), (v30, .inl (cA 1, 8, .inr (.inl fn15))), (v32, .inl (cA 0, 400, .inl fn14))]) hP hD [0, 1, 2, 3, 4, 5, 6] (by decide) rfl
    refine W.widen (k := 0) (n := 0) (Nat.le_of_ble_eq_true rfl) (Nat.le_of_ble_eq_true rfl) ?_
    exact (W.zret (v := 0) hx hb hr (by first | rfl | decide) (fun t ht hW => ⟨⟨0, 0, rfl, ⟨rfl, by decide⟩, qn2, zn3, zn4, zn5, zn6, zn7, zn8, zn9, qn10, qn11, zn12, fn13, fn14, fn15, zn16, hn17, hn18, hn19, hn20, hn21, hn22, hn23, (fun h9 => absurd h9 (by decide)), (fun h9 => absurd h9 (by decide)), (fun h9 => absurd h9 (by decide)), (fun h9 => absurd h9 (by decide)), (fun h9 => absurd h9 (by decide)), (fun h9 => absurd h9 (by decide)), (fun h9 => absurd h9 (by decide)), (fun h9 => absurd h9 (by decide)), (fun h9 => absurd h9 (by decide)), (fun h9 => absurd h9 (by decide)), (fun h9 => absurd h9 (by decide)), (fun _ => (P_condE hn35)), by rw [ht]; exact hP9, hD9⟩, hS.F ht⟩) hS.2.2 dX10_condition_8)
  · skip
    have hn24 := hn24 (hw.1.trans hr9)
    subst hn24
    obtain ⟨hP, hD⟩ : PDq D A [(oX10 w0 v0 v1 v2 v3 v4 g5 g6 (nI ed) g8 v9 (nI nb) g11 g12 v13 (nI ln) (nI (gP qn2)) (nI (gR (qn2 + 1))) zn3 zn4 zn5 zn6 zn7 (nI o9) g23 (nI qn10) zn9 zn8 v27 v28 v29 v30 v31 v32 v33 v34 v35 v36 v37 (nI ol)), (v1, .inl (cA 0, 326, .inl fn13)), (v9, .inl (cA 0, 700, .inl fb)), (v13, .inl (cA 1, 15, .inr (.inl fkw))), (v28, .inl (cA 1, 10, .inr (.inl l28))), (v30, .inl (cA 1, 8, .inr (.inl fn15))), (v32, .inl (cA 0, 400, .inl fn14))] H := ⟨hP, hD⟩
    have hn25 := hn25 (hw.1.trans hr9)
    obtain rfl : g20 = zn6 := hn25.symm
    obtain ⟨hP, hD⟩ : PDq D A [(oX10 w0 v0 v1 v2 v3 v4 g5 g6 (nI ed) g8 v9 (nI nb) g11 g12 v13 (nI ln) (nI (gP qn2)) (nI (gR (qn2 + 1))) zn3 zn4 zn5 g20 zn7 (nI o9) g23 (nI qn10) zn9 zn8 v27 v28 v29 v30 v31 v32 v33 v34 v35 v36 v37 (nI ol)), (v1, .inl (cA 0, 326, .inl fn13)), (v9, .inl (cA 0, 700, .inl fb)), (v13, .inl (cA 1, 15, .inr (.inl fkw))), (v28, .inl (cA 1, 10, .inr (.inl l28))), (v30, .inl (cA 1, 8, .inr (.inl fn15))), (v32, .inl (cA 0, 400, .inl fn14))] H := ⟨hP, hD⟩
    have hn26 := hn26 (hw.1.trans hr9)
    obtain rfl : g21 = zn7 := hn26.symm
    obtain ⟨hP, hD⟩ : PDq D A [(oX10 w0 v0 v1 v2 v3 v4 g5 g6 (nI ed) g8 v9 (nI nb) g11 g12 v13 (nI ln) (nI (gP qn2)) (nI (gR (qn2 + 1))) zn3 zn4 zn5 g20 g21 (nI o9) g23 (nI qn10) zn9 zn8 v27 v28 v29 v30 v31 v32 v33 v34 v35 v36 v37 (nI ol)), (v1, .inl (cA 0, 326, .inl fn13)), (v9, .inl (cA 0, 700, .inl fb)), (v13, .inl (cA 1, 15, .inr (.inl fkw))), (v28, .inl (cA 1, 10, .inr (.inl l28))), (v30, .inl (cA 1, 8, .inr (.inl fn15))), (v32, .inl (cA 0, 400, .inl fn14))] H := ⟨hP, hD⟩
    have hn27 := hn27 (hw.1.trans hr9)
    have hn28 := hn28 (hw.1.trans hr9)
    have hn29 := hn29 (hw.1.trans hr9)
    have hn30 := hn30 (hw.1.trans hr9)
    have hn31 := hn31 (hw.1.trans hr9)
    have hn32 := hn32 (hw.1.trans hr9)
    have hn33 := hn33 (hw.1.trans hr9)
    have hn34 := hn34 (hw.1.trans hr9)
    subst hr9
    refine lv_if_ne (tgt := 9) hx hb dX10_condition_4 (by decide) (fun c37 => ?_) (fun c9 => absurd c9 (by decide))
    have loop1 : ∀ (n1 i1 : Nat) (tii : Nat) (qi : Nat) (pli : List Int64) (u0_17_1 : Int32) (u0_18_1 : Int32) (u0_19_1 : Int32) (cdi : Nat) (u0_25_1 : Int64) (u0_26_1 : Int32) (f1_1 : Nat → Int32) (f5_1 : Nat → Int64) (f6_1 : Nat → Int32) (H : Heap) (locs : List Loc) (ls : Array Slot), i1 + n1 = 701 → i1 ≤ tii → tii < ct → gP tii ≤ ln → TKR (gK tii) (gV tii) (fb (gP tii)) u0_17_1 u0_18_1 u0_19_1 u0_25_1 → ti + 1 ≤ tii → cd ≤ cdi → 2 * cdi + sl ≤ gP tii → qi ≤ 8 → RI cn qi en dy f1_1 → NL pli qi f5_1 → Kp cd fc f6_1 → Sg cd cdi f6_1 → Cn gK gS gV ml 3 o9 ti pl 4 tii pli → CRL gK gV 3 ti 4 tii ml pl pli cd cdi fc f6_1 → K14 fp f1_1 → va_P D vwCl [(oX10 w0 v0 v1 v2 v3 v4 g5 g6 (nI ed) g8 v9 (nI nb) g11 g12 v13 (nI ln) (nI (gP tii)) (nI (gR (tii + 1))) u0_17_1 u0_18_1 u0_19_1 g20 g21 (nI o9) g23 (nI cdi) u0_25_1 u0_26_1 v27 v28 v29 v30 v31 v32 v33 v34 v35 v36 v37 (nI ol)), (v1, .inl (cA 0, 326, .inl f1_1)), (v9, .inl (cA 0, 700, .inl fb)), (v13, .inl (cA 1, 15, .inr (.inl fkw))), (v28, .inl (cA 1, 10, .inr (.inl l28))), (v30, .inl (cA 1, 8, .inr (.inl f5_1))), (v32, .inl (cA 0, 400, .inl f6_1))] H → va_D A [(oX10 w0 v0 v1 v2 v3 v4 g5 g6 (nI ed) g8 v9 (nI nb) g11 g12 v13 (nI ln) (nI (gP tii)) (nI (gR (tii + 1))) u0_17_1 u0_18_1 u0_19_1 g20 g21 (nI o9) g23 (nI cdi) u0_25_1 u0_26_1 v27 v28 v29 v30 v31 v32 v33 v34 v35 v36 v37 (nI ol)), (v1, .inl (cA 0, 326, .inl f1_1)), (v9, .inl (cA 0, 700, .inl fb)), (v13, .inl (cA 1, 15, .inr (.inl fkw))), (v28, .inl (cA 1, 10, .inr (.inl l28))), (v30, .inl (cA 1, 8, .inr (.inl f5_1))), (v32, .inl (cA 0, 400, .inl f6_1))] → va_S A s.heap H locs → lv_has ls 1 [(0, .ref w0)] → W p l e (headSpec wsX10_condition ({ frames := 4 * (k9 + 1) + 23, cells := 0, slots := 0, locals := 80 * (k9 + 1) + 380 } : Room)).room s m ([.ref w0] : List Value).toArray below meth c H locs 0 0 (MQ below (va_Qi (fun (r : Int32) (u9 : Int32) => u9 = r ∧ (r = 0 ∨ r = 1)) (fun (u9 : Int32) t => ∃ tj : Nat, ∃ z17 : Int32, ∃ z18 : Int32, ∃ z19 : Int32, ∃ z20 : Int32, ∃ z21 : Int32, ∃ z26 : Int32, ∃ z25 : Int64, ∃ cd2 : Nat, ∃ pq2 : Nat, ∃ zop : Int32, ∃ zp : Nat → Int32, ∃ zc : Nat → Int32, ∃ zl : Nat → Int64, ∃ zpl : List Int64, tj < ct ∧ gP tj ≤ ln ∧ ti ≤ tj ∧ TKR (gK tj) (gV tj) (fb (gP tj)) z17 z18 z19 z25 ∧ pq2 ≤ 8 ∧ RI cn pq2 en dy zp ∧ NL zpl pq2 zl ∧ (u9 = 1 → zop = (nI o9)) ∧ (u9 = 1 → z20 = g20) ∧ (u9 = 1 → z21 = g21) ∧ (u9 = 1 → ti + 1 ≤ tj) ∧ (u9 = 1 → cd ≤ cd2) ∧ (u9 = 1 → 2 * cd2 + sl ≤ gP tj) ∧ (u9 = 1 → Kp cd fc zc) ∧ (u9 = 1 → Sg cd cd2 zc) ∧ (u9 = 1 → PRx gK gS gV ml 3 o9 ti pl (.inr (tj, zpl))) ∧ (u9 = 1 → CR9 gK gV 3 ti tj ml pl zpl cd cd2 fc zc) ∧ (u9 = 1 → K14 fp zp) ∧ (u9 = 0 → PRx gK gS gV ml 3 o9 ti pl (.inl (z20, z21))) ∧ Wq D A [(oX10 w0 v0 v1 v2 v3 v4 g5 g6 (nI ed) g8 v9 (nI nb) g11 g12 v13 (nI ln) (nI (gP tj)) (nI (gR (tj + 1))) z17 z18 z19 z20 z21 zop g23 (nI cd2) z25 z26 v27 v28 v29 v30 v31 v32 v33 v34 v35 v36 v37 (nI ol)), (v1, .inl (cA 0, 326, .inl zp)), (v9, .inl (cA 0, 700, .inl fb)), (v13, .inl (cA 1, 15, .inr (.inl fkw))), (v28, .inl (cA 1, 10, .inr (.inl l28))), (v30, .inl (cA 1, 8, .inr (.inl zl))), (v32, .inl (cA 0, 400, .inl zc))] t) A) ([.ref w0] : List Value).toArray s 0 0 A) (F0 m 9 ls []) := by
      intro n1
      induction n1 with
      | zero =>
        intro i1 tii qi pli u0_17_1 u0_18_1 u0_19_1 cdi u0_25_1 u0_26_1 f1_1 f5_1 f6_1 H locs ls hi1 hv0_1 hv1_1 hv2_1 hv3_1 hv4_1 hv5_1 hv6_1 hv7_1 hv8_1 hv9_1 hv10_1 hv11_1 hv12_1 hv13_1 hv14_1 hP hD hS hl
        obtain rfl : 701 = i1 := by omega
        exact absurd hv0_1 (by omega)
      | succ n1 ih1 =>
        intro i1 tii qi pli u0_17_1 u0_18_1 u0_19_1 cdi u0_25_1 u0_26_1 f1_1 f5_1 f6_1 H locs ls hi1 hv0_1 hv1_1 hv2_1 hv3_1 hv4_1 hv5_1 hv6_1 hv7_1 hv8_1 hv9_1 hv10_1 hv11_1 hv12_1 hv13_1 hv14_1 hP hD hS hl
        refine lv_aload_n hx hb dX10_condition_9 rfl (lv_at hl 0 rfl) ?_
        refine lv_bipush (v := 6) hx hb dX10_condition_10 (by decide) ?_
        obtain ⟨hPc, hDc, hFc⟩ := PDq.cut (wc := [(oX10 w0 v0 v1 v2 v3 v4 g5 g6 (nI ed) g8 v9 (nI nb) g11 g12 v13 (nI ln) (nI (gP tii)) (nI (gR (tii + 1))) u0_17_1 u0_18_1 u0_19_1 g20 g21 (nI o9) g23 (nI cdi) u0_25_1 u0_26_1 v27 v28 v29 v30 v31 v32 v33 v34 v35 v36 v37 (nI ol))]) hP hD hS hA [0] (by decide) rfl
        refine va_calli (va_runV (As := [.int 6]) (rest := []) ⟨hx, hb, hml, hown, hts⟩ (y_kw6 l D cA sa w0 ed nb ol v0 v1 v2 v3 v4 v9 v13 v27 v28 v29 v30 v31 v32 v33 v34 v35 v36 v37 g8 g11 g12 u0_19_1 g20 g21 (nI o9) g23 u0_26_1 g5 g6 u0_25_1 ln cdi u0_17_1 u0_18_1 tii ct fb gP gR gS gK gV H.size hln hct hv1_1 hTX hBY hv3_1) (cwV 1 hts gX10_condition_X10_isKeyword rfl rfl rfl (by decide +kernel) ⟨by show (0) + 1 ≤ 4 * (k9 + 1) + 23; omega, by show 8 + (2 + 11) + (0) ≤ 80 * (k9 + 1) + 380; omega⟩) ⟨Wd.blind, va_recv hK hPc (ci := 11) (q0 := 0) rfl rfl, fun U hU hW => ⟨rfl, Wd.call hPc hDc hK hC hZ hS hFc U hU hW⟩⟩ rfl rfl hl.1 rfl (lv_room (Nat.le_of_ble_eq_true rfl)) dX10_condition_12 ⟨(Nat.le_of_ble_eq_true rfl), (Nat.le_of_ble_eq_true rfl)⟩) hS (fun q _ h => hFc q h) hFc (fun rn38 u t H1 locs ht hvm hw hB hz1 hk1 hS => ?_)
        obtain ⟨hP1, hD1⟩ := hB
        rw [ht] at hP1
        obtain ⟨hP, hD⟩ := PDq.join (w := [(v1, .inl (cA 0, 326, .inl f1_1)), (v9, .inl (cA 0, 700, .inl fb)), (v13, .inl (cA 1, 15, .inr (.inl fkw))), (v28, .inl (cA 1, 10, .inr (.inl l28))), (v30, .inl (cA 1, 8, .inr (.inl f5_1))), (v32, .inl (cA 0, 400, .inl f6_1)), (oX10 w0 v0 v1 v2 v3 v4 g5 g6 (nI ed) g8 v9 (nI nb) g11 g12 v13 (nI ln) (nI (gP tii)) (nI (gR (tii + 1))) u0_17_1 u0_18_1 u0_19_1 g20 g21 (nI o9) g23 (nI cdi) u0_25_1 u0_26_1 v27 v28 v29 v30 v31 v32 v33 v34 v35 v36 v37 (nI ol))]) 6 hP hD [0] [1, 2, 3, 4, 5, 6] rfl rfl (by decide) (by decide) hk1 hFc hP1 hD1 rfl
        generalize H1 = H at hP hS ⊢
        rcases hw with ⟨hr9, hn39⟩ | ⟨hr9, hn39⟩
        · skip
          subst hr9
          refine lv_if_eq (tgt := 42) hx hb dX10_condition_15 (by decide) (fun c9 => absurd c9 (by decide)) (fun c40 => ?_)
          refine lv_aload_n hx hb dX10_condition_18 rfl (lv_at hl 0 rfl) ?_
          have hn41 := TX.go2 hTX (show tii < ct by omega) (by rw [hn39]; decide)
          have hn41a := TX.le hTX (show tii < ct by omega)
          have hn41b := TX.le hTX hn41.1
          obtain ⟨hPc, hDc, hFc⟩ := PDq.cut (wc := [(oX10 w0 v0 v1 v2 v3 v4 g5 g6 (nI ed) g8 v9 (nI nb) g11 g12 v13 (nI ln) (nI (gP tii)) (nI (gR (tii + 1))) u0_17_1 u0_18_1 u0_19_1 g20 g21 (nI o9) g23 (nI cdi) u0_25_1 u0_26_1 v27 v28 v29 v30 v31 v32 v33 v34 v35 v36 v37 (nI ol)), (v9, .inl (cA 0, 700, .inl fb)), (v13, .inl (cA 1, 15, .inr (.inl fkw)))]) hP hD hS hA [6, 1, 2] (by decide) rfl
          refine va_calli (va_runV (As := []) (rest := []) ⟨hx, hb, hml, hown, hts⟩ (y_advance l D cA sa w0 ed nb ol v0 v1 v2 v3 v4 v9 v13 v27 v28 v29 v30 v31 v32 v33 v34 v35 v36 v37 g8 g11 g12 (nI (gP tii)) u0_17_1 u0_18_1 u0_19_1 g20 g21 (nI o9) g23 (nI cdi) u0_26_1 g5 g6 u0_25_1 ln (gR (tii + 1)) fb fkw (gP (tii + 1)) (gR ((tii + 1) + 1)) (gK (tii + 1)) (gV (tii + 1)) H.size hln (by omega) hKW hBY (TX.t hTX hn41.1)) (cwV 0 hts gX10_condition_X10_advance rfl rfl rfl (by decide +kernel) ⟨by show (1) + 1 ≤ 4 * (k9 + 1) + 23; omega, by show 8 + (2 + 11) + (23) ≤ 80 * (k9 + 1) + 380; omega⟩) ⟨Wd.blind, va_recv hK hPc (ci := 11) (q0 := 0) rfl rfl, fun U hU hW => ⟨rfl, Wd.call hPc hDc hK hC hZ hS hFc U hU hW⟩⟩ rfl rfl hl.1 rfl (lv_room (Nat.le_of_ble_eq_true rfl)) dX10_condition_19 ⟨(Nat.le_of_ble_eq_true rfl), (Nat.le_of_ble_eq_true rfl)⟩) hS (fun q _ h => hFc q h) hFc (fun rn42 u t H1 locs ht hvm hw hB hz1 hk1 hS => ?_)
          obtain ⟨zn43, zn44, zn45, zn46, hn47, hP1, hD1⟩ := hB
          rw [ht] at hP1
          obtain ⟨hP, hD⟩ := PDq.join (w := [(v1, .inl (cA 0, 326, .inl f1_1)), (v28, .inl (cA 1, 10, .inr (.inl l28))), (v30, .inl (cA 1, 8, .inr (.inl f5_1))), (v32, .inl (cA 0, 400, .inl f6_1)), (oX10 w0 v0 v1 v2 v3 v4 g5 g6 (nI ed) g8 v9 (nI nb) g11 g12 v13 (nI ln) (nI (gP (tii + 1))) (nI (gR ((tii + 1) + 1))) zn43 zn44 zn45 g20 g21 (nI o9) g23 (nI cdi) zn46 u0_26_1 v27 v28 v29 v30 v31 v32 v33 v34 v35 v36 v37 (nI ol)), (v9, .inl (cA 0, 700, .inl fb)), (v13, .inl (cA 1, 15, .inr (.inl fkw)))]) 4 hP hD [6, 1, 2] [0, 3, 4, 5] rfl rfl (by decide) (by decide) hk1 hFc hP1 hD1 rfl
          generalize H1 = H at hP hS ⊢
          obtain rfl : rn42 = 1 := hw
          refine lv_pop hx hb dX10_condition_22 rfl ?_
          refine lv_aload_n hx hb dX10_condition_23 rfl (lv_at hl 0 rfl) ?_
          obtain ⟨hPc, hDc, hFc⟩ := PDq.cut (wc := [(oX10 w0 v0 v1 v2 v3 v4 g5 g6 (nI ed) g8 v9 (nI nb) g11 g12 v13 (nI ln) (nI (gP (tii + 1))) (nI (gR ((tii + 1) + 1))) zn43 zn44 zn45 g20 g21 (nI o9) g23 (nI cdi) zn46 u0_26_1 v27 v28 v29 v30 v31 v32 v33 v34 v35 v36 v37 (nI ol)), (v1, .inl (cA 0, 326, .inl f1_1)), (v9, .inl (cA 0, 700, .inl fb)), (v13, .inl (cA 1, 15, .inr (.inl fkw))), (v28, .inl (cA 1, 10, .inr (.inl l28))), (v30, .inl (cA 1, 8, .inr (.inl f5_1))), (v32, .inl (cA 0, 400, .inl f6_1))]) hP hD hS hA [4, 0, 5, 6, 1, 2, 3] (by decide) rfl
          refine va_calli (va_runV (As := []) (rest := []) ⟨hx, hb, hml, hown, hts⟩ (y_both_S l D cA sa k9 IHf IHc w0 ed nb ol v0 v1 v2 v3 v4 v9 v13 v27 v28 v29 v30 v31 v32 v33 v34 v35 v36 v37 g8 g11 g12 zn45 g20 g21 g23 u0_26_1 g5 g6 zn46 ln cdi zn43 zn44 (tii + 1) ct fb fkw gP gR gS gK gV cn qi en dy f1_1 (sl + 2) o9 l28 f5_1 f6_1 ml pli H.size hln hct hn41.1 hTX hBY hn47 hKW hcn hv7_1 hen hdy hv8_1 (by omega) hNM hv9_1 ho) (cwV 0 hts gX10_condition_X10_both rfl rfl rfl (by decide +kernel) ⟨by show (4 * (k9 + 1) + 22) + 1 ≤ 4 * (k9 + 1) + 23; omega, by show 8 + (1 + 11) + (80 * (k9 + 1) + 360) ≤ 80 * (k9 + 1) + 380; omega⟩) ⟨Wd.blind, va_recv hK hPc (ci := 11) (q0 := 0) rfl rfl, fun U hU hW => ⟨rfl, Wd.call hPc hDc hK hC hZ hS hFc U hU hW⟩⟩ rfl rfl hl.1 rfl (lv_room (Nat.le_of_ble_eq_true rfl)) dX10_condition_24 ⟨(Nat.le_of_ble_eq_true rfl), (Nat.le_of_ble_eq_true rfl)⟩) hS (fun q _ h => hFc q h) hFc (fun rn48 u t H1 locs ht hvm hw hB hz1 hk1 hS => ?_)
          obtain ⟨qn49, zn50, zn51, zn52, zn53, zn54, zn55, zn56, qn57, qn58, zn59, fn60, fn61, fn62, zn63, hn64, hn65, hn66, hn67, hn68, hn69, hn70, hn71, hn72, hn73, hn74, hn75, hn76, hn77, hn78, hn79, hn80, hn81, hn82, hP1, hD1⟩ := hB
          rw [ht] at hP1
          obtain ⟨hP, hD⟩ := PDq.join (w := [(oX10 w0 v0 v1 v2 v3 v4 g5 g6 (nI ed) g8 v9 (nI nb) g11 g12 v13 (nI ln) (nI (gP qn49)) (nI (gR (qn49 + 1))) zn50 zn51 zn52 zn53 zn54 zn59 g23 (nI qn57) zn56 zn55 v27 v28 v29 v30 v31 v32 v33 v34 v35 v36 v37 (nI ol)), (v1, .inl (cA 0, 326, .inl fn60)), (v9, .inl (cA 0, 700, .inl fb)), (v13, .inl (cA 1, 15, .inr (.inl fkw))), (v28, .inl (cA 1, 10, .inr (.inl l28))), (v30, .inl (cA 1, 8, .inr (.inl fn62))), (v32, .inl (cA 0, 400, .inl fn61))]) 0 hP hD [4, 0, 5, 6, 1, 2, 3] [] rfl rfl (by decide) (by decide) hk1 hFc hP1 hD1 rfl
          generalize H1 = H at hP hS ⊢
          rcases hw.2 with hr9 | hr9
          · skip
            have hn82 := hn82 (hw.1.trans hr9)
            subst hr9
            refine lv_if_ne (tgt := 32) hx hb dX10_condition_27 (by decide) (fun c9 => absurd c9 (by decide)) (fun c83 => ?_)
            refine lv_iconst (v := 0) hx hb dX10_condition_30 (by decide) ?_
            obtain ⟨hP9, hD9⟩ := PDq.sub (ws' := [(oX10 w0 v0 v1 v2 v3 v4 g5 g6 (nI ed) g8 v9 (nI nb) g11 g12 v13 (nI ln) (nI (gP qn49)) (nI (gR (qn49 + 1))) zn50 zn51 zn52 zn53 zn54 zn59 g23 (nI qn57) zn56 zn55 v27 v28 v29 v30 v31 v32 v33 v34 v35 v36 v37 (nI ol)), (v1, .inl (cA 0, 326, .inl fn60)), (v9, .inl (cA 0, 700, .inl fb)), (v13, .inl (cA 1, 15, .inr (.inl fkw))), (v28, .inl (cA 1, 10, .inr (.inl l28))), (v30, .inl (cA 1, 8, .inr (.inl fn62))), (v32, .inl (cA 0, 400, .inl fn61))]) hP hD [0, 1, 2, 3, 4, 5, 6] (by decide) rfl
            refine W.widen (k := 0) (n := 0) (Nat.le_of_ble_eq_true rfl) (Nat.le_of_ble_eq_true rfl) ?_
            exact (W.zret (v := 0) hx hb hr (by first | rfl | decide) (fun t ht hW => ⟨⟨0, 0, rfl, ⟨rfl, by decide⟩, qn49, zn50, zn51, zn52, zn53, zn54, zn55, zn56, qn57, qn58, zn59, fn60, fn61, fn62, zn63, hn64, hn65, (by omega), hn67, hn68, hn69, hn70, (fun h9 => absurd h9 (by decide)), (fun h9 => absurd h9 (by decide)), (fun h9 => absurd h9 (by decide)), (fun h9 => absurd h9 (by decide)), (fun h9 => absurd h9 (by decide)), (fun h9 => absurd h9 (by decide)), (fun h9 => absurd h9 (by decide)), (fun h9 => absurd h9 (by decide)), (fun h9 => absurd h9 (by decide)), (fun h9 => absurd h9 (by decide)), (fun h9 => absurd h9 (by decide)), (fun _ => (hv12_1 _ (P_orE hn39 hn82))), by rw [ht]; exact hP9, hD9⟩, hS.F ht⟩) hS.2.2 dX10_condition_31)
          · skip
            have hn71 := hn71 (hw.1.trans hr9)
            subst hn71
            obtain ⟨hP, hD⟩ : PDq D A [(oX10 w0 v0 v1 v2 v3 v4 g5 g6 (nI ed) g8 v9 (nI nb) g11 g12 v13 (nI ln) (nI (gP qn49)) (nI (gR (qn49 + 1))) zn50 zn51 zn52 zn53 zn54 (nI o9) g23 (nI qn57) zn56 zn55 v27 v28 v29 v30 v31 v32 v33 v34 v35 v36 v37 (nI ol)), (v1, .inl (cA 0, 326, .inl fn60)), (v9, .inl (cA 0, 700, .inl fb)), (v13, .inl (cA 1, 15, .inr (.inl fkw))), (v28, .inl (cA 1, 10, .inr (.inl l28))), (v30, .inl (cA 1, 8, .inr (.inl fn62))), (v32, .inl (cA 0, 400, .inl fn61))] H := ⟨hP, hD⟩
            have hn72 := hn72 (hw.1.trans hr9)
            obtain rfl : g20 = zn53 := hn72.symm
            obtain ⟨hP, hD⟩ : PDq D A [(oX10 w0 v0 v1 v2 v3 v4 g5 g6 (nI ed) g8 v9 (nI nb) g11 g12 v13 (nI ln) (nI (gP qn49)) (nI (gR (qn49 + 1))) zn50 zn51 zn52 g20 zn54 (nI o9) g23 (nI qn57) zn56 zn55 v27 v28 v29 v30 v31 v32 v33 v34 v35 v36 v37 (nI ol)), (v1, .inl (cA 0, 326, .inl fn60)), (v9, .inl (cA 0, 700, .inl fb)), (v13, .inl (cA 1, 15, .inr (.inl fkw))), (v28, .inl (cA 1, 10, .inr (.inl l28))), (v30, .inl (cA 1, 8, .inr (.inl fn62))), (v32, .inl (cA 0, 400, .inl fn61))] H := ⟨hP, hD⟩
            have hn73 := hn73 (hw.1.trans hr9)
            obtain rfl : g21 = zn54 := hn73.symm
            obtain ⟨hP, hD⟩ : PDq D A [(oX10 w0 v0 v1 v2 v3 v4 g5 g6 (nI ed) g8 v9 (nI nb) g11 g12 v13 (nI ln) (nI (gP qn49)) (nI (gR (qn49 + 1))) zn50 zn51 zn52 g20 g21 (nI o9) g23 (nI qn57) zn56 zn55 v27 v28 v29 v30 v31 v32 v33 v34 v35 v36 v37 (nI ol)), (v1, .inl (cA 0, 326, .inl fn60)), (v9, .inl (cA 0, 700, .inl fb)), (v13, .inl (cA 1, 15, .inr (.inl fkw))), (v28, .inl (cA 1, 10, .inr (.inl l28))), (v30, .inl (cA 1, 8, .inr (.inl fn62))), (v32, .inl (cA 0, 400, .inl fn61))] H := ⟨hP, hD⟩
            have hn74 := hn74 (hw.1.trans hr9)
            have hn75 := hn75 (hw.1.trans hr9)
            have hn76 := hn76 (hw.1.trans hr9)
            have hn77 := hn77 (hw.1.trans hr9)
            have hn78 := hn78 (hw.1.trans hr9)
            have hn79 := hn79 (hw.1.trans hr9)
            have hn80 := hn80 (hw.1.trans hr9)
            have hn81 := hn81 (hw.1.trans hr9)
            subst hr9
            refine lv_if_ne (tgt := 32) hx hb dX10_condition_27 (by decide) (fun c84 => ?_) (fun c9 => absurd c9 (by decide))
            refine lv_aload_n hx hb dX10_condition_32 rfl (lv_at hl 0 rfl) ?_
            refine lv_bipush (v := (-2)) hx hb dX10_condition_33 (by decide) ?_
            obtain ⟨hPc, hDc, hFc⟩ := PDq.cut (wc := [(oX10 w0 v0 v1 v2 v3 v4 g5 g6 (nI ed) g8 v9 (nI nb) g11 g12 v13 (nI ln) (nI (gP qn49)) (nI (gR (qn49 + 1))) zn50 zn51 zn52 g20 g21 (nI o9) g23 (nI qn57) zn56 zn55 v27 v28 v29 v30 v31 v32 v33 v34 v35 v36 v37 (nI ol)), (v32, .inl (cA 0, 400, .inl fn61))]) hP hD hS hA [0, 6] (by decide) rfl
            refine va_calli (va_runV (As := [.int (-2)]) (rest := []) ⟨hx, hb, hml, hown, hts⟩ (r_emit l D cA sa w0 ed nb ol v0 v1 v2 v3 v4 v9 v13 v27 v28 v29 v30 v31 v32 v33 v34 v35 v36 v37 g8 g11 g12 (nI ln) (nI (gP qn49)) (nI (gR (qn49 + 1))) zn50 zn51 zn52 g20 g21 (nI o9) g23 zn55 g5 g6 zn56 qn57 (-2) fn61 H.size (by omega)) (cwV 1 hts gX10_condition_X10_emit rfl rfl rfl (by decide +kernel) ⟨by show (0) + 1 ≤ 4 * (k9 + 1) + 23; omega, by show 8 + (2 + 11) + (0) ≤ 80 * (k9 + 1) + 380; omega⟩) ⟨Wd.blind, va_recv hK hPc (ci := 11) (q0 := 0) rfl rfl, fun U hU hW => ⟨rfl, Wd.call hPc hDc hK hC hZ hS hFc U hU hW⟩⟩ rfl rfl hl.1 rfl (lv_room (Nat.le_of_ble_eq_true rfl)) dX10_condition_35 ⟨(Nat.le_of_ble_eq_true rfl), (Nat.le_of_ble_eq_true rfl)⟩) hS (fun q _ h => hFc q h) hFc (fun rn85 u t H1 locs ht hvm hw hB hz1 hk1 hS => ?_)
            obtain ⟨fn86, hn87, hP1, hD1⟩ := hB
            rw [ht] at hP1
            obtain ⟨hP, hD⟩ := PDq.join (w := [(v1, .inl (cA 0, 326, .inl fn60)), (v9, .inl (cA 0, 700, .inl fb)), (v13, .inl (cA 1, 15, .inr (.inl fkw))), (v28, .inl (cA 1, 10, .inr (.inl l28))), (v30, .inl (cA 1, 8, .inr (.inl fn62))), (oX10 w0 v0 v1 v2 v3 v4 g5 g6 (nI ed) g8 v9 (nI nb) g11 g12 v13 (nI ln) (nI (gP qn49)) (nI (gR (qn49 + 1))) zn50 zn51 zn52 g20 g21 (nI o9) g23 (nI (qn57 + 1)) zn56 zn55 v27 v28 v29 v30 v31 v32 v33 v34 v35 v36 v37 (nI ol)), (v32, .inl (cA 0, 400, .inl fn86))]) 5 hP hD [0, 6] [1, 2, 3, 4, 5] rfl rfl (by decide) (by decide) hk1 hFc hP1 hD1 rfl
            generalize H1 = H at hP hS ⊢
            obtain rfl : rn85 = 1 := hw
            refine lv_pop hx hb dX10_condition_38 rfl ?_
            have hn88 := Kp.tr (Kp.tr hv10_1 hn77 (by omega)) (Em.kp hn87) (by omega)
            have hn89 := Sg.join hv11_1 hn77 hn78 hn87 (by decide)
            refine lv_goto (tgt := 9) hx hb dX10_condition_39 (by decide) ?_
            obtain ⟨hP9, hD9⟩ := PDq.sub (ws' := [(oX10 w0 v0 v1 v2 v3 v4 g5 g6 (nI ed) g8 v9 (nI nb) g11 g12 v13 (nI ln) (nI (gP qn49)) (nI (gR (qn49 + 1))) zn50 zn51 zn52 g20 g21 (nI o9) g23 (nI (qn57 + 1)) zn56 zn55 v27 v28 v29 v30 v31 v32 v33 v34 v35 v36 v37 (nI ol)), (v1, .inl (cA 0, 326, .inl fn60)), (v9, .inl (cA 0, 700, .inl fb)), (v13, .inl (cA 1, 15, .inr (.inl fkw))), (v28, .inl (cA 1, 10, .inr (.inl l28))), (v30, .inl (cA 1, 8, .inr (.inl fn62))), (v32, .inl (cA 0, 400, .inl fn86))]) hP hD [5, 0, 1, 2, 3, 4, 6] (by decide) rfl
            exact ih1 (i1 + 1) qn49 qn58 zn63 zn50 zn51 zn52 (qn57 + 1) zn56 zn55 fn60 fn62 fn86 H _ ls (by omega) (by omega) hn64 hn65 hn67 (by omega) (by omega) (by omega) hn68 hn69 hn70 hn88 hn89 (fun r9 h9 => hv12_1 r9 (P_or hn39 hn79 h9)) (CRL.or hv13_1 hn39 hn80 hn87 rfl (by have q9 := hNM.1; omega) (by have q9 := hn70.1; omega)) (K14.tr hv14_1 hn81) hP9 hD9 hS (lv_sub hl [0] rfl)
        · skip
          subst hr9
          refine lv_if_eq (tgt := 42) hx hb dX10_condition_15 (by decide) (fun c90 => ?_) (fun c9 => absurd c9 (by decide))
          refine lv_iconst (v := 1) hx hb dX10_condition_42 (by decide) ?_
          obtain ⟨hP9, hD9⟩ := PDq.sub (ws' := [(oX10 w0 v0 v1 v2 v3 v4 g5 g6 (nI ed) g8 v9 (nI nb) g11 g12 v13 (nI ln) (nI (gP tii)) (nI (gR (tii + 1))) u0_17_1 u0_18_1 u0_19_1 g20 g21 (nI o9) g23 (nI cdi) u0_25_1 u0_26_1 v27 v28 v29 v30 v31 v32 v33 v34 v35 v36 v37 (nI ol)), (v1, .inl (cA 0, 326, .inl f1_1)), (v9, .inl (cA 0, 700, .inl fb)), (v13, .inl (cA 1, 15, .inr (.inl fkw))), (v28, .inl (cA 1, 10, .inr (.inl l28))), (v30, .inl (cA 1, 8, .inr (.inl f5_1))), (v32, .inl (cA 0, 400, .inl f6_1))]) hP hD [6, 0, 1, 2, 3, 4, 5] (by decide) rfl
          refine W.widen (k := 0) (n := 0) (Nat.le_of_ble_eq_true rfl) (Nat.le_of_ble_eq_true rfl) ?_
          exact (W.zret (v := 1) hx hb hr (by first | rfl | decide) (fun t ht hW => ⟨⟨1, 1, rfl, ⟨rfl, by decide⟩, tii, u0_17_1, u0_18_1, u0_19_1, g20, g21, u0_26_1, u0_25_1, cdi, qi, (nI o9), f1_1, f6_1, f5_1, pli, hv1_1, hv2_1, (by omega), hv3_1, hv7_1, hv8_1, hv9_1, (fun _ => rfl), (fun _ => rfl), (fun _ => rfl), (fun _ => hv4_1), (fun _ => hv5_1), (fun _ => hv6_1), (fun _ => hv10_1), (fun _ => hv11_1), (fun _ => (hv12_1 _ (P_end4 hn39))), (fun _ => (CRL.end4 hv13_1 hn39)), (fun _ => hv14_1), (fun h9 => absurd h9 (by decide)), by rw [ht]; exact hP9, hD9⟩, hS.F ht⟩) hS.2.2 dX10_condition_43)
    obtain ⟨hP9, hD9⟩ := PDq.sub (ws' := [(oX10 w0 v0 v1 v2 v3 v4 g5 g6 (nI ed) g8 v9 (nI nb) g11 g12 v13 (nI ln) (nI (gP qn2)) (nI (gR (qn2 + 1))) zn3 zn4 zn5 g20 g21 (nI o9) g23 (nI qn10) zn9 zn8 v27 v28 v29 v30 v31 v32 v33 v34 v35 v36 v37 (nI ol)), (v1, .inl (cA 0, 326, .inl fn13)), (v9, .inl (cA 0, 700, .inl fb)), (v13, .inl (cA 1, 15, .inr (.inl fkw))), (v28, .inl (cA 1, 10, .inr (.inl l28))), (v30, .inl (cA 1, 8, .inr (.inl fn15))), (v32, .inl (cA 0, 400, .inl fn14))]) hP hD [0, 1, 2, 3, 4, 5, 6] (by decide) rfl
    exact loop1 (701 - 0) 0 qn2 qn11 zn16 zn3 zn4 zn5 qn10 zn9 zn8 fn13 fn15 fn14 _ _ ls (by omega) (by omega) hn17 hn18 hn20 hn27 hn28 hn29 hn21 hn22 hn23 hn30 hn31 (fun r9 h9 => P_cond hn32 h9) (CRL.cond hn33) hn34 hP9 hD9 hS (lv_sub hl [0] rfl)

set_option maxRecDepth 20000 in
theorem y_lv (l : Launch) (D : va_G) (cA : Nat → ClassId) (sa : Nat → Nat) : ∀ k9 : Nat, YFactC l D cA sa k9 ∧ YCondC l D cA sa k9 := by
  intro k9
  induction k9 with
  | zero => exact ⟨(fun w0 ed nb ol v0 v1 v2 v3 v4 v9 v13 v27 v28 v29 v30 v31 v32 v33 v34 v35 v36 v37 g8 g11 g12 g19 g20 g21 g23 g26 g5 g6 g25 ln cd tk kw ti ct fb fkw gP gR gS gK gV cn pq en dy fp sl o9 l28 l30 fc ml pl sz hln hct hti hTX hBY hTK hKW hcn hpq hen hdy hri hcd hNM hNP ho => y_fact_B l D cA sa w0 ed nb ol v0 v1 v2 v3 v4 v9 v13 v27 v28 v29 v30 v31 v32 v33 v34 v35 v36 v37 g8 g11 g12 g19 g20 g21 g23 g26 g5 g6 g25 ln cd tk kw ti ct fb fkw gP gR gS gK gV cn pq en dy fp sl o9 l28 l30 fc ml pl sz hln hct hti hTX hBY hTK hKW hcn hpq hen hdy hri hcd hNM hNP (by omega)), (fun w0 ed nb ol v0 v1 v2 v3 v4 v9 v13 v27 v28 v29 v30 v31 v32 v33 v34 v35 v36 v37 g8 g11 g12 g19 g20 g21 g23 g26 g5 g6 g25 ln cd tk kw ti ct fb fkw gP gR gS gK gV cn pq en dy fp sl o9 l28 l30 fc ml pl sz hln hct hti hTX hBY hTK hKW hcn hpq hen hdy hri hcd hNM hNP ho => y_condition_B l D cA sa w0 ed nb ol v0 v1 v2 v3 v4 v9 v13 v27 v28 v29 v30 v31 v32 v33 v34 v35 v36 v37 g8 g11 g12 g19 g20 g21 g23 g26 g5 g6 g25 ln cd tk kw ti ct fb fkw gP gR gS gK gV cn pq en dy fp sl o9 l28 l30 fc ml pl sz hln hct hti hTX hBY hTK hKW hcn hpq hen hdy hri hcd hNM hNP (by omega))⟩
  | succ k9 ih => exact ⟨(fun w0 ed nb ol v0 v1 v2 v3 v4 v9 v13 v27 v28 v29 v30 v31 v32 v33 v34 v35 v36 v37 g8 g11 g12 g19 g20 g21 g23 g26 g5 g6 g25 ln cd tk kw ti ct fb fkw gP gR gS gK gV cn pq en dy fp sl o9 l28 l30 fc ml pl sz hln hct hti hTX hBY hTK hKW hcn hpq hen hdy hri hcd hNM hNP ho => y_fact_S l D cA sa k9 ih.1 ih.2 w0 ed nb ol v0 v1 v2 v3 v4 v9 v13 v27 v28 v29 v30 v31 v32 v33 v34 v35 v36 v37 g8 g11 g12 g19 g20 g21 g23 g26 g5 g6 g25 ln cd tk kw ti ct fb fkw gP gR gS gK gV cn pq en dy fp sl o9 l28 l30 fc ml pl sz hln hct hti hTX hBY hTK hKW hcn hpq hen hdy hri hcd hNM hNP ho), (fun w0 ed nb ol v0 v1 v2 v3 v4 v9 v13 v27 v28 v29 v30 v31 v32 v33 v34 v35 v36 v37 g8 g11 g12 g19 g20 g21 g23 g26 g5 g6 g25 ln cd tk kw ti ct fb fkw gP gR gS gK gV cn pq en dy fp sl o9 l28 l30 fc ml pl sz hln hct hti hTX hBY hTK hKW hcn hpq hen hdy hri hcd hNM hNP ho => y_condition_S l D cA sa k9 ih.1 ih.2 w0 ed nb ol v0 v1 v2 v3 v4 v9 v13 v27 v28 v29 v30 v31 v32 v33 v34 v35 v36 v37 g8 g11 g12 g19 g20 g21 g23 g26 g5 g6 g25 ln cd tk kw ti ct fb fkw gP gR gS gK gV cn pq en dy fp sl o9 l28 l30 fc ml pl sz hln hct hti hTX hBY hTK hKW hcn hpq hen hdy hri hcd hNM hNP ho)⟩

theorem y_condition_0 (l : Launch) (D : va_G) (cA : Nat → ClassId) (sa : Nat → Nat) (w0 : Nat) (ed : Nat) (nb : Nat) (ol : Nat) (v0 : Nat) (v1 : Nat) (v2 : Nat) (v3 : Nat) (v4 : Nat) (v9 : Nat) (v13 : Nat) (v27 : Nat) (v28 : Nat) (v29 : Nat) (v30 : Nat) (v31 : Nat) (v32 : Nat) (v33 : Nat) (v34 : Nat) (v35 : Nat) (v36 : Nat) (v37 : Nat) (g8 : Int32) (g11 : Int32) (g12 : Int32) (g19 : Int32) (g20 : Int32) (g21 : Int32) (g23 : Int32) (g26 : Int32) (g5 : Int64) (g6 : Int64) (g25 : Int64) (ln : Nat) (cd : Nat) (tk : Int32) (kw : Int32) (ti : Nat) (ct : Nat) (fb : Nat → Int32) (fkw : Nat → Int64) (gP : Nat → Nat) (gR : Nat → Nat) (gS : Nat → Int32) (gK : Nat → Int32) (gV : Nat → Int64) (cn : Nat) (pq : Nat) (en : Nat) (dy : Nat) (fp : Nat → Int32) (sl : Nat)  (l28 : Nat → Int64) (l30 : Nat → Int64) (fc : Nat → Int32) (ml : List Int64) (pl : List Int64) (sz : Nat) (hln : ln ≤ 700) (hct : ct ≤ 701) (hti : ti < ct) (hTX : TX fb ln ct gP gR gS gV gK) (hBY : BYn ln fb) (hTK : TKR (gK ti) (gV ti) (fb (gP ti)) tk kw g19 g25) (hKW : KW 15 fkw) (hcn : cn ≤ 10) (hpq : pq ≤ 8) (hen : en ≤ 60) (hdy : dy ≤ 20000) (hri : RI cn pq en dy fp) (hcd : 2 * cd + sl ≤ gP ti) (hNM : NL ml cn l28) (hNP : NL pl pq l30) : Met l yX10_condition wsX10_condition ({ frames := 55, cells := 0, slots := 0, locals := 1020 }) (va_Pc [.ref w0] (Wd D cA sa [(oX10 w0 v0 v1 v2 v3 v4 g5 g6 (nI ed) g8 v9 (nI nb) g11 g12 v13 (nI ln) (nI (gP ti)) (nI (gR (ti + 1))) tk kw g19 g20 g21 0 g23 (nI cd) g25 g26 v27 v28 v29 v30 v31 v32 v33 v34 v35 v36 v37 (nI ol)), (v1, .inl (cA 0, 326, .inl fp)), (v9, .inl (cA 0, 700, .inl fb)), (v13, .inl (cA 1, 15, .inr (.inl fkw))), (v28, .inl (cA 1, 10, .inr (.inl l28))), (v30, .inl (cA 1, 8, .inr (.inl l30))), (v32, .inl (cA 0, 400, .inl fc))] sz)) (va_Qi (fun (r : Int32) (u9 : Int32) => u9 = r ∧ (r = 0 ∨ r = 1)) (fun (u9 : Int32) t => ∃ tj : Nat, ∃ z17 : Int32, ∃ z18 : Int32, ∃ z19 : Int32, ∃ z20 : Int32, ∃ z21 : Int32, ∃ z26 : Int32, ∃ z25 : Int64, ∃ cd2 : Nat, ∃ pq2 : Nat, ∃ zop : Int32, ∃ zp : Nat → Int32, ∃ zc : Nat → Int32, ∃ zl : Nat → Int64, ∃ zpl : List Int64, tj < ct ∧ gP tj ≤ ln ∧ ti ≤ tj ∧ TKR (gK tj) (gV tj) (fb (gP tj)) z17 z18 z19 z25 ∧ pq2 ≤ 8 ∧ RI cn pq2 en dy zp ∧ NL zpl pq2 zl ∧ (u9 = 1 → zop = 0) ∧ (u9 = 1 → z20 = g20) ∧ (u9 = 1 → z21 = g21) ∧ (u9 = 1 → ti + 1 ≤ tj) ∧ (u9 = 1 → cd ≤ cd2) ∧ (u9 = 1 → 2 * cd2 + sl ≤ gP tj) ∧ (u9 = 1 → Kp cd fc zc) ∧ (u9 = 1 → Sg cd cd2 zc) ∧ (u9 = 1 → PRx gK gS gV ml 3 0 ti pl (.inr (tj, zpl))) ∧ (u9 = 1 → CR9 gK gV 3 ti tj ml pl zpl cd cd2 fc zc) ∧ (u9 = 1 → K14 fp zp) ∧ (u9 = 0 → PRx gK gS gV ml 3 0 ti pl (.inl (z20, z21))) ∧ Wq D (va_A [(oX10 w0 v0 v1 v2 v3 v4 g5 g6 (nI ed) g8 v9 (nI nb) g11 g12 v13 (nI ln) (nI (gP ti)) (nI (gR (ti + 1))) tk kw g19 g20 g21 0 g23 (nI cd) g25 g26 v27 v28 v29 v30 v31 v32 v33 v34 v35 v36 v37 (nI ol)), (v1, .inl (cA 0, 326, .inl fp)), (v9, .inl (cA 0, 700, .inl fb)), (v13, .inl (cA 1, 15, .inr (.inl fkw))), (v28, .inl (cA 1, 10, .inr (.inl l28))), (v30, .inl (cA 1, 8, .inr (.inl l30))), (v32, .inl (cA 0, 400, .inl fc))] sz) [(oX10 w0 v0 v1 v2 v3 v4 g5 g6 (nI ed) g8 v9 (nI nb) g11 g12 v13 (nI ln) (nI (gP tj)) (nI (gR (tj + 1))) z17 z18 z19 z20 z21 zop g23 (nI cd2) z25 z26 v27 v28 v29 v30 v31 v32 v33 v34 v35 v36 v37 (nI ol)), (v1, .inl (cA 0, 326, .inl zp)), (v9, .inl (cA 0, 700, .inl fb)), (v13, .inl (cA 1, 15, .inr (.inl fkw))), (v28, .inl (cA 1, 10, .inr (.inl l28))), (v30, .inl (cA 1, 8, .inr (.inl zl))), (v32, .inl (cA 0, 400, .inl zc))] t) (va_A [(oX10 w0 v0 v1 v2 v3 v4 g5 g6 (nI ed) g8 v9 (nI nb) g11 g12 v13 (nI ln) (nI (gP ti)) (nI (gR (ti + 1))) tk kw g19 g20 g21 0 g23 (nI cd) g25 g26 v27 v28 v29 v30 v31 v32 v33 v34 v35 v36 v37 (nI ol)), (v1, .inl (cA 0, 326, .inl fp)), (v9, .inl (cA 0, 700, .inl fb)), (v13, .inl (cA 1, 15, .inr (.inl fkw))), (v28, .inl (cA 1, 10, .inr (.inl l28))), (v30, .inl (cA 1, 8, .inr (.inl l30))), (v32, .inl (cA 0, 400, .inl fc))] sz)) 0 0 (va_A [(oX10 w0 v0 v1 v2 v3 v4 g5 g6 (nI ed) g8 v9 (nI nb) g11 g12 v13 (nI ln) (nI (gP ti)) (nI (gR (ti + 1))) tk kw g19 g20 g21 0 g23 (nI cd) g25 g26 v27 v28 v29 v30 v31 v32 v33 v34 v35 v36 v37 (nI ol)), (v1, .inl (cA 0, 326, .inl fp)), (v9, .inl (cA 0, 700, .inl fb)), (v13, .inl (cA 1, 15, .inr (.inl fkw))), (v28, .inl (cA 1, 10, .inr (.inl l28))), (v30, .inl (cA 1, 8, .inr (.inl l30))), (v32, .inl (cA 0, 400, .inl fc))] sz) :=
  (y_lv l D cA sa 8).2 w0 ed nb ol v0 v1 v2 v3 v4 v9 v13 v27 v28 v29 v30 v31 v32 v33 v34 v35 v36 v37 g8 g11 g12 g19 g20 g21 g23 g26 g5 g6 g25 ln cd tk kw ti ct fb fkw gP gR gS gK gV cn pq en dy fp sl 0 l28 l30 fc ml pl sz hln hct hti hTX hBY hTK hKW hcn hpq hen hdy hri hcd hNM hNP (by omega)

set_option maxHeartbeats 4000000 in
set_option maxRecDepth 100000 in
/-- appendBytes -/
theorem x_appendBytes (l : Launch) (D : va_G) (cA : Nat → ClassId) (sa : Nat → Nat) (h0 : Nat) (b0 : Nat) (nb : Nat) (p0 : Nat) (u0 : Nat) (r0 : Nat) (a0 : Nat) (t0 : Nat) (s0 : Nat) (o0 : Nat) (w : Int32) (fb : Nat → Int32) (sz : Nat) (hnb : nb + 4 ≤ 700) : Met l yX9_appendBytes wsX9_appendBytes ({ frames := 0, cells := 0, slots := 0, locals := 0 }) (va_Pc [.ref h0, .int w] (Wd D cA sa [(oX9 h0 b0 (nI nb) p0 u0 r0 a0 t0 s0 o0), (b0, .inl (cA 2, 700, .inl fb))] sz)) (va_Qv (fun _ : Unit => True) (fun (_ : Unit) t => ∃ nb2 : Nat, ∃ zb : Nat → Int32, nb2 = nb + 4 ∧ A4 nb w fb zb ∧ Wq D (va_A [(oX9 h0 b0 (nI nb) p0 u0 r0 a0 t0 s0 o0), (b0, .inl (cA 2, 700, .inl fb))] sz) [(oX9 h0 b0 (nI nb2) p0 u0 r0 a0 t0 s0 o0), (b0, .inl (cA 2, 700, .inl zb))] t) (va_A [(oX9 h0 b0 (nI nb) p0 u0 r0 a0 t0 s0 o0), (b0, .inl (cA 2, 700, .inl fb))] sz)) 0 0 (va_A [(oX9 h0 b0 (nI nb) p0 u0 r0 a0 t0 s0 o0), (b0, .inl (cA 2, 700, .inl fb))] sz) := by
  refine Met.ofW (cc := cX9_appendBytes) (maxL := 3) (ret := none) (by decide) rfl ?_
  intro p e s m args below meth c s₁ B hml hv
  obtain ⟨rfl, hsz, hP, hK, hD0, hC, hZ⟩ := hv
  have hx := B.exec
  have hb := B.bytes
  have hr := B.returns
  have hts := atoms_spec (ws := wsX9_appendBytes) B.pre
  have hown : s.vm.findClass RX9 = some m.cls := findClass_of_methodNamed B.named
  have hlocks := B.notSynchronized
  subst hsz
  have hD := hD0.self (sz := s.heap.size)
  generalize hAe : va_A [(oX9 h0 b0 (nI nb) p0 u0 r0 a0 t0 s0 o0), (b0, .inl (cA 2, 700, .inl fb))] s.heap.size = A at hD hZ ⊢
  have hA : ∀ q : Nat, s.heap.size ≤ q → A q := fun q h => by rw [← hAe]; exact Or.inr h
  have hS : va_S A s.heap s.heap [] := va_S.rf
  have hP : va_P D vwCl [(oX9 h0 b0 (nI nb) p0 u0 r0 a0 t0 s0 o0), (b0, .inl (cA 2, 700, .inl fb))] s.heap := hP
  have hl := lv_entry ([.ref h0, .int w]) (n := 3) (Nat.le_of_ble_eq_true rfl)
  rw [lg_entry_eq]
  generalize (lg_sl ([.ref h0, .int w]) ++ List.replicate (3 - (lg_sl ([.ref h0, .int w])).length) Slot.unset).toArray = ls at hl ⊢
  have hl : lv_has ls 3 [(0, .ref h0), (1, .int w)] := hl
  have inX9 : ∀ w ∈ u_ws RX9 TX9 9, w ∈ wsX9_appendBytes := by decide +kernel
  refine lv_bipush (v := 24) hx hb dX9_appendBytes_0 (by decide) ?_
  refine lv_istore_n (lv' := [(2, .int 24), (0, .ref h0), (1, .int w)]) hx hb dX9_appendBytes_2 rfl hl (by decide) rfl (fun ls hl => ?_)
  refine lv_iload_n hx hb dX9_appendBytes_3 rfl (lv_at hl 0 rfl) ?_
  refine lv_if_lt (tgt := 52) hx hb dX9_appendBytes_4 (by decide) (fun c9 => absurd c9 (by decide)) (fun c1 => ?_)
  refine lv_aload_n hx hb dX9_appendBytes_7 rfl (lv_at hl 1 rfl) ?_
  refine va_get (D := D) (ci := 10) (v := .int (nI nb)) (C := RX9) (T := TX9) (N := 9) hx hb hts inX9 hown hK hP 0 rfl rfl 1 (by decide) (hts (.fieldLink RX9 59 "EscrowDesk" "buffered" "I") (by decide +kernel)) (fun _ h9 => h9) rfl dX9_appendBytes_8 ?_
  refine lv_aload_n hx hb dX9_appendBytes_11 rfl (lv_at hl 1 rfl) ?_
  refine va_get (D := D) (ci := 10) (v := .ref b0) (C := RX9) (T := TX9) (N := 9) hx hb hts inX9 hown hK hP 0 rfl rfl 0 (by decide) (hts (.fieldLink RX9 9 "EscrowDesk" "buffer" "[C") (by decide +kernel)) (fun _ h9 => h9) rfl dX9_appendBytes_12 ?_
  refine va_alen (v := 700) hx hb hK hP 1 2 rfl rfl rfl dX9_appendBytes_15 ?_
  refine lv_icmp_ge (tgt := 46) hx hb dX9_appendBytes_16 (by decide) (fun c9 => absurd c9 (nI_ge (a := nb) (b := 700) (show nb < 700 by omega) (by omega))) (fun c2 => ?_)
  refine lv_aload_n hx hb dX9_appendBytes_19 rfl (lv_at hl 1 rfl) ?_
  refine va_get (D := D) (ci := 10) (v := .ref b0) (C := RX9) (T := TX9) (N := 9) hx hb hts inX9 hown hK hP 0 rfl rfl 0 (by decide) (hts (.fieldLink RX9 9 "EscrowDesk" "buffer" "[C") (by decide +kernel)) (fun _ h9 => h9) rfl dX9_appendBytes_20 ?_
  refine lv_aload_n hx hb dX9_appendBytes_23 rfl (lv_at hl 1 rfl) ?_
  refine va_get (D := D) (ci := 10) (v := .int (nI nb)) (C := RX9) (T := TX9) (N := 9) hx hb hts inX9 hown hK hP 0 rfl rfl 1 (by decide) (hts (.fieldLink RX9 59 "EscrowDesk" "buffered" "I") (by decide +kernel)) (fun _ h9 => h9) rfl dX9_appendBytes_24 ?_
  refine lv_iload_n hx hb dX9_appendBytes_27 rfl (lv_at hl 2 rfl) ?_
  refine lv_iload_n hx hb dX9_appendBytes_28 rfl (lv_at hl 0 rfl) ?_
  refine lv_iushr hx hb dX9_appendBytes_29 rfl ?_
  refine lv_topi (fun yn3 eyn3 => ?_)
  refine lv_sipush (v := 255) hx hb dX9_appendBytes_30 (by decide) ?_
  refine lv_iand hx hb dX9_appendBytes_33 ?_
  refine lv_topi (fun yn4 eyn4 => ?_)
  refine lv_i2c hx hb dX9_appendBytes_34 rfl ?_
  refine lv_topi (fun yn5 eyn5 => ?_)
  refine va_cast hx hb hK hP hD hS 1 2 rfl rfl (vp_in_nI (n := nb) (N := 700) (show nb < 700 by omega) (by decide)) dX9_appendBytes_35 (fun H locs hP hD hS => ?_)
  obtain ⟨hP, hD⟩ : PDq D A [(oX9 h0 b0 (nI nb) p0 u0 r0 a0 t0 s0 o0), (b0, .inl (cA 2, 700, .inl (upd fb (((nI nb)).toNatClampNeg) (vp_nar .char yn5))))] H := ⟨hP, hD⟩
  have hn7 : Upp nb (vp_nar .char yn5) fb (upd fb (((nI nb)).toNatClampNeg) (vp_nar .char yn5)) := Upp.of (by omega)
  have hn8 : Rbb (upd fb (((nI nb)).toNatClampNeg) (vp_nar .char yn5)) := rfl
  generalize (upd fb (((nI nb)).toNatClampNeg) (vp_nar .char yn5)) = fn6 at hP hD hn7 hn8
  obtain ⟨hP, hD⟩ : PDq D A [(oX9 h0 b0 (nI nb) p0 u0 r0 a0 t0 s0 o0), (b0, .inl (cA 2, 700, .inl fn6))] H := ⟨hP, hD⟩
  refine lv_aload_n hx hb dX9_appendBytes_36 rfl (lv_at hl 1 rfl) ?_
  refine lv_dup hx hb dX9_appendBytes_37 rfl ?_
  refine va_get (D := D) (ci := 10) (v := .int (nI nb)) (C := RX9) (T := TX9) (N := 9) hx hb hts inX9 hown hK hP 0 rfl rfl 1 (by decide) (hts (.fieldLink RX9 59 "EscrowDesk" "buffered" "I") (by decide +kernel)) (fun _ h9 => h9) rfl dX9_appendBytes_38 ?_
  refine lv_iconst (v := 1) hx hb dX9_appendBytes_41 (by decide) ?_
  refine lv_iadd hx hb dX9_appendBytes_42 ?_
  refine lv_topi (fun yn9 eyn9 => ?_)
  obtain rfl : yn9 = (nI (nb + 1)) := eyn9.trans (nI_add nb 1)
  refine va_put (D := D) (ci := 10) (v := .int (nI (nb + 1))) (ty := .int) (C := RX9) (T := TX9) (N := 9) hx hb hts inX9 tyX9 tyX9_ok nmX9 hown hK hP hD hS 0 rfl rfl 1 (by decide) (hts (.fieldLink RX9 59 "EscrowDesk" "buffered" "I") (by decide +kernel)) (fun _ h9 => h9) rfl (by decide +kernel) rfl rfl (Nat.le_of_ble_eq_true rfl) dX9_appendBytes_43 (fun H locs hP hD hS => ?_)
  obtain ⟨hP, hD⟩ : PDq D A [(oX9 h0 b0 (nI (nb + 1)) p0 u0 r0 a0 t0 s0 o0), (b0, .inl (cA 2, 700, .inl fn6))] H := ⟨hP, hD⟩
  refine lv_iinc (v := 16) (lv' := [(2, .int 16), (0, .ref h0), (1, .int w)]) hx hb dX9_appendBytes_46 hl (k := 0) rfl (by first | rfl | decide +kernel) (by decide) rfl (fun ls hl => ?_)
  refine lv_goto (tgt := 3) hx hb dX9_appendBytes_49 (by decide) ?_
  refine lv_iload_n hx hb dX9_appendBytes_3 rfl (lv_at hl 0 rfl) ?_
  refine lv_if_lt (tgt := 52) hx hb dX9_appendBytes_4 (by decide) (fun c9 => absurd c9 (by decide)) (fun c10 => ?_)
  refine lv_aload_n hx hb dX9_appendBytes_7 rfl (lv_at hl 1 rfl) ?_
  refine va_get (D := D) (ci := 10) (v := .int (nI (nb + 1))) (C := RX9) (T := TX9) (N := 9) hx hb hts inX9 hown hK hP 0 rfl rfl 1 (by decide) (hts (.fieldLink RX9 59 "EscrowDesk" "buffered" "I") (by decide +kernel)) (fun _ h9 => h9) rfl dX9_appendBytes_8 ?_
  refine lv_aload_n hx hb dX9_appendBytes_11 rfl (lv_at hl 1 rfl) ?_
  refine va_get (D := D) (ci := 10) (v := .ref b0) (C := RX9) (T := TX9) (N := 9) hx hb hts inX9 hown hK hP 0 rfl rfl 0 (by decide) (hts (.fieldLink RX9 9 "EscrowDesk" "buffer" "[C") (by decide +kernel)) (fun _ h9 => h9) rfl dX9_appendBytes_12 ?_
  refine va_alen (v := 700) hx hb hK hP 1 2 rfl rfl rfl dX9_appendBytes_15 ?_
  refine lv_icmp_ge (tgt := 46) hx hb dX9_appendBytes_16 (by decide) (fun c9 => absurd c9 (nI_ge (a := (nb + 1)) (b := 700) (show (nb + 1) < 700 by omega) (by omega))) (fun c11 => ?_)
  refine lv_aload_n hx hb dX9_appendBytes_19 rfl (lv_at hl 1 rfl) ?_
  refine va_get (D := D) (ci := 10) (v := .ref b0) (C := RX9) (T := TX9) (N := 9) hx hb hts inX9 hown hK hP 0 rfl rfl 0 (by decide) (hts (.fieldLink RX9 9 "EscrowDesk" "buffer" "[C") (by decide +kernel)) (fun _ h9 => h9) rfl dX9_appendBytes_20 ?_
  refine lv_aload_n hx hb dX9_appendBytes_23 rfl (lv_at hl 1 rfl) ?_
  refine va_get (D := D) (ci := 10) (v := .int (nI (nb + 1))) (C := RX9) (T := TX9) (N := 9) hx hb hts inX9 hown hK hP 0 rfl rfl 1 (by decide) (hts (.fieldLink RX9 59 "EscrowDesk" "buffered" "I") (by decide +kernel)) (fun _ h9 => h9) rfl dX9_appendBytes_24 ?_
  refine lv_iload_n hx hb dX9_appendBytes_27 rfl (lv_at hl 2 rfl) ?_
  refine lv_iload_n hx hb dX9_appendBytes_28 rfl (lv_at hl 0 rfl) ?_
  refine lv_iushr hx hb dX9_appendBytes_29 rfl ?_
  refine lv_topi (fun yn12 eyn12 => ?_)
  refine lv_sipush (v := 255) hx hb dX9_appendBytes_30 (by decide) ?_
  refine lv_iand hx hb dX9_appendBytes_33 ?_
  refine lv_topi (fun yn13 eyn13 => ?_)
  refine lv_i2c hx hb dX9_appendBytes_34 rfl ?_
  refine lv_topi (fun yn14 eyn14 => ?_)
  refine va_cast hx hb hK hP hD hS 1 2 rfl rfl (vp_in_nI (n := (nb + 1)) (N := 700) (show (nb + 1) < 700 by omega) (by decide)) dX9_appendBytes_35 (fun H locs hP hD hS => ?_)
  obtain ⟨hP, hD⟩ : PDq D A [(oX9 h0 b0 (nI (nb + 1)) p0 u0 r0 a0 t0 s0 o0), (b0, .inl (cA 2, 700, .inl (upd fn6 (((nI (nb + 1))).toNatClampNeg) (vp_nar .char yn14))))] H := ⟨hP, hD⟩
  have hn16 : Upp (nb + 1) (vp_nar .char yn14) fn6 (upd fn6 (((nI (nb + 1))).toNatClampNeg) (vp_nar .char yn14)) := Upp.of (by omega)
  have hn17 : Rbb (upd fn6 (((nI (nb + 1))).toNatClampNeg) (vp_nar .char yn14)) := rfl
  generalize (upd fn6 (((nI (nb + 1))).toNatClampNeg) (vp_nar .char yn14)) = fn15 at hP hD hn16 hn17
  obtain ⟨hP, hD⟩ : PDq D A [(oX9 h0 b0 (nI (nb + 1)) p0 u0 r0 a0 t0 s0 o0), (b0, .inl (cA 2, 700, .inl fn15))] H := ⟨hP, hD⟩
  refine lv_aload_n hx hb dX9_appendBytes_36 rfl (lv_at hl 1 rfl) ?_
  refine lv_dup hx hb dX9_appendBytes_37 rfl ?_
  refine va_get (D := D) (ci := 10) (v := .int (nI (nb + 1))) (C := RX9) (T := TX9) (N := 9) hx hb hts inX9 hown hK hP 0 rfl rfl 1 (by decide) (hts (.fieldLink RX9 59 "EscrowDesk" "buffered" "I") (by decide +kernel)) (fun _ h9 => h9) rfl dX9_appendBytes_38 ?_
  refine lv_iconst (v := 1) hx hb dX9_appendBytes_41 (by decide) ?_
  refine lv_iadd hx hb dX9_appendBytes_42 ?_
  refine lv_topi (fun yn18 eyn18 => ?_)
  obtain rfl : yn18 = (nI ((nb + 1) + 1)) := eyn18.trans (nI_add (nb + 1) 1)
  refine va_put (D := D) (ci := 10) (v := .int (nI ((nb + 1) + 1))) (ty := .int) (C := RX9) (T := TX9) (N := 9) hx hb hts inX9 tyX9 tyX9_ok nmX9 hown hK hP hD hS 0 rfl rfl 1 (by decide) (hts (.fieldLink RX9 59 "EscrowDesk" "buffered" "I") (by decide +kernel)) (fun _ h9 => h9) rfl (by decide +kernel) rfl rfl (Nat.le_of_ble_eq_true rfl) dX9_appendBytes_43 (fun H locs hP hD hS => ?_)
  obtain ⟨hP, hD⟩ : PDq D A [(oX9 h0 b0 (nI ((nb + 1) + 1)) p0 u0 r0 a0 t0 s0 o0), (b0, .inl (cA 2, 700, .inl fn15))] H := ⟨hP, hD⟩
  refine lv_iinc (v := 8) (lv' := [(2, .int 8), (0, .ref h0), (1, .int w)]) hx hb dX9_appendBytes_46 hl (k := 0) rfl (by first | rfl | decide +kernel) (by decide) rfl (fun ls hl => ?_)
  refine lv_goto (tgt := 3) hx hb dX9_appendBytes_49 (by decide) ?_
  refine lv_iload_n hx hb dX9_appendBytes_3 rfl (lv_at hl 0 rfl) ?_
  refine lv_if_lt (tgt := 52) hx hb dX9_appendBytes_4 (by decide) (fun c9 => absurd c9 (by decide)) (fun c19 => ?_)
  refine lv_aload_n hx hb dX9_appendBytes_7 rfl (lv_at hl 1 rfl) ?_
  refine va_get (D := D) (ci := 10) (v := .int (nI ((nb + 1) + 1))) (C := RX9) (T := TX9) (N := 9) hx hb hts inX9 hown hK hP 0 rfl rfl 1 (by decide) (hts (.fieldLink RX9 59 "EscrowDesk" "buffered" "I") (by decide +kernel)) (fun _ h9 => h9) rfl dX9_appendBytes_8 ?_
  refine lv_aload_n hx hb dX9_appendBytes_11 rfl (lv_at hl 1 rfl) ?_
  refine va_get (D := D) (ci := 10) (v := .ref b0) (C := RX9) (T := TX9) (N := 9) hx hb hts inX9 hown hK hP 0 rfl rfl 0 (by decide) (hts (.fieldLink RX9 9 "EscrowDesk" "buffer" "[C") (by decide +kernel)) (fun _ h9 => h9) rfl dX9_appendBytes_12 ?_
  refine va_alen (v := 700) hx hb hK hP 1 2 rfl rfl rfl dX9_appendBytes_15 ?_
  refine lv_icmp_ge (tgt := 46) hx hb dX9_appendBytes_16 (by decide) (fun c9 => absurd c9 (nI_ge (a := ((nb + 1) + 1)) (b := 700) (show ((nb + 1) + 1) < 700 by omega) (by omega))) (fun c20 => ?_)
  refine lv_aload_n hx hb dX9_appendBytes_19 rfl (lv_at hl 1 rfl) ?_
  refine va_get (D := D) (ci := 10) (v := .ref b0) (C := RX9) (T := TX9) (N := 9) hx hb hts inX9 hown hK hP 0 rfl rfl 0 (by decide) (hts (.fieldLink RX9 9 "EscrowDesk" "buffer" "[C") (by decide +kernel)) (fun _ h9 => h9) rfl dX9_appendBytes_20 ?_
  refine lv_aload_n hx hb dX9_appendBytes_23 rfl (lv_at hl 1 rfl) ?_
  refine va_get (D := D) (ci := 10) (v := .int (nI ((nb + 1) + 1))) (C := RX9) (T := TX9) (N := 9) hx hb hts inX9 hown hK hP 0 rfl rfl 1 (by decide) (hts (.fieldLink RX9 59 "EscrowDesk" "buffered" "I") (by decide +kernel)) (fun _ h9 => h9) rfl dX9_appendBytes_24 ?_
  refine lv_iload_n hx hb dX9_appendBytes_27 rfl (lv_at hl 2 rfl) ?_
  refine lv_iload_n hx hb dX9_appendBytes_28 rfl (lv_at hl 0 rfl) ?_
  refine lv_iushr hx hb dX9_appendBytes_29 rfl ?_
  refine lv_topi (fun yn21 eyn21 => ?_)
  refine lv_sipush (v := 255) hx hb dX9_appendBytes_30 (by decide) ?_
  refine lv_iand hx hb dX9_appendBytes_33 ?_
  refine lv_topi (fun yn22 eyn22 => ?_)
  refine lv_i2c hx hb dX9_appendBytes_34 rfl ?_
  refine lv_topi (fun yn23 eyn23 => ?_)
  refine va_cast hx hb hK hP hD hS 1 2 rfl rfl (vp_in_nI (n := ((nb + 1) + 1)) (N := 700) (show ((nb + 1) + 1) < 700 by omega) (by decide)) dX9_appendBytes_35 (fun H locs hP hD hS => ?_)
  obtain ⟨hP, hD⟩ : PDq D A [(oX9 h0 b0 (nI ((nb + 1) + 1)) p0 u0 r0 a0 t0 s0 o0), (b0, .inl (cA 2, 700, .inl (upd fn15 (((nI ((nb + 1) + 1))).toNatClampNeg) (vp_nar .char yn23))))] H := ⟨hP, hD⟩
  have hn25 : Upp ((nb + 1) + 1) (vp_nar .char yn23) fn15 (upd fn15 (((nI ((nb + 1) + 1))).toNatClampNeg) (vp_nar .char yn23)) := Upp.of (by omega)
  have hn26 : Rbb (upd fn15 (((nI ((nb + 1) + 1))).toNatClampNeg) (vp_nar .char yn23)) := rfl
  generalize (upd fn15 (((nI ((nb + 1) + 1))).toNatClampNeg) (vp_nar .char yn23)) = fn24 at hP hD hn25 hn26
  obtain ⟨hP, hD⟩ : PDq D A [(oX9 h0 b0 (nI ((nb + 1) + 1)) p0 u0 r0 a0 t0 s0 o0), (b0, .inl (cA 2, 700, .inl fn24))] H := ⟨hP, hD⟩
  refine lv_aload_n hx hb dX9_appendBytes_36 rfl (lv_at hl 1 rfl) ?_
  refine lv_dup hx hb dX9_appendBytes_37 rfl ?_
  refine va_get (D := D) (ci := 10) (v := .int (nI ((nb + 1) + 1))) (C := RX9) (T := TX9) (N := 9) hx hb hts inX9 hown hK hP 0 rfl rfl 1 (by decide) (hts (.fieldLink RX9 59 "EscrowDesk" "buffered" "I") (by decide +kernel)) (fun _ h9 => h9) rfl dX9_appendBytes_38 ?_
  refine lv_iconst (v := 1) hx hb dX9_appendBytes_41 (by decide) ?_
  refine lv_iadd hx hb dX9_appendBytes_42 ?_
  refine lv_topi (fun yn27 eyn27 => ?_)
  obtain rfl : yn27 = (nI (((nb + 1) + 1) + 1)) := eyn27.trans (nI_add ((nb + 1) + 1) 1)
  refine va_put (D := D) (ci := 10) (v := .int (nI (((nb + 1) + 1) + 1))) (ty := .int) (C := RX9) (T := TX9) (N := 9) hx hb hts inX9 tyX9 tyX9_ok nmX9 hown hK hP hD hS 0 rfl rfl 1 (by decide) (hts (.fieldLink RX9 59 "EscrowDesk" "buffered" "I") (by decide +kernel)) (fun _ h9 => h9) rfl (by decide +kernel) rfl rfl (Nat.le_of_ble_eq_true rfl) dX9_appendBytes_43 (fun H locs hP hD hS => ?_)
  obtain ⟨hP, hD⟩ : PDq D A [(oX9 h0 b0 (nI (((nb + 1) + 1) + 1)) p0 u0 r0 a0 t0 s0 o0), (b0, .inl (cA 2, 700, .inl fn24))] H := ⟨hP, hD⟩
  refine lv_iinc (v := 0) (lv' := [(2, .int 0), (0, .ref h0), (1, .int w)]) hx hb dX9_appendBytes_46 hl (k := 0) rfl (by first | rfl | decide +kernel) (by decide) rfl (fun ls hl => ?_)
  refine lv_goto (tgt := 3) hx hb dX9_appendBytes_49 (by decide) ?_
  refine lv_iload_n hx hb dX9_appendBytes_3 rfl (lv_at hl 0 rfl) ?_
  refine lv_if_lt (tgt := 52) hx hb dX9_appendBytes_4 (by decide) (fun c9 => absurd c9 (by decide)) (fun c28 => ?_)
  refine lv_aload_n hx hb dX9_appendBytes_7 rfl (lv_at hl 1 rfl) ?_
  refine va_get (D := D) (ci := 10) (v := .int (nI (((nb + 1) + 1) + 1))) (C := RX9) (T := TX9) (N := 9) hx hb hts inX9 hown hK hP 0 rfl rfl 1 (by decide) (hts (.fieldLink RX9 59 "EscrowDesk" "buffered" "I") (by decide +kernel)) (fun _ h9 => h9) rfl dX9_appendBytes_8 ?_
  refine lv_aload_n hx hb dX9_appendBytes_11 rfl (lv_at hl 1 rfl) ?_
  refine va_get (D := D) (ci := 10) (v := .ref b0) (C := RX9) (T := TX9) (N := 9) hx hb hts inX9 hown hK hP 0 rfl rfl 0 (by decide) (hts (.fieldLink RX9 9 "EscrowDesk" "buffer" "[C") (by decide +kernel)) (fun _ h9 => h9) rfl dX9_appendBytes_12 ?_
  refine va_alen (v := 700) hx hb hK hP 1 2 rfl rfl rfl dX9_appendBytes_15 ?_
  refine lv_icmp_ge (tgt := 46) hx hb dX9_appendBytes_16 (by decide) (fun c9 => absurd c9 (nI_ge (a := (((nb + 1) + 1) + 1)) (b := 700) (show (((nb + 1) + 1) + 1) < 700 by omega) (by omega))) (fun c29 => ?_)
  refine lv_aload_n hx hb dX9_appendBytes_19 rfl (lv_at hl 1 rfl) ?_
  refine va_get (D := D) (ci := 10) (v := .ref b0) (C := RX9) (T := TX9) (N := 9) hx hb hts inX9 hown hK hP 0 rfl rfl 0 (by decide) (hts (.fieldLink RX9 9 "EscrowDesk" "buffer" "[C") (by decide +kernel)) (fun _ h9 => h9) rfl dX9_appendBytes_20 ?_
  refine lv_aload_n hx hb dX9_appendBytes_23 rfl (lv_at hl 1 rfl) ?_
  refine va_get (D := D) (ci := 10) (v := .int (nI (((nb + 1) + 1) + 1))) (C := RX9) (T := TX9) (N := 9) hx hb hts inX9 hown hK hP 0 rfl rfl 1 (by decide) (hts (.fieldLink RX9 59 "EscrowDesk" "buffered" "I") (by decide +kernel)) (fun _ h9 => h9) rfl dX9_appendBytes_24 ?_
  refine lv_iload_n hx hb dX9_appendBytes_27 rfl (lv_at hl 2 rfl) ?_
  refine lv_iload_n hx hb dX9_appendBytes_28 rfl (lv_at hl 0 rfl) ?_
  refine lv_iushr hx hb dX9_appendBytes_29 rfl ?_
  refine lv_topi (fun yn30 eyn30 => ?_)
  refine lv_sipush (v := 255) hx hb dX9_appendBytes_30 (by decide) ?_
  refine lv_iand hx hb dX9_appendBytes_33 ?_
  refine lv_topi (fun yn31 eyn31 => ?_)
  refine lv_i2c hx hb dX9_appendBytes_34 rfl ?_
  refine lv_topi (fun yn32 eyn32 => ?_)
  refine va_cast hx hb hK hP hD hS 1 2 rfl rfl (vp_in_nI (n := (((nb + 1) + 1) + 1)) (N := 700) (show (((nb + 1) + 1) + 1) < 700 by omega) (by decide)) dX9_appendBytes_35 (fun H locs hP hD hS => ?_)
  obtain ⟨hP, hD⟩ : PDq D A [(oX9 h0 b0 (nI (((nb + 1) + 1) + 1)) p0 u0 r0 a0 t0 s0 o0), (b0, .inl (cA 2, 700, .inl (upd fn24 (((nI (((nb + 1) + 1) + 1))).toNatClampNeg) (vp_nar .char yn32))))] H := ⟨hP, hD⟩
  have hn34 : Upp (((nb + 1) + 1) + 1) (vp_nar .char yn32) fn24 (upd fn24 (((nI (((nb + 1) + 1) + 1))).toNatClampNeg) (vp_nar .char yn32)) := Upp.of (by omega)
  have hn35 : Rbb (upd fn24 (((nI (((nb + 1) + 1) + 1))).toNatClampNeg) (vp_nar .char yn32)) := rfl
  generalize (upd fn24 (((nI (((nb + 1) + 1) + 1))).toNatClampNeg) (vp_nar .char yn32)) = fn33 at hP hD hn34 hn35
  obtain ⟨hP, hD⟩ : PDq D A [(oX9 h0 b0 (nI (((nb + 1) + 1) + 1)) p0 u0 r0 a0 t0 s0 o0), (b0, .inl (cA 2, 700, .inl fn33))] H := ⟨hP, hD⟩
  refine lv_aload_n hx hb dX9_appendBytes_36 rfl (lv_at hl 1 rfl) ?_
  refine lv_dup hx hb dX9_appendBytes_37 rfl ?_
  refine va_get (D := D) (ci := 10) (v := .int (nI (((nb + 1) + 1) + 1))) (C := RX9) (T := TX9) (N := 9) hx hb hts inX9 hown hK hP 0 rfl rfl 1 (by decide) (hts (.fieldLink RX9 59 "EscrowDesk" "buffered" "I") (by decide +kernel)) (fun _ h9 => h9) rfl dX9_appendBytes_38 ?_
  refine lv_iconst (v := 1) hx hb dX9_appendBytes_41 (by decide) ?_
  refine lv_iadd hx hb dX9_appendBytes_42 ?_
  refine lv_topi (fun yn36 eyn36 => ?_)
  obtain rfl : yn36 = (nI ((((nb + 1) + 1) + 1) + 1)) := eyn36.trans (nI_add (((nb + 1) + 1) + 1) 1)
  refine va_put (D := D) (ci := 10) (v := .int (nI ((((nb + 1) + 1) + 1) + 1))) (ty := .int) (C := RX9) (T := TX9) (N := 9) hx hb hts inX9 tyX9 tyX9_ok nmX9 hown hK hP hD hS 0 rfl rfl 1 (by decide) (hts (.fieldLink RX9 59 "EscrowDesk" "buffered" "I") (by decide +kernel)) (fun _ h9 => h9) rfl (by decide +kernel) rfl rfl (Nat.le_of_ble_eq_true rfl) dX9_appendBytes_43 (fun H locs hP hD hS => ?_)
  obtain ⟨hP, hD⟩ : PDq D A [(oX9 h0 b0 (nI ((((nb + 1) + 1) + 1) + 1)) p0 u0 r0 a0 t0 s0 o0), (b0, .inl (cA 2, 700, .inl fn33))] H := ⟨hP, hD⟩
  refine lv_iinc (v := (-8)) (lv' := [(2, .int (-8)), (0, .ref h0), (1, .int w)]) hx hb dX9_appendBytes_46 hl (k := 0) rfl (by first | rfl | decide +kernel) (by decide) rfl (fun ls hl => ?_)
  refine lv_goto (tgt := 3) hx hb dX9_appendBytes_49 (by decide) ?_
  refine lv_iload_n hx hb dX9_appendBytes_3 rfl (lv_at hl 0 rfl) ?_
  refine lv_if_lt (tgt := 52) hx hb dX9_appendBytes_4 (by decide) (fun c37 => ?_) (fun c9 => absurd c9 (by decide))
  obtain ⟨hP9, hD9⟩ := PDq.sub (ws' := [(oX9 h0 b0 (nI ((((nb + 1) + 1) + 1) + 1)) p0 u0 r0 a0 t0 s0 o0), (b0, .inl (cA 2, 700, .inl fn33))]) hP hD [0, 1] (by decide) rfl
  refine W.widen (k := 0) (n := 0) (Nat.le_of_ble_eq_true rfl) (Nat.le_of_ble_eq_true rfl) ?_
  exact (W.vret hx hb hr (fun t ht hW => ⟨⟨(), rfl, trivial, ((((nb + 1) + 1) + 1) + 1), fn33, (by omega), (A4.of hn7 hn16 hn25 hn34 (bw_c eyn3 eyn4 eyn5) (bw_c eyn12 eyn13 eyn14) (bw_c eyn21 eyn22 eyn23) (bw_c eyn30 eyn31 eyn32)), by rw [ht]; exact hP9, hD9⟩, hS.F ht⟩) hS.2.2 dX9_appendBytes_52)

set_option maxHeartbeats 4000000 in
set_option maxRecDepth 100000 in
/-- reference: append -/
theorem y_append (l : Launch) (D : va_G) (cA : Nat → ClassId) (sa : Nat → Nat) (w0 : Nat) (ed : Nat) (nb : Nat) (ol : Nat) (v0 : Nat) (v1 : Nat) (v2 : Nat) (v3 : Nat) (v4 : Nat) (v9 : Nat) (v13 : Nat) (v27 : Nat) (v28 : Nat) (v29 : Nat) (v30 : Nat) (v31 : Nat) (v32 : Nat) (v33 : Nat) (v34 : Nat) (v35 : Nat) (v36 : Nat) (v37 : Nat) (g8 : Int32) (g11 : Int32) (g12 : Int32) (g14 : Int32) (g15 : Int32) (g16 : Int32) (g17 : Int32) (g18 : Int32) (g19 : Int32) (g20 : Int32) (g21 : Int32) (g22 : Int32) (g23 : Int32) (g24 : Int32) (g26 : Int32) (g5 : Int64) (g6 : Int64) (g25 : Int64) (w : Int32) (fb : Nat → Int32) (sz : Nat) (hnb : nb + 4 ≤ 700) : Met l yX10_append wsX10_append ({ frames := 0, cells := 0, slots := 0, locals := 0 }) (va_Pc [.ref w0, .int w] (Wd D cA sa [(oX10 w0 v0 v1 v2 v3 v4 g5 g6 (nI ed) g8 v9 (nI nb) g11 g12 v13 g14 g15 g16 g17 g18 g19 g20 g21 g22 g23 g24 g25 g26 v27 v28 v29 v30 v31 v32 v33 v34 v35 v36 v37 (nI ol)), (v9, .inl (cA 0, 700, .inl fb))] sz)) (va_Qv (fun _ : Unit => True) (fun (_ : Unit) t => ∃ nb2 : Nat, ∃ zb : Nat → Int32, nb2 = nb + 4 ∧ A4 nb w fb zb ∧ Wq D (va_A [(oX10 w0 v0 v1 v2 v3 v4 g5 g6 (nI ed) g8 v9 (nI nb) g11 g12 v13 g14 g15 g16 g17 g18 g19 g20 g21 g22 g23 g24 g25 g26 v27 v28 v29 v30 v31 v32 v33 v34 v35 v36 v37 (nI ol)), (v9, .inl (cA 0, 700, .inl fb))] sz) [(oX10 w0 v0 v1 v2 v3 v4 g5 g6 (nI ed) g8 v9 (nI nb2) g11 g12 v13 g14 g15 g16 g17 g18 g19 g20 g21 g22 g23 g24 g25 g26 v27 v28 v29 v30 v31 v32 v33 v34 v35 v36 v37 (nI ol)), (v9, .inl (cA 0, 700, .inl zb))] t) (va_A [(oX10 w0 v0 v1 v2 v3 v4 g5 g6 (nI ed) g8 v9 (nI nb) g11 g12 v13 g14 g15 g16 g17 g18 g19 g20 g21 g22 g23 g24 g25 g26 v27 v28 v29 v30 v31 v32 v33 v34 v35 v36 v37 (nI ol)), (v9, .inl (cA 0, 700, .inl fb))] sz)) 0 0 (va_A [(oX10 w0 v0 v1 v2 v3 v4 g5 g6 (nI ed) g8 v9 (nI nb) g11 g12 v13 g14 g15 g16 g17 g18 g19 g20 g21 g22 g23 g24 g25 g26 v27 v28 v29 v30 v31 v32 v33 v34 v35 v36 v37 (nI ol)), (v9, .inl (cA 0, 700, .inl fb))] sz) := by
  refine Met.ofW (cc := cX10_append) (maxL := 3) (ret := none) (by decide) rfl ?_
  intro p e s m args below meth c s₁ B hml hv
  obtain ⟨rfl, hsz, hP, hK, hD0, hC, hZ⟩ := hv
  have hx := B.exec
  have hb := B.bytes
  have hr := B.returns
  have hts := atoms_spec (ws := wsX10_append) B.pre
  have hown : s.vm.findClass RX10 = some m.cls := findClass_of_methodNamed B.named
  have hlocks := B.notSynchronized
  subst hsz
  have hD := hD0.self (sz := s.heap.size)
  generalize hAe : va_A [(oX10 w0 v0 v1 v2 v3 v4 g5 g6 (nI ed) g8 v9 (nI nb) g11 g12 v13 g14 g15 g16 g17 g18 g19 g20 g21 g22 g23 g24 g25 g26 v27 v28 v29 v30 v31 v32 v33 v34 v35 v36 v37 (nI ol)), (v9, .inl (cA 0, 700, .inl fb))] s.heap.size = A at hD hZ ⊢
  have hA : ∀ q : Nat, s.heap.size ≤ q → A q := fun q h => by rw [← hAe]; exact Or.inr h
  have hS : va_S A s.heap s.heap [] := va_S.rf
  have hP : va_P D vwCl [(oX10 w0 v0 v1 v2 v3 v4 g5 g6 (nI ed) g8 v9 (nI nb) g11 g12 v13 g14 g15 g16 g17 g18 g19 g20 g21 g22 g23 g24 g25 g26 v27 v28 v29 v30 v31 v32 v33 v34 v35 v36 v37 (nI ol)), (v9, .inl (cA 0, 700, .inl fb))] s.heap := hP
  have hl := lv_entry ([.ref w0, .int w]) (n := 3) (Nat.le_of_ble_eq_true rfl)
  rw [lg_entry_eq]
  generalize (lg_sl ([.ref w0, .int w]) ++ List.replicate (3 - (lg_sl ([.ref w0, .int w])).length) Slot.unset).toArray = ls at hl ⊢
  have hl : lv_has ls 3 [(0, .ref w0), (1, .int w)] := hl
  have inX10 : ∀ w ∈ u_ws RX10 TX10 39, w ∈ wsX10_append := by decide +kernel
  refine lv_bipush (v := 24) hx hb dX10_append_0 (by decide) ?_
  refine lv_istore_n (lv' := [(2, .int 24), (0, .ref w0), (1, .int w)]) hx hb dX10_append_2 rfl hl (by decide) rfl (fun ls hl => ?_)
  refine lv_iload_n hx hb dX10_append_3 rfl (lv_at hl 0 rfl) ?_
  refine lv_if_lt (tgt := 39) hx hb dX10_append_4 (by decide) (fun c9 => absurd c9 (by decide)) (fun c1 => ?_)
  refine lv_aload_n hx hb dX10_append_7 rfl (lv_at hl 1 rfl) ?_
  refine va_get (D := D) (ci := 11) (v := .ref v9) (C := RX10) (T := TX10) (N := 39) hx hb hts inX10 hown hK hP 0 rfl rfl 9 (by decide) (hts (.fieldLink RX10 26 "EscrowDeskModel" "buffer" "[I") (by decide +kernel)) (fun _ h9 => h9) rfl dX10_append_8 ?_
  refine lv_aload_n hx hb dX10_append_11 rfl (lv_at hl 1 rfl) ?_
  refine va_get (D := D) (ci := 11) (v := .int (nI nb)) (C := RX10) (T := TX10) (N := 39) hx hb hts inX10 hown hK hP 0 rfl rfl 10 (by decide) (hts (.fieldLink RX10 90 "EscrowDeskModel" "buffered" "I") (by decide +kernel)) (fun _ h9 => h9) rfl dX10_append_12 ?_
  refine lv_iload_n hx hb dX10_append_15 rfl (lv_at hl 2 rfl) ?_
  refine lv_iload_n hx hb dX10_append_16 rfl (lv_at hl 0 rfl) ?_
  refine lv_iushr hx hb dX10_append_17 rfl ?_
  refine lv_topi (fun yn2 eyn2 => ?_)
  refine lv_sipush (v := 255) hx hb dX10_append_18 (by decide) ?_
  refine lv_iand hx hb dX10_append_21 ?_
  refine lv_topi (fun yn3 eyn3 => ?_)
  refine va_iast hx hb hK hP hD hS 1 0 rfl rfl (vp_in_nI (n := nb) (N := 700) (show nb < 700 by omega) (by decide)) dX10_append_22 (fun H locs hP hD hS => ?_)
  obtain ⟨hP, hD⟩ : PDq D A [(oX10 w0 v0 v1 v2 v3 v4 g5 g6 (nI ed) g8 v9 (nI nb) g11 g12 v13 g14 g15 g16 g17 g18 g19 g20 g21 g22 g23 g24 g25 g26 v27 v28 v29 v30 v31 v32 v33 v34 v35 v36 v37 (nI ol)), (v9, .inl (cA 0, 700, .inl (upd fb (((nI nb)).toNatClampNeg) yn3)))] H := ⟨hP, hD⟩
  have hn5 : Upp nb yn3 fb (upd fb (((nI nb)).toNatClampNeg) yn3) := Upp.of (by omega)
  have hn6 : Rbb (upd fb (((nI nb)).toNatClampNeg) yn3) := rfl
  generalize (upd fb (((nI nb)).toNatClampNeg) yn3) = fn4 at hP hD hn5 hn6
  obtain ⟨hP, hD⟩ : PDq D A [(oX10 w0 v0 v1 v2 v3 v4 g5 g6 (nI ed) g8 v9 (nI nb) g11 g12 v13 g14 g15 g16 g17 g18 g19 g20 g21 g22 g23 g24 g25 g26 v27 v28 v29 v30 v31 v32 v33 v34 v35 v36 v37 (nI ol)), (v9, .inl (cA 0, 700, .inl fn4))] H := ⟨hP, hD⟩
  refine lv_aload_n hx hb dX10_append_23 rfl (lv_at hl 1 rfl) ?_
  refine lv_dup hx hb dX10_append_24 rfl ?_
  refine va_get (D := D) (ci := 11) (v := .int (nI nb)) (C := RX10) (T := TX10) (N := 39) hx hb hts inX10 hown hK hP 0 rfl rfl 10 (by decide) (hts (.fieldLink RX10 90 "EscrowDeskModel" "buffered" "I") (by decide +kernel)) (fun _ h9 => h9) rfl dX10_append_25 ?_
  refine lv_iconst (v := 1) hx hb dX10_append_28 (by decide) ?_
  refine lv_iadd hx hb dX10_append_29 ?_
  refine lv_topi (fun yn7 eyn7 => ?_)
  obtain rfl : yn7 = (nI (nb + 1)) := eyn7.trans (nI_add nb 1)
  refine va_put (D := D) (ci := 11) (v := .int (nI (nb + 1))) (ty := .int) (C := RX10) (T := TX10) (N := 39) hx hb hts inX10 tyX10 tyX10_ok nmX10 hown hK hP hD hS 0 rfl rfl 10 (by decide) (hts (.fieldLink RX10 90 "EscrowDeskModel" "buffered" "I") (by decide +kernel)) (fun _ h9 => h9) rfl (by decide +kernel) rfl rfl (Nat.le_of_ble_eq_true rfl) dX10_append_30 (fun H locs hP hD hS => ?_)
  obtain ⟨hP, hD⟩ : PDq D A [(oX10 w0 v0 v1 v2 v3 v4 g5 g6 (nI ed) g8 v9 (nI (nb + 1)) g11 g12 v13 g14 g15 g16 g17 g18 g19 g20 g21 g22 g23 g24 g25 g26 v27 v28 v29 v30 v31 v32 v33 v34 v35 v36 v37 (nI ol)), (v9, .inl (cA 0, 700, .inl fn4))] H := ⟨hP, hD⟩
  refine lv_iinc (v := 16) (lv' := [(2, .int 16), (0, .ref w0), (1, .int w)]) hx hb dX10_append_33 hl (k := 0) rfl (by first | rfl | decide +kernel) (by decide) rfl (fun ls hl => ?_)
  refine lv_goto (tgt := 3) hx hb dX10_append_36 (by decide) ?_
  refine lv_iload_n hx hb dX10_append_3 rfl (lv_at hl 0 rfl) ?_
  refine lv_if_lt (tgt := 39) hx hb dX10_append_4 (by decide) (fun c9 => absurd c9 (by decide)) (fun c8 => ?_)
  refine lv_aload_n hx hb dX10_append_7 rfl (lv_at hl 1 rfl) ?_
  refine va_get (D := D) (ci := 11) (v := .ref v9) (C := RX10) (T := TX10) (N := 39) hx hb hts inX10 hown hK hP 0 rfl rfl 9 (by decide) (hts (.fieldLink RX10 26 "EscrowDeskModel" "buffer" "[I") (by decide +kernel)) (fun _ h9 => h9) rfl dX10_append_8 ?_
  refine lv_aload_n hx hb dX10_append_11 rfl (lv_at hl 1 rfl) ?_
  refine va_get (D := D) (ci := 11) (v := .int (nI (nb + 1))) (C := RX10) (T := TX10) (N := 39) hx hb hts inX10 hown hK hP 0 rfl rfl 10 (by decide) (hts (.fieldLink RX10 90 "EscrowDeskModel" "buffered" "I") (by decide +kernel)) (fun _ h9 => h9) rfl dX10_append_12 ?_
  refine lv_iload_n hx hb dX10_append_15 rfl (lv_at hl 2 rfl) ?_
  refine lv_iload_n hx hb dX10_append_16 rfl (lv_at hl 0 rfl) ?_
  refine lv_iushr hx hb dX10_append_17 rfl ?_
  refine lv_topi (fun yn9 eyn9 => ?_)
  refine lv_sipush (v := 255) hx hb dX10_append_18 (by decide) ?_
  refine lv_iand hx hb dX10_append_21 ?_
  refine lv_topi (fun yn10 eyn10 => ?_)
  refine va_iast hx hb hK hP hD hS 1 0 rfl rfl (vp_in_nI (n := (nb + 1)) (N := 700) (show (nb + 1) < 700 by omega) (by decide)) dX10_append_22 (fun H locs hP hD hS => ?_)
  obtain ⟨hP, hD⟩ : PDq D A [(oX10 w0 v0 v1 v2 v3 v4 g5 g6 (nI ed) g8 v9 (nI (nb + 1)) g11 g12 v13 g14 g15 g16 g17 g18 g19 g20 g21 g22 g23 g24 g25 g26 v27 v28 v29 v30 v31 v32 v33 v34 v35 v36 v37 (nI ol)), (v9, .inl (cA 0, 700, .inl (upd fn4 (((nI (nb + 1))).toNatClampNeg) yn10)))] H := ⟨hP, hD⟩
  have hn12 : Upp (nb + 1) yn10 fn4 (upd fn4 (((nI (nb + 1))).toNatClampNeg) yn10) := Upp.of (by omega)
  have hn13 : Rbb (upd fn4 (((nI (nb + 1))).toNatClampNeg) yn10) := rfl
  generalize (upd fn4 (((nI (nb + 1))).toNatClampNeg) yn10) = fn11 at hP hD hn12 hn13
  obtain ⟨hP, hD⟩ : PDq D A [(oX10 w0 v0 v1 v2 v3 v4 g5 g6 (nI ed) g8 v9 (nI (nb + 1)) g11 g12 v13 g14 g15 g16 g17 g18 g19 g20 g21 g22 g23 g24 g25 g26 v27 v28 v29 v30 v31 v32 v33 v34 v35 v36 v37 (nI ol)), (v9, .inl (cA 0, 700, .inl fn11))] H := ⟨hP, hD⟩
  refine lv_aload_n hx hb dX10_append_23 rfl (lv_at hl 1 rfl) ?_
  refine lv_dup hx hb dX10_append_24 rfl ?_
  refine va_get (D := D) (ci := 11) (v := .int (nI (nb + 1))) (C := RX10) (T := TX10) (N := 39) hx hb hts inX10 hown hK hP 0 rfl rfl 10 (by decide) (hts (.fieldLink RX10 90 "EscrowDeskModel" "buffered" "I") (by decide +kernel)) (fun _ h9 => h9) rfl dX10_append_25 ?_
  refine lv_iconst (v := 1) hx hb dX10_append_28 (by decide) ?_
  refine lv_iadd hx hb dX10_append_29 ?_
  refine lv_topi (fun yn14 eyn14 => ?_)
  obtain rfl : yn14 = (nI ((nb + 1) + 1)) := eyn14.trans (nI_add (nb + 1) 1)
  refine va_put (D := D) (ci := 11) (v := .int (nI ((nb + 1) + 1))) (ty := .int) (C := RX10) (T := TX10) (N := 39) hx hb hts inX10 tyX10 tyX10_ok nmX10 hown hK hP hD hS 0 rfl rfl 10 (by decide) (hts (.fieldLink RX10 90 "EscrowDeskModel" "buffered" "I") (by decide +kernel)) (fun _ h9 => h9) rfl (by decide +kernel) rfl rfl (Nat.le_of_ble_eq_true rfl) dX10_append_30 (fun H locs hP hD hS => ?_)
  obtain ⟨hP, hD⟩ : PDq D A [(oX10 w0 v0 v1 v2 v3 v4 g5 g6 (nI ed) g8 v9 (nI ((nb + 1) + 1)) g11 g12 v13 g14 g15 g16 g17 g18 g19 g20 g21 g22 g23 g24 g25 g26 v27 v28 v29 v30 v31 v32 v33 v34 v35 v36 v37 (nI ol)), (v9, .inl (cA 0, 700, .inl fn11))] H := ⟨hP, hD⟩
  refine lv_iinc (v := 8) (lv' := [(2, .int 8), (0, .ref w0), (1, .int w)]) hx hb dX10_append_33 hl (k := 0) rfl (by first | rfl | decide +kernel) (by decide) rfl (fun ls hl => ?_)
  refine lv_goto (tgt := 3) hx hb dX10_append_36 (by decide) ?_
  refine lv_iload_n hx hb dX10_append_3 rfl (lv_at hl 0 rfl) ?_
  refine lv_if_lt (tgt := 39) hx hb dX10_append_4 (by decide) (fun c9 => absurd c9 (by decide)) (fun c15 => ?_)
  refine lv_aload_n hx hb dX10_append_7 rfl (lv_at hl 1 rfl) ?_
  refine va_get (D := D) (ci := 11) (v := .ref v9) (C := RX10) (T := TX10) (N := 39) hx hb hts inX10 hown hK hP 0 rfl rfl 9 (by decide) (hts (.fieldLink RX10 26 "EscrowDeskModel" "buffer" "[I") (by decide +kernel)) (fun _ h9 => h9) rfl dX10_append_8 ?_
  refine lv_aload_n hx hb dX10_append_11 rfl (lv_at hl 1 rfl) ?_
  refine va_get (D := D) (ci := 11) (v := .int (nI ((nb + 1) + 1))) (C := RX10) (T := TX10) (N := 39) hx hb hts inX10 hown hK hP 0 rfl rfl 10 (by decide) (hts (.fieldLink RX10 90 "EscrowDeskModel" "buffered" "I") (by decide +kernel)) (fun _ h9 => h9) rfl dX10_append_12 ?_
  refine lv_iload_n hx hb dX10_append_15 rfl (lv_at hl 2 rfl) ?_
  refine lv_iload_n hx hb dX10_append_16 rfl (lv_at hl 0 rfl) ?_
  refine lv_iushr hx hb dX10_append_17 rfl ?_
  refine lv_topi (fun yn16 eyn16 => ?_)
  refine lv_sipush (v := 255) hx hb dX10_append_18 (by decide) ?_
  refine lv_iand hx hb dX10_append_21 ?_
  refine lv_topi (fun yn17 eyn17 => ?_)
  refine va_iast hx hb hK hP hD hS 1 0 rfl rfl (vp_in_nI (n := ((nb + 1) + 1)) (N := 700) (show ((nb + 1) + 1) < 700 by omega) (by decide)) dX10_append_22 (fun H locs hP hD hS => ?_)
  obtain ⟨hP, hD⟩ : PDq D A [(oX10 w0 v0 v1 v2 v3 v4 g5 g6 (nI ed) g8 v9 (nI ((nb + 1) + 1)) g11 g12 v13 g14 g15 g16 g17 g18 g19 g20 g21 g22 g23 g24 g25 g26 v27 v28 v29 v30 v31 v32 v33 v34 v35 v36 v37 (nI ol)), (v9, .inl (cA 0, 700, .inl (upd fn11 (((nI ((nb + 1) + 1))).toNatClampNeg) yn17)))] H := ⟨hP, hD⟩
  have hn19 : Upp ((nb + 1) + 1) yn17 fn11 (upd fn11 (((nI ((nb + 1) + 1))).toNatClampNeg) yn17) := Upp.of (by omega)
  have hn20 : Rbb (upd fn11 (((nI ((nb + 1) + 1))).toNatClampNeg) yn17) := rfl
  generalize (upd fn11 (((nI ((nb + 1) + 1))).toNatClampNeg) yn17) = fn18 at hP hD hn19 hn20
  obtain ⟨hP, hD⟩ : PDq D A [(oX10 w0 v0 v1 v2 v3 v4 g5 g6 (nI ed) g8 v9 (nI ((nb + 1) + 1)) g11 g12 v13 g14 g15 g16 g17 g18 g19 g20 g21 g22 g23 g24 g25 g26 v27 v28 v29 v30 v31 v32 v33 v34 v35 v36 v37 (nI ol)), (v9, .inl (cA 0, 700, .inl fn18))] H := ⟨hP, hD⟩
  refine lv_aload_n hx hb dX10_append_23 rfl (lv_at hl 1 rfl) ?_
  refine lv_dup hx hb dX10_append_24 rfl ?_
  refine va_get (D := D) (ci := 11) (v := .int (nI ((nb + 1) + 1))) (C := RX10) (T := TX10) (N := 39) hx hb hts inX10 hown hK hP 0 rfl rfl 10 (by decide) (hts (.fieldLink RX10 90 "EscrowDeskModel" "buffered" "I") (by decide +kernel)) (fun _ h9 => h9) rfl dX10_append_25 ?_
  refine lv_iconst (v := 1) hx hb dX10_append_28 (by decide) ?_
  refine lv_iadd hx hb dX10_append_29 ?_
  refine lv_topi (fun yn21 eyn21 => ?_)
  obtain rfl : yn21 = (nI (((nb + 1) + 1) + 1)) := eyn21.trans (nI_add ((nb + 1) + 1) 1)
  refine va_put (D := D) (ci := 11) (v := .int (nI (((nb + 1) + 1) + 1))) (ty := .int) (C := RX10) (T := TX10) (N := 39) hx hb hts inX10 tyX10 tyX10_ok nmX10 hown hK hP hD hS 0 rfl rfl 10 (by decide) (hts (.fieldLink RX10 90 "EscrowDeskModel" "buffered" "I") (by decide +kernel)) (fun _ h9 => h9) rfl (by decide +kernel) rfl rfl (Nat.le_of_ble_eq_true rfl) dX10_append_30 (fun H locs hP hD hS => ?_)
  obtain ⟨hP, hD⟩ : PDq D A [(oX10 w0 v0 v1 v2 v3 v4 g5 g6 (nI ed) g8 v9 (nI (((nb + 1) + 1) + 1)) g11 g12 v13 g14 g15 g16 g17 g18 g19 g20 g21 g22 g23 g24 g25 g26 v27 v28 v29 v30 v31 v32 v33 v34 v35 v36 v37 (nI ol)), (v9, .inl (cA 0, 700, .inl fn18))] H := ⟨hP, hD⟩
  refine lv_iinc (v := 0) (lv' := [(2, .int 0), (0, .ref w0), (1, .int w)]) hx hb dX10_append_33 hl (k := 0) rfl (by first | rfl | decide +kernel) (by decide) rfl (fun ls hl => ?_)
  refine lv_goto (tgt := 3) hx hb dX10_append_36 (by decide) ?_
  refine lv_iload_n hx hb dX10_append_3 rfl (lv_at hl 0 rfl) ?_
  refine lv_if_lt (tgt := 39) hx hb dX10_append_4 (by decide) (fun c9 => absurd c9 (by decide)) (fun c22 => ?_)
  refine lv_aload_n hx hb dX10_append_7 rfl (lv_at hl 1 rfl) ?_
  refine va_get (D := D) (ci := 11) (v := .ref v9) (C := RX10) (T := TX10) (N := 39) hx hb hts inX10 hown hK hP 0 rfl rfl 9 (by decide) (hts (.fieldLink RX10 26 "EscrowDeskModel" "buffer" "[I") (by decide +kernel)) (fun _ h9 => h9) rfl dX10_append_8 ?_
  refine lv_aload_n hx hb dX10_append_11 rfl (lv_at hl 1 rfl) ?_
  refine va_get (D := D) (ci := 11) (v := .int (nI (((nb + 1) + 1) + 1))) (C := RX10) (T := TX10) (N := 39) hx hb hts inX10 hown hK hP 0 rfl rfl 10 (by decide) (hts (.fieldLink RX10 90 "EscrowDeskModel" "buffered" "I") (by decide +kernel)) (fun _ h9 => h9) rfl dX10_append_12 ?_
  refine lv_iload_n hx hb dX10_append_15 rfl (lv_at hl 2 rfl) ?_
  refine lv_iload_n hx hb dX10_append_16 rfl (lv_at hl 0 rfl) ?_
  refine lv_iushr hx hb dX10_append_17 rfl ?_
  refine lv_topi (fun yn23 eyn23 => ?_)
  refine lv_sipush (v := 255) hx hb dX10_append_18 (by decide) ?_
  refine lv_iand hx hb dX10_append_21 ?_
  refine lv_topi (fun yn24 eyn24 => ?_)
  refine va_iast hx hb hK hP hD hS 1 0 rfl rfl (vp_in_nI (n := (((nb + 1) + 1) + 1)) (N := 700) (show (((nb + 1) + 1) + 1) < 700 by omega) (by decide)) dX10_append_22 (fun H locs hP hD hS => ?_)
  obtain ⟨hP, hD⟩ : PDq D A [(oX10 w0 v0 v1 v2 v3 v4 g5 g6 (nI ed) g8 v9 (nI (((nb + 1) + 1) + 1)) g11 g12 v13 g14 g15 g16 g17 g18 g19 g20 g21 g22 g23 g24 g25 g26 v27 v28 v29 v30 v31 v32 v33 v34 v35 v36 v37 (nI ol)), (v9, .inl (cA 0, 700, .inl (upd fn18 (((nI (((nb + 1) + 1) + 1))).toNatClampNeg) yn24)))] H := ⟨hP, hD⟩
  have hn26 : Upp (((nb + 1) + 1) + 1) yn24 fn18 (upd fn18 (((nI (((nb + 1) + 1) + 1))).toNatClampNeg) yn24) := Upp.of (by omega)
  have hn27 : Rbb (upd fn18 (((nI (((nb + 1) + 1) + 1))).toNatClampNeg) yn24) := rfl
  generalize (upd fn18 (((nI (((nb + 1) + 1) + 1))).toNatClampNeg) yn24) = fn25 at hP hD hn26 hn27
  obtain ⟨hP, hD⟩ : PDq D A [(oX10 w0 v0 v1 v2 v3 v4 g5 g6 (nI ed) g8 v9 (nI (((nb + 1) + 1) + 1)) g11 g12 v13 g14 g15 g16 g17 g18 g19 g20 g21 g22 g23 g24 g25 g26 v27 v28 v29 v30 v31 v32 v33 v34 v35 v36 v37 (nI ol)), (v9, .inl (cA 0, 700, .inl fn25))] H := ⟨hP, hD⟩
  refine lv_aload_n hx hb dX10_append_23 rfl (lv_at hl 1 rfl) ?_
  refine lv_dup hx hb dX10_append_24 rfl ?_
  refine va_get (D := D) (ci := 11) (v := .int (nI (((nb + 1) + 1) + 1))) (C := RX10) (T := TX10) (N := 39) hx hb hts inX10 hown hK hP 0 rfl rfl 10 (by decide) (hts (.fieldLink RX10 90 "EscrowDeskModel" "buffered" "I") (by decide +kernel)) (fun _ h9 => h9) rfl dX10_append_25 ?_
  refine lv_iconst (v := 1) hx hb dX10_append_28 (by decide) ?_
  refine lv_iadd hx hb dX10_append_29 ?_
  refine lv_topi (fun yn28 eyn28 => ?_)
  obtain rfl : yn28 = (nI ((((nb + 1) + 1) + 1) + 1)) := eyn28.trans (nI_add (((nb + 1) + 1) + 1) 1)
  refine va_put (D := D) (ci := 11) (v := .int (nI ((((nb + 1) + 1) + 1) + 1))) (ty := .int) (C := RX10) (T := TX10) (N := 39) hx hb hts inX10 tyX10 tyX10_ok nmX10 hown hK hP hD hS 0 rfl rfl 10 (by decide) (hts (.fieldLink RX10 90 "EscrowDeskModel" "buffered" "I") (by decide +kernel)) (fun _ h9 => h9) rfl (by decide +kernel) rfl rfl (Nat.le_of_ble_eq_true rfl) dX10_append_30 (fun H locs hP hD hS => ?_)
  obtain ⟨hP, hD⟩ : PDq D A [(oX10 w0 v0 v1 v2 v3 v4 g5 g6 (nI ed) g8 v9 (nI ((((nb + 1) + 1) + 1) + 1)) g11 g12 v13 g14 g15 g16 g17 g18 g19 g20 g21 g22 g23 g24 g25 g26 v27 v28 v29 v30 v31 v32 v33 v34 v35 v36 v37 (nI ol)), (v9, .inl (cA 0, 700, .inl fn25))] H := ⟨hP, hD⟩
  refine lv_iinc (v := (-8)) (lv' := [(2, .int (-8)), (0, .ref w0), (1, .int w)]) hx hb dX10_append_33 hl (k := 0) rfl (by first | rfl | decide +kernel) (by decide) rfl (fun ls hl => ?_)
  refine lv_goto (tgt := 3) hx hb dX10_append_36 (by decide) ?_
  refine lv_iload_n hx hb dX10_append_3 rfl (lv_at hl 0 rfl) ?_
  refine lv_if_lt (tgt := 39) hx hb dX10_append_4 (by decide) (fun c29 => ?_) (fun c9 => absurd c9 (by decide))
  obtain ⟨hP9, hD9⟩ := PDq.sub (ws' := [(oX10 w0 v0 v1 v2 v3 v4 g5 g6 (nI ed) g8 v9 (nI ((((nb + 1) + 1) + 1) + 1)) g11 g12 v13 g14 g15 g16 g17 g18 g19 g20 g21 g22 g23 g24 g25 g26 v27 v28 v29 v30 v31 v32 v33 v34 v35 v36 v37 (nI ol)), (v9, .inl (cA 0, 700, .inl fn25))]) hP hD [0, 1] (by decide) rfl
  refine W.widen (k := 0) (n := 0) (Nat.le_of_ble_eq_true rfl) (Nat.le_of_ble_eq_true rfl) ?_
  exact (W.vret hx hb hr (fun t ht hW => ⟨⟨(), rfl, trivial, ((((nb + 1) + 1) + 1) + 1), fn25, (by omega), (A4.of hn5 hn12 hn19 hn26 (bw_i eyn2 eyn3) (bw_i eyn9 eyn10) (bw_i eyn16 eyn17) (bw_i eyn23 eyn24)), by rw [ht]; exact hP9, hD9⟩, hS.F ht⟩) hS.2.2 dX10_append_39)

