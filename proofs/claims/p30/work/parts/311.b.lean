set_option maxHeartbeats 4000000 in
set_option maxRecDepth 100000 in
/-- charAt -/
theorem j_charAt (l : Launch) (D : va_G) (cA : Nat → ClassId) (sa : Nat → Nat) (o0 : Nat) (o1 : Nat) (ct : Nat) (cp : Nat) (mb : Int32) (fy : Nat → Int32) (ix : Nat) (sz : Nat) (hct : ct ≤ cp) (hcp : cp ≤ 126) (hfit : sb_Fit fy) (hix : ix < ct) : Met l yJ4_charAt_5068e wsJ4_charAt_5068e ({ frames := 3, cells := 0, slots := 0, locals := 67 }) (va_Pc [.ref o0, .int (nI ix)] (Wd D cA sa [(oJ4 o0 o1 0 mb (nI ct)), (o1, .inl (cA 3, cp, .inl fy))] sz)) (va_Qi (fun (r : Int32) (_ : Unit) => NC r) (fun (_ : Unit) t => Wq D (va_A [(oJ4 o0 o1 0 mb (nI ct)), (o1, .inl (cA 3, cp, .inl fy))] sz) [(oJ4 o0 o1 0 mb (nI ct)), (o1, .inl (cA 3, cp, .inl fy))] t) (va_A [(oJ4 o0 o1 0 mb (nI ct)), (o1, .inl (cA 3, cp, .inl fy))] sz)) 0 0 (va_A [(oJ4 o0 o1 0 mb (nI ct)), (o1, .inl (cA 3, cp, .inl fy))] sz) := by
  refine Met.ofW (cc := cJ4_charAt_5068e) (maxL := 2) (ret := (some .char)) (by decide) rfl ?_
  intro p e s m args below meth c s₁ B hml hv
  obtain ⟨rfl, hsz, hP, hK, hD0, hC, hZ⟩ := hv
  have hx := B.exec
  have hb := B.bytes
  have hr := B.returns
  have hts := atoms_spec (ws := wsJ4_charAt_5068e) B.pre
  have hown : s.vm.findClass RJ4 = some m.cls := findClass_of_methodNamed B.named
  have hlocks := B.notSynchronized
  subst hsz
  have hD := hD0.self (sz := s.heap.size)
  generalize hAe : va_A [(oJ4 o0 o1 0 mb (nI ct)), (o1, .inl (cA 3, cp, .inl fy))] s.heap.size = A at hD hZ ⊢
  have hA : ∀ q : Nat, s.heap.size ≤ q → A q := fun q h => by rw [← hAe]; exact Or.inr h
  have hS : va_S A s.heap s.heap [] := va_S.rf
  have hP : va_P D vwCl [(oJ4 o0 o1 0 mb (nI ct)), (o1, .inl (cA 3, cp, .inl fy))] s.heap := hP
  have hl := lv_entry ([.ref o0, .int (nI ix)]) (n := 2) (Nat.le_of_ble_eq_true rfl)
  rw [lg_entry_eq]
  generalize (lg_sl ([.ref o0, .int (nI ix)]) ++ List.replicate (2 - (lg_sl ([.ref o0, .int (nI ix)])).length) Slot.unset).toArray = ls at hl ⊢
  have hl : lv_has ls 2 [(0, .ref o0), (1, .int (nI ix))] := hl
  refine lv_aload_n hx hb dJ4_charAt_5068e_0 rfl (lv_at hl 0 rfl) ?_
  refine lv_iload_n hx hb dJ4_charAt_5068e_1 rfl (lv_at hl 1 rfl) ?_
  obtain ⟨hPc, hDc, hFc⟩ := PDq.cut (wc := [(oJ4 o0 o1 0 mb (nI ct)), (o1, .inl (cA 3, cp, .inl fy))]) hP hD hS hA [0, 1] (by decide) rfl
  refine va_calli (va_runSU (As := [.int (nI ix)]) (rest := []) (hK.1 1 _ rfl).2 ⟨hx, hb, hml, hown, hts⟩ (j_charAt5 l D cA sa o0 o1 ct cp mb fy ix s.heap.size hct hcp hfit hix) (va_cwSU 1 hts gJ4_charAt_5068e_J5_charAt_5068e_s329 rfl rfl rfl (by decide +kernel) ⟨(Nat.le_of_ble_eq_true rfl), (Nat.le_of_ble_eq_true rfl)⟩) ⟨Wd.blind, va_recv hK hPc (ci := 1) (q0 := 0) rfl rfl, fun U hU hW => ⟨rfl, Wd.call hPc hDc hK hC hZ hS hFc U hU hW⟩⟩ rfl rfl hl.1 rfl (lv_room (Nat.le_of_ble_eq_true rfl)) dJ4_charAt_5068e_2 ⟨(Nat.le_of_ble_eq_true rfl), (Nat.le_of_ble_eq_true rfl)⟩) hS (fun q _ h => hFc q h) hFc (fun rn1 u t H1 locs ht hvm hw hB hz1 hk1 hS => ?_)
  obtain ⟨hP1, hD1⟩ := hB
  rw [ht] at hP1
  obtain ⟨hP, hD⟩ := PDq.join (w := [(oJ4 o0 o1 0 mb (nI ct)), (o1, .inl (cA 3, cp, .inl fy))]) 0 hP hD [0, 1] [] rfl rfl (by decide) (by decide) hk1 hFc hP1 hD1 rfl
  generalize H1 = H at hP hS ⊢
  have hn2 := hw
  obtain ⟨hP9, hD9⟩ := PDq.sub (ws' := [(oJ4 o0 o1 0 mb (nI ct)), (o1, .inl (cA 3, cp, .inl fy))]) hP hD [0, 1] (by decide) rfl
  refine W.widen (k := 0) (n := 0) (Nat.le_of_ble_eq_true rfl) (Nat.le_of_ble_eq_true rfl) ?_
  exact (W.zret (v := rn1) hx hb hr hn2 (fun t ht hW => ⟨⟨rn1, (), rfl, hn2, by rw [ht]; exact hP9, hD9⟩, hS.F ht⟩) hS.2.2 dJ4_charAt_5068e_5)

set_option maxHeartbeats 4000000 in
set_option maxRecDepth 100000 in
/-- letterAt -/
theorem s_letterAt (l : Launch) (D : va_G) (cA : Nat → ClassId) (sa : Nat → Nat) (w : Int64) (k : Int32) (sz : Nat) : Met l yX8_letterAt wsX8_letterAt ({ frames := 1, cells := 0, slots := 0, locals := 22 }) (va_Pc [.long w, .int k] (Wd D cA sa [] sz)) (va_Qi (fun (r : Int32) (_ : Unit) => ∃ n, n < 256 ∧ r = nI n) (fun (_ : Unit) t => Wq D (va_A [] sz) [] t) (va_A [] sz)) 0 0 (va_A [] sz) := by
  refine Met.ofW (cc := cX8_letterAt) (maxL := 4) (ret := (some .char)) (by decide) rfl ?_
  intro p e s m args below meth c s₁ B hml hv
  obtain ⟨rfl, hsz, hP, hK, hD0, hC, hZ⟩ := hv
  have hx := B.exec
  have hb := B.bytes
  have hr := B.returns
  have hts := atoms_spec (ws := wsX8_letterAt) B.pre
  have hown : s.vm.findClass RX8 = some m.cls := findClass_of_methodNamed B.named
  have hlocks := B.notSynchronized
  subst hsz
  have hD := hD0.self (sz := s.heap.size)
  generalize hAe : va_A [] s.heap.size = A at hD hZ ⊢
  have hA : ∀ q : Nat, s.heap.size ≤ q → A q := fun q h => by rw [← hAe]; exact Or.inr h
  have hS : va_S A s.heap s.heap [] := va_S.rf
  have hP : va_P D vwCl [] s.heap := hP
  have hl := lv_entry ([.long w, .int k]) (n := 4) (Nat.le_of_ble_eq_true rfl)
  rw [lg_entry_eq]
  generalize (lg_sl ([.long w, .int k]) ++ List.replicate (4 - (lg_sl ([.long w, .int k])).length) Slot.unset).toArray = ls at hl ⊢
  have hl : lv_has ls 4 [(0, .long w), (2, .int k)] := hl
  refine lv_iconst (v := 5) hx hb dX8_letterAt_0 (by decide) ?_
  refine lv_lload_n hx hb dX8_letterAt_1 rfl (lv_at hl 0 rfl) ?_
  obtain ⟨hPc, hDc, hFc⟩ := PDq.cut (wc := []) hP hD hS hA [] (by decide) rfl
  refine va_calli (va_runS (As := [.long w]) (rest := [.int 5]) ⟨hx, hb, hml, hown, hts⟩ (s_letterCount l D cA sa w s.heap.size) (va_cwS 1 hts gX8_letterAt_X8_letterCount rfl rfl rfl (by decide +kernel) ⟨(Nat.le_of_ble_eq_true rfl), (Nat.le_of_ble_eq_true rfl)⟩) ⟨Wd.blind, fun U hU hW => ⟨rfl, Wd.call hPc hDc hK hC hZ hS hFc U hU hW⟩⟩ rfl rfl hl.1 rfl (lv_room (Nat.le_of_ble_eq_true rfl)) dX8_letterAt_2 ⟨(Nat.le_of_ble_eq_true rfl), (Nat.le_of_ble_eq_true rfl)⟩) hS (fun q _ h => hFc q h) hFc (fun rn1 u t H1 locs ht hvm hw hB hz1 hk1 hS => ?_)
  obtain ⟨hP1, hD1⟩ := hB
  rw [ht] at hP1
  obtain ⟨hP, hD⟩ := PDq.join (w := []) 0 hP hD [] [] rfl rfl (by decide) (by decide) hk1 hFc hP1 hD1 rfl
  generalize H1 = H at hP hS ⊢
  obtain ⟨kn2, hn3, hr9⟩ := hw
  subst hr9
  refine lv_iconst (v := 1) hx hb dX8_letterAt_5 (by decide) ?_
  refine lv_isub hx hb dX8_letterAt_6 ?_
  refine lv_topi (fun yn4 eyn4 => ?_)
  refine lv_iload_n hx hb dX8_letterAt_7 rfl (lv_at hl 1 rfl) ?_
  refine lv_isub hx hb dX8_letterAt_8 ?_
  refine lv_topi (fun yn5 eyn5 => ?_)
  refine lv_imul hx hb dX8_letterAt_9 ?_
  refine lv_topi (fun yn6 eyn6 => ?_)
  refine lv_istore_n (lv' := [(3, .int yn6), (0, .long w), (2, .int k)]) hx hb dX8_letterAt_10 rfl hl (by decide) rfl (fun ls hl => ?_)
  refine lv_ldc2 (v := 96) hx hb hown (hts (.constantLong RX8 27 96) (by decide +kernel)) dX8_letterAt_11 ?_
  refine lv_lload_n hx hb dX8_letterAt_14 rfl (lv_at hl 1 rfl) ?_
  refine lv_iload_n hx hb dX8_letterAt_15 rfl (lv_at hl 0 rfl) ?_
  refine lv_lushr hx hb dX8_letterAt_16 rfl ?_
  refine lv_topl (fun yn7 eyn7 => ?_)
  refine lv_ldc2 (v := 31) hx hb hown (hts (.constantLong RX8 29 31) (by decide +kernel)) dX8_letterAt_17 ?_
  refine lv_land hx hb dX8_letterAt_20 ?_
  refine lv_topl (fun yn8 eyn8 => ?_)
  refine lv_ladd hx hb dX8_letterAt_21 ?_
  refine lv_topl (fun yn9 eyn9 => ?_)
  refine lv_l2i (v := yn9.toInt32) hx hb dX8_letterAt_22 rfl ?_
  refine lv_topi (fun yn10 eyn10 => ?_)
  refine lv_i2c hx hb dX8_letterAt_23 rfl ?_
  refine lv_topi (fun yn11 eyn11 => ?_)
  obtain ⟨hP9, hD9⟩ := PDq.sub (ws' := []) hP hD [] (by decide) rfl
  refine W.widen (k := 0) (n := 0) (Nat.le_of_ble_eq_true rfl) (Nat.le_of_ble_eq_true rfl) ?_
  exact (W.zret (v := yn11) hx hb hr (nar_i2c eyn11) (fun t ht hW => ⟨⟨yn11, (), rfl, (lat_n eyn8 eyn9 eyn10 eyn11), by rw [ht]; exact hP9, hD9⟩, hS.F ht⟩) hS.2.2 dX8_letterAt_24)

set_option maxHeartbeats 4000000 in
set_option maxRecDepth 100000 in
/-- appendTo -/
theorem s_appendTo (l : Launch) (D : va_G) (cA : Nat → ClassId) (sa : Nat → Nat) (o0 : Nat) (o1 : Nat) (ct : Nat) (cp : Nat) (mb : Int32) (fy : Nat → Int32) (w : Int64) (sz : Nat) (hct : ct ≤ cp) (hcp : cp ≤ 126) (hfit : sb_Fit fy) (hc1 : ct + 9 ≤ 62) : Met l yX8_appendTo wsX8_appendTo ({ frames := 6, cells := 9, slots := 2340, locals := 146 }) (va_Pc [.ref o0, .long w] (Wd D cA sa [(oJ4 o0 o1 0 mb (nI ct)), (o1, .inl (cA 3, cp, .inl fy))] sz)) (va_Qv (fun _ : Unit => True) (fun (_ : Unit) t => ∃ z1 : Nat, ∃ cp2 : Nat, ∃ zy : Nat → Int32, ∃ ct2 : Nat, ct2 ≤ ct + 9 ∧ ct2 ≤ cp2 ∧ cp2 ≤ 126 ∧ sb_Fit zy ∧ Wq D (va_A [(oJ4 o0 o1 0 mb (nI ct)), (o1, .inl (cA 3, cp, .inl fy))] sz) [(oJ4 o0 z1 0 mb (nI ct2)), (z1, .inl (cA 3, cp2, .inl zy))] t) (va_A [(oJ4 o0 o1 0 mb (nI ct)), (o1, .inl (cA 3, cp, .inl fy))] sz)) 9 2340 (va_A [(oJ4 o0 o1 0 mb (nI ct)), (o1, .inl (cA 3, cp, .inl fy))] sz) := by
  refine Met.ofW (cc := cX8_appendTo) (maxL := 5) (ret := none) (by decide) rfl ?_
  intro p e s m args below meth c s₁ B hml hv
  obtain ⟨rfl, hsz, hP, hK, hD0, hC, hZ⟩ := hv
  have hx := B.exec
  have hb := B.bytes
  have hr := B.returns
  have hts := atoms_spec (ws := wsX8_appendTo) B.pre
  have hown : s.vm.findClass RX8 = some m.cls := findClass_of_methodNamed B.named
  have hlocks := B.notSynchronized
  subst hsz
  have hD := hD0.self (sz := s.heap.size)
  generalize hAe : va_A [(oJ4 o0 o1 0 mb (nI ct)), (o1, .inl (cA 3, cp, .inl fy))] s.heap.size = A at hD hZ ⊢
  have hA : ∀ q : Nat, s.heap.size ≤ q → A q := fun q h => by rw [← hAe]; exact Or.inr h
  have hS : va_S A s.heap s.heap [] := va_S.rf
  have hP : va_P D vwCl [(oJ4 o0 o1 0 mb (nI ct)), (o1, .inl (cA 3, cp, .inl fy))] s.heap := hP
  have hl := lv_entry ([.ref o0, .long w]) (n := 5) (Nat.le_of_ble_eq_true rfl)
  rw [lg_entry_eq]
  generalize (lg_sl ([.ref o0, .long w]) ++ List.replicate (5 - (lg_sl ([.ref o0, .long w])).length) Slot.unset).toArray = ls at hl ⊢
  have hl : lv_has ls 5 [(0, .ref o0), (1, .long w)] := hl
  refine lv_lload_n hx hb dX8_appendTo_0 rfl (lv_at hl 1 rfl) ?_
  obtain ⟨hPc, hDc, hFc⟩ := PDq.cut (wc := []) hP hD hS hA [] (by decide) rfl
  refine va_calli (va_runS (As := [.long w]) (rest := []) ⟨hx, hb, hml, hown, hts⟩ (s_letterCount l D cA sa w s.heap.size) (va_cwS 1 hts gX8_appendTo_X8_letterCount rfl rfl rfl (by decide +kernel) ⟨(Nat.le_of_ble_eq_true rfl), (Nat.le_of_ble_eq_true rfl)⟩) ⟨Wd.blind, fun U hU hW => ⟨rfl, Wd.call hPc hDc hK hC hZ hS hFc U hU hW⟩⟩ rfl rfl hl.1 rfl (lv_room (Nat.le_of_ble_eq_true rfl)) dX8_appendTo_1 ⟨(Nat.le_of_ble_eq_true rfl), (Nat.le_of_ble_eq_true rfl)⟩) hS (fun q _ h => hFc q h) hFc (fun rn1 u t H1 locs ht hvm hw hB hz1 hk1 hS => ?_)
  obtain ⟨hP1, hD1⟩ := hB
  rw [ht] at hP1
  obtain ⟨hP, hD⟩ := PDq.join (w := [(oJ4 o0 o1 0 mb (nI ct)), (o1, .inl (cA 3, cp, .inl fy))]) 2 hP hD [] [0, 1] rfl rfl (by decide) (by decide) hk1 hFc hP1 hD1 rfl
  generalize H1 = H at hP hS ⊢
  obtain ⟨kn2, hn3, hr9⟩ := hw
  subst hr9
  refine lv_istore_n (lv' := [(3, .int (nI kn2)), (0, .ref o0), (1, .long w)]) hx hb dX8_appendTo_4 rfl hl (by decide) rfl (fun ls hl => ?_)
  refine lv_iconst (v := 0) hx hb dX8_appendTo_5 (by decide) ?_
  refine lv_istore (lv' := [(4, .int 0), (3, .int (nI kn2)), (0, .ref o0), (1, .long w)]) hx hb dX8_appendTo_6 hl (by decide) rfl (fun ls hl => ?_)
  refine lv_iload hx hb dX8_appendTo_8 (lv_at hl 0 rfl) ?_
  refine lv_iload_n hx hb dX8_appendTo_10 rfl (lv_at hl 1 rfl) ?_
  refine lv_icmp_ge (tgt := 31) hx hb dX8_appendTo_11 (by decide) (fun c4 => ?_) (fun c4 => ?_)
  · skip
    have hn5 : kn2 ≤ 0 := (nI_leI (a := kn2) (b := 0) (by omega) (by omega)).mp c4
    obtain ⟨hP9, hD9⟩ := PDq.sub (ws' := [(oJ4 o0 o1 0 mb (nI ct)), (o1, .inl (cA 3, cp, .inl fy))]) hP hD [0, 1] (by decide) rfl
    refine W.widen (k := 9) (n := 2340) (Nat.le_of_ble_eq_true rfl) (Nat.le_of_ble_eq_true rfl) ?_
    exact (W.vret hx hb hr (fun t ht hW => ⟨⟨(), rfl, trivial, o1, cp, fy, ct, (by omega), hct, hcp, hfit, by rw [ht]; exact hP9, hD9⟩, hS.F ht⟩) hS.2.2 dX8_appendTo_31)
  · skip
    have hn6 : 0 < kn2 := Nat.lt_of_not_le (fun h9 => c4 (nI_le (a := kn2) (b := 0) h9 (by omega)))
    refine lv_aload_n hx hb dX8_appendTo_14 rfl (lv_at hl 2 rfl) ?_
    refine lv_lload_n hx hb dX8_appendTo_15 rfl (lv_at hl 3 rfl) ?_
    refine lv_iload hx hb dX8_appendTo_16 (lv_at hl 0 rfl) ?_
    obtain ⟨hPc, hDc, hFc⟩ := PDq.cut (wc := []) hP hD hS hA [] (by decide) rfl
    refine va_calli (va_runS (As := [.long w, .int 0]) (rest := [.ref o0]) ⟨hx, hb, hml, hown, hts⟩ (s_letterAt l D cA sa w 0 H.size) (va_cwS 2 hts gX8_appendTo_X8_letterAt rfl rfl rfl (by decide +kernel) ⟨(Nat.le_of_ble_eq_true rfl), (Nat.le_of_ble_eq_true rfl)⟩) ⟨Wd.blind, fun U hU hW => ⟨rfl, Wd.call hPc hDc hK hC hZ hS hFc U hU hW⟩⟩ rfl rfl hl.1 rfl (lv_room (Nat.le_of_ble_eq_true rfl)) dX8_appendTo_18 ⟨(Nat.le_of_ble_eq_true rfl), (Nat.le_of_ble_eq_true rfl)⟩) hS (fun q _ h => hFc q h) hFc (fun rn7 u t H1 locs ht hvm hw hB hz1 hk1 hS => ?_)
    obtain ⟨hP1, hD1⟩ := hB
    rw [ht] at hP1
    obtain ⟨hP, hD⟩ := PDq.join (w := [(oJ4 o0 o1 0 mb (nI ct)), (o1, .inl (cA 3, cp, .inl fy))]) 2 hP hD [] [0, 1] rfl rfl (by decide) (by decide) hk1 hFc hP1 hD1 rfl
    generalize H1 = H at hP hS ⊢
    obtain ⟨kn8, hn9, hr9⟩ := hw
    subst hr9
    obtain ⟨hPc, hDc, hFc⟩ := PDq.cut (wc := [(oJ4 o0 o1 0 mb (nI ct)), (o1, .inl (cA 3, cp, .inl fy))]) hP hD hS hA [0, 1] (by decide) rfl
    refine va_callr (va_runV (As := [.int (nI kn8)]) (rest := []) ⟨hx, hb, hml, hown, hts⟩ (j_appendC l D cA sa o0 o1 ct cp mb fy kn8 H.size hct hcp hfit hn9 (by omega)) (cwV 1 hts gX8_appendTo_J4_append_cf468 rfl rfl rfl (by decide +kernel) ⟨(Nat.le_of_ble_eq_true rfl), (Nat.le_of_ble_eq_true rfl)⟩) ⟨Wd.blind, va_recv hK hPc (ci := 1) (q0 := 0) rfl rfl, fun U hU hW => ⟨rfl, Wd.call hPc hDc hK hC hZ hS hFc U hU hW⟩⟩ rfl rfl hl.1 rfl (lv_room (Nat.le_of_ble_eq_true rfl)) dX8_appendTo_21 ⟨(Nat.le_of_ble_eq_true rfl), (Nat.le_of_ble_eq_true rfl)⟩) hS (fun q _ h => hFc q h) hFc (fun u ra t H1 locs ht hvm hw hB hz1 hk1 hS => ?_)
    obtain ⟨hra, qn10, qn11, fn12, hn13, hn14, hn15, hP1, hD1⟩ := hB
    obtain rfl := hra.symm
    rw [ht] at hP1
    obtain ⟨hP, hD⟩ := PDq.join (w := [(oJ4 o0 qn10 0 mb (nI (ct + 1))), (qn10, .inl (cA 3, qn11, .inl fn12))]) 0 hP hD [0, 1] [] rfl rfl (by decide) (by decide) hk1 hFc hP1 hD1 rfl
    generalize H1 = H at hP hS ⊢
    refine lv_pop hx hb dX8_appendTo_24 rfl ?_
    refine lv_iinc (v := 1) (lv' := [(4, .int 1), (3, .int (nI kn2)), (0, .ref o0), (1, .long w)]) hx hb dX8_appendTo_25 hl (k := 0) rfl (by first | rfl | decide +kernel) (by decide) rfl (fun ls hl => ?_)
    refine lv_goto (tgt := 8) hx hb dX8_appendTo_28 (by decide) ?_
    refine lv_iload hx hb dX8_appendTo_8 (lv_at hl 0 rfl) ?_
    refine lv_iload_n hx hb dX8_appendTo_10 rfl (lv_at hl 1 rfl) ?_
    refine lv_icmp_ge (tgt := 31) hx hb dX8_appendTo_11 (by decide) (fun c16 => ?_) (fun c16 => ?_)
    · skip
      have hn17 : kn2 ≤ 1 := (nI_leI (a := kn2) (b := 1) (by omega) (by omega)).mp c16
      obtain ⟨hP9, hD9⟩ := PDq.sub (ws' := [(oJ4 o0 qn10 0 mb (nI (ct + 1))), (qn10, .inl (cA 3, qn11, .inl fn12))]) hP hD [0, 1] (by decide) rfl
      refine W.widen (k := 9) (n := 2340) (Nat.le_of_ble_eq_true rfl) (Nat.le_of_ble_eq_true rfl) ?_
      exact (W.vret hx hb hr (fun t ht hW => ⟨⟨(), rfl, trivial, qn10, qn11, fn12, (ct + 1), (by omega), (by omega), hn14, hn15, by rw [ht]; exact hP9, hD9⟩, hS.F ht⟩) hS.2.2 dX8_appendTo_31)
    · skip
      have hn18 : 1 < kn2 := Nat.lt_of_not_le (fun h9 => c16 (nI_le (a := kn2) (b := 1) h9 (by omega)))
      refine lv_aload_n hx hb dX8_appendTo_14 rfl (lv_at hl 2 rfl) ?_
      refine lv_lload_n hx hb dX8_appendTo_15 rfl (lv_at hl 3 rfl) ?_
      refine lv_iload hx hb dX8_appendTo_16 (lv_at hl 0 rfl) ?_
      obtain ⟨hPc, hDc, hFc⟩ := PDq.cut (wc := []) hP hD hS hA [] (by decide) rfl
      refine va_calli (va_runS (As := [.long w, .int 1]) (rest := [.ref o0]) ⟨hx, hb, hml, hown, hts⟩ (s_letterAt l D cA sa w 1 H.size) (va_cwS 2 hts gX8_appendTo_X8_letterAt rfl rfl rfl (by decide +kernel) ⟨(Nat.le_of_ble_eq_true rfl), (Nat.le_of_ble_eq_true rfl)⟩) ⟨Wd.blind, fun U hU hW => ⟨rfl, Wd.call hPc hDc hK hC hZ hS hFc U hU hW⟩⟩ rfl rfl hl.1 rfl (lv_room (Nat.le_of_ble_eq_true rfl)) dX8_appendTo_18 ⟨(Nat.le_of_ble_eq_true rfl), (Nat.le_of_ble_eq_true rfl)⟩) hS (fun q _ h => hFc q h) hFc (fun rn19 u t H1 locs ht hvm hw hB hz1 hk1 hS => ?_)
      obtain ⟨hP1, hD1⟩ := hB
      rw [ht] at hP1
      obtain ⟨hP, hD⟩ := PDq.join (w := [(oJ4 o0 qn10 0 mb (nI (ct + 1))), (qn10, .inl (cA 3, qn11, .inl fn12))]) 2 hP hD [] [0, 1] rfl rfl (by decide) (by decide) hk1 hFc hP1 hD1 rfl
      generalize H1 = H at hP hS ⊢
      obtain ⟨kn20, hn21, hr9⟩ := hw
      subst hr9
      obtain ⟨hPc, hDc, hFc⟩ := PDq.cut (wc := [(oJ4 o0 qn10 0 mb (nI (ct + 1))), (qn10, .inl (cA 3, qn11, .inl fn12))]) hP hD hS hA [0, 1] (by decide) rfl
      refine va_callr (va_runV (As := [.int (nI kn20)]) (rest := []) ⟨hx, hb, hml, hown, hts⟩ (j_appendC l D cA sa o0 qn10 (ct + 1) qn11 mb fn12 kn20 H.size (by omega) hn14 hn15 hn21 (by omega)) (cwV 1 hts gX8_appendTo_J4_append_cf468 rfl rfl rfl (by decide +kernel) ⟨(Nat.le_of_ble_eq_true rfl), (Nat.le_of_ble_eq_true rfl)⟩) ⟨Wd.blind, va_recv hK hPc (ci := 1) (q0 := 0) rfl rfl, fun U hU hW => ⟨rfl, Wd.call hPc hDc hK hC hZ hS hFc U hU hW⟩⟩ rfl rfl hl.1 rfl (lv_room (Nat.le_of_ble_eq_true rfl)) dX8_appendTo_21 ⟨(Nat.le_of_ble_eq_true rfl), (Nat.le_of_ble_eq_true rfl)⟩) hS (fun q _ h => hFc q h) hFc (fun u ra t H1 locs ht hvm hw hB hz1 hk1 hS => ?_)
      obtain ⟨hra, qn22, qn23, fn24, hn25, hn26, hn27, hP1, hD1⟩ := hB
      obtain rfl := hra.symm
      rw [ht] at hP1
      obtain ⟨hP, hD⟩ := PDq.join (w := [(oJ4 o0 qn22 0 mb (nI ((ct + 1) + 1))), (qn22, .inl (cA 3, qn23, .inl fn24))]) 0 hP hD [0, 1] [] rfl rfl (by decide) (by decide) hk1 hFc hP1 hD1 rfl
      generalize H1 = H at hP hS ⊢
      refine lv_pop hx hb dX8_appendTo_24 rfl ?_
      refine lv_iinc (v := 2) (lv' := [(4, .int 2), (3, .int (nI kn2)), (0, .ref o0), (1, .long w)]) hx hb dX8_appendTo_25 hl (k := 0) rfl (by first | rfl | decide +kernel) (by decide) rfl (fun ls hl => ?_)
      refine lv_goto (tgt := 8) hx hb dX8_appendTo_28 (by decide) ?_
      refine lv_iload hx hb dX8_appendTo_8 (lv_at hl 0 rfl) ?_
      refine lv_iload_n hx hb dX8_appendTo_10 rfl (lv_at hl 1 rfl) ?_
      refine lv_icmp_ge (tgt := 31) hx hb dX8_appendTo_11 (by decide) (fun c28 => ?_) (fun c28 => ?_)
      · skip
        have hn29 : kn2 ≤ 2 := (nI_leI (a := kn2) (b := 2) (by omega) (by omega)).mp c28
        obtain ⟨hP9, hD9⟩ := PDq.sub (ws' := [(oJ4 o0 qn22 0 mb (nI ((ct + 1) + 1))), (qn22, .inl (cA 3, qn23, .inl fn24))]) hP hD [0, 1] (by decide) rfl
        refine W.widen (k := 9) (n := 2340) (Nat.le_of_ble_eq_true rfl) (Nat.le_of_ble_eq_true rfl) ?_
        exact (W.vret hx hb hr (fun t ht hW => ⟨⟨(), rfl, trivial, qn22, qn23, fn24, ((ct + 1) + 1), (by omega), (by omega), hn26, hn27, by rw [ht]; exact hP9, hD9⟩, hS.F ht⟩) hS.2.2 dX8_appendTo_31)
      · skip
        have hn30 : 2 < kn2 := Nat.lt_of_not_le (fun h9 => c28 (nI_le (a := kn2) (b := 2) h9 (by omega)))
        refine lv_aload_n hx hb dX8_appendTo_14 rfl (lv_at hl 2 rfl) ?_
        refine lv_lload_n hx hb dX8_appendTo_15 rfl (lv_at hl 3 rfl) ?_
        refine lv_iload hx hb dX8_appendTo_16 (lv_at hl 0 rfl) ?_
        obtain ⟨hPc, hDc, hFc⟩ := PDq.cut (wc := []) hP hD hS hA [] (by decide) rfl
        refine va_calli (va_runS (As := [.long w, .int 2]) (rest := [.ref o0]) ⟨hx, hb, hml, hown, hts⟩ (s_letterAt l D cA sa w 2 H.size) (va_cwS 2 hts gX8_appendTo_X8_letterAt rfl rfl rfl (by decide +kernel) ⟨(Nat.le_of_ble_eq_true rfl), (Nat.le_of_ble_eq_true rfl)⟩) ⟨Wd.blind, fun U hU hW => ⟨rfl, Wd.call hPc hDc hK hC hZ hS hFc U hU hW⟩⟩ rfl rfl hl.1 rfl (lv_room (Nat.le_of_ble_eq_true rfl)) dX8_appendTo_18 ⟨(Nat.le_of_ble_eq_true rfl), (Nat.le_of_ble_eq_true rfl)⟩) hS (fun q _ h => hFc q h) hFc (fun rn31 u t H1 locs ht hvm hw hB hz1 hk1 hS => ?_)
        obtain ⟨hP1, hD1⟩ := hB
        rw [ht] at hP1
        obtain ⟨hP, hD⟩ := PDq.join (w := [(oJ4 o0 qn22 0 mb (nI ((ct + 1) + 1))), (qn22, .inl (cA 3, qn23, .inl fn24))]) 2 hP hD [] [0, 1] rfl rfl (by decide) (by decide) hk1 hFc hP1 hD1 rfl
        generalize H1 = H at hP hS ⊢
        obtain ⟨kn32, hn33, hr9⟩ := hw
        subst hr9
        obtain ⟨hPc, hDc, hFc⟩ := PDq.cut (wc := [(oJ4 o0 qn22 0 mb (nI ((ct + 1) + 1))), (qn22, .inl (cA 3, qn23, .inl fn24))]) hP hD hS hA [0, 1] (by decide) rfl
        refine va_callr (va_runV (As := [.int (nI kn32)]) (rest := []) ⟨hx, hb, hml, hown, hts⟩ (j_appendC l D cA sa o0 qn22 ((ct + 1) + 1) qn23 mb fn24 kn32 H.size (by omega) hn26 hn27 hn33 (by omega)) (cwV 1 hts gX8_appendTo_J4_append_cf468 rfl rfl rfl (by decide +kernel) ⟨(Nat.le_of_ble_eq_true rfl), (Nat.le_of_ble_eq_true rfl)⟩) ⟨Wd.blind, va_recv hK hPc (ci := 1) (q0 := 0) rfl rfl, fun U hU hW => ⟨rfl, Wd.call hPc hDc hK hC hZ hS hFc U hU hW⟩⟩ rfl rfl hl.1 rfl (lv_room (Nat.le_of_ble_eq_true rfl)) dX8_appendTo_21 ⟨(Nat.le_of_ble_eq_true rfl), (Nat.le_of_ble_eq_true rfl)⟩) hS (fun q _ h => hFc q h) hFc (fun u ra t H1 locs ht hvm hw hB hz1 hk1 hS => ?_)
        obtain ⟨hra, qn34, qn35, fn36, hn37, hn38, hn39, hP1, hD1⟩ := hB
        obtain rfl := hra.symm
        rw [ht] at hP1
        obtain ⟨hP, hD⟩ := PDq.join (w := [(oJ4 o0 qn34 0 mb (nI (((ct + 1) + 1) + 1))), (qn34, .inl (cA 3, qn35, .inl fn36))]) 0 hP hD [0, 1] [] rfl rfl (by decide) (by decide) hk1 hFc hP1 hD1 rfl
        generalize H1 = H at hP hS ⊢
        refine lv_pop hx hb dX8_appendTo_24 rfl ?_
        refine lv_iinc (v := 3) (lv' := [(4, .int 3), (3, .int (nI kn2)), (0, .ref o0), (1, .long w)]) hx hb dX8_appendTo_25 hl (k := 0) rfl (by first | rfl | decide +kernel) (by decide) rfl (fun ls hl => ?_)
        refine lv_goto (tgt := 8) hx hb dX8_appendTo_28 (by decide) ?_
        refine lv_iload hx hb dX8_appendTo_8 (lv_at hl 0 rfl) ?_
        refine lv_iload_n hx hb dX8_appendTo_10 rfl (lv_at hl 1 rfl) ?_
        refine lv_icmp_ge (tgt := 31) hx hb dX8_appendTo_11 (by decide) (fun c40 => ?_) (fun c40 => ?_)
        · skip
          have hn41 : kn2 ≤ 3 := (nI_leI (a := kn2) (b := 3) (by omega) (by omega)).mp c40
          obtain ⟨hP9, hD9⟩ := PDq.sub (ws' := [(oJ4 o0 qn34 0 mb (nI (((ct + 1) + 1) + 1))), (qn34, .inl (cA 3, qn35, .inl fn36))]) hP hD [0, 1] (by decide) rfl
          refine W.widen (k := 9) (n := 2340) (Nat.le_of_ble_eq_true rfl) (Nat.le_of_ble_eq_true rfl) ?_
          exact (W.vret hx hb hr (fun t ht hW => ⟨⟨(), rfl, trivial, qn34, qn35, fn36, (((ct + 1) + 1) + 1), (by omega), (by omega), hn38, hn39, by rw [ht]; exact hP9, hD9⟩, hS.F ht⟩) hS.2.2 dX8_appendTo_31)
        · skip
          have hn42 : 3 < kn2 := Nat.lt_of_not_le (fun h9 => c40 (nI_le (a := kn2) (b := 3) h9 (by omega)))
          refine lv_aload_n hx hb dX8_appendTo_14 rfl (lv_at hl 2 rfl) ?_
          refine lv_lload_n hx hb dX8_appendTo_15 rfl (lv_at hl 3 rfl) ?_
          refine lv_iload hx hb dX8_appendTo_16 (lv_at hl 0 rfl) ?_
          obtain ⟨hPc, hDc, hFc⟩ := PDq.cut (wc := []) hP hD hS hA [] (by decide) rfl
          refine va_calli (va_runS (As := [.long w, .int 3]) (rest := [.ref o0]) ⟨hx, hb, hml, hown, hts⟩ (s_letterAt l D cA sa w 3 H.size) (va_cwS 2 hts gX8_appendTo_X8_letterAt rfl rfl rfl (by decide +kernel) ⟨(Nat.le_of_ble_eq_true rfl), (Nat.le_of_ble_eq_true rfl)⟩) ⟨Wd.blind, fun U hU hW => ⟨rfl, Wd.call hPc hDc hK hC hZ hS hFc U hU hW⟩⟩ rfl rfl hl.1 rfl (lv_room (Nat.le_of_ble_eq_true rfl)) dX8_appendTo_18 ⟨(Nat.le_of_ble_eq_true rfl), (Nat.le_of_ble_eq_true rfl)⟩) hS (fun q _ h => hFc q h) hFc (fun rn43 u t H1 locs ht hvm hw hB hz1 hk1 hS => ?_)
          obtain ⟨hP1, hD1⟩ := hB
          rw [ht] at hP1
          obtain ⟨hP, hD⟩ := PDq.join (w := [(oJ4 o0 qn34 0 mb (nI (((ct + 1) + 1) + 1))), (qn34, .inl (cA 3, qn35, .inl fn36))]) 2 hP hD [] [0, 1] rfl rfl (by decide) (by decide) hk1 hFc hP1 hD1 rfl
          generalize H1 = H at hP hS ⊢
          obtain ⟨kn44, hn45, hr9⟩ := hw
          subst hr9
          obtain ⟨hPc, hDc, hFc⟩ := PDq.cut (wc := [(oJ4 o0 qn34 0 mb (nI (((ct + 1) + 1) + 1))), (qn34, .inl (cA 3, qn35, .inl fn36))]) hP hD hS hA [0, 1] (by decide) rfl
          refine va_callr (va_runV (As := [.int (nI kn44)]) (rest := []) ⟨hx, hb, hml, hown, hts⟩ (j_appendC l D cA sa o0 qn34 (((ct + 1) + 1) + 1) qn35 mb fn36 kn44 H.size (by omega) hn38 hn39 hn45 (by omega)) (cwV 1 hts gX8_appendTo_J4_append_cf468 rfl rfl rfl (by decide +kernel) ⟨(Nat.le_of_ble_eq_true rfl), (Nat.le_of_ble_eq_true rfl)⟩) ⟨Wd.blind, va_recv hK hPc (ci := 1) (q0 := 0) rfl rfl, fun U hU hW => ⟨rfl, Wd.call hPc hDc hK hC hZ hS hFc U hU hW⟩⟩ rfl rfl hl.1 rfl (lv_room (Nat.le_of_ble_eq_true rfl)) dX8_appendTo_21 ⟨(Nat.le_of_ble_eq_true rfl), (Nat.le_of_ble_eq_true rfl)⟩) hS (fun q _ h => hFc q h) hFc (fun u ra t H1 locs ht hvm hw hB hz1 hk1 hS => ?_)
          obtain ⟨hra, qn46, qn47, fn48, hn49, hn50, hn51, hP1, hD1⟩ := hB
          obtain rfl := hra.symm
          rw [ht] at hP1
          obtain ⟨hP, hD⟩ := PDq.join (w := [(oJ4 o0 qn46 0 mb (nI ((((ct + 1) + 1) + 1) + 1))), (qn46, .inl (cA 3, qn47, .inl fn48))]) 0 hP hD [0, 1] [] rfl rfl (by decide) (by decide) hk1 hFc hP1 hD1 rfl
          generalize H1 = H at hP hS ⊢
          refine lv_pop hx hb dX8_appendTo_24 rfl ?_
          refine lv_iinc (v := 4) (lv' := [(4, .int 4), (3, .int (nI kn2)), (0, .ref o0), (1, .long w)]) hx hb dX8_appendTo_25 hl (k := 0) rfl (by first | rfl | decide +kernel) (by decide) rfl (fun ls hl => ?_)
          refine lv_goto (tgt := 8) hx hb dX8_appendTo_28 (by decide) ?_
          refine lv_iload hx hb dX8_appendTo_8 (lv_at hl 0 rfl) ?_
          refine lv_iload_n hx hb dX8_appendTo_10 rfl (lv_at hl 1 rfl) ?_
          refine lv_icmp_ge (tgt := 31) hx hb dX8_appendTo_11 (by decide) (fun c52 => ?_) (fun c52 => ?_)
          · skip
            have hn53 : kn2 ≤ 4 := (nI_leI (a := kn2) (b := 4) (by omega) (by omega)).mp c52
            obtain ⟨hP9, hD9⟩ := PDq.sub (ws' := [(oJ4 o0 qn46 0 mb (nI ((((ct + 1) + 1) + 1) + 1))), (qn46, .inl (cA 3, qn47, .inl fn48))]) hP hD [0, 1] (by decide) rfl
            refine W.widen (k := 9) (n := 2340) (Nat.le_of_ble_eq_true rfl) (Nat.le_of_ble_eq_true rfl) ?_
            exact (W.vret hx hb hr (fun t ht hW => ⟨⟨(), rfl, trivial, qn46, qn47, fn48, ((((ct + 1) + 1) + 1) + 1), (by omega), (by omega), hn50, hn51, by rw [ht]; exact hP9, hD9⟩, hS.F ht⟩) hS.2.2 dX8_appendTo_31)
          · skip
            have hn54 : 4 < kn2 := Nat.lt_of_not_le (fun h9 => c52 (nI_le (a := kn2) (b := 4) h9 (by omega)))
            refine lv_aload_n hx hb dX8_appendTo_14 rfl (lv_at hl 2 rfl) ?_
            refine lv_lload_n hx hb dX8_appendTo_15 rfl (lv_at hl 3 rfl) ?_
            refine lv_iload hx hb dX8_appendTo_16 (lv_at hl 0 rfl) ?_
            obtain ⟨hPc, hDc, hFc⟩ := PDq.cut (wc := []) hP hD hS hA [] (by decide) rfl
            refine va_calli (va_runS (As := [.long w, .int 4]) (rest := [.ref o0]) ⟨hx, hb, hml, hown, hts⟩ (s_letterAt l D cA sa w 4 H.size) (va_cwS 2 hts gX8_appendTo_X8_letterAt rfl rfl rfl (by decide +kernel) ⟨(Nat.le_of_ble_eq_true rfl), (Nat.le_of_ble_eq_true rfl)⟩) ⟨Wd.blind, fun U hU hW => ⟨rfl, Wd.call hPc hDc hK hC hZ hS hFc U hU hW⟩⟩ rfl rfl hl.1 rfl (lv_room (Nat.le_of_ble_eq_true rfl)) dX8_appendTo_18 ⟨(Nat.le_of_ble_eq_true rfl), (Nat.le_of_ble_eq_true rfl)⟩) hS (fun q _ h => hFc q h) hFc (fun rn55 u t H1 locs ht hvm hw hB hz1 hk1 hS => ?_)
            obtain ⟨hP1, hD1⟩ := hB
            rw [ht] at hP1
            obtain ⟨hP, hD⟩ := PDq.join (w := [(oJ4 o0 qn46 0 mb (nI ((((ct + 1) + 1) + 1) + 1))), (qn46, .inl (cA 3, qn47, .inl fn48))]) 2 hP hD [] [0, 1] rfl rfl (by decide) (by decide) hk1 hFc hP1 hD1 rfl
            generalize H1 = H at hP hS ⊢
            obtain ⟨kn56, hn57, hr9⟩ := hw
            subst hr9
            obtain ⟨hPc, hDc, hFc⟩ := PDq.cut (wc := [(oJ4 o0 qn46 0 mb (nI ((((ct + 1) + 1) + 1) + 1))), (qn46, .inl (cA 3, qn47, .inl fn48))]) hP hD hS hA [0, 1] (by decide) rfl
            refine va_callr (va_runV (As := [.int (nI kn56)]) (rest := []) ⟨hx, hb, hml, hown, hts⟩ (j_appendC l D cA sa o0 qn46 ((((ct + 1) + 1) + 1) + 1) qn47 mb fn48 kn56 H.size (by omega) hn50 hn51 hn57 (by omega)) (cwV 1 hts gX8_appendTo_J4_append_cf468 rfl rfl rfl (by decide +kernel) ⟨(Nat.le_of_ble_eq_true rfl), (Nat.le_of_ble_eq_true rfl)⟩) ⟨Wd.blind, va_recv hK hPc (ci := 1) (q0 := 0) rfl rfl, fun U hU hW => ⟨rfl, Wd.call hPc hDc hK hC hZ hS hFc U hU hW⟩⟩ rfl rfl hl.1 rfl (lv_room (Nat.le_of_ble_eq_true rfl)) dX8_appendTo_21 ⟨(Nat.le_of_ble_eq_true rfl), (Nat.le_of_ble_eq_true rfl)⟩) hS (fun q _ h => hFc q h) hFc (fun u ra t H1 locs ht hvm hw hB hz1 hk1 hS => ?_)
            obtain ⟨hra, qn58, qn59, fn60, hn61, hn62, hn63, hP1, hD1⟩ := hB
            obtain rfl := hra.symm
            rw [ht] at hP1
            obtain ⟨hP, hD⟩ := PDq.join (w := [(oJ4 o0 qn58 0 mb (nI (((((ct + 1) + 1) + 1) + 1) + 1))), (qn58, .inl (cA 3, qn59, .inl fn60))]) 0 hP hD [0, 1] [] rfl rfl (by decide) (by decide) hk1 hFc hP1 hD1 rfl
            generalize H1 = H at hP hS ⊢
            refine lv_pop hx hb dX8_appendTo_24 rfl ?_
            refine lv_iinc (v := 5) (lv' := [(4, .int 5), (3, .int (nI kn2)), (0, .ref o0), (1, .long w)]) hx hb dX8_appendTo_25 hl (k := 0) rfl (by first | rfl | decide +kernel) (by decide) rfl (fun ls hl => ?_)
            refine lv_goto (tgt := 8) hx hb dX8_appendTo_28 (by decide) ?_
            refine lv_iload hx hb dX8_appendTo_8 (lv_at hl 0 rfl) ?_
            refine lv_iload_n hx hb dX8_appendTo_10 rfl (lv_at hl 1 rfl) ?_
            refine lv_icmp_ge (tgt := 31) hx hb dX8_appendTo_11 (by decide) (fun c64 => ?_) (fun c64 => ?_)
            · skip
              have hn65 : kn2 ≤ 5 := (nI_leI (a := kn2) (b := 5) (by omega) (by omega)).mp c64
              obtain ⟨hP9, hD9⟩ := PDq.sub (ws' := [(oJ4 o0 qn58 0 mb (nI (((((ct + 1) + 1) + 1) + 1) + 1))), (qn58, .inl (cA 3, qn59, .inl fn60))]) hP hD [0, 1] (by decide) rfl
              refine W.widen (k := 9) (n := 2340) (Nat.le_of_ble_eq_true rfl) (Nat.le_of_ble_eq_true rfl) ?_
              exact (W.vret hx hb hr (fun t ht hW => ⟨⟨(), rfl, trivial, qn58, qn59, fn60, (((((ct + 1) + 1) + 1) + 1) + 1), (by omega), (by omega), hn62, hn63, by rw [ht]; exact hP9, hD9⟩, hS.F ht⟩) hS.2.2 dX8_appendTo_31)
            · skip
              have hn66 : 5 < kn2 := Nat.lt_of_not_le (fun h9 => c64 (nI_le (a := kn2) (b := 5) h9 (by omega)))
              refine lv_aload_n hx hb dX8_appendTo_14 rfl (lv_at hl 2 rfl) ?_
              refine lv_lload_n hx hb dX8_appendTo_15 rfl (lv_at hl 3 rfl) ?_
              refine lv_iload hx hb dX8_appendTo_16 (lv_at hl 0 rfl) ?_
              obtain ⟨hPc, hDc, hFc⟩ := PDq.cut (wc := []) hP hD hS hA [] (by decide) rfl
              refine va_calli (va_runS (As := [.long w, .int 5]) (rest := [.ref o0]) ⟨hx, hb, hml, hown, hts⟩ (s_letterAt l D cA sa w 5 H.size) (va_cwS 2 hts gX8_appendTo_X8_letterAt rfl rfl rfl (by decide +kernel) ⟨(Nat.le_of_ble_eq_true rfl), (Nat.le_of_ble_eq_true rfl)⟩) ⟨Wd.blind, fun U hU hW => ⟨rfl, Wd.call hPc hDc hK hC hZ hS hFc U hU hW⟩⟩ rfl rfl hl.1 rfl (lv_room (Nat.le_of_ble_eq_true rfl)) dX8_appendTo_18 ⟨(Nat.le_of_ble_eq_true rfl), (Nat.le_of_ble_eq_true rfl)⟩) hS (fun q _ h => hFc q h) hFc (fun rn67 u t H1 locs ht hvm hw hB hz1 hk1 hS => ?_)
              obtain ⟨hP1, hD1⟩ := hB
              rw [ht] at hP1
              obtain ⟨hP, hD⟩ := PDq.join (w := [(oJ4 o0 qn58 0 mb (nI (((((ct + 1) + 1) + 1) + 1) + 1))), (qn58, .inl (cA 3, qn59, .inl fn60))]) 2 hP hD [] [0, 1] rfl rfl (by decide) (by decide) hk1 hFc hP1 hD1 rfl
              generalize H1 = H at hP hS ⊢
              obtain ⟨kn68, hn69, hr9⟩ := hw
              subst hr9
              obtain ⟨hPc, hDc, hFc⟩ := PDq.cut (wc := [(oJ4 o0 qn58 0 mb (nI (((((ct + 1) + 1) + 1) + 1) + 1))), (qn58, .inl (cA 3, qn59, .inl fn60))]) hP hD hS hA [0, 1] (by decide) rfl
              refine va_callr (va_runV (As := [.int (nI kn68)]) (rest := []) ⟨hx, hb, hml, hown, hts⟩ (j_appendC l D cA sa o0 qn58 (((((ct + 1) + 1) + 1) + 1) + 1) qn59 mb fn60 kn68 H.size (by omega) hn62 hn63 hn69 (by omega)) (cwV 1 hts gX8_appendTo_J4_append_cf468 rfl rfl rfl (by decide +kernel) ⟨(Nat.le_of_ble_eq_true rfl), (Nat.le_of_ble_eq_true rfl)⟩) ⟨Wd.blind, va_recv hK hPc (ci := 1) (q0 := 0) rfl rfl, fun U hU hW => ⟨rfl, Wd.call hPc hDc hK hC hZ hS hFc U hU hW⟩⟩ rfl rfl hl.1 rfl (lv_room (Nat.le_of_ble_eq_true rfl)) dX8_appendTo_21 ⟨(Nat.le_of_ble_eq_true rfl), (Nat.le_of_ble_eq_true rfl)⟩) hS (fun q _ h => hFc q h) hFc (fun u ra t H1 locs ht hvm hw hB hz1 hk1 hS => ?_)
              obtain ⟨hra, qn70, qn71, fn72, hn73, hn74, hn75, hP1, hD1⟩ := hB
              obtain rfl := hra.symm
              rw [ht] at hP1
              obtain ⟨hP, hD⟩ := PDq.join (w := [(oJ4 o0 qn70 0 mb (nI ((((((ct + 1) + 1) + 1) + 1) + 1) + 1))), (qn70, .inl (cA 3, qn71, .inl fn72))]) 0 hP hD [0, 1] [] rfl rfl (by decide) (by decide) hk1 hFc hP1 hD1 rfl
              generalize H1 = H at hP hS ⊢
              refine lv_pop hx hb dX8_appendTo_24 rfl ?_
              refine lv_iinc (v := 6) (lv' := [(4, .int 6), (3, .int (nI kn2)), (0, .ref o0), (1, .long w)]) hx hb dX8_appendTo_25 hl (k := 0) rfl (by first | rfl | decide +kernel) (by decide) rfl (fun ls hl => ?_)
              refine lv_goto (tgt := 8) hx hb dX8_appendTo_28 (by decide) ?_
              refine lv_iload hx hb dX8_appendTo_8 (lv_at hl 0 rfl) ?_
              refine lv_iload_n hx hb dX8_appendTo_10 rfl (lv_at hl 1 rfl) ?_
              refine lv_icmp_ge (tgt := 31) hx hb dX8_appendTo_11 (by decide) (fun c76 => ?_) (fun c76 => ?_)
              · skip
                have hn77 : kn2 ≤ 6 := (nI_leI (a := kn2) (b := 6) (by omega) (by omega)).mp c76
                obtain ⟨hP9, hD9⟩ := PDq.sub (ws' := [(oJ4 o0 qn70 0 mb (nI ((((((ct + 1) + 1) + 1) + 1) + 1) + 1))), (qn70, .inl (cA 3, qn71, .inl fn72))]) hP hD [0, 1] (by decide) rfl
                refine W.widen (k := 9) (n := 2340) (Nat.le_of_ble_eq_true rfl) (Nat.le_of_ble_eq_true rfl) ?_
                exact (W.vret hx hb hr (fun t ht hW => ⟨⟨(), rfl, trivial, qn70, qn71, fn72, ((((((ct + 1) + 1) + 1) + 1) + 1) + 1), (by omega), (by omega), hn74, hn75, by rw [ht]; exact hP9, hD9⟩, hS.F ht⟩) hS.2.2 dX8_appendTo_31)
              · skip
                have hn78 : 6 < kn2 := Nat.lt_of_not_le (fun h9 => c76 (nI_le (a := kn2) (b := 6) h9 (by omega)))
                refine lv_aload_n hx hb dX8_appendTo_14 rfl (lv_at hl 2 rfl) ?_
                refine lv_lload_n hx hb dX8_appendTo_15 rfl (lv_at hl 3 rfl) ?_
                refine lv_iload hx hb dX8_appendTo_16 (lv_at hl 0 rfl) ?_
                obtain ⟨hPc, hDc, hFc⟩ := PDq.cut (wc := []) hP hD hS hA [] (by decide) rfl
                refine va_calli (va_runS (As := [.long w, .int 6]) (rest := [.ref o0]) ⟨hx, hb, hml, hown, hts⟩ (s_letterAt l D cA sa w 6 H.size) (va_cwS 2 hts gX8_appendTo_X8_letterAt rfl rfl rfl (by decide +kernel) ⟨(Nat.le_of_ble_eq_true rfl), (Nat.le_of_ble_eq_true rfl)⟩) ⟨Wd.blind, fun U hU hW => ⟨rfl, Wd.call hPc hDc hK hC hZ hS hFc U hU hW⟩⟩ rfl rfl hl.1 rfl (lv_room (Nat.le_of_ble_eq_true rfl)) dX8_appendTo_18 ⟨(Nat.le_of_ble_eq_true rfl), (Nat.le_of_ble_eq_true rfl)⟩) hS (fun q _ h => hFc q h) hFc (fun rn79 u t H1 locs ht hvm hw hB hz1 hk1 hS => ?_)
                obtain ⟨hP1, hD1⟩ := hB
                rw [ht] at hP1
                obtain ⟨hP, hD⟩ := PDq.join (w := [(oJ4 o0 qn70 0 mb (nI ((((((ct + 1) + 1) + 1) + 1) + 1) + 1))), (qn70, .inl (cA 3, qn71, .inl fn72))]) 2 hP hD [] [0, 1] rfl rfl (by decide) (by decide) hk1 hFc hP1 hD1 rfl
                generalize H1 = H at hP hS ⊢
                obtain ⟨kn80, hn81, hr9⟩ := hw
                subst hr9
                obtain ⟨hPc, hDc, hFc⟩ := PDq.cut (wc := [(oJ4 o0 qn70 0 mb (nI ((((((ct + 1) + 1) + 1) + 1) + 1) + 1))), (qn70, .inl (cA 3, qn71, .inl fn72))]) hP hD hS hA [0, 1] (by decide) rfl
                refine va_callr (va_runV (As := [.int (nI kn80)]) (rest := []) ⟨hx, hb, hml, hown, hts⟩ (j_appendC l D cA sa o0 qn70 ((((((ct + 1) + 1) + 1) + 1) + 1) + 1) qn71 mb fn72 kn80 H.size (by omega) hn74 hn75 hn81 (by omega)) (cwV 1 hts gX8_appendTo_J4_append_cf468 rfl rfl rfl (by decide +kernel) ⟨(Nat.le_of_ble_eq_true rfl), (Nat.le_of_ble_eq_true rfl)⟩) ⟨Wd.blind, va_recv hK hPc (ci := 1) (q0 := 0) rfl rfl, fun U hU hW => ⟨rfl, Wd.call hPc hDc hK hC hZ hS hFc U hU hW⟩⟩ rfl rfl hl.1 rfl (lv_room (Nat.le_of_ble_eq_true rfl)) dX8_appendTo_21 ⟨(Nat.le_of_ble_eq_true rfl), (Nat.le_of_ble_eq_true rfl)⟩) hS (fun q _ h => hFc q h) hFc (fun u ra t H1 locs ht hvm hw hB hz1 hk1 hS => ?_)
                obtain ⟨hra, qn82, qn83, fn84, hn85, hn86, hn87, hP1, hD1⟩ := hB
                obtain rfl := hra.symm
                rw [ht] at hP1
                obtain ⟨hP, hD⟩ := PDq.join (w := [(oJ4 o0 qn82 0 mb (nI (((((((ct + 1) + 1) + 1) + 1) + 1) + 1) + 1))), (qn82, .inl (cA 3, qn83, .inl fn84))]) 0 hP hD [0, 1] [] rfl rfl (by decide) (by decide) hk1 hFc hP1 hD1 rfl
                generalize H1 = H at hP hS ⊢
                refine lv_pop hx hb dX8_appendTo_24 rfl ?_
                refine lv_iinc (v := 7) (lv' := [(4, .int 7), (3, .int (nI kn2)), (0, .ref o0), (1, .long w)]) hx hb dX8_appendTo_25 hl (k := 0) rfl (by first | rfl | decide +kernel) (by decide) rfl (fun ls hl => ?_)
                refine lv_goto (tgt := 8) hx hb dX8_appendTo_28 (by decide) ?_
                refine lv_iload hx hb dX8_appendTo_8 (lv_at hl 0 rfl) ?_
                refine lv_iload_n hx hb dX8_appendTo_10 rfl (lv_at hl 1 rfl) ?_
                refine lv_icmp_ge (tgt := 31) hx hb dX8_appendTo_11 (by decide) (fun c88 => ?_) (fun c88 => ?_)
                · skip
                  have hn89 : kn2 ≤ 7 := (nI_leI (a := kn2) (b := 7) (by omega) (by omega)).mp c88
                  obtain ⟨hP9, hD9⟩ := PDq.sub (ws' := [(oJ4 o0 qn82 0 mb (nI (((((((ct + 1) + 1) + 1) + 1) + 1) + 1) + 1))), (qn82, .inl (cA 3, qn83, .inl fn84))]) hP hD [0, 1] (by decide) rfl
                  refine W.widen (k := 9) (n := 2340) (Nat.le_of_ble_eq_true rfl) (Nat.le_of_ble_eq_true rfl) ?_
                  exact (W.vret hx hb hr (fun t ht hW => ⟨⟨(), rfl, trivial, qn82, qn83, fn84, (((((((ct + 1) + 1) + 1) + 1) + 1) + 1) + 1), (by omega), (by omega), hn86, hn87, by rw [ht]; exact hP9, hD9⟩, hS.F ht⟩) hS.2.2 dX8_appendTo_31)
                · skip
                  have hn90 : 7 < kn2 := Nat.lt_of_not_le (fun h9 => c88 (nI_le (a := kn2) (b := 7) h9 (by omega)))
                  refine lv_aload_n hx hb dX8_appendTo_14 rfl (lv_at hl 2 rfl) ?_
                  refine lv_lload_n hx hb dX8_appendTo_15 rfl (lv_at hl 3 rfl) ?_
                  refine lv_iload hx hb dX8_appendTo_16 (lv_at hl 0 rfl) ?_
                  obtain ⟨hPc, hDc, hFc⟩ := PDq.cut (wc := []) hP hD hS hA [] (by decide) rfl
                  refine va_calli (va_runS (As := [.long w, .int 7]) (rest := [.ref o0]) ⟨hx, hb, hml, hown, hts⟩ (s_letterAt l D cA sa w 7 H.size) (va_cwS 2 hts gX8_appendTo_X8_letterAt rfl rfl rfl (by decide +kernel) ⟨(Nat.le_of_ble_eq_true rfl), (Nat.le_of_ble_eq_true rfl)⟩) ⟨Wd.blind, fun U hU hW => ⟨rfl, Wd.call hPc hDc hK hC hZ hS hFc U hU hW⟩⟩ rfl rfl hl.1 rfl (lv_room (Nat.le_of_ble_eq_true rfl)) dX8_appendTo_18 ⟨(Nat.le_of_ble_eq_true rfl), (Nat.le_of_ble_eq_true rfl)⟩) hS (fun q _ h => hFc q h) hFc (fun rn91 u t H1 locs ht hvm hw hB hz1 hk1 hS => ?_)
                  obtain ⟨hP1, hD1⟩ := hB
                  rw [ht] at hP1
                  obtain ⟨hP, hD⟩ := PDq.join (w := [(oJ4 o0 qn82 0 mb (nI (((((((ct + 1) + 1) + 1) + 1) + 1) + 1) + 1))), (qn82, .inl (cA 3, qn83, .inl fn84))]) 2 hP hD [] [0, 1] rfl rfl (by decide) (by decide) hk1 hFc hP1 hD1 rfl
                  generalize H1 = H at hP hS ⊢
                  obtain ⟨kn92, hn93, hr9⟩ := hw
                  subst hr9
                  obtain ⟨hPc, hDc, hFc⟩ := PDq.cut (wc := [(oJ4 o0 qn82 0 mb (nI (((((((ct + 1) + 1) + 1) + 1) + 1) + 1) + 1))), (qn82, .inl (cA 3, qn83, .inl fn84))]) hP hD hS hA [0, 1] (by decide) rfl
                  refine va_callr (va_runV (As := [.int (nI kn92)]) (rest := []) ⟨hx, hb, hml, hown, hts⟩ (j_appendC l D cA sa o0 qn82 (((((((ct + 1) + 1) + 1) + 1) + 1) + 1) + 1) qn83 mb fn84 kn92 H.size (by omega) hn86 hn87 hn93 (by omega)) (cwV 1 hts gX8_appendTo_J4_append_cf468 rfl rfl rfl (by decide +kernel) ⟨(Nat.le_of_ble_eq_true rfl), (Nat.le_of_ble_eq_true rfl)⟩) ⟨Wd.blind, va_recv hK hPc (ci := 1) (q0 := 0) rfl rfl, fun U hU hW => ⟨rfl, Wd.call hPc hDc hK hC hZ hS hFc U hU hW⟩⟩ rfl rfl hl.1 rfl (lv_room (Nat.le_of_ble_eq_true rfl)) dX8_appendTo_21 ⟨(Nat.le_of_ble_eq_true rfl), (Nat.le_of_ble_eq_true rfl)⟩) hS (fun q _ h => hFc q h) hFc (fun u ra t H1 locs ht hvm hw hB hz1 hk1 hS => ?_)
                  obtain ⟨hra, qn94, qn95, fn96, hn97, hn98, hn99, hP1, hD1⟩ := hB
                  obtain rfl := hra.symm
                  rw [ht] at hP1
                  obtain ⟨hP, hD⟩ := PDq.join (w := [(oJ4 o0 qn94 0 mb (nI ((((((((ct + 1) + 1) + 1) + 1) + 1) + 1) + 1) + 1))), (qn94, .inl (cA 3, qn95, .inl fn96))]) 0 hP hD [0, 1] [] rfl rfl (by decide) (by decide) hk1 hFc hP1 hD1 rfl
                  generalize H1 = H at hP hS ⊢
                  refine lv_pop hx hb dX8_appendTo_24 rfl ?_
                  refine lv_iinc (v := 8) (lv' := [(4, .int 8), (3, .int (nI kn2)), (0, .ref o0), (1, .long w)]) hx hb dX8_appendTo_25 hl (k := 0) rfl (by first | rfl | decide +kernel) (by decide) rfl (fun ls hl => ?_)
                  refine lv_goto (tgt := 8) hx hb dX8_appendTo_28 (by decide) ?_
                  refine lv_iload hx hb dX8_appendTo_8 (lv_at hl 0 rfl) ?_
                  refine lv_iload_n hx hb dX8_appendTo_10 rfl (lv_at hl 1 rfl) ?_
                  refine lv_icmp_ge (tgt := 31) hx hb dX8_appendTo_11 (by decide) (fun c100 => ?_) (fun c100 => ?_)
                  · skip
                    have hn101 : kn2 ≤ 8 := (nI_leI (a := kn2) (b := 8) (by omega) (by omega)).mp c100
                    obtain ⟨hP9, hD9⟩ := PDq.sub (ws' := [(oJ4 o0 qn94 0 mb (nI ((((((((ct + 1) + 1) + 1) + 1) + 1) + 1) + 1) + 1))), (qn94, .inl (cA 3, qn95, .inl fn96))]) hP hD [0, 1] (by decide) rfl
                    refine W.widen (k := 9) (n := 2340) (Nat.le_of_ble_eq_true rfl) (Nat.le_of_ble_eq_true rfl) ?_
                    exact (W.vret hx hb hr (fun t ht hW => ⟨⟨(), rfl, trivial, qn94, qn95, fn96, ((((((((ct + 1) + 1) + 1) + 1) + 1) + 1) + 1) + 1), (by omega), (by omega), hn98, hn99, by rw [ht]; exact hP9, hD9⟩, hS.F ht⟩) hS.2.2 dX8_appendTo_31)
                  · skip
                    have hn102 : 8 < kn2 := Nat.lt_of_not_le (fun h9 => c100 (nI_le (a := kn2) (b := 8) h9 (by omega)))
                    refine lv_aload_n hx hb dX8_appendTo_14 rfl (lv_at hl 2 rfl) ?_
                    refine lv_lload_n hx hb dX8_appendTo_15 rfl (lv_at hl 3 rfl) ?_
                    refine lv_iload hx hb dX8_appendTo_16 (lv_at hl 0 rfl) ?_
                    obtain ⟨hPc, hDc, hFc⟩ := PDq.cut (wc := []) hP hD hS hA [] (by decide) rfl
                    refine va_calli (va_runS (As := [.long w, .int 8]) (rest := [.ref o0]) ⟨hx, hb, hml, hown, hts⟩ (s_letterAt l D cA sa w 8 H.size) (va_cwS 2 hts gX8_appendTo_X8_letterAt rfl rfl rfl (by decide +kernel) ⟨(Nat.le_of_ble_eq_true rfl), (Nat.le_of_ble_eq_true rfl)⟩) ⟨Wd.blind, fun U hU hW => ⟨rfl, Wd.call hPc hDc hK hC hZ hS hFc U hU hW⟩⟩ rfl rfl hl.1 rfl (lv_room (Nat.le_of_ble_eq_true rfl)) dX8_appendTo_18 ⟨(Nat.le_of_ble_eq_true rfl), (Nat.le_of_ble_eq_true rfl)⟩) hS (fun q _ h => hFc q h) hFc (fun rn103 u t H1 locs ht hvm hw hB hz1 hk1 hS => ?_)
                    obtain ⟨hP1, hD1⟩ := hB
                    rw [ht] at hP1
                    obtain ⟨hP, hD⟩ := PDq.join (w := [(oJ4 o0 qn94 0 mb (nI ((((((((ct + 1) + 1) + 1) + 1) + 1) + 1) + 1) + 1))), (qn94, .inl (cA 3, qn95, .inl fn96))]) 2 hP hD [] [0, 1] rfl rfl (by decide) (by decide) hk1 hFc hP1 hD1 rfl
                    generalize H1 = H at hP hS ⊢
                    obtain ⟨kn104, hn105, hr9⟩ := hw
                    subst hr9
                    obtain ⟨hPc, hDc, hFc⟩ := PDq.cut (wc := [(oJ4 o0 qn94 0 mb (nI ((((((((ct + 1) + 1) + 1) + 1) + 1) + 1) + 1) + 1))), (qn94, .inl (cA 3, qn95, .inl fn96))]) hP hD hS hA [0, 1] (by decide) rfl
                    refine va_callr (va_runV (As := [.int (nI kn104)]) (rest := []) ⟨hx, hb, hml, hown, hts⟩ (j_appendC l D cA sa o0 qn94 ((((((((ct + 1) + 1) + 1) + 1) + 1) + 1) + 1) + 1) qn95 mb fn96 kn104 H.size (by omega) hn98 hn99 hn105 (by omega)) (cwV 1 hts gX8_appendTo_J4_append_cf468 rfl rfl rfl (by decide +kernel) ⟨(Nat.le_of_ble_eq_true rfl), (Nat.le_of_ble_eq_true rfl)⟩) ⟨Wd.blind, va_recv hK hPc (ci := 1) (q0 := 0) rfl rfl, fun U hU hW => ⟨rfl, Wd.call hPc hDc hK hC hZ hS hFc U hU hW⟩⟩ rfl rfl hl.1 rfl (lv_room (Nat.le_of_ble_eq_true rfl)) dX8_appendTo_21 ⟨(Nat.le_of_ble_eq_true rfl), (Nat.le_of_ble_eq_true rfl)⟩) hS (fun q _ h => hFc q h) hFc (fun u ra t H1 locs ht hvm hw hB hz1 hk1 hS => ?_)
                    obtain ⟨hra, qn106, qn107, fn108, hn109, hn110, hn111, hP1, hD1⟩ := hB
                    obtain rfl := hra.symm
                    rw [ht] at hP1
                    obtain ⟨hP, hD⟩ := PDq.join (w := [(oJ4 o0 qn106 0 mb (nI (((((((((ct + 1) + 1) + 1) + 1) + 1) + 1) + 1) + 1) + 1))), (qn106, .inl (cA 3, qn107, .inl fn108))]) 0 hP hD [0, 1] [] rfl rfl (by decide) (by decide) hk1 hFc hP1 hD1 rfl
                    generalize H1 = H at hP hS ⊢
                    refine lv_pop hx hb dX8_appendTo_24 rfl ?_
                    refine lv_iinc (v := 9) (lv' := [(4, .int 9), (3, .int (nI kn2)), (0, .ref o0), (1, .long w)]) hx hb dX8_appendTo_25 hl (k := 0) rfl (by first | rfl | decide +kernel) (by decide) rfl (fun ls hl => ?_)
                    refine lv_goto (tgt := 8) hx hb dX8_appendTo_28 (by decide) ?_
                    refine lv_iload hx hb dX8_appendTo_8 (lv_at hl 0 rfl) ?_
                    refine lv_iload_n hx hb dX8_appendTo_10 rfl (lv_at hl 1 rfl) ?_
                    refine lv_icmp_ge (tgt := 31) hx hb dX8_appendTo_11 (by decide) (fun c112 => ?_) (fun c9 => absurd (nI_le (a := kn2) (b := 9) (show kn2 ≤ 9 by omega) (by omega)) c9)
                    obtain ⟨hP9, hD9⟩ := PDq.sub (ws' := [(oJ4 o0 qn106 0 mb (nI (((((((((ct + 1) + 1) + 1) + 1) + 1) + 1) + 1) + 1) + 1))), (qn106, .inl (cA 3, qn107, .inl fn108))]) hP hD [0, 1] (by decide) rfl
                    refine W.widen (k := 9) (n := 2340) (Nat.le_of_ble_eq_true rfl) (Nat.le_of_ble_eq_true rfl) ?_
                    exact (W.vret hx hb hr (fun t ht hW => ⟨⟨(), rfl, trivial, qn106, qn107, fn108, (((((((((ct + 1) + 1) + 1) + 1) + 1) + 1) + 1) + 1) + 1), (by omega), (by omega), hn110, hn111, by rw [ht]; exact hP9, hD9⟩, hS.F ht⟩) hS.2.2 dX8_appendTo_31)

set_option maxHeartbeats 4000000 in
set_option maxRecDepth 100000 in
/-- State.spelling(0) -/
theorem s_spell0 (l : Launch) (D : va_G) (cA : Nat → ClassId) (sa : Nat → Nat)  (sz : Nat) : Met l yX6_spelling wsX6_spelling ({ frames := 0, cells := 0, slots := 0, locals := 0 }) (va_Pc [.int 0] (Wd D cA sa [] sz)) (va_Qr (fun _ : Unit => True) (fun (_ : Unit) (a9 : Nat) t => a9 = (sa 33) ∧ Wq D (va_A [] sz) [] t) (va_A [] sz)) 0 0 (va_A [] sz) := by
  refine Met.ofW (cc := cX6_spelling) (maxL := 1) (ret := (some (.object "java/lang/String"))) (by decide) rfl ?_
  intro p e s m args below meth c s₁ B hml hv
  obtain ⟨rfl, hsz, hP, hK, hD0, hC, hZ⟩ := hv
  have hx := B.exec
  have hb := B.bytes
  have hr := B.returns
  have hts := atoms_spec (ws := wsX6_spelling) B.pre
  have hown : s.vm.findClass RX6 = some m.cls := findClass_of_methodNamed B.named
  have hlocks := B.notSynchronized
  subst hsz
  have hD := hD0.self (sz := s.heap.size)
  generalize hAe : va_A [] s.heap.size = A at hD hZ ⊢
  have hA : ∀ q : Nat, s.heap.size ≤ q → A q := fun q h => by rw [← hAe]; exact Or.inr h
  have hS : va_S A s.heap s.heap [] := va_S.rf
  have hP : va_P D vwCl [] s.heap := hP
  have hl := lv_entry ([.int 0]) (n := 1) (Nat.le_of_ble_eq_true rfl)
  rw [lg_entry_eq]
  generalize (lg_sl ([.int 0]) ++ List.replicate (1 - (lg_sl ([.int 0])).length) Slot.unset).toArray = ls at hl ⊢
  have hl : lv_has ls 1 [(0, .int 0)] := hl
  refine lv_iload_n hx hb dX6_spelling_0 rfl (lv_at hl 0 rfl) ?_
  refine lv_tableIn (off := 35) (tgt := 36) hx hb dX6_spelling_1 (by decide) (by decide) (by decide) (by decide) ?_
  refine va_ldcS hx hb hown (hC.str 33 rfl) dX6_spelling_36 ?_
  obtain ⟨hP9, hD9⟩ := PDq.sub (ws' := []) hP hD [] (by decide) rfl
  refine W.widen (k := 0) (n := 0) (Nat.le_of_ble_eq_true rfl) (Nat.le_of_ble_eq_true rfl) ?_
  exact (W.aret (v := .ref (sa 33)) hx hb hr (Or.inl ⟨_, rfl⟩) (Or.inr ⟨_, rfl⟩) (fun t ht hW => ⟨⟨(), (sa 33), rfl, trivial, rfl, by rw [ht]; exact hP9, hD9⟩, hS.F ht⟩) hS.2.2 dX6_spelling_38)

set_option maxHeartbeats 4000000 in
set_option maxRecDepth 100000 in
/-- State.spelling(1) -/
theorem s_spell1 (l : Launch) (D : va_G) (cA : Nat → ClassId) (sa : Nat → Nat)  (sz : Nat) : Met l yX6_spelling wsX6_spelling ({ frames := 0, cells := 0, slots := 0, locals := 0 }) (va_Pc [.int 1] (Wd D cA sa [] sz)) (va_Qr (fun _ : Unit => True) (fun (_ : Unit) (a9 : Nat) t => a9 = (sa 34) ∧ Wq D (va_A [] sz) [] t) (va_A [] sz)) 0 0 (va_A [] sz) := by
  refine Met.ofW (cc := cX6_spelling) (maxL := 1) (ret := (some (.object "java/lang/String"))) (by decide) rfl ?_
  intro p e s m args below meth c s₁ B hml hv
  obtain ⟨rfl, hsz, hP, hK, hD0, hC, hZ⟩ := hv
  have hx := B.exec
  have hb := B.bytes
  have hr := B.returns
  have hts := atoms_spec (ws := wsX6_spelling) B.pre
  have hown : s.vm.findClass RX6 = some m.cls := findClass_of_methodNamed B.named
  have hlocks := B.notSynchronized
  subst hsz
  have hD := hD0.self (sz := s.heap.size)
  generalize hAe : va_A [] s.heap.size = A at hD hZ ⊢
  have hA : ∀ q : Nat, s.heap.size ≤ q → A q := fun q h => by rw [← hAe]; exact Or.inr h
  have hS : va_S A s.heap s.heap [] := va_S.rf
  have hP : va_P D vwCl [] s.heap := hP
  have hl := lv_entry ([.int 1]) (n := 1) (Nat.le_of_ble_eq_true rfl)
  rw [lg_entry_eq]
  generalize (lg_sl ([.int 1]) ++ List.replicate (1 - (lg_sl ([.int 1])).length) Slot.unset).toArray = ls at hl ⊢
  have hl : lv_has ls 1 [(0, .int 1)] := hl
  refine lv_iload_n hx hb dX6_spelling_0 rfl (lv_at hl 0 rfl) ?_
  refine lv_tableIn (off := 38) (tgt := 39) hx hb dX6_spelling_1 (by decide) (by decide) (by decide) (by decide) ?_
  refine va_ldcS hx hb hown (hC.str 34 rfl) dX6_spelling_39 ?_
  obtain ⟨hP9, hD9⟩ := PDq.sub (ws' := []) hP hD [] (by decide) rfl
  refine W.widen (k := 0) (n := 0) (Nat.le_of_ble_eq_true rfl) (Nat.le_of_ble_eq_true rfl) ?_
  exact (W.aret (v := .ref (sa 34)) hx hb hr (Or.inl ⟨_, rfl⟩) (Or.inr ⟨_, rfl⟩) (fun t ht hW => ⟨⟨(), (sa 34), rfl, trivial, rfl, by rw [ht]; exact hP9, hD9⟩, hS.F ht⟩) hS.2.2 dX6_spelling_41)

set_option maxHeartbeats 4000000 in
set_option maxRecDepth 100000 in
/-- State.spelling(2) -/
theorem s_spell2 (l : Launch) (D : va_G) (cA : Nat → ClassId) (sa : Nat → Nat)  (sz : Nat) : Met l yX6_spelling wsX6_spelling ({ frames := 0, cells := 0, slots := 0, locals := 0 }) (va_Pc [.int 2] (Wd D cA sa [] sz)) (va_Qr (fun _ : Unit => True) (fun (_ : Unit) (a9 : Nat) t => a9 = (sa 35) ∧ Wq D (va_A [] sz) [] t) (va_A [] sz)) 0 0 (va_A [] sz) := by
  refine Met.ofW (cc := cX6_spelling) (maxL := 1) (ret := (some (.object "java/lang/String"))) (by decide) rfl ?_
  intro p e s m args below meth c s₁ B hml hv
  obtain ⟨rfl, hsz, hP, hK, hD0, hC, hZ⟩ := hv
  have hx := B.exec
  have hb := B.bytes
  have hr := B.returns
  have hts := atoms_spec (ws := wsX6_spelling) B.pre
  have hown : s.vm.findClass RX6 = some m.cls := findClass_of_methodNamed B.named
  have hlocks := B.notSynchronized
  subst hsz
  have hD := hD0.self (sz := s.heap.size)
  generalize hAe : va_A [] s.heap.size = A at hD hZ ⊢
  have hA : ∀ q : Nat, s.heap.size ≤ q → A q := fun q h => by rw [← hAe]; exact Or.inr h
  have hS : va_S A s.heap s.heap [] := va_S.rf
  have hP : va_P D vwCl [] s.heap := hP
  have hl := lv_entry ([.int 2]) (n := 1) (Nat.le_of_ble_eq_true rfl)
  rw [lg_entry_eq]
  generalize (lg_sl ([.int 2]) ++ List.replicate (1 - (lg_sl ([.int 2])).length) Slot.unset).toArray = ls at hl ⊢
  have hl : lv_has ls 1 [(0, .int 2)] := hl
  refine lv_iload_n hx hb dX6_spelling_0 rfl (lv_at hl 0 rfl) ?_
  refine lv_tableIn (off := 41) (tgt := 42) hx hb dX6_spelling_1 (by decide) (by decide) (by decide) (by decide) ?_
  refine va_ldcS hx hb hown (hC.str 35 rfl) dX6_spelling_42 ?_
  obtain ⟨hP9, hD9⟩ := PDq.sub (ws' := []) hP hD [] (by decide) rfl
  refine W.widen (k := 0) (n := 0) (Nat.le_of_ble_eq_true rfl) (Nat.le_of_ble_eq_true rfl) ?_
  exact (W.aret (v := .ref (sa 35)) hx hb hr (Or.inl ⟨_, rfl⟩) (Or.inr ⟨_, rfl⟩) (fun t ht hW => ⟨⟨(), (sa 35), rfl, trivial, rfl, by rw [ht]; exact hP9, hD9⟩, hS.F ht⟩) hS.2.2 dX6_spelling_44)

set_option maxHeartbeats 4000000 in
set_option maxRecDepth 100000 in
/-- State.spelling(3) -/
theorem s_spell3 (l : Launch) (D : va_G) (cA : Nat → ClassId) (sa : Nat → Nat)  (sz : Nat) : Met l yX6_spelling wsX6_spelling ({ frames := 0, cells := 0, slots := 0, locals := 0 }) (va_Pc [.int 3] (Wd D cA sa [] sz)) (va_Qr (fun _ : Unit => True) (fun (_ : Unit) (a9 : Nat) t => a9 = (sa 36) ∧ Wq D (va_A [] sz) [] t) (va_A [] sz)) 0 0 (va_A [] sz) := by
  refine Met.ofW (cc := cX6_spelling) (maxL := 1) (ret := (some (.object "java/lang/String"))) (by decide) rfl ?_
  intro p e s m args below meth c s₁ B hml hv
  obtain ⟨rfl, hsz, hP, hK, hD0, hC, hZ⟩ := hv
  have hx := B.exec
  have hb := B.bytes
  have hr := B.returns
  have hts := atoms_spec (ws := wsX6_spelling) B.pre
  have hown : s.vm.findClass RX6 = some m.cls := findClass_of_methodNamed B.named
  have hlocks := B.notSynchronized
  subst hsz
  have hD := hD0.self (sz := s.heap.size)
  generalize hAe : va_A [] s.heap.size = A at hD hZ ⊢
  have hA : ∀ q : Nat, s.heap.size ≤ q → A q := fun q h => by rw [← hAe]; exact Or.inr h
  have hS : va_S A s.heap s.heap [] := va_S.rf
  have hP : va_P D vwCl [] s.heap := hP
  have hl := lv_entry ([.int 3]) (n := 1) (Nat.le_of_ble_eq_true rfl)
  rw [lg_entry_eq]
  generalize (lg_sl ([.int 3]) ++ List.replicate (1 - (lg_sl ([.int 3])).length) Slot.unset).toArray = ls at hl ⊢
  have hl : lv_has ls 1 [(0, .int 3)] := hl
  refine lv_iload_n hx hb dX6_spelling_0 rfl (lv_at hl 0 rfl) ?_
  refine lv_tableIn (off := 44) (tgt := 45) hx hb dX6_spelling_1 (by decide) (by decide) (by decide) (by decide) ?_
  refine va_ldcS hx hb hown (hC.str 36 rfl) dX6_spelling_45 ?_
  obtain ⟨hP9, hD9⟩ := PDq.sub (ws' := []) hP hD [] (by decide) rfl
  refine W.widen (k := 0) (n := 0) (Nat.le_of_ble_eq_true rfl) (Nat.le_of_ble_eq_true rfl) ?_
  exact (W.aret (v := .ref (sa 36)) hx hb hr (Or.inl ⟨_, rfl⟩) (Or.inr ⟨_, rfl⟩) (fun t ht hW => ⟨⟨(), (sa 36), rfl, trivial, rfl, by rw [ht]; exact hP9, hD9⟩, hS.F ht⟩) hS.2.2 dX6_spelling_47)

set_option maxHeartbeats 4000000 in
set_option maxRecDepth 100000 in
/-- State.spelling(4) -/
theorem s_spell4 (l : Launch) (D : va_G) (cA : Nat → ClassId) (sa : Nat → Nat)  (sz : Nat) : Met l yX6_spelling wsX6_spelling ({ frames := 0, cells := 0, slots := 0, locals := 0 }) (va_Pc [.int 4] (Wd D cA sa [] sz)) (va_Qr (fun _ : Unit => True) (fun (_ : Unit) (a9 : Nat) t => a9 = (sa 37) ∧ Wq D (va_A [] sz) [] t) (va_A [] sz)) 0 0 (va_A [] sz) := by
  refine Met.ofW (cc := cX6_spelling) (maxL := 1) (ret := (some (.object "java/lang/String"))) (by decide) rfl ?_
  intro p e s m args below meth c s₁ B hml hv
  obtain ⟨rfl, hsz, hP, hK, hD0, hC, hZ⟩ := hv
  have hx := B.exec
  have hb := B.bytes
  have hr := B.returns
  have hts := atoms_spec (ws := wsX6_spelling) B.pre
  have hown : s.vm.findClass RX6 = some m.cls := findClass_of_methodNamed B.named
  have hlocks := B.notSynchronized
  subst hsz
  have hD := hD0.self (sz := s.heap.size)
  generalize hAe : va_A [] s.heap.size = A at hD hZ ⊢
  have hA : ∀ q : Nat, s.heap.size ≤ q → A q := fun q h => by rw [← hAe]; exact Or.inr h
  have hS : va_S A s.heap s.heap [] := va_S.rf
  have hP : va_P D vwCl [] s.heap := hP
  have hl := lv_entry ([.int 4]) (n := 1) (Nat.le_of_ble_eq_true rfl)
  rw [lg_entry_eq]
  generalize (lg_sl ([.int 4]) ++ List.replicate (1 - (lg_sl ([.int 4])).length) Slot.unset).toArray = ls at hl ⊢
  have hl : lv_has ls 1 [(0, .int 4)] := hl
  refine lv_iload_n hx hb dX6_spelling_0 rfl (lv_at hl 0 rfl) ?_
  refine lv_tableIn (off := 47) (tgt := 48) hx hb dX6_spelling_1 (by decide) (by decide) (by decide) (by decide) ?_
  refine va_ldcS hx hb hown (hC.str 37 rfl) dX6_spelling_48 ?_
  obtain ⟨hP9, hD9⟩ := PDq.sub (ws' := []) hP hD [] (by decide) rfl
  refine W.widen (k := 0) (n := 0) (Nat.le_of_ble_eq_true rfl) (Nat.le_of_ble_eq_true rfl) ?_
  exact (W.aret (v := .ref (sa 37)) hx hb hr (Or.inl ⟨_, rfl⟩) (Or.inr ⟨_, rfl⟩) (fun t ht hW => ⟨⟨(), (sa 37), rfl, trivial, rfl, by rw [ht]; exact hP9, hD9⟩, hS.F ht⟩) hS.2.2 dX6_spelling_50)

set_option maxHeartbeats 4000000 in
set_option maxRecDepth 100000 in
/-- State.spelling, else -/
theorem s_spellX (l : Launch) (D : va_G) (cA : Nat → ClassId) (sa : Nat → Nat) (a : Int32) (sz : Nat) (h09 : ¬ a = 0) (h19 : ¬ a = 1) (h29 : ¬ a = 2) (h39 : ¬ a = 3) (h49 : ¬ a = 4) : Met l yX6_spelling wsX6_spelling ({ frames := 0, cells := 0, slots := 0, locals := 0 }) (va_Pc [.int a] (Wd D cA sa [] sz)) (va_Qr (fun _ : Unit => True) (fun (_ : Unit) (a9 : Nat) t => a9 = (sa 38) ∧ Wq D (va_A [] sz) [] t) (va_A [] sz)) 0 0 (va_A [] sz) := by
  refine Met.ofW (cc := cX6_spelling) (maxL := 1) (ret := (some (.object "java/lang/String"))) (by decide) rfl ?_
  intro p e s m args below meth c s₁ B hml hv
  obtain ⟨rfl, hsz, hP, hK, hD0, hC, hZ⟩ := hv
  have hx := B.exec
  have hb := B.bytes
  have hr := B.returns
  have hts := atoms_spec (ws := wsX6_spelling) B.pre
  have hown : s.vm.findClass RX6 = some m.cls := findClass_of_methodNamed B.named
  have hlocks := B.notSynchronized
  subst hsz
  have hD := hD0.self (sz := s.heap.size)
  generalize hAe : va_A [] s.heap.size = A at hD hZ ⊢
  have hA : ∀ q : Nat, s.heap.size ≤ q → A q := fun q h => by rw [← hAe]; exact Or.inr h
  have hS : va_S A s.heap s.heap [] := va_S.rf
  have hP : va_P D vwCl [] s.heap := hP
  have hl := lv_entry ([.int a]) (n := 1) (Nat.le_of_ble_eq_true rfl)
  rw [lg_entry_eq]
  generalize (lg_sl ([.int a]) ++ List.replicate (1 - (lg_sl ([.int a])).length) Slot.unset).toArray = ls at hl ⊢
  have hl : lv_has ls 1 [(0, .int a)] := hl
  refine lv_iload_n hx hb dX6_spelling_0 rfl (lv_at hl 0 rfl) ?_
  refine lv_tableOut (tgt := 51) hx hb dX6_spelling_1 (by have q0 : ¬ (a).toInt = 0 := fun e9 => h09 (Int32.toInt_inj.mp (e9.trans (by decide))); have q1 : ¬ (a).toInt = 1 := fun e9 => h19 (Int32.toInt_inj.mp (e9.trans (by decide))); have q2 : ¬ (a).toInt = 2 := fun e9 => h29 (Int32.toInt_inj.mp (e9.trans (by decide))); have q3 : ¬ (a).toInt = 3 := fun e9 => h39 (Int32.toInt_inj.mp (e9.trans (by decide))); have q4 : ¬ (a).toInt = 4 := fun e9 => h49 (Int32.toInt_inj.mp (e9.trans (by decide))); omega) (by decide) ?_
  refine va_ldcS hx hb hown (hC.str 38 rfl) dX6_spelling_51 ?_
  obtain ⟨hP9, hD9⟩ := PDq.sub (ws' := []) hP hD [] (by decide) rfl
  refine W.widen (k := 0) (n := 0) (Nat.le_of_ble_eq_true rfl) (Nat.le_of_ble_eq_true rfl) ?_
  exact (W.aret (v := .ref (sa 38)) hx hb hr (Or.inl ⟨_, rfl⟩) (Or.inr ⟨_, rfl⟩) (fun t ht hW => ⟨⟨(), (sa 38), rfl, trivial, rfl, by rw [ht]; exact hP9, hD9⟩, hS.F ht⟩) hS.2.2 dX6_spelling_53)

set_option maxHeartbeats 4000000 in
set_option maxRecDepth 100000 in
/-- write -/
theorem s_write (l : Launch) (D : va_G) (cA : Nat → ClassId) (sa : Nat → Nat) (h0 : Nat) (b0 : Nat) (nb : Nat) (p0 : Nat) (u0 : Nat) (r0 : Nat) (a0 : Nat) (t0 : Nat) (s0 : Nat) (o0 : Nat) (a1 : Nat) (a3 : Nat) (a4 : Nat) (a5 : Nat) (a6 : Nat) (i6 : Int32) (i7 : Int32) (i8 : Int32) (i12 : Int32) (i13 : Int32) (i14 : Int32) (i15 : Int32) (i16 : Int32) (i17 : Int32) (i18 : Int32) (i19 : Int32) (i9 : Int64) (i10 : Int64) (i11 : Int64) (p1 : Nat) (p2 : Nat) (p3 : Nat) (p4 : Nat) (p5 : Nat) (p6 : Nat) (p7 : Nat) (p8 : Nat) (p9 : Nat) (cn : Nat) (pq : Nat) (nd : Nat) (sc : Nat) (pr : Int32) (pb : Int32) (pe : Int32) (pg : Int32) (fs : Nat → Int32) (fp : Nat → Int32) (ff : Nat → Int32) (fd : Nat → Int32) (fam : Nat → Int32) (fna : Nat → Int64) (o1 : Nat) (ct : Nat) (cp : Nat) (mb : Int32) (fy : Nat → Int32) (i : Int32) (sz : Nat) (hl9 : l.stackTraces = false) (hcn : cn ≤ 10) (hpq : pq ≤ 8) (hnd : nd ≤ 6) (hsc : sc ≤ 350) (hct : ct ≤ cp) (hcp : cp ≤ 126) (hfit : sb_Fit fy) : vx_Met l yX9_write wsX9_write ({ frames := 8, cells := 19, slots := 4686, locals := 170 }) (va_Pc [.ref h0, .int i] (Wd2 D cA sa [(oX9 h0 b0 (nI nb) p0 u0 r0 a0 t0 s0 o0), (oX0 a0 p0 a1 a3 a4 a5 a6 i6 i7 i8 i9 i10 i11 i12 i13 i14 i15 i16 i17 i18 i19), (a3, .inl (cA 0, 10, .inl fs)), (a4, .inl (cA 0, 10, .inl fp)), (a5, .inl (cA 0, 10, .inl ff)), (a6, .inl (cA 0, 10, .inl fd)), (oX3 p0 pr pb pe pg p1 (nI nd) p2 p3 p4 p5 (nI cn) p6 (nI pq) p7 p8 p9 (nI sc)), (p2, .inl (cA 1, 10, .inr (.inl fna))), (p3, .inl (cA 0, 10, .inl fam)), (oJ4 o0 o1 0 mb (nI ct)), (o1, .inl (cA 3, cp, .inl fy))] sz)) (va_Qi (fun (r : Int32) (_ : Unit) => True) (fun (_ : Unit) t => ∃ z1 : Nat, ∃ cp2 : Nat, ∃ zy : Nat → Int32, ∃ ct2 : Nat, ∃ zm : Int32, ct2 ≤ cp2 ∧ ct2 ≤ 62 ∧ cp2 ≤ 126 ∧ sb_Fit zy ∧ Wq D (va_A [(oX9 h0 b0 (nI nb) p0 u0 r0 a0 t0 s0 o0), (oX0 a0 p0 a1 a3 a4 a5 a6 i6 i7 i8 i9 i10 i11 i12 i13 i14 i15 i16 i17 i18 i19), (a3, .inl (cA 0, 10, .inl fs)), (a4, .inl (cA 0, 10, .inl fp)), (a5, .inl (cA 0, 10, .inl ff)), (a6, .inl (cA 0, 10, .inl fd)), (oX3 p0 pr pb pe pg p1 (nI nd) p2 p3 p4 p5 (nI cn) p6 (nI pq) p7 p8 p9 (nI sc)), (p2, .inl (cA 1, 10, .inr (.inl fna))), (p3, .inl (cA 0, 10, .inl fam)), (oJ4 o0 o1 0 mb (nI ct)), (o1, .inl (cA 3, cp, .inl fy))] sz) [(oX9 h0 b0 (nI nb) p0 u0 r0 a0 t0 s0 o0), (oX0 a0 p0 a1 a3 a4 a5 a6 i6 i7 i8 i9 i10 i11 i12 i13 i14 i15 i16 i17 i18 i19), (a3, .inl (cA 0, 10, .inl fs)), (a4, .inl (cA 0, 10, .inl fp)), (a5, .inl (cA 0, 10, .inl ff)), (a6, .inl (cA 0, 10, .inl fd)), (oX3 p0 pr pb pe pg p1 (nI nd) p2 p3 p4 p5 (nI cn) p6 (nI pq) p7 p8 p9 (nI sc)), (p2, .inl (cA 1, 10, .inr (.inl fna))), (p3, .inl (cA 0, 10, .inl fam)), (oJ4 o0 z1 0 zm (nI ct2)), (z1, .inl (cA 3, cp2, .inl zy))] t) (va_A [(oX9 h0 b0 (nI nb) p0 u0 r0 a0 t0 s0 o0), (oX0 a0 p0 a1 a3 a4 a5 a6 i6 i7 i8 i9 i10 i11 i12 i13 i14 i15 i16 i17 i18 i19), (a3, .inl (cA 0, 10, .inl fs)), (a4, .inl (cA 0, 10, .inl fp)), (a5, .inl (cA 0, 10, .inl ff)), (a6, .inl (cA 0, 10, .inl fd)), (oX3 p0 pr pb pe pg p1 (nI nd) p2 p3 p4 p5 (nI cn) p6 (nI pq) p7 p8 p9 (nI sc)), (p2, .inl (cA 1, 10, .inr (.inl fna))), (p3, .inl (cA 0, 10, .inl fam)), (oJ4 o0 o1 0 mb (nI ct)), (o1, .inl (cA 3, cp, .inl fy))] sz)) (vx_X (fun _ : Unit => True) (fun E _ t => (E = "java/lang/IndexOutOfBoundsException") ∧ Wq D (va_A [(oX9 h0 b0 (nI nb) p0 u0 r0 a0 t0 s0 o0), (oX0 a0 p0 a1 a3 a4 a5 a6 i6 i7 i8 i9 i10 i11 i12 i13 i14 i15 i16 i17 i18 i19), (a3, .inl (cA 0, 10, .inl fs)), (a4, .inl (cA 0, 10, .inl fp)), (a5, .inl (cA 0, 10, .inl ff)), (a6, .inl (cA 0, 10, .inl fd)), (oX3 p0 pr pb pe pg p1 (nI nd) p2 p3 p4 p5 (nI cn) p6 (nI pq) p7 p8 p9 (nI sc)), (p2, .inl (cA 1, 10, .inr (.inl fna))), (p3, .inl (cA 0, 10, .inl fam)), (oJ4 o0 o1 0 mb (nI ct)), (o1, .inl (cA 3, cp, .inl fy))] sz) [(oX9 h0 b0 (nI nb) p0 u0 r0 a0 t0 s0 o0), (oX0 a0 p0 a1 a3 a4 a5 a6 i6 i7 i8 i9 i10 i11 i12 i13 i14 i15 i16 i17 i18 i19), (a3, .inl (cA 0, 10, .inl fs)), (a4, .inl (cA 0, 10, .inl fp)), (a5, .inl (cA 0, 10, .inl ff)), (a6, .inl (cA 0, 10, .inl fd)), (oX3 p0 pr pb pe pg p1 (nI nd) p2 p3 p4 p5 (nI cn) p6 (nI pq) p7 p8 p9 (nI sc)), (p2, .inl (cA 1, 10, .inr (.inl fna))), (p3, .inl (cA 0, 10, .inl fam)), (oJ4 o0 o1 0 mb (nI ct)), (o1, .inl (cA 3, cp, .inl fy))] t) (va_A [(oX9 h0 b0 (nI nb) p0 u0 r0 a0 t0 s0 o0), (oX0 a0 p0 a1 a3 a4 a5 a6 i6 i7 i8 i9 i10 i11 i12 i13 i14 i15 i16 i17 i18 i19), (a3, .inl (cA 0, 10, .inl fs)), (a4, .inl (cA 0, 10, .inl fp)), (a5, .inl (cA 0, 10, .inl ff)), (a6, .inl (cA 0, 10, .inl fd)), (oX3 p0 pr pb pe pg p1 (nI nd) p2 p3 p4 p5 (nI cn) p6 (nI pq) p7 p8 p9 (nI sc)), (p2, .inl (cA 1, 10, .inr (.inl fna))), (p3, .inl (cA 0, 10, .inl fam)), (oJ4 o0 o1 0 mb (nI ct)), (o1, .inl (cA 3, cp, .inl fy))] sz)) 19 4686 (va_A [(oX9 h0 b0 (nI nb) p0 u0 r0 a0 t0 s0 o0), (oX0 a0 p0 a1 a3 a4 a5 a6 i6 i7 i8 i9 i10 i11 i12 i13 i14 i15 i16 i17 i18 i19), (a3, .inl (cA 0, 10, .inl fs)), (a4, .inl (cA 0, 10, .inl fp)), (a5, .inl (cA 0, 10, .inl ff)), (a6, .inl (cA 0, 10, .inl fd)), (oX3 p0 pr pb pe pg p1 (nI nd) p2 p3 p4 p5 (nI cn) p6 (nI pq) p7 p8 p9 (nI sc)), (p2, .inl (cA 1, 10, .inr (.inl fna))), (p3, .inl (cA 0, 10, .inl fam)), (oJ4 o0 o1 0 mb (nI ct)), (o1, .inl (cA 3, cp, .inl fy))] sz) := by
  refine vx_ofW (cc := cX9_write) (maxL := 3) (ret := (some .int)) (by decide) rfl ?_
  intro p e s m args below meth c s₁ B hml hno hv
  obtain ⟨rfl, ⟨hsz, hP, hK, hD0, hC, hZ⟩, hG⟩ := hv
  have hx := B.exec
  have hb := B.bytes
  have hr := B.returns
  have hts := atoms_spec (ws := wsX9_write) B.pre
  have hown : s.vm.findClass RX9 = some m.cls := findClass_of_methodNamed B.named
  have hlocks := B.notSynchronized
  subst hsz
  have hD := hD0.self (sz := s.heap.size)
  generalize hAe : va_A [(oX9 h0 b0 (nI nb) p0 u0 r0 a0 t0 s0 o0), (oX0 a0 p0 a1 a3 a4 a5 a6 i6 i7 i8 i9 i10 i11 i12 i13 i14 i15 i16 i17 i18 i19), (a3, .inl (cA 0, 10, .inl fs)), (a4, .inl (cA 0, 10, .inl fp)), (a5, .inl (cA 0, 10, .inl ff)), (a6, .inl (cA 0, 10, .inl fd)), (oX3 p0 pr pb pe pg p1 (nI nd) p2 p3 p4 p5 (nI cn) p6 (nI pq) p7 p8 p9 (nI sc)), (p2, .inl (cA 1, 10, .inr (.inl fna))), (p3, .inl (cA 0, 10, .inl fam)), (oJ4 o0 o1 0 mb (nI ct)), (o1, .inl (cA 3, cp, .inl fy))] s.heap.size = A at hD hZ hG ⊢
  have hA : ∀ q : Nat, s.heap.size ≤ q → A q := fun q h => by rw [← hAe]; exact Or.inr h
  have hS : va_S A s.heap s.heap [] := va_S.rf
  have hP : va_P D vwCl [(oX9 h0 b0 (nI nb) p0 u0 r0 a0 t0 s0 o0), (oX0 a0 p0 a1 a3 a4 a5 a6 i6 i7 i8 i9 i10 i11 i12 i13 i14 i15 i16 i17 i18 i19), (a3, .inl (cA 0, 10, .inl fs)), (a4, .inl (cA 0, 10, .inl fp)), (a5, .inl (cA 0, 10, .inl ff)), (a6, .inl (cA 0, 10, .inl fd)), (oX3 p0 pr pb pe pg p1 (nI nd) p2 p3 p4 p5 (nI cn) p6 (nI pq) p7 p8 p9 (nI sc)), (p2, .inl (cA 1, 10, .inr (.inl fna))), (p3, .inl (cA 0, 10, .inl fam)), (oJ4 o0 o1 0 mb (nI ct)), (o1, .inl (cA 3, cp, .inl fy))] s.heap := hP
  have hl := lv_entry ([.ref h0, .int i]) (n := 3) (Nat.le_of_ble_eq_true rfl)
  rw [lg_entry_eq]
  generalize (lg_sl ([.ref h0, .int i]) ++ List.replicate (3 - (lg_sl ([.ref h0, .int i])).length) Slot.unset).toArray = ls at hl ⊢
  have hl : lv_has ls 3 [(0, .ref h0), (1, .int i)] := hl
  have inX0 : ∀ w ∈ u_ws RX0 TX0 20, w ∈ wsX9_write := by decide +kernel
  have inX3 : ∀ w ∈ u_ws RX3 TX3 17, w ∈ wsX9_write := by decide +kernel
  have inX9 : ∀ w ∈ u_ws RX9 TX9 9, w ∈ wsX9_write := by decide +kernel
  refine lv_aload_n hx hb dX9_write_0 rfl (lv_at hl 0 rfl) ?_
  refine lv_iload_n hx hb dX9_write_1 rfl (lv_at hl 1 rfl) ?_
  obtain ⟨hPc, hDc, hFc⟩ := PDq.cut (wc := [(oX9 h0 b0 (nI nb) p0 u0 r0 a0 t0 s0 o0), (oX3 p0 pr pb pe pg p1 (nI nd) p2 p3 p4 p5 (nI cn) p6 (nI pq) p7 p8 p9 (nI sc))]) hP hD hS hA [0, 6] (by decide) rfl
  refine vx_callv (vx_runV (As := [.int i]) (rest := []) ⟨hx, hb, hml, hown, hts⟩ (s_needMilestone l D cA sa h0 b0 nb p0 u0 r0 a0 t0 s0 o0 p1 p2 p3 p4 p5 p6 p7 p8 p9 cn pq nd sc pr pb pe pg i s.heap.size hl9 hcn hpq hnd hsc) (cwV 1 hts gX9_write_X9_needMilestone rfl rfl rfl (by decide +kernel) ⟨(Nat.le_of_ble_eq_true rfl), (Nat.le_of_ble_eq_true rfl)⟩) ⟨Wd.blind, va_recv hK hPc (ci := 10) (q0 := 0) rfl rfl, fun U hU hW => ⟨rfl, Wd.call hPc hDc hK hC hZ hS hFc U hU hW⟩⟩ rfl rfl hl.1 rfl (lv_room (Nat.le_of_ble_eq_true rfl)) dX9_write_2 ⟨(Nat.le_of_ble_eq_true rfl), (Nat.le_of_ble_eq_true rfl)⟩) hS (fun q _ h => hFc q h) hFc (fun q _ h => hFc q h) (fun E ce q9 u t H1 locs ht hvm hpx hE hz1 hk1 hS hcell hv9 hcl => ?_) (fun u t H1 locs ht hvm hw hB hz1 hk1 hS => ?_)
  · skip
    obtain ⟨hE, hP1, hD1⟩ := hE
    rw [ht] at hP1
    obtain ⟨hP, hD⟩ := PDq.join (w := [(oX0 a0 p0 a1 a3 a4 a5 a6 i6 i7 i8 i9 i10 i11 i12 i13 i14 i15 i16 i17 i18 i19), (a3, .inl (cA 0, 10, .inl fs)), (a4, .inl (cA 0, 10, .inl fp)), (a5, .inl (cA 0, 10, .inl ff)), (a6, .inl (cA 0, 10, .inl fd)), (p2, .inl (cA 1, 10, .inr (.inl fna))), (p3, .inl (cA 0, 10, .inl fam)), (oJ4 o0 o1 0 mb (nI ct)), (o1, .inl (cA 3, cp, .inl fy)), (oX9 h0 b0 (nI nb) p0 u0 r0 a0 t0 s0 o0), (oX3 p0 pr pb pe pg p1 (nI nd) p2 p3 p4 p5 (nI cn) p6 (nI pq) p7 p8 p9 (nI sc))]) 9 hP hD [0, 6] [1, 2, 3, 4, 5, 7, 8, 9, 10] rfl rfl (by decide +kernel) (by decide +kernel) hk1 hFc hP1 hD1 rfl
    generalize H1 = H at hP hS hcell ⊢
    obtain ⟨hP9, hD9⟩ := PDq.sub (ws' := [(oX9 h0 b0 (nI nb) p0 u0 r0 a0 t0 s0 o0), (oX0 a0 p0 a1 a3 a4 a5 a6 i6 i7 i8 i9 i10 i11 i12 i13 i14 i15 i16 i17 i18 i19), (a3, .inl (cA 0, 10, .inl fs)), (a4, .inl (cA 0, 10, .inl fp)), (a5, .inl (cA 0, 10, .inl ff)), (a6, .inl (cA 0, 10, .inl fd)), (oX3 p0 pr pb pe pg p1 (nI nd) p2 p3 p4 p5 (nI cn) p6 (nI pq) p7 p8 p9 (nI sc)), (p2, .inl (cA 1, 10, .inr (.inl fna))), (p3, .inl (cA 0, 10, .inl fam)), (oJ4 o0 o1 0 mb (nI ct)), (o1, .inl (cA 3, cp, .inl fy))]) hP hD [9, 0, 1, 2, 3, 4, 10, 5, 6, 7, 8] (by decide +kernel) rfl
    exact vx_out (fun x h => (hno x h).elim) hlocks hcell hv9 hcl (fun t ht hvm => ⟨(), trivial, ⟨hE, by rw [ht]; exact hP9, hD9⟩, hS.F ht⟩) hS.2.2 (Nat.le_of_ble_eq_true rfl) (Nat.le_of_ble_eq_true rfl)
  · skip
    obtain ⟨qn1, hn2, hn3, hP1, hD1⟩ := hB
    rw [ht] at hP1
    obtain ⟨hP, hD⟩ := PDq.join (w := [(oX0 a0 p0 a1 a3 a4 a5 a6 i6 i7 i8 i9 i10 i11 i12 i13 i14 i15 i16 i17 i18 i19), (a3, .inl (cA 0, 10, .inl fs)), (a4, .inl (cA 0, 10, .inl fp)), (a5, .inl (cA 0, 10, .inl ff)), (a6, .inl (cA 0, 10, .inl fd)), (p2, .inl (cA 1, 10, .inr (.inl fna))), (p3, .inl (cA 0, 10, .inl fam)), (oJ4 o0 o1 0 mb (nI ct)), (o1, .inl (cA 3, cp, .inl fy)), (oX9 h0 b0 (nI nb) p0 u0 r0 a0 t0 s0 o0), (oX3 p0 pr pb pe pg p1 (nI nd) p2 p3 p4 p5 (nI cn) p6 (nI pq) p7 p8 p9 (nI sc))]) 9 hP hD [0, 6] [1, 2, 3, 4, 5, 7, 8, 9, 10] rfl rfl (by decide +kernel) (by decide +kernel) hk1 hFc hP1 hD1 rfl
    generalize H1 = H at hP hS ⊢
    rw [hn3] at hl
    have hl : lv_has ls 3 [(0, .ref h0), (1, .int (nI qn1))] := hl
    refine lv_aload_n hx hb dX9_write_5 rfl (lv_at hl 0 rfl) ?_
    refine va_get (D := D) (ci := 10) (v := .ref a0) (C := RX9) (T := TX9) (N := 9) hx hb hts inX9 hown hK hP 9 rfl rfl 5 (by decide) (hts (.fieldLink RX9 35 "EscrowDesk" "account" "LEscrowDesk$Account;") (by decide +kernel)) (fun _ h9 => h9) rfl dX9_write_6 ?_
    refine va_getN (D := D) (ci := 4) (v := .ref a3) (C := RX0) (T := TX0) (N := 20) hx hb hts inX0 hown hK hP 0 rfl rfl 2 (by decide) (hC.f (A := _) (a := RX9) (i := 122) (b := "EscrowDesk$Account") (n := "state") (d := "[I") (x := "EscrowDesk") (by decide +kernel)) (fun _ h9 => h9) rfl dX9_write_9 ?_
    refine lv_iload_n hx hb dX9_write_12 rfl (lv_at hl 1 rfl) ?_
    refine va_iald hx hb hK hP 1 0 rfl rfl (vp_in_nI (n := qn1) (N := 10) (show qn1 < 10 by omega) (by decide)) dX9_write_13 ?_
    refine lv_topi (fun yn4 eyn4 => ?_)
    refine lv_istore_n (lv' := [(2, .int yn4), (0, .ref h0), (1, .int (nI qn1))]) hx hb dX9_write_14 rfl hl (by decide) rfl (fun ls hl => ?_)
    refine lv_aload_n hx hb dX9_write_15 rfl (lv_at hl 1 rfl) ?_
    refine va_get (D := D) (ci := 10) (v := .ref o0) (C := RX9) (T := TX9) (N := 9) hx hb hts inX9 hown hK hP 9 rfl rfl 8 (by decide) (hts (.fieldLink RX9 52 "EscrowDesk" "output" "Ljava/lang/StringBuilder;") (by decide +kernel)) (fun _ h9 => h9) rfl dX9_write_16 ?_
    refine lv_iconst (v := 0) hx hb dX9_write_19 (by decide) ?_
    obtain ⟨hPc, hDc, hFc⟩ := PDq.cut (wc := [(oJ4 o0 o1 0 mb (nI ct)), (o1, .inl (cA 3, cp, .inl fy))]) hP hD hS hA [7, 8] (by decide) rfl
    refine va_callv (va_runV (As := [.int 0]) (rest := []) ⟨hx, hb, hml, hown, hts⟩ (j_setLength l D cA sa o0 o1 ct cp mb fy H.size hct hcp hfit) (cwV 1 hts gX9_write_J4_setLength_d00df rfl rfl rfl (by decide +kernel) ⟨(Nat.le_of_ble_eq_true rfl), (Nat.le_of_ble_eq_true rfl)⟩) ⟨Wd.blind, va_recv hK hPc (ci := 1) (q0 := 0) rfl rfl, fun U hU hW => ⟨rfl, Wd.call hPc hDc hK hC hZ hS hFc U hU hW⟩⟩ rfl rfl hl.1 rfl (lv_room (Nat.le_of_ble_eq_true rfl)) dX9_write_20 ⟨(Nat.le_of_ble_eq_true rfl), (Nat.le_of_ble_eq_true rfl)⟩) hS (fun q _ h => hFc q h) hFc (fun u t H1 locs ht hvm hw hB hz1 hk1 hS => ?_)
    obtain ⟨qn5, qn6, fn7, zn8, hn9, hn10, hP1, hD1⟩ := hB
    rw [ht] at hP1
    obtain ⟨hP, hD⟩ := PDq.join (w := [(oX0 a0 p0 a1 a3 a4 a5 a6 i6 i7 i8 i9 i10 i11 i12 i13 i14 i15 i16 i17 i18 i19), (a3, .inl (cA 0, 10, .inl fs)), (a4, .inl (cA 0, 10, .inl fp)), (a5, .inl (cA 0, 10, .inl ff)), (a6, .inl (cA 0, 10, .inl fd)), (p2, .inl (cA 1, 10, .inr (.inl fna))), (p3, .inl (cA 0, 10, .inl fam)), (oX9 h0 b0 (nI nb) p0 u0 r0 a0 t0 s0 o0), (oX3 p0 pr pb pe pg p1 (nI nd) p2 p3 p4 p5 (nI cn) p6 (nI pq) p7 p8 p9 (nI sc)), (oJ4 o0 qn5 0 zn8 0), (qn5, .inl (cA 3, qn6, .inl fn7))]) 9 hP hD [7, 8] [0, 1, 2, 3, 4, 5, 6, 9, 10] rfl rfl (by decide +kernel) (by decide +kernel) hk1 hFc hP1 hD1 rfl
    generalize H1 = H at hP hS ⊢
    refine lv_aload_n hx hb dX9_write_23 rfl (lv_at hl 1 rfl) ?_
    refine va_get (D := D) (ci := 10) (v := .ref o0) (C := RX9) (T := TX9) (N := 9) hx hb hts inX9 hown hK hP 7 rfl rfl 8 (by decide) (hts (.fieldLink RX9 52 "EscrowDesk" "output" "Ljava/lang/StringBuilder;") (by decide +kernel)) (fun _ h9 => h9) rfl dX9_write_24 ?_
    refine lv_aload_n hx hb dX9_write_27 rfl (lv_at hl 1 rfl) ?_
    refine va_get (D := D) (ci := 10) (v := .ref p0) (C := RX9) (T := TX9) (N := 9) hx hb hts inX9 hown hK hP 7 rfl rfl 2 (by decide) (hts (.fieldLink RX9 16 "EscrowDesk" "plan" "LEscrowDesk$Plan;") (by decide +kernel)) (fun _ h9 => h9) rfl dX9_write_28 ?_
    refine va_getN (D := D) (ci := 7) (v := .ref p2) (C := RX3) (T := TX3) (N := 17) hx hb hts inX3 hown hK hP 8 rfl rfl 6 (by decide) (hC.f (A := _) (a := RX9) (i := 315) (b := "EscrowDesk$Plan") (n := "names") (d := "[J") (x := "EscrowDesk") (by decide +kernel)) (fun _ h9 => h9) rfl dX9_write_31 ?_
    refine lv_iload_n hx hb dX9_write_34 rfl (lv_at hl 2 rfl) ?_
    refine va_lald hx hb hK hP 5 1 rfl rfl (vp_in_nI (n := qn1) (N := 10) (show qn1 < 10 by omega) (by decide)) dX9_write_35 ?_
    refine lv_topl (fun yn11 eyn11 => ?_)
    obtain ⟨hPc, hDc, hFc⟩ := PDq.cut (wc := [(oJ4 o0 qn5 0 zn8 0), (qn5, .inl (cA 3, qn6, .inl fn7))]) hP hD hS hA [9, 10] (by decide) rfl
    refine va_callv (va_runS (As := [.ref o0, .long yn11]) (rest := []) ⟨hx, hb, hml, hown, hts⟩ (s_appendTo l D cA sa o0 qn5 0 qn6 zn8 fn7 yn11 H.size (by omega) hn9 hn10 (by omega)) (va_cwS 2 hts gX9_write_X8_appendTo rfl rfl rfl (by decide +kernel) ⟨(Nat.le_of_ble_eq_true rfl), (Nat.le_of_ble_eq_true rfl)⟩) ⟨Wd.blind, fun U hU hW => ⟨rfl, Wd.call hPc hDc hK hC hZ hS hFc U hU hW⟩⟩ rfl rfl hl.1 rfl (lv_room (Nat.le_of_ble_eq_true rfl)) dX9_write_36 ⟨(Nat.le_of_ble_eq_true rfl), (Nat.le_of_ble_eq_true rfl)⟩) hS (fun q _ h => hFc q h) hFc (fun u t H1 locs ht hvm hw hB hz1 hk1 hS => ?_)
    obtain ⟨qn12, qn13, fn14, qn15, hn16, hn17, hn18, hn19, hP1, hD1⟩ := hB
    rw [ht] at hP1
    obtain ⟨hP, hD⟩ := PDq.join (w := [(oX0 a0 p0 a1 a3 a4 a5 a6 i6 i7 i8 i9 i10 i11 i12 i13 i14 i15 i16 i17 i18 i19), (a3, .inl (cA 0, 10, .inl fs)), (a4, .inl (cA 0, 10, .inl fp)), (a5, .inl (cA 0, 10, .inl ff)), (a6, .inl (cA 0, 10, .inl fd)), (p2, .inl (cA 1, 10, .inr (.inl fna))), (p3, .inl (cA 0, 10, .inl fam)), (oX9 h0 b0 (nI nb) p0 u0 r0 a0 t0 s0 o0), (oX3 p0 pr pb pe pg p1 (nI nd) p2 p3 p4 p5 (nI cn) p6 (nI pq) p7 p8 p9 (nI sc)), (oJ4 o0 qn12 0 zn8 (nI qn15)), (qn12, .inl (cA 3, qn13, .inl fn14))]) 9 hP hD [9, 10] [0, 1, 2, 3, 4, 5, 6, 7, 8] rfl rfl (by decide +kernel) (by decide +kernel) hk1 hFc hP1 hD1 rfl
    generalize H1 = H at hP hS ⊢
    refine lv_aload_n hx hb dX9_write_39 rfl (lv_at hl 1 rfl) ?_
    refine va_get (D := D) (ci := 10) (v := .ref o0) (C := RX9) (T := TX9) (N := 9) hx hb hts inX9 hown hK hP 7 rfl rfl 8 (by decide) (hts (.fieldLink RX9 52 "EscrowDesk" "output" "Ljava/lang/StringBuilder;") (by decide +kernel)) (fun _ h9 => h9) rfl dX9_write_40 ?_
    refine lv_bipush (v := 32) hx hb dX9_write_43 (by decide) ?_
    obtain ⟨hPc, hDc, hFc⟩ := PDq.cut (wc := [(oJ4 o0 qn12 0 zn8 (nI qn15)), (qn12, .inl (cA 3, qn13, .inl fn14))]) hP hD hS hA [9, 10] (by decide) rfl
    refine va_callr (va_runV (As := [.int 32]) (rest := []) ⟨hx, hb, hml, hown, hts⟩ (j_appendC l D cA sa o0 qn12 qn15 qn13 zn8 fn14 32 H.size hn17 hn18 hn19 (by omega) (by omega)) (cwV 1 hts gX9_write_J4_append_cf468 rfl rfl rfl (by decide +kernel) ⟨(Nat.le_of_ble_eq_true rfl), (Nat.le_of_ble_eq_true rfl)⟩) ⟨Wd.blind, va_recv hK hPc (ci := 1) (q0 := 0) rfl rfl, fun U hU hW => ⟨rfl, Wd.call hPc hDc hK hC hZ hS hFc U hU hW⟩⟩ rfl rfl hl.1 rfl (lv_room (Nat.le_of_ble_eq_true rfl)) dX9_write_45 ⟨(Nat.le_of_ble_eq_true rfl), (Nat.le_of_ble_eq_true rfl)⟩) hS (fun q _ h => hFc q h) hFc (fun u ra t H1 locs ht hvm hw hB hz1 hk1 hS => ?_)
    obtain ⟨hra, qn20, qn21, fn22, hn23, hn24, hn25, hP1, hD1⟩ := hB
    obtain rfl := hra.symm
    rw [ht] at hP1
    obtain ⟨hP, hD⟩ := PDq.join (w := [(oX0 a0 p0 a1 a3 a4 a5 a6 i6 i7 i8 i9 i10 i11 i12 i13 i14 i15 i16 i17 i18 i19), (a3, .inl (cA 0, 10, .inl fs)), (a4, .inl (cA 0, 10, .inl fp)), (a5, .inl (cA 0, 10, .inl ff)), (a6, .inl (cA 0, 10, .inl fd)), (p2, .inl (cA 1, 10, .inr (.inl fna))), (p3, .inl (cA 0, 10, .inl fam)), (oX9 h0 b0 (nI nb) p0 u0 r0 a0 t0 s0 o0), (oX3 p0 pr pb pe pg p1 (nI nd) p2 p3 p4 p5 (nI cn) p6 (nI pq) p7 p8 p9 (nI sc)), (oJ4 o0 qn20 0 zn8 (nI (qn15 + 1))), (qn20, .inl (cA 3, qn21, .inl fn22))]) 9 hP hD [9, 10] [0, 1, 2, 3, 4, 5, 6, 7, 8] rfl rfl (by decide +kernel) (by decide +kernel) hk1 hFc hP1 hD1 rfl
    generalize H1 = H at hP hS ⊢
    refine lv_pop hx hb dX9_write_48 rfl ?_
    refine lv_aload_n hx hb dX9_write_49 rfl (lv_at hl 1 rfl) ?_
    refine va_get (D := D) (ci := 10) (v := .ref o0) (C := RX9) (T := TX9) (N := 9) hx hb hts inX9 hown hK hP 7 rfl rfl 8 (by decide) (hts (.fieldLink RX9 52 "EscrowDesk" "output" "Ljava/lang/StringBuilder;") (by decide +kernel)) (fun _ h9 => h9) rfl dX9_write_50 ?_
    refine lv_iload_n hx hb dX9_write_53 rfl (lv_at hl 0 rfl) ?_
    by_cases hn26 : yn4 = 0
    · skip
      rw [hn26] at hl
      have hl : lv_has ls 3 [(2, .int 0), (0, .ref h0), (1, .int (nI qn1))] := hl
      refine W.eq (g2 := F0 m 54 ls [.int 0, .ref o0]) (by rw [hn26]) ?_
      obtain ⟨hPc, hDc, hFc⟩ := PDq.cut (wc := []) hP hD hS hA [] (by decide) rfl
      refine va_callr (va_runS (As := [.int 0]) (rest := [.ref o0]) ⟨hx, hb, hml, hown, hts⟩ (s_spell0 l D cA sa  H.size) (va_cwS 1 hts gX9_write_X6_spelling rfl rfl rfl (by decide +kernel) ⟨(Nat.le_of_ble_eq_true rfl), (Nat.le_of_ble_eq_true rfl)⟩) ⟨Wd.blind, fun U hU hW => ⟨rfl, Wd.call hPc hDc hK hC hZ hS hFc U hU hW⟩⟩ rfl rfl hl.1 rfl (lv_room (Nat.le_of_ble_eq_true rfl)) dX9_write_54 ⟨(Nat.le_of_ble_eq_true rfl), (Nat.le_of_ble_eq_true rfl)⟩) hS (fun q _ h => hFc q h) hFc (fun u ra t H1 locs ht hvm hw hB hz1 hk1 hS => ?_)
      obtain ⟨hra, hP1, hD1⟩ := hB
      obtain rfl := hra.symm
      rw [ht] at hP1
      obtain ⟨hP, hD⟩ := PDq.join (w := [(oX0 a0 p0 a1 a3 a4 a5 a6 i6 i7 i8 i9 i10 i11 i12 i13 i14 i15 i16 i17 i18 i19), (a3, .inl (cA 0, 10, .inl fs)), (a4, .inl (cA 0, 10, .inl fp)), (a5, .inl (cA 0, 10, .inl ff)), (a6, .inl (cA 0, 10, .inl fd)), (p2, .inl (cA 1, 10, .inr (.inl fna))), (p3, .inl (cA 0, 10, .inl fam)), (oX9 h0 b0 (nI nb) p0 u0 r0 a0 t0 s0 o0), (oX3 p0 pr pb pe pg p1 (nI nd) p2 p3 p4 p5 (nI cn) p6 (nI pq) p7 p8 p9 (nI sc)), (oJ4 o0 qn20 0 zn8 (nI (qn15 + 1))), (qn20, .inl (cA 3, qn21, .inl fn22))]) 11 hP hD [] [0, 1, 2, 3, 4, 5, 6, 7, 8, 9, 10] rfl rfl (by decide +kernel) (by decide +kernel) hk1 hFc hP1 hD1 rfl
      generalize H1 = H at hP hS ⊢
      obtain ⟨hPc, hDc, hFc⟩ := PDq.cut (wc := [(oJ4 o0 qn20 0 zn8 (nI (qn15 + 1))), (qn20, .inl (cA 3, qn21, .inl fn22))]) hP hD hS hA [9, 10] (by decide) rfl
      refine va_callr (va_runV (As := [.ref (sa 33)]) (rest := []) ⟨hx, hb, hml, hown, hts⟩ (j_appendS l D cA sa o0 qn20 (qn15 + 1) qn21 zn8 fn22 33 ([111, 112, 101, 110]) 4 H.size (by decide +kernel) (by omega) hn24 hn25 rfl (by omega)) (cwV 1 hts gX9_write_J4_append_15ec4 rfl rfl rfl (by decide +kernel) ⟨(Nat.le_of_ble_eq_true rfl), (Nat.le_of_ble_eq_true rfl)⟩) ⟨Wd.blind, va_recv hK hPc (ci := 1) (q0 := 0) rfl rfl, fun U hU hW => ⟨rfl, Wd.call hPc hDc hK hC hZ hS hFc U hU hW⟩⟩ rfl rfl hl.1 rfl (lv_room (Nat.le_of_ble_eq_true rfl)) dX9_write_57 ⟨(Nat.le_of_ble_eq_true rfl), (Nat.le_of_ble_eq_true rfl)⟩) hS (fun q _ h => hFc q h) hFc (fun u ra t H1 locs ht hvm hw hB hz1 hk1 hS => ?_)
      obtain ⟨hra, qn27, qn28, fn29, qn30, hn31, hn32, hn33, hn34, hP1, hD1⟩ := hB
      obtain rfl := hra.symm
      rw [ht] at hP1
      obtain ⟨hP, hD⟩ := PDq.join (w := [(oX0 a0 p0 a1 a3 a4 a5 a6 i6 i7 i8 i9 i10 i11 i12 i13 i14 i15 i16 i17 i18 i19), (a3, .inl (cA 0, 10, .inl fs)), (a4, .inl (cA 0, 10, .inl fp)), (a5, .inl (cA 0, 10, .inl ff)), (a6, .inl (cA 0, 10, .inl fd)), (p2, .inl (cA 1, 10, .inr (.inl fna))), (p3, .inl (cA 0, 10, .inl fam)), (oX9 h0 b0 (nI nb) p0 u0 r0 a0 t0 s0 o0), (oX3 p0 pr pb pe pg p1 (nI nd) p2 p3 p4 p5 (nI cn) p6 (nI pq) p7 p8 p9 (nI sc)), (oJ4 o0 qn27 0 zn8 (nI qn30)), (qn27, .inl (cA 3, qn28, .inl fn29))]) 9 hP hD [9, 10] [0, 1, 2, 3, 4, 5, 6, 7, 8] rfl rfl (by decide +kernel) (by decide +kernel) hk1 hFc hP1 hD1 rfl
      generalize H1 = H at hP hS ⊢
      refine lv_pop hx hb dX9_write_60 rfl ?_
      refine lv_aload_n hx hb dX9_write_61 rfl (lv_at hl 1 rfl) ?_
      refine va_get (D := D) (ci := 10) (v := .ref o0) (C := RX9) (T := TX9) (N := 9) hx hb hts inX9 hown hK hP 7 rfl rfl 8 (by decide) (hts (.fieldLink RX9 52 "EscrowDesk" "output" "Ljava/lang/StringBuilder;") (by decide +kernel)) (fun _ h9 => h9) rfl dX9_write_62 ?_
      refine lv_bipush (v := 32) hx hb dX9_write_65 (by decide) ?_
      obtain ⟨hPc, hDc, hFc⟩ := PDq.cut (wc := [(oJ4 o0 qn27 0 zn8 (nI qn30)), (qn27, .inl (cA 3, qn28, .inl fn29))]) hP hD hS hA [9, 10] (by decide) rfl
      refine va_callr (va_runV (As := [.int 32]) (rest := []) ⟨hx, hb, hml, hown, hts⟩ (j_appendC l D cA sa o0 qn27 qn30 qn28 zn8 fn29 32 H.size hn32 hn33 hn34 (by omega) (by omega)) (cwV 1 hts gX9_write_J4_append_cf468 rfl rfl rfl (by decide +kernel) ⟨(Nat.le_of_ble_eq_true rfl), (Nat.le_of_ble_eq_true rfl)⟩) ⟨Wd.blind, va_recv hK hPc (ci := 1) (q0 := 0) rfl rfl, fun U hU hW => ⟨rfl, Wd.call hPc hDc hK hC hZ hS hFc U hU hW⟩⟩ rfl rfl hl.1 rfl (lv_room (Nat.le_of_ble_eq_true rfl)) dX9_write_67 ⟨(Nat.le_of_ble_eq_true rfl), (Nat.le_of_ble_eq_true rfl)⟩) hS (fun q _ h => hFc q h) hFc (fun u ra t H1 locs ht hvm hw hB hz1 hk1 hS => ?_)
      obtain ⟨hra, qn35, qn36, fn37, hn38, hn39, hn40, hP1, hD1⟩ := hB
      obtain rfl := hra.symm
      rw [ht] at hP1
      obtain ⟨hP, hD⟩ := PDq.join (w := [(oX0 a0 p0 a1 a3 a4 a5 a6 i6 i7 i8 i9 i10 i11 i12 i13 i14 i15 i16 i17 i18 i19), (a3, .inl (cA 0, 10, .inl fs)), (a4, .inl (cA 0, 10, .inl fp)), (a5, .inl (cA 0, 10, .inl ff)), (a6, .inl (cA 0, 10, .inl fd)), (p2, .inl (cA 1, 10, .inr (.inl fna))), (p3, .inl (cA 0, 10, .inl fam)), (oX9 h0 b0 (nI nb) p0 u0 r0 a0 t0 s0 o0), (oX3 p0 pr pb pe pg p1 (nI nd) p2 p3 p4 p5 (nI cn) p6 (nI pq) p7 p8 p9 (nI sc)), (oJ4 o0 qn35 0 zn8 (nI (qn30 + 1))), (qn35, .inl (cA 3, qn36, .inl fn37))]) 9 hP hD [9, 10] [0, 1, 2, 3, 4, 5, 6, 7, 8] rfl rfl (by decide +kernel) (by decide +kernel) hk1 hFc hP1 hD1 rfl
      generalize H1 = H at hP hS ⊢
      refine lv_pop hx hb dX9_write_70 rfl ?_
      refine lv_aload_n hx hb dX9_write_71 rfl (lv_at hl 1 rfl) ?_
      refine va_get (D := D) (ci := 10) (v := .ref o0) (C := RX9) (T := TX9) (N := 9) hx hb hts inX9 hown hK hP 7 rfl rfl 8 (by decide) (hts (.fieldLink RX9 52 "EscrowDesk" "output" "Ljava/lang/StringBuilder;") (by decide +kernel)) (fun _ h9 => h9) rfl dX9_write_72 ?_
      refine lv_aload_n hx hb dX9_write_75 rfl (lv_at hl 1 rfl) ?_
      refine va_get (D := D) (ci := 10) (v := .ref a0) (C := RX9) (T := TX9) (N := 9) hx hb hts inX9 hown hK hP 7 rfl rfl 5 (by decide) (hts (.fieldLink RX9 35 "EscrowDesk" "account" "LEscrowDesk$Account;") (by decide +kernel)) (fun _ h9 => h9) rfl dX9_write_76 ?_
      refine va_getN (D := D) (ci := 4) (v := .ref a4) (C := RX0) (T := TX0) (N := 20) hx hb hts inX0 hown hK hP 0 rfl rfl 3 (by decide) (hC.f (A := _) (a := RX9) (i := 126) (b := "EscrowDesk$Account") (n := "paid") (d := "[I") (x := "EscrowDesk") (by decide +kernel)) (fun _ h9 => h9) rfl dX9_write_79 ?_
      refine lv_iload_n hx hb dX9_write_82 rfl (lv_at hl 2 rfl) ?_
      refine va_iald hx hb hK hP 2 0 rfl rfl (vp_in_nI (n := qn1) (N := 10) (show qn1 < 10 by omega) (by decide)) dX9_write_83 ?_
      refine lv_topi (fun yn41 eyn41 => ?_)
      obtain ⟨hPc, hDc, hFc⟩ := PDq.cut (wc := [(oJ4 o0 qn35 0 zn8 (nI (qn30 + 1))), (qn35, .inl (cA 3, qn36, .inl fn37))]) hP hD hS hA [9, 10] (by decide) rfl
      refine va_callr (va_runV (As := [.int yn41]) (rest := []) ⟨hx, hb, hml, hown, hts⟩ (j_appendI l D cA sa o0 qn35 (qn30 + 1) qn36 zn8 fn37 yn41 H.size (by omega) hn39 hn40 (by omega)) (cwV 1 hts gX9_write_J4_append_bf812 rfl rfl rfl (by decide +kernel) ⟨(Nat.le_of_ble_eq_true rfl), (Nat.le_of_ble_eq_true rfl)⟩) ⟨Wd2.blind, va_recv hK hPc (ci := 1) (q0 := 0) rfl rfl, fun U hU hW => ⟨rfl, Wd2.call (Wd.call hPc hDc hK hC hZ hS hFc U hU hW) hG hS hFc hU hW⟩⟩ rfl rfl hl.1 rfl (lv_room (Nat.le_of_ble_eq_true rfl)) dX9_write_84 ⟨(Nat.le_of_ble_eq_true rfl), (Nat.le_of_ble_eq_true rfl)⟩) hS (fun q _ h => hFc q h) hFc (fun u ra t H1 locs ht hvm hw hB hz1 hk1 hS => ?_)
      obtain ⟨hra, qn42, qn43, fn44, qn45, hn46, hn47, hn48, hn49, hP1, hD1⟩ := hB
      obtain rfl := hra.symm
      rw [ht] at hP1
      obtain ⟨hP, hD⟩ := PDq.join (w := [(oX0 a0 p0 a1 a3 a4 a5 a6 i6 i7 i8 i9 i10 i11 i12 i13 i14 i15 i16 i17 i18 i19), (a3, .inl (cA 0, 10, .inl fs)), (a4, .inl (cA 0, 10, .inl fp)), (a5, .inl (cA 0, 10, .inl ff)), (a6, .inl (cA 0, 10, .inl fd)), (p2, .inl (cA 1, 10, .inr (.inl fna))), (p3, .inl (cA 0, 10, .inl fam)), (oX9 h0 b0 (nI nb) p0 u0 r0 a0 t0 s0 o0), (oX3 p0 pr pb pe pg p1 (nI nd) p2 p3 p4 p5 (nI cn) p6 (nI pq) p7 p8 p9 (nI sc)), (oJ4 o0 qn42 0 zn8 (nI qn45)), (qn42, .inl (cA 3, qn43, .inl fn44))]) 9 hP hD [9, 10] [0, 1, 2, 3, 4, 5, 6, 7, 8] rfl rfl (by decide +kernel) (by decide +kernel) hk1 hFc hP1 hD1 rfl
      generalize H1 = H at hP hS ⊢
      refine lv_pop hx hb dX9_write_87 rfl ?_
      refine lv_aload_n hx hb dX9_write_88 rfl (lv_at hl 1 rfl) ?_
      refine va_get (D := D) (ci := 10) (v := .ref o0) (C := RX9) (T := TX9) (N := 9) hx hb hts inX9 hown hK hP 7 rfl rfl 8 (by decide) (hts (.fieldLink RX9 52 "EscrowDesk" "output" "Ljava/lang/StringBuilder;") (by decide +kernel)) (fun _ h9 => h9) rfl dX9_write_89 ?_
      refine lv_bipush (v := 47) hx hb dX9_write_92 (by decide) ?_
      obtain ⟨hPc, hDc, hFc⟩ := PDq.cut (wc := [(oJ4 o0 qn42 0 zn8 (nI qn45)), (qn42, .inl (cA 3, qn43, .inl fn44))]) hP hD hS hA [9, 10] (by decide) rfl
      refine va_callr (va_runV (As := [.int 47]) (rest := []) ⟨hx, hb, hml, hown, hts⟩ (j_appendC l D cA sa o0 qn42 qn45 qn43 zn8 fn44 47 H.size hn47 hn48 hn49 (by omega) (by omega)) (cwV 1 hts gX9_write_J4_append_cf468 rfl rfl rfl (by decide +kernel) ⟨(Nat.le_of_ble_eq_true rfl), (Nat.le_of_ble_eq_true rfl)⟩) ⟨Wd.blind, va_recv hK hPc (ci := 1) (q0 := 0) rfl rfl, fun U hU hW => ⟨rfl, Wd.call hPc hDc hK hC hZ hS hFc U hU hW⟩⟩ rfl rfl hl.1 rfl (lv_room (Nat.le_of_ble_eq_true rfl)) dX9_write_94 ⟨(Nat.le_of_ble_eq_true rfl), (Nat.le_of_ble_eq_true rfl)⟩) hS (fun q _ h => hFc q h) hFc (fun u ra t H1 locs ht hvm hw hB hz1 hk1 hS => ?_)
      obtain ⟨hra, qn50, qn51, fn52, hn53, hn54, hn55, hP1, hD1⟩ := hB
      obtain rfl := hra.symm
      rw [ht] at hP1
      obtain ⟨hP, hD⟩ := PDq.join (w := [(oX0 a0 p0 a1 a3 a4 a5 a6 i6 i7 i8 i9 i10 i11 i12 i13 i14 i15 i16 i17 i18 i19), (a3, .inl (cA 0, 10, .inl fs)), (a4, .inl (cA 0, 10, .inl fp)), (a5, .inl (cA 0, 10, .inl ff)), (a6, .inl (cA 0, 10, .inl fd)), (p2, .inl (cA 1, 10, .inr (.inl fna))), (p3, .inl (cA 0, 10, .inl fam)), (oX9 h0 b0 (nI nb) p0 u0 r0 a0 t0 s0 o0), (oX3 p0 pr pb pe pg p1 (nI nd) p2 p3 p4 p5 (nI cn) p6 (nI pq) p7 p8 p9 (nI sc)), (oJ4 o0 qn50 0 zn8 (nI (qn45 + 1))), (qn50, .inl (cA 3, qn51, .inl fn52))]) 9 hP hD [9, 10] [0, 1, 2, 3, 4, 5, 6, 7, 8] rfl rfl (by decide +kernel) (by decide +kernel) hk1 hFc hP1 hD1 rfl
      generalize H1 = H at hP hS ⊢
      refine lv_pop hx hb dX9_write_97 rfl ?_
      refine lv_aload_n hx hb dX9_write_98 rfl (lv_at hl 1 rfl) ?_
      refine va_get (D := D) (ci := 10) (v := .ref o0) (C := RX9) (T := TX9) (N := 9) hx hb hts inX9 hown hK hP 7 rfl rfl 8 (by decide) (hts (.fieldLink RX9 52 "EscrowDesk" "output" "Ljava/lang/StringBuilder;") (by decide +kernel)) (fun _ h9 => h9) rfl dX9_write_99 ?_
      refine lv_aload_n hx hb dX9_write_102 rfl (lv_at hl 1 rfl) ?_
      refine va_get (D := D) (ci := 10) (v := .ref p0) (C := RX9) (T := TX9) (N := 9) hx hb hts inX9 hown hK hP 7 rfl rfl 2 (by decide) (hts (.fieldLink RX9 16 "EscrowDesk" "plan" "LEscrowDesk$Plan;") (by decide +kernel)) (fun _ h9 => h9) rfl dX9_write_103 ?_
      refine va_getN (D := D) (ci := 7) (v := .ref p3) (C := RX3) (T := TX3) (N := 17) hx hb hts inX3 hown hK hP 8 rfl rfl 7 (by decide) (hC.f (A := _) (a := RX9) (i := 165) (b := "EscrowDesk$Plan") (n := "amounts") (d := "[I") (x := "EscrowDesk") (by decide +kernel)) (fun _ h9 => h9) rfl dX9_write_106 ?_
      refine lv_iload_n hx hb dX9_write_109 rfl (lv_at hl 2 rfl) ?_
      refine va_iald hx hb hK hP 6 0 rfl rfl (vp_in_nI (n := qn1) (N := 10) (show qn1 < 10 by omega) (by decide)) dX9_write_110 ?_
      refine lv_topi (fun yn56 eyn56 => ?_)
      obtain ⟨hPc, hDc, hFc⟩ := PDq.cut (wc := [(oJ4 o0 qn50 0 zn8 (nI (qn45 + 1))), (qn50, .inl (cA 3, qn51, .inl fn52))]) hP hD hS hA [9, 10] (by decide) rfl
      refine va_callr (va_runV (As := [.int yn56]) (rest := []) ⟨hx, hb, hml, hown, hts⟩ (j_appendI l D cA sa o0 qn50 (qn45 + 1) qn51 zn8 fn52 yn56 H.size (by omega) hn54 hn55 (by omega)) (cwV 1 hts gX9_write_J4_append_bf812 rfl rfl rfl (by decide +kernel) ⟨(Nat.le_of_ble_eq_true rfl), (Nat.le_of_ble_eq_true rfl)⟩) ⟨Wd2.blind, va_recv hK hPc (ci := 1) (q0 := 0) rfl rfl, fun U hU hW => ⟨rfl, Wd2.call (Wd.call hPc hDc hK hC hZ hS hFc U hU hW) hG hS hFc hU hW⟩⟩ rfl rfl hl.1 rfl (lv_room (Nat.le_of_ble_eq_true rfl)) dX9_write_111 ⟨(Nat.le_of_ble_eq_true rfl), (Nat.le_of_ble_eq_true rfl)⟩) hS (fun q _ h => hFc q h) hFc (fun u ra t H1 locs ht hvm hw hB hz1 hk1 hS => ?_)
      obtain ⟨hra, qn57, qn58, fn59, qn60, hn61, hn62, hn63, hn64, hP1, hD1⟩ := hB
      obtain rfl := hra.symm
      rw [ht] at hP1
      obtain ⟨hP, hD⟩ := PDq.join (w := [(oX0 a0 p0 a1 a3 a4 a5 a6 i6 i7 i8 i9 i10 i11 i12 i13 i14 i15 i16 i17 i18 i19), (a3, .inl (cA 0, 10, .inl fs)), (a4, .inl (cA 0, 10, .inl fp)), (a5, .inl (cA 0, 10, .inl ff)), (a6, .inl (cA 0, 10, .inl fd)), (p2, .inl (cA 1, 10, .inr (.inl fna))), (p3, .inl (cA 0, 10, .inl fam)), (oX9 h0 b0 (nI nb) p0 u0 r0 a0 t0 s0 o0), (oX3 p0 pr pb pe pg p1 (nI nd) p2 p3 p4 p5 (nI cn) p6 (nI pq) p7 p8 p9 (nI sc)), (oJ4 o0 qn57 0 zn8 (nI qn60)), (qn57, .inl (cA 3, qn58, .inl fn59))]) 9 hP hD [9, 10] [0, 1, 2, 3, 4, 5, 6, 7, 8] rfl rfl (by decide +kernel) (by decide +kernel) hk1 hFc hP1 hD1 rfl
      generalize H1 = H at hP hS ⊢
      refine lv_pop hx hb dX9_write_114 rfl ?_
      refine lv_iload_n hx hb dX9_write_115 rfl (lv_at hl 0 rfl) ?_
      refine lv_iconst (v := 1) hx hb dX9_write_116 (by decide) ?_
      refine lv_icmp_ne (tgt := 148) hx hb dX9_write_117 (by decide) (fun c65 => ?_) (fun c9 => absurd c9 (by decide))
      refine lv_iload_n hx hb dX9_write_148 rfl (lv_at hl 0 rfl) ?_
      refine lv_iconst (v := 2) hx hb dX9_write_149 (by decide) ?_
      refine lv_icmp_ne (tgt := 181) hx hb dX9_write_150 (by decide) (fun c66 => ?_) (fun c9 => absurd c9 (by decide))
      refine lv_aload_n hx hb dX9_write_181 rfl (lv_at hl 1 rfl) ?_
      refine va_get (D := D) (ci := 10) (v := .ref o0) (C := RX9) (T := TX9) (N := 9) hx hb hts inX9 hown hK hP 7 rfl rfl 8 (by decide) (hts (.fieldLink RX9 52 "EscrowDesk" "output" "Ljava/lang/StringBuilder;") (by decide +kernel)) (fun _ h9 => h9) rfl dX9_write_182 ?_
      obtain ⟨hPc, hDc, hFc⟩ := PDq.cut (wc := [(oJ4 o0 qn57 0 zn8 (nI qn60))]) hP hD hS hA [9] (by decide) rfl
      refine va_calli (va_runV (As := []) (rest := []) ⟨hx, hb, hml, hown, hts⟩ (j_length l D cA sa o0 qn57 qn60 zn8 H.size) (cwV 0 hts gX9_write_J4_length_8abf5 rfl rfl rfl (by decide +kernel) ⟨(Nat.le_of_ble_eq_true rfl), (Nat.le_of_ble_eq_true rfl)⟩) ⟨Wd.blind, va_recv hK hPc (ci := 1) (q0 := 0) rfl rfl, fun U hU hW => ⟨rfl, Wd.call hPc hDc hK hC hZ hS hFc U hU hW⟩⟩ rfl rfl hl.1 rfl (lv_room (Nat.le_of_ble_eq_true rfl)) dX9_write_185 ⟨(Nat.le_of_ble_eq_true rfl), (Nat.le_of_ble_eq_true rfl)⟩) hS (fun q _ h => hFc q h) hFc (fun rn67 u t H1 locs ht hvm hw hB hz1 hk1 hS => ?_)
      obtain ⟨hP1, hD1⟩ := hB
      rw [ht] at hP1
      obtain ⟨hP, hD⟩ := PDq.join (w := [(oX0 a0 p0 a1 a3 a4 a5 a6 i6 i7 i8 i9 i10 i11 i12 i13 i14 i15 i16 i17 i18 i19), (a3, .inl (cA 0, 10, .inl fs)), (a4, .inl (cA 0, 10, .inl fp)), (a5, .inl (cA 0, 10, .inl ff)), (a6, .inl (cA 0, 10, .inl fd)), (p2, .inl (cA 1, 10, .inr (.inl fna))), (p3, .inl (cA 0, 10, .inl fam)), (oX9 h0 b0 (nI nb) p0 u0 r0 a0 t0 s0 o0), (oX3 p0 pr pb pe pg p1 (nI nd) p2 p3 p4 p5 (nI cn) p6 (nI pq) p7 p8 p9 (nI sc)), (qn57, .inl (cA 3, qn58, .inl fn59)), (oJ4 o0 qn57 0 zn8 (nI qn60))]) 10 hP hD [9] [0, 1, 2, 3, 4, 5, 6, 7, 8, 10] rfl rfl (by decide +kernel) (by decide +kernel) hk1 hFc hP1 hD1 rfl
      generalize H1 = H at hP hS ⊢
      obtain rfl : rn67 = (nI qn60) := hw
      obtain ⟨hP9, hD9⟩ := PDq.sub (ws' := [(oX9 h0 b0 (nI nb) p0 u0 r0 a0 t0 s0 o0), (oX0 a0 p0 a1 a3 a4 a5 a6 i6 i7 i8 i9 i10 i11 i12 i13 i14 i15 i16 i17 i18 i19), (a3, .inl (cA 0, 10, .inl fs)), (a4, .inl (cA 0, 10, .inl fp)), (a5, .inl (cA 0, 10, .inl ff)), (a6, .inl (cA 0, 10, .inl fd)), (oX3 p0 pr pb pe pg p1 (nI nd) p2 p3 p4 p5 (nI cn) p6 (nI pq) p7 p8 p9 (nI sc)), (p2, .inl (cA 1, 10, .inr (.inl fna))), (p3, .inl (cA 0, 10, .inl fam)), (oJ4 o0 qn57 0 zn8 (nI qn60)), (qn57, .inl (cA 3, qn58, .inl fn59))]) hP hD [7, 0, 1, 2, 3, 4, 8, 5, 6, 10, 9] (by decide +kernel) rfl
      refine W.widen (k := 19) (n := 4686) (Nat.le_of_ble_eq_true rfl) (Nat.le_of_ble_eq_true rfl) ?_
      exact vx_ret (W.iret (v := (nI qn60)) hx hb hr (fun t ht hW => ⟨⟨(nI qn60), (), rfl, trivial, qn57, qn58, fn59, qn60, zn8, hn62, (by omega), hn63, hn64, by rw [ht]; exact hP9, hD9⟩, hS.F ht⟩) hS.2.2 dX9_write_188)
    · skip
      by_cases hn68 : yn4 = 1
      · skip
        rw [hn68] at hl
        have hl : lv_has ls 3 [(2, .int 1), (0, .ref h0), (1, .int (nI qn1))] := hl
        refine W.eq (g2 := F0 m 54 ls [.int 1, .ref o0]) (by rw [hn68]) ?_
        obtain ⟨hPc, hDc, hFc⟩ := PDq.cut (wc := []) hP hD hS hA [] (by decide) rfl
        refine va_callr (va_runS (As := [.int 1]) (rest := [.ref o0]) ⟨hx, hb, hml, hown, hts⟩ (s_spell1 l D cA sa  H.size) (va_cwS 1 hts gX9_write_X6_spelling rfl rfl rfl (by decide +kernel) ⟨(Nat.le_of_ble_eq_true rfl), (Nat.le_of_ble_eq_true rfl)⟩) ⟨Wd.blind, fun U hU hW => ⟨rfl, Wd.call hPc hDc hK hC hZ hS hFc U hU hW⟩⟩ rfl rfl hl.1 rfl (lv_room (Nat.le_of_ble_eq_true rfl)) dX9_write_54 ⟨(Nat.le_of_ble_eq_true rfl), (Nat.le_of_ble_eq_true rfl)⟩) hS (fun q _ h => hFc q h) hFc (fun u ra t H1 locs ht hvm hw hB hz1 hk1 hS => ?_)
        obtain ⟨hra, hP1, hD1⟩ := hB
        obtain rfl := hra.symm
        rw [ht] at hP1
        obtain ⟨hP, hD⟩ := PDq.join (w := [(oX0 a0 p0 a1 a3 a4 a5 a6 i6 i7 i8 i9 i10 i11 i12 i13 i14 i15 i16 i17 i18 i19), (a3, .inl (cA 0, 10, .inl fs)), (a4, .inl (cA 0, 10, .inl fp)), (a5, .inl (cA 0, 10, .inl ff)), (a6, .inl (cA 0, 10, .inl fd)), (p2, .inl (cA 1, 10, .inr (.inl fna))), (p3, .inl (cA 0, 10, .inl fam)), (oX9 h0 b0 (nI nb) p0 u0 r0 a0 t0 s0 o0), (oX3 p0 pr pb pe pg p1 (nI nd) p2 p3 p4 p5 (nI cn) p6 (nI pq) p7 p8 p9 (nI sc)), (oJ4 o0 qn20 0 zn8 (nI (qn15 + 1))), (qn20, .inl (cA 3, qn21, .inl fn22))]) 11 hP hD [] [0, 1, 2, 3, 4, 5, 6, 7, 8, 9, 10] rfl rfl (by decide +kernel) (by decide +kernel) hk1 hFc hP1 hD1 rfl
        generalize H1 = H at hP hS ⊢
        obtain ⟨hPc, hDc, hFc⟩ := PDq.cut (wc := [(oJ4 o0 qn20 0 zn8 (nI (qn15 + 1))), (qn20, .inl (cA 3, qn21, .inl fn22))]) hP hD hS hA [9, 10] (by decide) rfl
        refine va_callr (va_runV (As := [.ref (sa 34)]) (rest := []) ⟨hx, hb, hml, hown, hts⟩ (j_appendS l D cA sa o0 qn20 (qn15 + 1) qn21 zn8 fn22 34 ([100, 117, 101]) 3 H.size (by decide +kernel) (by omega) hn24 hn25 rfl (by omega)) (cwV 1 hts gX9_write_J4_append_15ec4 rfl rfl rfl (by decide +kernel) ⟨(Nat.le_of_ble_eq_true rfl), (Nat.le_of_ble_eq_true rfl)⟩) ⟨Wd.blind, va_recv hK hPc (ci := 1) (q0 := 0) rfl rfl, fun U hU hW => ⟨rfl, Wd.call hPc hDc hK hC hZ hS hFc U hU hW⟩⟩ rfl rfl hl.1 rfl (lv_room (Nat.le_of_ble_eq_true rfl)) dX9_write_57 ⟨(Nat.le_of_ble_eq_true rfl), (Nat.le_of_ble_eq_true rfl)⟩) hS (fun q _ h => hFc q h) hFc (fun u ra t H1 locs ht hvm hw hB hz1 hk1 hS => ?_)
        obtain ⟨hra, qn69, qn70, fn71, qn72, hn73, hn74, hn75, hn76, hP1, hD1⟩ := hB
        obtain rfl := hra.symm
        rw [ht] at hP1
        obtain ⟨hP, hD⟩ := PDq.join (w := [(oX0 a0 p0 a1 a3 a4 a5 a6 i6 i7 i8 i9 i10 i11 i12 i13 i14 i15 i16 i17 i18 i19), (a3, .inl (cA 0, 10, .inl fs)), (a4, .inl (cA 0, 10, .inl fp)), (a5, .inl (cA 0, 10, .inl ff)), (a6, .inl (cA 0, 10, .inl fd)), (p2, .inl (cA 1, 10, .inr (.inl fna))), (p3, .inl (cA 0, 10, .inl fam)), (oX9 h0 b0 (nI nb) p0 u0 r0 a0 t0 s0 o0), (oX3 p0 pr pb pe pg p1 (nI nd) p2 p3 p4 p5 (nI cn) p6 (nI pq) p7 p8 p9 (nI sc)), (oJ4 o0 qn69 0 zn8 (nI qn72)), (qn69, .inl (cA 3, qn70, .inl fn71))]) 9 hP hD [9, 10] [0, 1, 2, 3, 4, 5, 6, 7, 8] rfl rfl (by decide +kernel) (by decide +kernel) hk1 hFc hP1 hD1 rfl
        generalize H1 = H at hP hS ⊢
        refine lv_pop hx hb dX9_write_60 rfl ?_
        refine lv_aload_n hx hb dX9_write_61 rfl (lv_at hl 1 rfl) ?_
        refine va_get (D := D) (ci := 10) (v := .ref o0) (C := RX9) (T := TX9) (N := 9) hx hb hts inX9 hown hK hP 7 rfl rfl 8 (by decide) (hts (.fieldLink RX9 52 "EscrowDesk" "output" "Ljava/lang/StringBuilder;") (by decide +kernel)) (fun _ h9 => h9) rfl dX9_write_62 ?_
        refine lv_bipush (v := 32) hx hb dX9_write_65 (by decide) ?_
        obtain ⟨hPc, hDc, hFc⟩ := PDq.cut (wc := [(oJ4 o0 qn69 0 zn8 (nI qn72)), (qn69, .inl (cA 3, qn70, .inl fn71))]) hP hD hS hA [9, 10] (by decide) rfl
        refine va_callr (va_runV (As := [.int 32]) (rest := []) ⟨hx, hb, hml, hown, hts⟩ (j_appendC l D cA sa o0 qn69 qn72 qn70 zn8 fn71 32 H.size hn74 hn75 hn76 (by omega) (by omega)) (cwV 1 hts gX9_write_J4_append_cf468 rfl rfl rfl (by decide +kernel) ⟨(Nat.le_of_ble_eq_true rfl), (Nat.le_of_ble_eq_true rfl)⟩) ⟨Wd.blind, va_recv hK hPc (ci := 1) (q0 := 0) rfl rfl, fun U hU hW => ⟨rfl, Wd.call hPc hDc hK hC hZ hS hFc U hU hW⟩⟩ rfl rfl hl.1 rfl (lv_room (Nat.le_of_ble_eq_true rfl)) dX9_write_67 ⟨(Nat.le_of_ble_eq_true rfl), (Nat.le_of_ble_eq_true rfl)⟩) hS (fun q _ h => hFc q h) hFc (fun u ra t H1 locs ht hvm hw hB hz1 hk1 hS => ?_)
        obtain ⟨hra, qn77, qn78, fn79, hn80, hn81, hn82, hP1, hD1⟩ := hB
        obtain rfl := hra.symm
        rw [ht] at hP1
        obtain ⟨hP, hD⟩ := PDq.join (w := [(oX0 a0 p0 a1 a3 a4 a5 a6 i6 i7 i8 i9 i10 i11 i12 i13 i14 i15 i16 i17 i18 i19), (a3, .inl (cA 0, 10, .inl fs)), (a4, .inl (cA 0, 10, .inl fp)), (a5, .inl (cA 0, 10, .inl ff)), (a6, .inl (cA 0, 10, .inl fd)), (p2, .inl (cA 1, 10, .inr (.inl fna))), (p3, .inl (cA 0, 10, .inl fam)), (oX9 h0 b0 (nI nb) p0 u0 r0 a0 t0 s0 o0), (oX3 p0 pr pb pe pg p1 (nI nd) p2 p3 p4 p5 (nI cn) p6 (nI pq) p7 p8 p9 (nI sc)), (oJ4 o0 qn77 0 zn8 (nI (qn72 + 1))), (qn77, .inl (cA 3, qn78, .inl fn79))]) 9 hP hD [9, 10] [0, 1, 2, 3, 4, 5, 6, 7, 8] rfl rfl (by decide +kernel) (by decide +kernel) hk1 hFc hP1 hD1 rfl
        generalize H1 = H at hP hS ⊢
        refine lv_pop hx hb dX9_write_70 rfl ?_
        refine lv_aload_n hx hb dX9_write_71 rfl (lv_at hl 1 rfl) ?_
        refine va_get (D := D) (ci := 10) (v := .ref o0) (C := RX9) (T := TX9) (N := 9) hx hb hts inX9 hown hK hP 7 rfl rfl 8 (by decide) (hts (.fieldLink RX9 52 "EscrowDesk" "output" "Ljava/lang/StringBuilder;") (by decide +kernel)) (fun _ h9 => h9) rfl dX9_write_72 ?_
        refine lv_aload_n hx hb dX9_write_75 rfl (lv_at hl 1 rfl) ?_
        refine va_get (D := D) (ci := 10) (v := .ref a0) (C := RX9) (T := TX9) (N := 9) hx hb hts inX9 hown hK hP 7 rfl rfl 5 (by decide) (hts (.fieldLink RX9 35 "EscrowDesk" "account" "LEscrowDesk$Account;") (by decide +kernel)) (fun _ h9 => h9) rfl dX9_write_76 ?_
        refine va_getN (D := D) (ci := 4) (v := .ref a4) (C := RX0) (T := TX0) (N := 20) hx hb hts inX0 hown hK hP 0 rfl rfl 3 (by decide) (hC.f (A := _) (a := RX9) (i := 126) (b := "EscrowDesk$Account") (n := "paid") (d := "[I") (x := "EscrowDesk") (by decide +kernel)) (fun _ h9 => h9) rfl dX9_write_79 ?_
        refine lv_iload_n hx hb dX9_write_82 rfl (lv_at hl 2 rfl) ?_
        refine va_iald hx hb hK hP 2 0 rfl rfl (vp_in_nI (n := qn1) (N := 10) (show qn1 < 10 by omega) (by decide)) dX9_write_83 ?_
        refine lv_topi (fun yn83 eyn83 => ?_)
        obtain ⟨hPc, hDc, hFc⟩ := PDq.cut (wc := [(oJ4 o0 qn77 0 zn8 (nI (qn72 + 1))), (qn77, .inl (cA 3, qn78, .inl fn79))]) hP hD hS hA [9, 10] (by decide) rfl
        refine va_callr (va_runV (As := [.int yn83]) (rest := []) ⟨hx, hb, hml, hown, hts⟩ (j_appendI l D cA sa o0 qn77 (qn72 + 1) qn78 zn8 fn79 yn83 H.size (by omega) hn81 hn82 (by omega)) (cwV 1 hts gX9_write_J4_append_bf812 rfl rfl rfl (by decide +kernel) ⟨(Nat.le_of_ble_eq_true rfl), (Nat.le_of_ble_eq_true rfl)⟩) ⟨Wd2.blind, va_recv hK hPc (ci := 1) (q0 := 0) rfl rfl, fun U hU hW => ⟨rfl, Wd2.call (Wd.call hPc hDc hK hC hZ hS hFc U hU hW) hG hS hFc hU hW⟩⟩ rfl rfl hl.1 rfl (lv_room (Nat.le_of_ble_eq_true rfl)) dX9_write_84 ⟨(Nat.le_of_ble_eq_true rfl), (Nat.le_of_ble_eq_true rfl)⟩) hS (fun q _ h => hFc q h) hFc (fun u ra t H1 locs ht hvm hw hB hz1 hk1 hS => ?_)
        obtain ⟨hra, qn84, qn85, fn86, qn87, hn88, hn89, hn90, hn91, hP1, hD1⟩ := hB
        obtain rfl := hra.symm
        rw [ht] at hP1
        obtain ⟨hP, hD⟩ := PDq.join (w := [(oX0 a0 p0 a1 a3 a4 a5 a6 i6 i7 i8 i9 i10 i11 i12 i13 i14 i15 i16 i17 i18 i19), (a3, .inl (cA 0, 10, .inl fs)), (a4, .inl (cA 0, 10, .inl fp)), (a5, .inl (cA 0, 10, .inl ff)), (a6, .inl (cA 0, 10, .inl fd)), (p2, .inl (cA 1, 10, .inr (.inl fna))), (p3, .inl (cA 0, 10, .inl fam)), (oX9 h0 b0 (nI nb) p0 u0 r0 a0 t0 s0 o0), (oX3 p0 pr pb pe pg p1 (nI nd) p2 p3 p4 p5 (nI cn) p6 (nI pq) p7 p8 p9 (nI sc)), (oJ4 o0 qn84 0 zn8 (nI qn87)), (qn84, .inl (cA 3, qn85, .inl fn86))]) 9 hP hD [9, 10] [0, 1, 2, 3, 4, 5, 6, 7, 8] rfl rfl (by decide +kernel) (by decide +kernel) hk1 hFc hP1 hD1 rfl
        generalize H1 = H at hP hS ⊢
        refine lv_pop hx hb dX9_write_87 rfl ?_
        refine lv_aload_n hx hb dX9_write_88 rfl (lv_at hl 1 rfl) ?_
        refine va_get (D := D) (ci := 10) (v := .ref o0) (C := RX9) (T := TX9) (N := 9) hx hb hts inX9 hown hK hP 7 rfl rfl 8 (by decide) (hts (.fieldLink RX9 52 "EscrowDesk" "output" "Ljava/lang/StringBuilder;") (by decide +kernel)) (fun _ h9 => h9) rfl dX9_write_89 ?_
        refine lv_bipush (v := 47) hx hb dX9_write_92 (by decide) ?_
        obtain ⟨hPc, hDc, hFc⟩ := PDq.cut (wc := [(oJ4 o0 qn84 0 zn8 (nI qn87)), (qn84, .inl (cA 3, qn85, .inl fn86))]) hP hD hS hA [9, 10] (by decide) rfl
        refine va_callr (va_runV (As := [.int 47]) (rest := []) ⟨hx, hb, hml, hown, hts⟩ (j_appendC l D cA sa o0 qn84 qn87 qn85 zn8 fn86 47 H.size hn89 hn90 hn91 (by omega) (by omega)) (cwV 1 hts gX9_write_J4_append_cf468 rfl rfl rfl (by decide +kernel) ⟨(Nat.le_of_ble_eq_true rfl), (Nat.le_of_ble_eq_true rfl)⟩) ⟨Wd.blind, va_recv hK hPc (ci := 1) (q0 := 0) rfl rfl, fun U hU hW => ⟨rfl, Wd.call hPc hDc hK hC hZ hS hFc U hU hW⟩⟩ rfl rfl hl.1 rfl (lv_room (Nat.le_of_ble_eq_true rfl)) dX9_write_94 ⟨(Nat.le_of_ble_eq_true rfl), (Nat.le_of_ble_eq_true rfl)⟩) hS (fun q _ h => hFc q h) hFc (fun u ra t H1 locs ht hvm hw hB hz1 hk1 hS => ?_)
        obtain ⟨hra, qn92, qn93, fn94, hn95, hn96, hn97, hP1, hD1⟩ := hB
        obtain rfl := hra.symm
        rw [ht] at hP1
        obtain ⟨hP, hD⟩ := PDq.join (w := [(oX0 a0 p0 a1 a3 a4 a5 a6 i6 i7 i8 i9 i10 i11 i12 i13 i14 i15 i16 i17 i18 i19), (a3, .inl (cA 0, 10, .inl fs)), (a4, .inl (cA 0, 10, .inl fp)), (a5, .inl (cA 0, 10, .inl ff)), (a6, .inl (cA 0, 10, .inl fd)), (p2, .inl (cA 1, 10, .inr (.inl fna))), (p3, .inl (cA 0, 10, .inl fam)), (oX9 h0 b0 (nI nb) p0 u0 r0 a0 t0 s0 o0), (oX3 p0 pr pb pe pg p1 (nI nd) p2 p3 p4 p5 (nI cn) p6 (nI pq) p7 p8 p9 (nI sc)), (oJ4 o0 qn92 0 zn8 (nI (qn87 + 1))), (qn92, .inl (cA 3, qn93, .inl fn94))]) 9 hP hD [9, 10] [0, 1, 2, 3, 4, 5, 6, 7, 8] rfl rfl (by decide +kernel) (by decide +kernel) hk1 hFc hP1 hD1 rfl
        generalize H1 = H at hP hS ⊢
        refine lv_pop hx hb dX9_write_97 rfl ?_
        refine lv_aload_n hx hb dX9_write_98 rfl (lv_at hl 1 rfl) ?_
        refine va_get (D := D) (ci := 10) (v := .ref o0) (C := RX9) (T := TX9) (N := 9) hx hb hts inX9 hown hK hP 7 rfl rfl 8 (by decide) (hts (.fieldLink RX9 52 "EscrowDesk" "output" "Ljava/lang/StringBuilder;") (by decide +kernel)) (fun _ h9 => h9) rfl dX9_write_99 ?_
        refine lv_aload_n hx hb dX9_write_102 rfl (lv_at hl 1 rfl) ?_
        refine va_get (D := D) (ci := 10) (v := .ref p0) (C := RX9) (T := TX9) (N := 9) hx hb hts inX9 hown hK hP 7 rfl rfl 2 (by decide) (hts (.fieldLink RX9 16 "EscrowDesk" "plan" "LEscrowDesk$Plan;") (by decide +kernel)) (fun _ h9 => h9) rfl dX9_write_103 ?_
        refine va_getN (D := D) (ci := 7) (v := .ref p3) (C := RX3) (T := TX3) (N := 17) hx hb hts inX3 hown hK hP 8 rfl rfl 7 (by decide) (hC.f (A := _) (a := RX9) (i := 165) (b := "EscrowDesk$Plan") (n := "amounts") (d := "[I") (x := "EscrowDesk") (by decide +kernel)) (fun _ h9 => h9) rfl dX9_write_106 ?_
        refine lv_iload_n hx hb dX9_write_109 rfl (lv_at hl 2 rfl) ?_
        refine va_iald hx hb hK hP 6 0 rfl rfl (vp_in_nI (n := qn1) (N := 10) (show qn1 < 10 by omega) (by decide)) dX9_write_110 ?_
        refine lv_topi (fun yn98 eyn98 => ?_)
        obtain ⟨hPc, hDc, hFc⟩ := PDq.cut (wc := [(oJ4 o0 qn92 0 zn8 (nI (qn87 + 1))), (qn92, .inl (cA 3, qn93, .inl fn94))]) hP hD hS hA [9, 10] (by decide) rfl
        refine va_callr (va_runV (As := [.int yn98]) (rest := []) ⟨hx, hb, hml, hown, hts⟩ (j_appendI l D cA sa o0 qn92 (qn87 + 1) qn93 zn8 fn94 yn98 H.size (by omega) hn96 hn97 (by omega)) (cwV 1 hts gX9_write_J4_append_bf812 rfl rfl rfl (by decide +kernel) ⟨(Nat.le_of_ble_eq_true rfl), (Nat.le_of_ble_eq_true rfl)⟩) ⟨Wd2.blind, va_recv hK hPc (ci := 1) (q0 := 0) rfl rfl, fun U hU hW => ⟨rfl, Wd2.call (Wd.call hPc hDc hK hC hZ hS hFc U hU hW) hG hS hFc hU hW⟩⟩ rfl rfl hl.1 rfl (lv_room (Nat.le_of_ble_eq_true rfl)) dX9_write_111 ⟨(Nat.le_of_ble_eq_true rfl), (Nat.le_of_ble_eq_true rfl)⟩) hS (fun q _ h => hFc q h) hFc (fun u ra t H1 locs ht hvm hw hB hz1 hk1 hS => ?_)
        obtain ⟨hra, qn99, qn100, fn101, qn102, hn103, hn104, hn105, hn106, hP1, hD1⟩ := hB
        obtain rfl := hra.symm
        rw [ht] at hP1
        obtain ⟨hP, hD⟩ := PDq.join (w := [(oX0 a0 p0 a1 a3 a4 a5 a6 i6 i7 i8 i9 i10 i11 i12 i13 i14 i15 i16 i17 i18 i19), (a3, .inl (cA 0, 10, .inl fs)), (a4, .inl (cA 0, 10, .inl fp)), (a5, .inl (cA 0, 10, .inl ff)), (a6, .inl (cA 0, 10, .inl fd)), (p2, .inl (cA 1, 10, .inr (.inl fna))), (p3, .inl (cA 0, 10, .inl fam)), (oX9 h0 b0 (nI nb) p0 u0 r0 a0 t0 s0 o0), (oX3 p0 pr pb pe pg p1 (nI nd) p2 p3 p4 p5 (nI cn) p6 (nI pq) p7 p8 p9 (nI sc)), (oJ4 o0 qn99 0 zn8 (nI qn102)), (qn99, .inl (cA 3, qn100, .inl fn101))]) 9 hP hD [9, 10] [0, 1, 2, 3, 4, 5, 6, 7, 8] rfl rfl (by decide +kernel) (by decide +kernel) hk1 hFc hP1 hD1 rfl
        generalize H1 = H at hP hS ⊢
        refine lv_pop hx hb dX9_write_114 rfl ?_
        refine lv_iload_n hx hb dX9_write_115 rfl (lv_at hl 0 rfl) ?_
        refine lv_iconst (v := 1) hx hb dX9_write_116 (by decide) ?_
        refine lv_icmp_ne (tgt := 148) hx hb dX9_write_117 (by decide) (fun c9 => absurd c9 (by decide)) (fun c107 => ?_)
        refine lv_aload_n hx hb dX9_write_120 rfl (lv_at hl 1 rfl) ?_
        refine va_get (D := D) (ci := 10) (v := .ref o0) (C := RX9) (T := TX9) (N := 9) hx hb hts inX9 hown hK hP 7 rfl rfl 8 (by decide) (hts (.fieldLink RX9 52 "EscrowDesk" "output" "Ljava/lang/StringBuilder;") (by decide +kernel)) (fun _ h9 => h9) rfl dX9_write_121 ?_
        refine va_ldcwS hx hb hown (hC.str 22 rfl) dX9_write_124 ?_
        obtain ⟨hPc, hDc, hFc⟩ := PDq.cut (wc := [(oJ4 o0 qn99 0 zn8 (nI qn102)), (qn99, .inl (cA 3, qn100, .inl fn101))]) hP hD hS hA [9, 10] (by decide) rfl
        refine va_callr (va_runV (As := [.ref (sa 22)]) (rest := []) ⟨hx, hb, hml, hown, hts⟩ (j_appendS l D cA sa o0 qn99 qn102 qn100 zn8 fn101 22 ([32, 115, 105, 110, 99, 101, 32]) 7 H.size (by decide +kernel) hn104 hn105 hn106 rfl (by omega)) (cwV 1 hts gX9_write_J4_append_15ec4 rfl rfl rfl (by decide +kernel) ⟨(Nat.le_of_ble_eq_true rfl), (Nat.le_of_ble_eq_true rfl)⟩) ⟨Wd.blind, va_recv hK hPc (ci := 1) (q0 := 0) rfl rfl, fun U hU hW => ⟨rfl, Wd.call hPc hDc hK hC hZ hS hFc U hU hW⟩⟩ rfl rfl hl.1 rfl (lv_room (Nat.le_of_ble_eq_true rfl)) dX9_write_127 ⟨(Nat.le_of_ble_eq_true rfl), (Nat.le_of_ble_eq_true rfl)⟩) hS (fun q _ h => hFc q h) hFc (fun u ra t H1 locs ht hvm hw hB hz1 hk1 hS => ?_)
        obtain ⟨hra, qn108, qn109, fn110, qn111, hn112, hn113, hn114, hn115, hP1, hD1⟩ := hB
        obtain rfl := hra.symm
        rw [ht] at hP1
        obtain ⟨hP, hD⟩ := PDq.join (w := [(oX0 a0 p0 a1 a3 a4 a5 a6 i6 i7 i8 i9 i10 i11 i12 i13 i14 i15 i16 i17 i18 i19), (a3, .inl (cA 0, 10, .inl fs)), (a4, .inl (cA 0, 10, .inl fp)), (a5, .inl (cA 0, 10, .inl ff)), (a6, .inl (cA 0, 10, .inl fd)), (p2, .inl (cA 1, 10, .inr (.inl fna))), (p3, .inl (cA 0, 10, .inl fam)), (oX9 h0 b0 (nI nb) p0 u0 r0 a0 t0 s0 o0), (oX3 p0 pr pb pe pg p1 (nI nd) p2 p3 p4 p5 (nI cn) p6 (nI pq) p7 p8 p9 (nI sc)), (oJ4 o0 qn108 0 zn8 (nI qn111)), (qn108, .inl (cA 3, qn109, .inl fn110))]) 9 hP hD [9, 10] [0, 1, 2, 3, 4, 5, 6, 7, 8] rfl rfl (by decide +kernel) (by decide +kernel) hk1 hFc hP1 hD1 rfl
        generalize H1 = H at hP hS ⊢
        refine lv_pop hx hb dX9_write_130 rfl ?_
        refine lv_aload_n hx hb dX9_write_131 rfl (lv_at hl 1 rfl) ?_
        refine va_get (D := D) (ci := 10) (v := .ref o0) (C := RX9) (T := TX9) (N := 9) hx hb hts inX9 hown hK hP 7 rfl rfl 8 (by decide) (hts (.fieldLink RX9 52 "EscrowDesk" "output" "Ljava/lang/StringBuilder;") (by decide +kernel)) (fun _ h9 => h9) rfl dX9_write_132 ?_
        refine lv_aload_n hx hb dX9_write_135 rfl (lv_at hl 1 rfl) ?_
        refine va_get (D := D) (ci := 10) (v := .ref a0) (C := RX9) (T := TX9) (N := 9) hx hb hts inX9 hown hK hP 7 rfl rfl 5 (by decide) (hts (.fieldLink RX9 35 "EscrowDesk" "account" "LEscrowDesk$Account;") (by decide +kernel)) (fun _ h9 => h9) rfl dX9_write_136 ?_
        refine va_getN (D := D) (ci := 4) (v := .ref a6) (C := RX0) (T := TX0) (N := 20) hx hb hts inX0 hown hK hP 0 rfl rfl 5 (by decide) (hC.f (A := _) (a := RX9) (i := 136) (b := "EscrowDesk$Account") (n := "dueDay") (d := "[I") (x := "EscrowDesk") (by decide +kernel)) (fun _ h9 => h9) rfl dX9_write_139 ?_
        refine lv_iload_n hx hb dX9_write_142 rfl (lv_at hl 2 rfl) ?_
        refine va_iald hx hb hK hP 4 0 rfl rfl (vp_in_nI (n := qn1) (N := 10) (show qn1 < 10 by omega) (by decide)) dX9_write_143 ?_
        refine lv_topi (fun yn116 eyn116 => ?_)
        obtain ⟨hPc, hDc, hFc⟩ := PDq.cut (wc := [(oJ4 o0 qn108 0 zn8 (nI qn111)), (qn108, .inl (cA 3, qn109, .inl fn110))]) hP hD hS hA [9, 10] (by decide) rfl
        refine va_callr (va_runV (As := [.int yn116]) (rest := []) ⟨hx, hb, hml, hown, hts⟩ (j_appendI l D cA sa o0 qn108 qn111 qn109 zn8 fn110 yn116 H.size hn113 hn114 hn115 (by omega)) (cwV 1 hts gX9_write_J4_append_bf812 rfl rfl rfl (by decide +kernel) ⟨(Nat.le_of_ble_eq_true rfl), (Nat.le_of_ble_eq_true rfl)⟩) ⟨Wd2.blind, va_recv hK hPc (ci := 1) (q0 := 0) rfl rfl, fun U hU hW => ⟨rfl, Wd2.call (Wd.call hPc hDc hK hC hZ hS hFc U hU hW) hG hS hFc hU hW⟩⟩ rfl rfl hl.1 rfl (lv_room (Nat.le_of_ble_eq_true rfl)) dX9_write_144 ⟨(Nat.le_of_ble_eq_true rfl), (Nat.le_of_ble_eq_true rfl)⟩) hS (fun q _ h => hFc q h) hFc (fun u ra t H1 locs ht hvm hw hB hz1 hk1 hS => ?_)
        obtain ⟨hra, qn117, qn118, fn119, qn120, hn121, hn122, hn123, hn124, hP1, hD1⟩ := hB
        obtain rfl := hra.symm
        rw [ht] at hP1
        obtain ⟨hP, hD⟩ := PDq.join (w := [(oX0 a0 p0 a1 a3 a4 a5 a6 i6 i7 i8 i9 i10 i11 i12 i13 i14 i15 i16 i17 i18 i19), (a3, .inl (cA 0, 10, .inl fs)), (a4, .inl (cA 0, 10, .inl fp)), (a5, .inl (cA 0, 10, .inl ff)), (a6, .inl (cA 0, 10, .inl fd)), (p2, .inl (cA 1, 10, .inr (.inl fna))), (p3, .inl (cA 0, 10, .inl fam)), (oX9 h0 b0 (nI nb) p0 u0 r0 a0 t0 s0 o0), (oX3 p0 pr pb pe pg p1 (nI nd) p2 p3 p4 p5 (nI cn) p6 (nI pq) p7 p8 p9 (nI sc)), (oJ4 o0 qn117 0 zn8 (nI qn120)), (qn117, .inl (cA 3, qn118, .inl fn119))]) 9 hP hD [9, 10] [0, 1, 2, 3, 4, 5, 6, 7, 8] rfl rfl (by decide +kernel) (by decide +kernel) hk1 hFc hP1 hD1 rfl
        generalize H1 = H at hP hS ⊢
        refine lv_pop hx hb dX9_write_147 rfl ?_
        refine lv_iload_n hx hb dX9_write_148 rfl (lv_at hl 0 rfl) ?_
        refine lv_iconst (v := 2) hx hb dX9_write_149 (by decide) ?_
        refine lv_icmp_ne (tgt := 181) hx hb dX9_write_150 (by decide) (fun c125 => ?_) (fun c9 => absurd c9 (by decide))
        refine lv_aload_n hx hb dX9_write_181 rfl (lv_at hl 1 rfl) ?_
        refine va_get (D := D) (ci := 10) (v := .ref o0) (C := RX9) (T := TX9) (N := 9) hx hb hts inX9 hown hK hP 7 rfl rfl 8 (by decide) (hts (.fieldLink RX9 52 "EscrowDesk" "output" "Ljava/lang/StringBuilder;") (by decide +kernel)) (fun _ h9 => h9) rfl dX9_write_182 ?_
        obtain ⟨hPc, hDc, hFc⟩ := PDq.cut (wc := [(oJ4 o0 qn117 0 zn8 (nI qn120))]) hP hD hS hA [9] (by decide) rfl
        refine va_calli (va_runV (As := []) (rest := []) ⟨hx, hb, hml, hown, hts⟩ (j_length l D cA sa o0 qn117 qn120 zn8 H.size) (cwV 0 hts gX9_write_J4_length_8abf5 rfl rfl rfl (by decide +kernel) ⟨(Nat.le_of_ble_eq_true rfl), (Nat.le_of_ble_eq_true rfl)⟩) ⟨Wd.blind, va_recv hK hPc (ci := 1) (q0 := 0) rfl rfl, fun U hU hW => ⟨rfl, Wd.call hPc hDc hK hC hZ hS hFc U hU hW⟩⟩ rfl rfl hl.1 rfl (lv_room (Nat.le_of_ble_eq_true rfl)) dX9_write_185 ⟨(Nat.le_of_ble_eq_true rfl), (Nat.le_of_ble_eq_true rfl)⟩) hS (fun q _ h => hFc q h) hFc (fun rn126 u t H1 locs ht hvm hw hB hz1 hk1 hS => ?_)
        obtain ⟨hP1, hD1⟩ := hB
        rw [ht] at hP1
        obtain ⟨hP, hD⟩ := PDq.join (w := [(oX0 a0 p0 a1 a3 a4 a5 a6 i6 i7 i8 i9 i10 i11 i12 i13 i14 i15 i16 i17 i18 i19), (a3, .inl (cA 0, 10, .inl fs)), (a4, .inl (cA 0, 10, .inl fp)), (a5, .inl (cA 0, 10, .inl ff)), (a6, .inl (cA 0, 10, .inl fd)), (p2, .inl (cA 1, 10, .inr (.inl fna))), (p3, .inl (cA 0, 10, .inl fam)), (oX9 h0 b0 (nI nb) p0 u0 r0 a0 t0 s0 o0), (oX3 p0 pr pb pe pg p1 (nI nd) p2 p3 p4 p5 (nI cn) p6 (nI pq) p7 p8 p9 (nI sc)), (qn117, .inl (cA 3, qn118, .inl fn119)), (oJ4 o0 qn117 0 zn8 (nI qn120))]) 10 hP hD [9] [0, 1, 2, 3, 4, 5, 6, 7, 8, 10] rfl rfl (by decide +kernel) (by decide +kernel) hk1 hFc hP1 hD1 rfl
        generalize H1 = H at hP hS ⊢
        obtain rfl : rn126 = (nI qn120) := hw
        obtain ⟨hP9, hD9⟩ := PDq.sub (ws' := [(oX9 h0 b0 (nI nb) p0 u0 r0 a0 t0 s0 o0), (oX0 a0 p0 a1 a3 a4 a5 a6 i6 i7 i8 i9 i10 i11 i12 i13 i14 i15 i16 i17 i18 i19), (a3, .inl (cA 0, 10, .inl fs)), (a4, .inl (cA 0, 10, .inl fp)), (a5, .inl (cA 0, 10, .inl ff)), (a6, .inl (cA 0, 10, .inl fd)), (oX3 p0 pr pb pe pg p1 (nI nd) p2 p3 p4 p5 (nI cn) p6 (nI pq) p7 p8 p9 (nI sc)), (p2, .inl (cA 1, 10, .inr (.inl fna))), (p3, .inl (cA 0, 10, .inl fam)), (oJ4 o0 qn117 0 zn8 (nI qn120)), (qn117, .inl (cA 3, qn118, .inl fn119))]) hP hD [7, 0, 1, 2, 3, 4, 8, 5, 6, 10, 9] (by decide +kernel) rfl
        refine W.widen (k := 19) (n := 4686) (Nat.le_of_ble_eq_true rfl) (Nat.le_of_ble_eq_true rfl) ?_
        exact vx_ret (W.iret (v := (nI qn120)) hx hb hr (fun t ht hW => ⟨⟨(nI qn120), (), rfl, trivial, qn117, qn118, fn119, qn120, zn8, hn122, (by omega), hn123, hn124, by rw [ht]; exact hP9, hD9⟩, hS.F ht⟩) hS.2.2 dX9_write_188)
      · skip
        by_cases hn127 : yn4 = 2
        · skip
          rw [hn127] at hl
          have hl : lv_has ls 3 [(2, .int 2), (0, .ref h0), (1, .int (nI qn1))] := hl
          refine W.eq (g2 := F0 m 54 ls [.int 2, .ref o0]) (by rw [hn127]) ?_
          obtain ⟨hPc, hDc, hFc⟩ := PDq.cut (wc := []) hP hD hS hA [] (by decide) rfl
          refine va_callr (va_runS (As := [.int 2]) (rest := [.ref o0]) ⟨hx, hb, hml, hown, hts⟩ (s_spell2 l D cA sa  H.size) (va_cwS 1 hts gX9_write_X6_spelling rfl rfl rfl (by decide +kernel) ⟨(Nat.le_of_ble_eq_true rfl), (Nat.le_of_ble_eq_true rfl)⟩) ⟨Wd.blind, fun U hU hW => ⟨rfl, Wd.call hPc hDc hK hC hZ hS hFc U hU hW⟩⟩ rfl rfl hl.1 rfl (lv_room (Nat.le_of_ble_eq_true rfl)) dX9_write_54 ⟨(Nat.le_of_ble_eq_true rfl), (Nat.le_of_ble_eq_true rfl)⟩) hS (fun q _ h => hFc q h) hFc (fun u ra t H1 locs ht hvm hw hB hz1 hk1 hS => ?_)
          obtain ⟨hra, hP1, hD1⟩ := hB
          obtain rfl := hra.symm
          rw [ht] at hP1
          obtain ⟨hP, hD⟩ := PDq.join (w := [(oX0 a0 p0 a1 a3 a4 a5 a6 i6 i7 i8 i9 i10 i11 i12 i13 i14 i15 i16 i17 i18 i19), (a3, .inl (cA 0, 10, .inl fs)), (a4, .inl (cA 0, 10, .inl fp)), (a5, .inl (cA 0, 10, .inl ff)), (a6, .inl (cA 0, 10, .inl fd)), (p2, .inl (cA 1, 10, .inr (.inl fna))), (p3, .inl (cA 0, 10, .inl fam)), (oX9 h0 b0 (nI nb) p0 u0 r0 a0 t0 s0 o0), (oX3 p0 pr pb pe pg p1 (nI nd) p2 p3 p4 p5 (nI cn) p6 (nI pq) p7 p8 p9 (nI sc)), (oJ4 o0 qn20 0 zn8 (nI (qn15 + 1))), (qn20, .inl (cA 3, qn21, .inl fn22))]) 11 hP hD [] [0, 1, 2, 3, 4, 5, 6, 7, 8, 9, 10] rfl rfl (by decide +kernel) (by decide +kernel) hk1 hFc hP1 hD1 rfl
          generalize H1 = H at hP hS ⊢
          obtain ⟨hPc, hDc, hFc⟩ := PDq.cut (wc := [(oJ4 o0 qn20 0 zn8 (nI (qn15 + 1))), (qn20, .inl (cA 3, qn21, .inl fn22))]) hP hD hS hA [9, 10] (by decide) rfl
          refine va_callr (va_runV (As := [.ref (sa 35)]) (rest := []) ⟨hx, hb, hml, hown, hts⟩ (j_appendS l D cA sa o0 qn20 (qn15 + 1) qn21 zn8 fn22 35 ([100, 105, 115, 112, 117, 116, 101, 100]) 8 H.size (by decide +kernel) (by omega) hn24 hn25 rfl (by omega)) (cwV 1 hts gX9_write_J4_append_15ec4 rfl rfl rfl (by decide +kernel) ⟨(Nat.le_of_ble_eq_true rfl), (Nat.le_of_ble_eq_true rfl)⟩) ⟨Wd.blind, va_recv hK hPc (ci := 1) (q0 := 0) rfl rfl, fun U hU hW => ⟨rfl, Wd.call hPc hDc hK hC hZ hS hFc U hU hW⟩⟩ rfl rfl hl.1 rfl (lv_room (Nat.le_of_ble_eq_true rfl)) dX9_write_57 ⟨(Nat.le_of_ble_eq_true rfl), (Nat.le_of_ble_eq_true rfl)⟩) hS (fun q _ h => hFc q h) hFc (fun u ra t H1 locs ht hvm hw hB hz1 hk1 hS => ?_)
          obtain ⟨hra, qn128, qn129, fn130, qn131, hn132, hn133, hn134, hn135, hP1, hD1⟩ := hB
          obtain rfl := hra.symm
          rw [ht] at hP1
          obtain ⟨hP, hD⟩ := PDq.join (w := [(oX0 a0 p0 a1 a3 a4 a5 a6 i6 i7 i8 i9 i10 i11 i12 i13 i14 i15 i16 i17 i18 i19), (a3, .inl (cA 0, 10, .inl fs)), (a4, .inl (cA 0, 10, .inl fp)), (a5, .inl (cA 0, 10, .inl ff)), (a6, .inl (cA 0, 10, .inl fd)), (p2, .inl (cA 1, 10, .inr (.inl fna))), (p3, .inl (cA 0, 10, .inl fam)), (oX9 h0 b0 (nI nb) p0 u0 r0 a0 t0 s0 o0), (oX3 p0 pr pb pe pg p1 (nI nd) p2 p3 p4 p5 (nI cn) p6 (nI pq) p7 p8 p9 (nI sc)), (oJ4 o0 qn128 0 zn8 (nI qn131)), (qn128, .inl (cA 3, qn129, .inl fn130))]) 9 hP hD [9, 10] [0, 1, 2, 3, 4, 5, 6, 7, 8] rfl rfl (by decide +kernel) (by decide +kernel) hk1 hFc hP1 hD1 rfl
          generalize H1 = H at hP hS ⊢
          refine lv_pop hx hb dX9_write_60 rfl ?_
          refine lv_aload_n hx hb dX9_write_61 rfl (lv_at hl 1 rfl) ?_
          refine va_get (D := D) (ci := 10) (v := .ref o0) (C := RX9) (T := TX9) (N := 9) hx hb hts inX9 hown hK hP 7 rfl rfl 8 (by decide) (hts (.fieldLink RX9 52 "EscrowDesk" "output" "Ljava/lang/StringBuilder;") (by decide +kernel)) (fun _ h9 => h9) rfl dX9_write_62 ?_
          refine lv_bipush (v := 32) hx hb dX9_write_65 (by decide) ?_
          obtain ⟨hPc, hDc, hFc⟩ := PDq.cut (wc := [(oJ4 o0 qn128 0 zn8 (nI qn131)), (qn128, .inl (cA 3, qn129, .inl fn130))]) hP hD hS hA [9, 10] (by decide) rfl
          refine va_callr (va_runV (As := [.int 32]) (rest := []) ⟨hx, hb, hml, hown, hts⟩ (j_appendC l D cA sa o0 qn128 qn131 qn129 zn8 fn130 32 H.size hn133 hn134 hn135 (by omega) (by omega)) (cwV 1 hts gX9_write_J4_append_cf468 rfl rfl rfl (by decide +kernel) ⟨(Nat.le_of_ble_eq_true rfl), (Nat.le_of_ble_eq_true rfl)⟩) ⟨Wd.blind, va_recv hK hPc (ci := 1) (q0 := 0) rfl rfl, fun U hU hW => ⟨rfl, Wd.call hPc hDc hK hC hZ hS hFc U hU hW⟩⟩ rfl rfl hl.1 rfl (lv_room (Nat.le_of_ble_eq_true rfl)) dX9_write_67 ⟨(Nat.le_of_ble_eq_true rfl), (Nat.le_of_ble_eq_true rfl)⟩) hS (fun q _ h => hFc q h) hFc (fun u ra t H1 locs ht hvm hw hB hz1 hk1 hS => ?_)
          obtain ⟨hra, qn136, qn137, fn138, hn139, hn140, hn141, hP1, hD1⟩ := hB
          obtain rfl := hra.symm
          rw [ht] at hP1
          obtain ⟨hP, hD⟩ := PDq.join (w := [(oX0 a0 p0 a1 a3 a4 a5 a6 i6 i7 i8 i9 i10 i11 i12 i13 i14 i15 i16 i17 i18 i19), (a3, .inl (cA 0, 10, .inl fs)), (a4, .inl (cA 0, 10, .inl fp)), (a5, .inl (cA 0, 10, .inl ff)), (a6, .inl (cA 0, 10, .inl fd)), (p2, .inl (cA 1, 10, .inr (.inl fna))), (p3, .inl (cA 0, 10, .inl fam)), (oX9 h0 b0 (nI nb) p0 u0 r0 a0 t0 s0 o0), (oX3 p0 pr pb pe pg p1 (nI nd) p2 p3 p4 p5 (nI cn) p6 (nI pq) p7 p8 p9 (nI sc)), (oJ4 o0 qn136 0 zn8 (nI (qn131 + 1))), (qn136, .inl (cA 3, qn137, .inl fn138))]) 9 hP hD [9, 10] [0, 1, 2, 3, 4, 5, 6, 7, 8] rfl rfl (by decide +kernel) (by decide +kernel) hk1 hFc hP1 hD1 rfl
          generalize H1 = H at hP hS ⊢
          refine lv_pop hx hb dX9_write_70 rfl ?_
          refine lv_aload_n hx hb dX9_write_71 rfl (lv_at hl 1 rfl) ?_
          refine va_get (D := D) (ci := 10) (v := .ref o0) (C := RX9) (T := TX9) (N := 9) hx hb hts inX9 hown hK hP 7 rfl rfl 8 (by decide) (hts (.fieldLink RX9 52 "EscrowDesk" "output" "Ljava/lang/StringBuilder;") (by decide +kernel)) (fun _ h9 => h9) rfl dX9_write_72 ?_
          refine lv_aload_n hx hb dX9_write_75 rfl (lv_at hl 1 rfl) ?_
          refine va_get (D := D) (ci := 10) (v := .ref a0) (C := RX9) (T := TX9) (N := 9) hx hb hts inX9 hown hK hP 7 rfl rfl 5 (by decide) (hts (.fieldLink RX9 35 "EscrowDesk" "account" "LEscrowDesk$Account;") (by decide +kernel)) (fun _ h9 => h9) rfl dX9_write_76 ?_
          refine va_getN (D := D) (ci := 4) (v := .ref a4) (C := RX0) (T := TX0) (N := 20) hx hb hts inX0 hown hK hP 0 rfl rfl 3 (by decide) (hC.f (A := _) (a := RX9) (i := 126) (b := "EscrowDesk$Account") (n := "paid") (d := "[I") (x := "EscrowDesk") (by decide +kernel)) (fun _ h9 => h9) rfl dX9_write_79 ?_
          refine lv_iload_n hx hb dX9_write_82 rfl (lv_at hl 2 rfl) ?_
          refine va_iald hx hb hK hP 2 0 rfl rfl (vp_in_nI (n := qn1) (N := 10) (show qn1 < 10 by omega) (by decide)) dX9_write_83 ?_
          refine lv_topi (fun yn142 eyn142 => ?_)
          obtain ⟨hPc, hDc, hFc⟩ := PDq.cut (wc := [(oJ4 o0 qn136 0 zn8 (nI (qn131 + 1))), (qn136, .inl (cA 3, qn137, .inl fn138))]) hP hD hS hA [9, 10] (by decide) rfl
          refine va_callr (va_runV (As := [.int yn142]) (rest := []) ⟨hx, hb, hml, hown, hts⟩ (j_appendI l D cA sa o0 qn136 (qn131 + 1) qn137 zn8 fn138 yn142 H.size (by omega) hn140 hn141 (by omega)) (cwV 1 hts gX9_write_J4_append_bf812 rfl rfl rfl (by decide +kernel) ⟨(Nat.le_of_ble_eq_true rfl), (Nat.le_of_ble_eq_true rfl)⟩) ⟨Wd2.blind, va_recv hK hPc (ci := 1) (q0 := 0) rfl rfl, fun U hU hW => ⟨rfl, Wd2.call (Wd.call hPc hDc hK hC hZ hS hFc U hU hW) hG hS hFc hU hW⟩⟩ rfl rfl hl.1 rfl (lv_room (Nat.le_of_ble_eq_true rfl)) dX9_write_84 ⟨(Nat.le_of_ble_eq_true rfl), (Nat.le_of_ble_eq_true rfl)⟩) hS (fun q _ h => hFc q h) hFc (fun u ra t H1 locs ht hvm hw hB hz1 hk1 hS => ?_)
          obtain ⟨hra, qn143, qn144, fn145, qn146, hn147, hn148, hn149, hn150, hP1, hD1⟩ := hB
          obtain rfl := hra.symm
          rw [ht] at hP1
          obtain ⟨hP, hD⟩ := PDq.join (w := [(oX0 a0 p0 a1 a3 a4 a5 a6 i6 i7 i8 i9 i10 i11 i12 i13 i14 i15 i16 i17 i18 i19), (a3, .inl (cA 0, 10, .inl fs)), (a4, .inl (cA 0, 10, .inl fp)), (a5, .inl (cA 0, 10, .inl ff)), (a6, .inl (cA 0, 10, .inl fd)), (p2, .inl (cA 1, 10, .inr (.inl fna))), (p3, .inl (cA 0, 10, .inl fam)), (oX9 h0 b0 (nI nb) p0 u0 r0 a0 t0 s0 o0), (oX3 p0 pr pb pe pg p1 (nI nd) p2 p3 p4 p5 (nI cn) p6 (nI pq) p7 p8 p9 (nI sc)), (oJ4 o0 qn143 0 zn8 (nI qn146)), (qn143, .inl (cA 3, qn144, .inl fn145))]) 9 hP hD [9, 10] [0, 1, 2, 3, 4, 5, 6, 7, 8] rfl rfl (by decide +kernel) (by decide +kernel) hk1 hFc hP1 hD1 rfl
          generalize H1 = H at hP hS ⊢
          refine lv_pop hx hb dX9_write_87 rfl ?_
          refine lv_aload_n hx hb dX9_write_88 rfl (lv_at hl 1 rfl) ?_
          refine va_get (D := D) (ci := 10) (v := .ref o0) (C := RX9) (T := TX9) (N := 9) hx hb hts inX9 hown hK hP 7 rfl rfl 8 (by decide) (hts (.fieldLink RX9 52 "EscrowDesk" "output" "Ljava/lang/StringBuilder;") (by decide +kernel)) (fun _ h9 => h9) rfl dX9_write_89 ?_
          refine lv_bipush (v := 47) hx hb dX9_write_92 (by decide) ?_
          obtain ⟨hPc, hDc, hFc⟩ := PDq.cut (wc := [(oJ4 o0 qn143 0 zn8 (nI qn146)), (qn143, .inl (cA 3, qn144, .inl fn145))]) hP hD hS hA [9, 10] (by decide) rfl
          refine va_callr (va_runV (As := [.int 47]) (rest := []) ⟨hx, hb, hml, hown, hts⟩ (j_appendC l D cA sa o0 qn143 qn146 qn144 zn8 fn145 47 H.size hn148 hn149 hn150 (by omega) (by omega)) (cwV 1 hts gX9_write_J4_append_cf468 rfl rfl rfl (by decide +kernel) ⟨(Nat.le_of_ble_eq_true rfl), (Nat.le_of_ble_eq_true rfl)⟩) ⟨Wd.blind, va_recv hK hPc (ci := 1) (q0 := 0) rfl rfl, fun U hU hW => ⟨rfl, Wd.call hPc hDc hK hC hZ hS hFc U hU hW⟩⟩ rfl rfl hl.1 rfl (lv_room (Nat.le_of_ble_eq_true rfl)) dX9_write_94 ⟨(Nat.le_of_ble_eq_true rfl), (Nat.le_of_ble_eq_true rfl)⟩) hS (fun q _ h => hFc q h) hFc (fun u ra t H1 locs ht hvm hw hB hz1 hk1 hS => ?_)
          obtain ⟨hra, qn151, qn152, fn153, hn154, hn155, hn156, hP1, hD1⟩ := hB
          obtain rfl := hra.symm
          rw [ht] at hP1
          obtain ⟨hP, hD⟩ := PDq.join (w := [(oX0 a0 p0 a1 a3 a4 a5 a6 i6 i7 i8 i9 i10 i11 i12 i13 i14 i15 i16 i17 i18 i19), (a3, .inl (cA 0, 10, .inl fs)), (a4, .inl (cA 0, 10, .inl fp)), (a5, .inl (cA 0, 10, .inl ff)), (a6, .inl (cA 0, 10, .inl fd)), (p2, .inl (cA 1, 10, .inr (.inl fna))), (p3, .inl (cA 0, 10, .inl fam)), (oX9 h0 b0 (nI nb) p0 u0 r0 a0 t0 s0 o0), (oX3 p0 pr pb pe pg p1 (nI nd) p2 p3 p4 p5 (nI cn) p6 (nI pq) p7 p8 p9 (nI sc)), (oJ4 o0 qn151 0 zn8 (nI (qn146 + 1))), (qn151, .inl (cA 3, qn152, .inl fn153))]) 9 hP hD [9, 10] [0, 1, 2, 3, 4, 5, 6, 7, 8] rfl rfl (by decide +kernel) (by decide +kernel) hk1 hFc hP1 hD1 rfl
          generalize H1 = H at hP hS ⊢
          refine lv_pop hx hb dX9_write_97 rfl ?_
          refine lv_aload_n hx hb dX9_write_98 rfl (lv_at hl 1 rfl) ?_
          refine va_get (D := D) (ci := 10) (v := .ref o0) (C := RX9) (T := TX9) (N := 9) hx hb hts inX9 hown hK hP 7 rfl rfl 8 (by decide) (hts (.fieldLink RX9 52 "EscrowDesk" "output" "Ljava/lang/StringBuilder;") (by decide +kernel)) (fun _ h9 => h9) rfl dX9_write_99 ?_
          refine lv_aload_n hx hb dX9_write_102 rfl (lv_at hl 1 rfl) ?_
          refine va_get (D := D) (ci := 10) (v := .ref p0) (C := RX9) (T := TX9) (N := 9) hx hb hts inX9 hown hK hP 7 rfl rfl 2 (by decide) (hts (.fieldLink RX9 16 "EscrowDesk" "plan" "LEscrowDesk$Plan;") (by decide +kernel)) (fun _ h9 => h9) rfl dX9_write_103 ?_
          refine va_getN (D := D) (ci := 7) (v := .ref p3) (C := RX3) (T := TX3) (N := 17) hx hb hts inX3 hown hK hP 8 rfl rfl 7 (by decide) (hC.f (A := _) (a := RX9) (i := 165) (b := "EscrowDesk$Plan") (n := "amounts") (d := "[I") (x := "EscrowDesk") (by decide +kernel)) (fun _ h9 => h9) rfl dX9_write_106 ?_
          refine lv_iload_n hx hb dX9_write_109 rfl (lv_at hl 2 rfl) ?_
          refine va_iald hx hb hK hP 6 0 rfl rfl (vp_in_nI (n := qn1) (N := 10) (show qn1 < 10 by omega) (by decide)) dX9_write_110 ?_
          refine lv_topi (fun yn157 eyn157 => ?_)
          obtain ⟨hPc, hDc, hFc⟩ := PDq.cut (wc := [(oJ4 o0 qn151 0 zn8 (nI (qn146 + 1))), (qn151, .inl (cA 3, qn152, .inl fn153))]) hP hD hS hA [9, 10] (by decide) rfl
          refine va_callr (va_runV (As := [.int yn157]) (rest := []) ⟨hx, hb, hml, hown, hts⟩ (j_appendI l D cA sa o0 qn151 (qn146 + 1) qn152 zn8 fn153 yn157 H.size (by omega) hn155 hn156 (by omega)) (cwV 1 hts gX9_write_J4_append_bf812 rfl rfl rfl (by decide +kernel) ⟨(Nat.le_of_ble_eq_true rfl), (Nat.le_of_ble_eq_true rfl)⟩) ⟨Wd2.blind, va_recv hK hPc (ci := 1) (q0 := 0) rfl rfl, fun U hU hW => ⟨rfl, Wd2.call (Wd.call hPc hDc hK hC hZ hS hFc U hU hW) hG hS hFc hU hW⟩⟩ rfl rfl hl.1 rfl (lv_room (Nat.le_of_ble_eq_true rfl)) dX9_write_111 ⟨(Nat.le_of_ble_eq_true rfl), (Nat.le_of_ble_eq_true rfl)⟩) hS (fun q _ h => hFc q h) hFc (fun u ra t H1 locs ht hvm hw hB hz1 hk1 hS => ?_)
          obtain ⟨hra, qn158, qn159, fn160, qn161, hn162, hn163, hn164, hn165, hP1, hD1⟩ := hB
          obtain rfl := hra.symm
          rw [ht] at hP1
          obtain ⟨hP, hD⟩ := PDq.join (w := [(oX0 a0 p0 a1 a3 a4 a5 a6 i6 i7 i8 i9 i10 i11 i12 i13 i14 i15 i16 i17 i18 i19), (a3, .inl (cA 0, 10, .inl fs)), (a4, .inl (cA 0, 10, .inl fp)), (a5, .inl (cA 0, 10, .inl ff)), (a6, .inl (cA 0, 10, .inl fd)), (p2, .inl (cA 1, 10, .inr (.inl fna))), (p3, .inl (cA 0, 10, .inl fam)), (oX9 h0 b0 (nI nb) p0 u0 r0 a0 t0 s0 o0), (oX3 p0 pr pb pe pg p1 (nI nd) p2 p3 p4 p5 (nI cn) p6 (nI pq) p7 p8 p9 (nI sc)), (oJ4 o0 qn158 0 zn8 (nI qn161)), (qn158, .inl (cA 3, qn159, .inl fn160))]) 9 hP hD [9, 10] [0, 1, 2, 3, 4, 5, 6, 7, 8] rfl rfl (by decide +kernel) (by decide +kernel) hk1 hFc hP1 hD1 rfl
          generalize H1 = H at hP hS ⊢
          refine lv_pop hx hb dX9_write_114 rfl ?_
          refine lv_iload_n hx hb dX9_write_115 rfl (lv_at hl 0 rfl) ?_
          refine lv_iconst (v := 1) hx hb dX9_write_116 (by decide) ?_
          refine lv_icmp_ne (tgt := 148) hx hb dX9_write_117 (by decide) (fun c166 => ?_) (fun c9 => absurd c9 (by decide))
          refine lv_iload_n hx hb dX9_write_148 rfl (lv_at hl 0 rfl) ?_
          refine lv_iconst (v := 2) hx hb dX9_write_149 (by decide) ?_
          refine lv_icmp_ne (tgt := 181) hx hb dX9_write_150 (by decide) (fun c9 => absurd c9 (by decide)) (fun c167 => ?_)
          refine lv_aload_n hx hb dX9_write_153 rfl (lv_at hl 1 rfl) ?_
          refine va_get (D := D) (ci := 10) (v := .ref o0) (C := RX9) (T := TX9) (N := 9) hx hb hts inX9 hown hK hP 7 rfl rfl 8 (by decide) (hts (.fieldLink RX9 52 "EscrowDesk" "output" "Ljava/lang/StringBuilder;") (by decide +kernel)) (fun _ h9 => h9) rfl dX9_write_154 ?_
          refine va_ldcwS hx hb hown (hC.str 23 rfl) dX9_write_157 ?_
          obtain ⟨hPc, hDc, hFc⟩ := PDq.cut (wc := [(oJ4 o0 qn158 0 zn8 (nI qn161)), (qn158, .inl (cA 3, qn159, .inl fn160))]) hP hD hS hA [9, 10] (by decide) rfl
          refine va_callr (va_runV (As := [.ref (sa 23)]) (rest := []) ⟨hx, hb, hml, hown, hts⟩ (j_appendS l D cA sa o0 qn158 qn161 qn159 zn8 fn160 23 ([32, 102, 114, 111, 122, 101, 110, 32]) 8 H.size (by decide +kernel) hn163 hn164 hn165 rfl (by omega)) (cwV 1 hts gX9_write_J4_append_15ec4 rfl rfl rfl (by decide +kernel) ⟨(Nat.le_of_ble_eq_true rfl), (Nat.le_of_ble_eq_true rfl)⟩) ⟨Wd.blind, va_recv hK hPc (ci := 1) (q0 := 0) rfl rfl, fun U hU hW => ⟨rfl, Wd.call hPc hDc hK hC hZ hS hFc U hU hW⟩⟩ rfl rfl hl.1 rfl (lv_room (Nat.le_of_ble_eq_true rfl)) dX9_write_160 ⟨(Nat.le_of_ble_eq_true rfl), (Nat.le_of_ble_eq_true rfl)⟩) hS (fun q _ h => hFc q h) hFc (fun u ra t H1 locs ht hvm hw hB hz1 hk1 hS => ?_)
          obtain ⟨hra, qn168, qn169, fn170, qn171, hn172, hn173, hn174, hn175, hP1, hD1⟩ := hB
          obtain rfl := hra.symm
          rw [ht] at hP1
          obtain ⟨hP, hD⟩ := PDq.join (w := [(oX0 a0 p0 a1 a3 a4 a5 a6 i6 i7 i8 i9 i10 i11 i12 i13 i14 i15 i16 i17 i18 i19), (a3, .inl (cA 0, 10, .inl fs)), (a4, .inl (cA 0, 10, .inl fp)), (a5, .inl (cA 0, 10, .inl ff)), (a6, .inl (cA 0, 10, .inl fd)), (p2, .inl (cA 1, 10, .inr (.inl fna))), (p3, .inl (cA 0, 10, .inl fam)), (oX9 h0 b0 (nI nb) p0 u0 r0 a0 t0 s0 o0), (oX3 p0 pr pb pe pg p1 (nI nd) p2 p3 p4 p5 (nI cn) p6 (nI pq) p7 p8 p9 (nI sc)), (oJ4 o0 qn168 0 zn8 (nI qn171)), (qn168, .inl (cA 3, qn169, .inl fn170))]) 9 hP hD [9, 10] [0, 1, 2, 3, 4, 5, 6, 7, 8] rfl rfl (by decide +kernel) (by decide +kernel) hk1 hFc hP1 hD1 rfl
          generalize H1 = H at hP hS ⊢
          refine lv_pop hx hb dX9_write_163 rfl ?_
          refine lv_aload_n hx hb dX9_write_164 rfl (lv_at hl 1 rfl) ?_
          refine va_get (D := D) (ci := 10) (v := .ref o0) (C := RX9) (T := TX9) (N := 9) hx hb hts inX9 hown hK hP 7 rfl rfl 8 (by decide) (hts (.fieldLink RX9 52 "EscrowDesk" "output" "Ljava/lang/StringBuilder;") (by decide +kernel)) (fun _ h9 => h9) rfl dX9_write_165 ?_
          refine lv_aload_n hx hb dX9_write_168 rfl (lv_at hl 1 rfl) ?_
          refine va_get (D := D) (ci := 10) (v := .ref a0) (C := RX9) (T := TX9) (N := 9) hx hb hts inX9 hown hK hP 7 rfl rfl 5 (by decide) (hts (.fieldLink RX9 35 "EscrowDesk" "account" "LEscrowDesk$Account;") (by decide +kernel)) (fun _ h9 => h9) rfl dX9_write_169 ?_
          refine va_getN (D := D) (ci := 4) (v := .ref a5) (C := RX0) (T := TX0) (N := 20) hx hb hts inX0 hown hK hP 0 rfl rfl 4 (by decide) (hC.f (A := _) (a := RX9) (i := 133) (b := "EscrowDesk$Account") (n := "frozen") (d := "[I") (x := "EscrowDesk") (by decide +kernel)) (fun _ h9 => h9) rfl dX9_write_172 ?_
          refine lv_iload_n hx hb dX9_write_175 rfl (lv_at hl 2 rfl) ?_
          refine va_iald hx hb hK hP 3 0 rfl rfl (vp_in_nI (n := qn1) (N := 10) (show qn1 < 10 by omega) (by decide)) dX9_write_176 ?_
          refine lv_topi (fun yn176 eyn176 => ?_)
          obtain ⟨hPc, hDc, hFc⟩ := PDq.cut (wc := [(oJ4 o0 qn168 0 zn8 (nI qn171)), (qn168, .inl (cA 3, qn169, .inl fn170))]) hP hD hS hA [9, 10] (by decide) rfl
          refine va_callr (va_runV (As := [.int yn176]) (rest := []) ⟨hx, hb, hml, hown, hts⟩ (j_appendI l D cA sa o0 qn168 qn171 qn169 zn8 fn170 yn176 H.size hn173 hn174 hn175 (by omega)) (cwV 1 hts gX9_write_J4_append_bf812 rfl rfl rfl (by decide +kernel) ⟨(Nat.le_of_ble_eq_true rfl), (Nat.le_of_ble_eq_true rfl)⟩) ⟨Wd2.blind, va_recv hK hPc (ci := 1) (q0 := 0) rfl rfl, fun U hU hW => ⟨rfl, Wd2.call (Wd.call hPc hDc hK hC hZ hS hFc U hU hW) hG hS hFc hU hW⟩⟩ rfl rfl hl.1 rfl (lv_room (Nat.le_of_ble_eq_true rfl)) dX9_write_177 ⟨(Nat.le_of_ble_eq_true rfl), (Nat.le_of_ble_eq_true rfl)⟩) hS (fun q _ h => hFc q h) hFc (fun u ra t H1 locs ht hvm hw hB hz1 hk1 hS => ?_)
          obtain ⟨hra, qn177, qn178, fn179, qn180, hn181, hn182, hn183, hn184, hP1, hD1⟩ := hB
          obtain rfl := hra.symm
          rw [ht] at hP1
          obtain ⟨hP, hD⟩ := PDq.join (w := [(oX0 a0 p0 a1 a3 a4 a5 a6 i6 i7 i8 i9 i10 i11 i12 i13 i14 i15 i16 i17 i18 i19), (a3, .inl (cA 0, 10, .inl fs)), (a4, .inl (cA 0, 10, .inl fp)), (a5, .inl (cA 0, 10, .inl ff)), (a6, .inl (cA 0, 10, .inl fd)), (p2, .inl (cA 1, 10, .inr (.inl fna))), (p3, .inl (cA 0, 10, .inl fam)), (oX9 h0 b0 (nI nb) p0 u0 r0 a0 t0 s0 o0), (oX3 p0 pr pb pe pg p1 (nI nd) p2 p3 p4 p5 (nI cn) p6 (nI pq) p7 p8 p9 (nI sc)), (oJ4 o0 qn177 0 zn8 (nI qn180)), (qn177, .inl (cA 3, qn178, .inl fn179))]) 9 hP hD [9, 10] [0, 1, 2, 3, 4, 5, 6, 7, 8] rfl rfl (by decide +kernel) (by decide +kernel) hk1 hFc hP1 hD1 rfl
          generalize H1 = H at hP hS ⊢
          refine lv_pop hx hb dX9_write_180 rfl ?_
          refine lv_aload_n hx hb dX9_write_181 rfl (lv_at hl 1 rfl) ?_
          refine va_get (D := D) (ci := 10) (v := .ref o0) (C := RX9) (T := TX9) (N := 9) hx hb hts inX9 hown hK hP 7 rfl rfl 8 (by decide) (hts (.fieldLink RX9 52 "EscrowDesk" "output" "Ljava/lang/StringBuilder;") (by decide +kernel)) (fun _ h9 => h9) rfl dX9_write_182 ?_
          obtain ⟨hPc, hDc, hFc⟩ := PDq.cut (wc := [(oJ4 o0 qn177 0 zn8 (nI qn180))]) hP hD hS hA [9] (by decide) rfl
          refine va_calli (va_runV (As := []) (rest := []) ⟨hx, hb, hml, hown, hts⟩ (j_length l D cA sa o0 qn177 qn180 zn8 H.size) (cwV 0 hts gX9_write_J4_length_8abf5 rfl rfl rfl (by decide +kernel) ⟨(Nat.le_of_ble_eq_true rfl), (Nat.le_of_ble_eq_true rfl)⟩) ⟨Wd.blind, va_recv hK hPc (ci := 1) (q0 := 0) rfl rfl, fun U hU hW => ⟨rfl, Wd.call hPc hDc hK hC hZ hS hFc U hU hW⟩⟩ rfl rfl hl.1 rfl (lv_room (Nat.le_of_ble_eq_true rfl)) dX9_write_185 ⟨(Nat.le_of_ble_eq_true rfl), (Nat.le_of_ble_eq_true rfl)⟩) hS (fun q _ h => hFc q h) hFc (fun rn185 u t H1 locs ht hvm hw hB hz1 hk1 hS => ?_)
          obtain ⟨hP1, hD1⟩ := hB
          rw [ht] at hP1
          obtain ⟨hP, hD⟩ := PDq.join (w := [(oX0 a0 p0 a1 a3 a4 a5 a6 i6 i7 i8 i9 i10 i11 i12 i13 i14 i15 i16 i17 i18 i19), (a3, .inl (cA 0, 10, .inl fs)), (a4, .inl (cA 0, 10, .inl fp)), (a5, .inl (cA 0, 10, .inl ff)), (a6, .inl (cA 0, 10, .inl fd)), (p2, .inl (cA 1, 10, .inr (.inl fna))), (p3, .inl (cA 0, 10, .inl fam)), (oX9 h0 b0 (nI nb) p0 u0 r0 a0 t0 s0 o0), (oX3 p0 pr pb pe pg p1 (nI nd) p2 p3 p4 p5 (nI cn) p6 (nI pq) p7 p8 p9 (nI sc)), (qn177, .inl (cA 3, qn178, .inl fn179)), (oJ4 o0 qn177 0 zn8 (nI qn180))]) 10 hP hD [9] [0, 1, 2, 3, 4, 5, 6, 7, 8, 10] rfl rfl (by decide +kernel) (by decide +kernel) hk1 hFc hP1 hD1 rfl
          generalize H1 = H at hP hS ⊢
          obtain rfl : rn185 = (nI qn180) := hw
          obtain ⟨hP9, hD9⟩ := PDq.sub (ws' := [(oX9 h0 b0 (nI nb) p0 u0 r0 a0 t0 s0 o0), (oX0 a0 p0 a1 a3 a4 a5 a6 i6 i7 i8 i9 i10 i11 i12 i13 i14 i15 i16 i17 i18 i19), (a3, .inl (cA 0, 10, .inl fs)), (a4, .inl (cA 0, 10, .inl fp)), (a5, .inl (cA 0, 10, .inl ff)), (a6, .inl (cA 0, 10, .inl fd)), (oX3 p0 pr pb pe pg p1 (nI nd) p2 p3 p4 p5 (nI cn) p6 (nI pq) p7 p8 p9 (nI sc)), (p2, .inl (cA 1, 10, .inr (.inl fna))), (p3, .inl (cA 0, 10, .inl fam)), (oJ4 o0 qn177 0 zn8 (nI qn180)), (qn177, .inl (cA 3, qn178, .inl fn179))]) hP hD [7, 0, 1, 2, 3, 4, 8, 5, 6, 10, 9] (by decide +kernel) rfl
          refine W.widen (k := 19) (n := 4686) (Nat.le_of_ble_eq_true rfl) (Nat.le_of_ble_eq_true rfl) ?_
          exact vx_ret (W.iret (v := (nI qn180)) hx hb hr (fun t ht hW => ⟨⟨(nI qn180), (), rfl, trivial, qn177, qn178, fn179, qn180, zn8, hn182, (by omega), hn183, hn184, by rw [ht]; exact hP9, hD9⟩, hS.F ht⟩) hS.2.2 dX9_write_188)
        · skip
          by_cases hn186 : yn4 = 3
          · skip
            rw [hn186] at hl
            have hl : lv_has ls 3 [(2, .int 3), (0, .ref h0), (1, .int (nI qn1))] := hl
            refine W.eq (g2 := F0 m 54 ls [.int 3, .ref o0]) (by rw [hn186]) ?_
            obtain ⟨hPc, hDc, hFc⟩ := PDq.cut (wc := []) hP hD hS hA [] (by decide) rfl
            refine va_callr (va_runS (As := [.int 3]) (rest := [.ref o0]) ⟨hx, hb, hml, hown, hts⟩ (s_spell3 l D cA sa  H.size) (va_cwS 1 hts gX9_write_X6_spelling rfl rfl rfl (by decide +kernel) ⟨(Nat.le_of_ble_eq_true rfl), (Nat.le_of_ble_eq_true rfl)⟩) ⟨Wd.blind, fun U hU hW => ⟨rfl, Wd.call hPc hDc hK hC hZ hS hFc U hU hW⟩⟩ rfl rfl hl.1 rfl (lv_room (Nat.le_of_ble_eq_true rfl)) dX9_write_54 ⟨(Nat.le_of_ble_eq_true rfl), (Nat.le_of_ble_eq_true rfl)⟩) hS (fun q _ h => hFc q h) hFc (fun u ra t H1 locs ht hvm hw hB hz1 hk1 hS => ?_)
            obtain ⟨hra, hP1, hD1⟩ := hB
            obtain rfl := hra.symm
            rw [ht] at hP1
            obtain ⟨hP, hD⟩ := PDq.join (w := [(oX0 a0 p0 a1 a3 a4 a5 a6 i6 i7 i8 i9 i10 i11 i12 i13 i14 i15 i16 i17 i18 i19), (a3, .inl (cA 0, 10, .inl fs)), (a4, .inl (cA 0, 10, .inl fp)), (a5, .inl (cA 0, 10, .inl ff)), (a6, .inl (cA 0, 10, .inl fd)), (p2, .inl (cA 1, 10, .inr (.inl fna))), (p3, .inl (cA 0, 10, .inl fam)), (oX9 h0 b0 (nI nb) p0 u0 r0 a0 t0 s0 o0), (oX3 p0 pr pb pe pg p1 (nI nd) p2 p3 p4 p5 (nI cn) p6 (nI pq) p7 p8 p9 (nI sc)), (oJ4 o0 qn20 0 zn8 (nI (qn15 + 1))), (qn20, .inl (cA 3, qn21, .inl fn22))]) 11 hP hD [] [0, 1, 2, 3, 4, 5, 6, 7, 8, 9, 10] rfl rfl (by decide +kernel) (by decide +kernel) hk1 hFc hP1 hD1 rfl
            generalize H1 = H at hP hS ⊢
            obtain ⟨hPc, hDc, hFc⟩ := PDq.cut (wc := [(oJ4 o0 qn20 0 zn8 (nI (qn15 + 1))), (qn20, .inl (cA 3, qn21, .inl fn22))]) hP hD hS hA [9, 10] (by decide) rfl
            refine va_callr (va_runV (As := [.ref (sa 36)]) (rest := []) ⟨hx, hb, hml, hown, hts⟩ (j_appendS l D cA sa o0 qn20 (qn15 + 1) qn21 zn8 fn22 36 ([112, 97, 105, 100]) 4 H.size (by decide +kernel) (by omega) hn24 hn25 rfl (by omega)) (cwV 1 hts gX9_write_J4_append_15ec4 rfl rfl rfl (by decide +kernel) ⟨(Nat.le_of_ble_eq_true rfl), (Nat.le_of_ble_eq_true rfl)⟩) ⟨Wd.blind, va_recv hK hPc (ci := 1) (q0 := 0) rfl rfl, fun U hU hW => ⟨rfl, Wd.call hPc hDc hK hC hZ hS hFc U hU hW⟩⟩ rfl rfl hl.1 rfl (lv_room (Nat.le_of_ble_eq_true rfl)) dX9_write_57 ⟨(Nat.le_of_ble_eq_true rfl), (Nat.le_of_ble_eq_true rfl)⟩) hS (fun q _ h => hFc q h) hFc (fun u ra t H1 locs ht hvm hw hB hz1 hk1 hS => ?_)
            obtain ⟨hra, qn187, qn188, fn189, qn190, hn191, hn192, hn193, hn194, hP1, hD1⟩ := hB
            obtain rfl := hra.symm
            rw [ht] at hP1
            obtain ⟨hP, hD⟩ := PDq.join (w := [(oX0 a0 p0 a1 a3 a4 a5 a6 i6 i7 i8 i9 i10 i11 i12 i13 i14 i15 i16 i17 i18 i19), (a3, .inl (cA 0, 10, .inl fs)), (a4, .inl (cA 0, 10, .inl fp)), (a5, .inl (cA 0, 10, .inl ff)), (a6, .inl (cA 0, 10, .inl fd)), (p2, .inl (cA 1, 10, .inr (.inl fna))), (p3, .inl (cA 0, 10, .inl fam)), (oX9 h0 b0 (nI nb) p0 u0 r0 a0 t0 s0 o0), (oX3 p0 pr pb pe pg p1 (nI nd) p2 p3 p4 p5 (nI cn) p6 (nI pq) p7 p8 p9 (nI sc)), (oJ4 o0 qn187 0 zn8 (nI qn190)), (qn187, .inl (cA 3, qn188, .inl fn189))]) 9 hP hD [9, 10] [0, 1, 2, 3, 4, 5, 6, 7, 8] rfl rfl (by decide +kernel) (by decide +kernel) hk1 hFc hP1 hD1 rfl
            generalize H1 = H at hP hS ⊢
            refine lv_pop hx hb dX9_write_60 rfl ?_
            refine lv_aload_n hx hb dX9_write_61 rfl (lv_at hl 1 rfl) ?_
            refine va_get (D := D) (ci := 10) (v := .ref o0) (C := RX9) (T := TX9) (N := 9) hx hb hts inX9 hown hK hP 7 rfl rfl 8 (by decide) (hts (.fieldLink RX9 52 "EscrowDesk" "output" "Ljava/lang/StringBuilder;") (by decide +kernel)) (fun _ h9 => h9) rfl dX9_write_62 ?_
            refine lv_bipush (v := 32) hx hb dX9_write_65 (by decide) ?_
            obtain ⟨hPc, hDc, hFc⟩ := PDq.cut (wc := [(oJ4 o0 qn187 0 zn8 (nI qn190)), (qn187, .inl (cA 3, qn188, .inl fn189))]) hP hD hS hA [9, 10] (by decide) rfl
            refine va_callr (va_runV (As := [.int 32]) (rest := []) ⟨hx, hb, hml, hown, hts⟩ (j_appendC l D cA sa o0 qn187 qn190 qn188 zn8 fn189 32 H.size hn192 hn193 hn194 (by omega) (by omega)) (cwV 1 hts gX9_write_J4_append_cf468 rfl rfl rfl (by decide +kernel) ⟨(Nat.le_of_ble_eq_true rfl), (Nat.le_of_ble_eq_true rfl)⟩) ⟨Wd.blind, va_recv hK hPc (ci := 1) (q0 := 0) rfl rfl, fun U hU hW => ⟨rfl, Wd.call hPc hDc hK hC hZ hS hFc U hU hW⟩⟩ rfl rfl hl.1 rfl (lv_room (Nat.le_of_ble_eq_true rfl)) dX9_write_67 ⟨(Nat.le_of_ble_eq_true rfl), (Nat.le_of_ble_eq_true rfl)⟩) hS (fun q _ h => hFc q h) hFc (fun u ra t H1 locs ht hvm hw hB hz1 hk1 hS => ?_)
            obtain ⟨hra, qn195, qn196, fn197, hn198, hn199, hn200, hP1, hD1⟩ := hB
            obtain rfl := hra.symm
            rw [ht] at hP1
            obtain ⟨hP, hD⟩ := PDq.join (w := [(oX0 a0 p0 a1 a3 a4 a5 a6 i6 i7 i8 i9 i10 i11 i12 i13 i14 i15 i16 i17 i18 i19), (a3, .inl (cA 0, 10, .inl fs)), (a4, .inl (cA 0, 10, .inl fp)), (a5, .inl (cA 0, 10, .inl ff)), (a6, .inl (cA 0, 10, .inl fd)), (p2, .inl (cA 1, 10, .inr (.inl fna))), (p3, .inl (cA 0, 10, .inl fam)), (oX9 h0 b0 (nI nb) p0 u0 r0 a0 t0 s0 o0), (oX3 p0 pr pb pe pg p1 (nI nd) p2 p3 p4 p5 (nI cn) p6 (nI pq) p7 p8 p9 (nI sc)), (oJ4 o0 qn195 0 zn8 (nI (qn190 + 1))), (qn195, .inl (cA 3, qn196, .inl fn197))]) 9 hP hD [9, 10] [0, 1, 2, 3, 4, 5, 6, 7, 8] rfl rfl (by decide +kernel) (by decide +kernel) hk1 hFc hP1 hD1 rfl
            generalize H1 = H at hP hS ⊢
            refine lv_pop hx hb dX9_write_70 rfl ?_
            refine lv_aload_n hx hb dX9_write_71 rfl (lv_at hl 1 rfl) ?_
            refine va_get (D := D) (ci := 10) (v := .ref o0) (C := RX9) (T := TX9) (N := 9) hx hb hts inX9 hown hK hP 7 rfl rfl 8 (by decide) (hts (.fieldLink RX9 52 "EscrowDesk" "output" "Ljava/lang/StringBuilder;") (by decide +kernel)) (fun _ h9 => h9) rfl dX9_write_72 ?_
            refine lv_aload_n hx hb dX9_write_75 rfl (lv_at hl 1 rfl) ?_
            refine va_get (D := D) (ci := 10) (v := .ref a0) (C := RX9) (T := TX9) (N := 9) hx hb hts inX9 hown hK hP 7 rfl rfl 5 (by decide) (hts (.fieldLink RX9 35 "EscrowDesk" "account" "LEscrowDesk$Account;") (by decide +kernel)) (fun _ h9 => h9) rfl dX9_write_76 ?_
            refine va_getN (D := D) (ci := 4) (v := .ref a4) (C := RX0) (T := TX0) (N := 20) hx hb hts inX0 hown hK hP 0 rfl rfl 3 (by decide) (hC.f (A := _) (a := RX9) (i := 126) (b := "EscrowDesk$Account") (n := "paid") (d := "[I") (x := "EscrowDesk") (by decide +kernel)) (fun _ h9 => h9) rfl dX9_write_79 ?_
            refine lv_iload_n hx hb dX9_write_82 rfl (lv_at hl 2 rfl) ?_
            refine va_iald hx hb hK hP 2 0 rfl rfl (vp_in_nI (n := qn1) (N := 10) (show qn1 < 10 by omega) (by decide)) dX9_write_83 ?_
            refine lv_topi (fun yn201 eyn201 => ?_)
            obtain ⟨hPc, hDc, hFc⟩ := PDq.cut (wc := [(oJ4 o0 qn195 0 zn8 (nI (qn190 + 1))), (qn195, .inl (cA 3, qn196, .inl fn197))]) hP hD hS hA [9, 10] (by decide) rfl
            refine va_callr (va_runV (As := [.int yn201]) (rest := []) ⟨hx, hb, hml, hown, hts⟩ (j_appendI l D cA sa o0 qn195 (qn190 + 1) qn196 zn8 fn197 yn201 H.size (by omega) hn199 hn200 (by omega)) (cwV 1 hts gX9_write_J4_append_bf812 rfl rfl rfl (by decide +kernel) ⟨(Nat.le_of_ble_eq_true rfl), (Nat.le_of_ble_eq_true rfl)⟩) ⟨Wd2.blind, va_recv hK hPc (ci := 1) (q0 := 0) rfl rfl, fun U hU hW => ⟨rfl, Wd2.call (Wd.call hPc hDc hK hC hZ hS hFc U hU hW) hG hS hFc hU hW⟩⟩ rfl rfl hl.1 rfl (lv_room (Nat.le_of_ble_eq_true rfl)) dX9_write_84 ⟨(Nat.le_of_ble_eq_true rfl), (Nat.le_of_ble_eq_true rfl)⟩) hS (fun q _ h => hFc q h) hFc (fun u ra t H1 locs ht hvm hw hB hz1 hk1 hS => ?_)
            obtain ⟨hra, qn202, qn203, fn204, qn205, hn206, hn207, hn208, hn209, hP1, hD1⟩ := hB
            obtain rfl := hra.symm
            rw [ht] at hP1
            obtain ⟨hP, hD⟩ := PDq.join (w := [(oX0 a0 p0 a1 a3 a4 a5 a6 i6 i7 i8 i9 i10 i11 i12 i13 i14 i15 i16 i17 i18 i19), (a3, .inl (cA 0, 10, .inl fs)), (a4, .inl (cA 0, 10, .inl fp)), (a5, .inl (cA 0, 10, .inl ff)), (a6, .inl (cA 0, 10, .inl fd)), (p2, .inl (cA 1, 10, .inr (.inl fna))), (p3, .inl (cA 0, 10, .inl fam)), (oX9 h0 b0 (nI nb) p0 u0 r0 a0 t0 s0 o0), (oX3 p0 pr pb pe pg p1 (nI nd) p2 p3 p4 p5 (nI cn) p6 (nI pq) p7 p8 p9 (nI sc)), (oJ4 o0 qn202 0 zn8 (nI qn205)), (qn202, .inl (cA 3, qn203, .inl fn204))]) 9 hP hD [9, 10] [0, 1, 2, 3, 4, 5, 6, 7, 8] rfl rfl (by decide +kernel) (by decide +kernel) hk1 hFc hP1 hD1 rfl
            generalize H1 = H at hP hS ⊢
            refine lv_pop hx hb dX9_write_87 rfl ?_
            refine lv_aload_n hx hb dX9_write_88 rfl (lv_at hl 1 rfl) ?_
            refine va_get (D := D) (ci := 10) (v := .ref o0) (C := RX9) (T := TX9) (N := 9) hx hb hts inX9 hown hK hP 7 rfl rfl 8 (by decide) (hts (.fieldLink RX9 52 "EscrowDesk" "output" "Ljava/lang/StringBuilder;") (by decide +kernel)) (fun _ h9 => h9) rfl dX9_write_89 ?_
            refine lv_bipush (v := 47) hx hb dX9_write_92 (by decide) ?_
            obtain ⟨hPc, hDc, hFc⟩ := PDq.cut (wc := [(oJ4 o0 qn202 0 zn8 (nI qn205)), (qn202, .inl (cA 3, qn203, .inl fn204))]) hP hD hS hA [9, 10] (by decide) rfl
            refine va_callr (va_runV (As := [.int 47]) (rest := []) ⟨hx, hb, hml, hown, hts⟩ (j_appendC l D cA sa o0 qn202 qn205 qn203 zn8 fn204 47 H.size hn207 hn208 hn209 (by omega) (by omega)) (cwV 1 hts gX9_write_J4_append_cf468 rfl rfl rfl (by decide +kernel) ⟨(Nat.le_of_ble_eq_true rfl), (Nat.le_of_ble_eq_true rfl)⟩) ⟨Wd.blind, va_recv hK hPc (ci := 1) (q0 := 0) rfl rfl, fun U hU hW => ⟨rfl, Wd.call hPc hDc hK hC hZ hS hFc U hU hW⟩⟩ rfl rfl hl.1 rfl (lv_room (Nat.le_of_ble_eq_true rfl)) dX9_write_94 ⟨(Nat.le_of_ble_eq_true rfl), (Nat.le_of_ble_eq_true rfl)⟩) hS (fun q _ h => hFc q h) hFc (fun u ra t H1 locs ht hvm hw hB hz1 hk1 hS => ?_)
            obtain ⟨hra, qn210, qn211, fn212, hn213, hn214, hn215, hP1, hD1⟩ := hB
            obtain rfl := hra.symm
            rw [ht] at hP1
            obtain ⟨hP, hD⟩ := PDq.join (w := [(oX0 a0 p0 a1 a3 a4 a5 a6 i6 i7 i8 i9 i10 i11 i12 i13 i14 i15 i16 i17 i18 i19), (a3, .inl (cA 0, 10, .inl fs)), (a4, .inl (cA 0, 10, .inl fp)), (a5, .inl (cA 0, 10, .inl ff)), (a6, .inl (cA 0, 10, .inl fd)), (p2, .inl (cA 1, 10, .inr (.inl fna))), (p3, .inl (cA 0, 10, .inl fam)), (oX9 h0 b0 (nI nb) p0 u0 r0 a0 t0 s0 o0), (oX3 p0 pr pb pe pg p1 (nI nd) p2 p3 p4 p5 (nI cn) p6 (nI pq) p7 p8 p9 (nI sc)), (oJ4 o0 qn210 0 zn8 (nI (qn205 + 1))), (qn210, .inl (cA 3, qn211, .inl fn212))]) 9 hP hD [9, 10] [0, 1, 2, 3, 4, 5, 6, 7, 8] rfl rfl (by decide +kernel) (by decide +kernel) hk1 hFc hP1 hD1 rfl
            generalize H1 = H at hP hS ⊢
            refine lv_pop hx hb dX9_write_97 rfl ?_
            refine lv_aload_n hx hb dX9_write_98 rfl (lv_at hl 1 rfl) ?_
            refine va_get (D := D) (ci := 10) (v := .ref o0) (C := RX9) (T := TX9) (N := 9) hx hb hts inX9 hown hK hP 7 rfl rfl 8 (by decide) (hts (.fieldLink RX9 52 "EscrowDesk" "output" "Ljava/lang/StringBuilder;") (by decide +kernel)) (fun _ h9 => h9) rfl dX9_write_99 ?_
            refine lv_aload_n hx hb dX9_write_102 rfl (lv_at hl 1 rfl) ?_
            refine va_get (D := D) (ci := 10) (v := .ref p0) (C := RX9) (T := TX9) (N := 9) hx hb hts inX9 hown hK hP 7 rfl rfl 2 (by decide) (hts (.fieldLink RX9 16 "EscrowDesk" "plan" "LEscrowDesk$Plan;") (by decide +kernel)) (fun _ h9 => h9) rfl dX9_write_103 ?_
            refine va_getN (D := D) (ci := 7) (v := .ref p3) (C := RX3) (T := TX3) (N := 17) hx hb hts inX3 hown hK hP 8 rfl rfl 7 (by decide) (hC.f (A := _) (a := RX9) (i := 165) (b := "EscrowDesk$Plan") (n := "amounts") (d := "[I") (x := "EscrowDesk") (by decide +kernel)) (fun _ h9 => h9) rfl dX9_write_106 ?_
            refine lv_iload_n hx hb dX9_write_109 rfl (lv_at hl 2 rfl) ?_
            refine va_iald hx hb hK hP 6 0 rfl rfl (vp_in_nI (n := qn1) (N := 10) (show qn1 < 10 by omega) (by decide)) dX9_write_110 ?_
            refine lv_topi (fun yn216 eyn216 => ?_)
            obtain ⟨hPc, hDc, hFc⟩ := PDq.cut (wc := [(oJ4 o0 qn210 0 zn8 (nI (qn205 + 1))), (qn210, .inl (cA 3, qn211, .inl fn212))]) hP hD hS hA [9, 10] (by decide) rfl
            refine va_callr (va_runV (As := [.int yn216]) (rest := []) ⟨hx, hb, hml, hown, hts⟩ (j_appendI l D cA sa o0 qn210 (qn205 + 1) qn211 zn8 fn212 yn216 H.size (by omega) hn214 hn215 (by omega)) (cwV 1 hts gX9_write_J4_append_bf812 rfl rfl rfl (by decide +kernel) ⟨(Nat.le_of_ble_eq_true rfl), (Nat.le_of_ble_eq_true rfl)⟩) ⟨Wd2.blind, va_recv hK hPc (ci := 1) (q0 := 0) rfl rfl, fun U hU hW => ⟨rfl, Wd2.call (Wd.call hPc hDc hK hC hZ hS hFc U hU hW) hG hS hFc hU hW⟩⟩ rfl rfl hl.1 rfl (lv_room (Nat.le_of_ble_eq_true rfl)) dX9_write_111 ⟨(Nat.le_of_ble_eq_true rfl), (Nat.le_of_ble_eq_true rfl)⟩) hS (fun q _ h => hFc q h) hFc (fun u ra t H1 locs ht hvm hw hB hz1 hk1 hS => ?_)
            obtain ⟨hra, qn217, qn218, fn219, qn220, hn221, hn222, hn223, hn224, hP1, hD1⟩ := hB
            obtain rfl := hra.symm
            rw [ht] at hP1
            obtain ⟨hP, hD⟩ := PDq.join (w := [(oX0 a0 p0 a1 a3 a4 a5 a6 i6 i7 i8 i9 i10 i11 i12 i13 i14 i15 i16 i17 i18 i19), (a3, .inl (cA 0, 10, .inl fs)), (a4, .inl (cA 0, 10, .inl fp)), (a5, .inl (cA 0, 10, .inl ff)), (a6, .inl (cA 0, 10, .inl fd)), (p2, .inl (cA 1, 10, .inr (.inl fna))), (p3, .inl (cA 0, 10, .inl fam)), (oX9 h0 b0 (nI nb) p0 u0 r0 a0 t0 s0 o0), (oX3 p0 pr pb pe pg p1 (nI nd) p2 p3 p4 p5 (nI cn) p6 (nI pq) p7 p8 p9 (nI sc)), (oJ4 o0 qn217 0 zn8 (nI qn220)), (qn217, .inl (cA 3, qn218, .inl fn219))]) 9 hP hD [9, 10] [0, 1, 2, 3, 4, 5, 6, 7, 8] rfl rfl (by decide +kernel) (by decide +kernel) hk1 hFc hP1 hD1 rfl
            generalize H1 = H at hP hS ⊢
            refine lv_pop hx hb dX9_write_114 rfl ?_
            refine lv_iload_n hx hb dX9_write_115 rfl (lv_at hl 0 rfl) ?_
            refine lv_iconst (v := 1) hx hb dX9_write_116 (by decide) ?_
            refine lv_icmp_ne (tgt := 148) hx hb dX9_write_117 (by decide) (fun c225 => ?_) (fun c9 => absurd c9 (by decide))
            refine lv_iload_n hx hb dX9_write_148 rfl (lv_at hl 0 rfl) ?_
            refine lv_iconst (v := 2) hx hb dX9_write_149 (by decide) ?_
            refine lv_icmp_ne (tgt := 181) hx hb dX9_write_150 (by decide) (fun c226 => ?_) (fun c9 => absurd c9 (by decide))
            refine lv_aload_n hx hb dX9_write_181 rfl (lv_at hl 1 rfl) ?_
            refine va_get (D := D) (ci := 10) (v := .ref o0) (C := RX9) (T := TX9) (N := 9) hx hb hts inX9 hown hK hP 7 rfl rfl 8 (by decide) (hts (.fieldLink RX9 52 "EscrowDesk" "output" "Ljava/lang/StringBuilder;") (by decide +kernel)) (fun _ h9 => h9) rfl dX9_write_182 ?_
            obtain ⟨hPc, hDc, hFc⟩ := PDq.cut (wc := [(oJ4 o0 qn217 0 zn8 (nI qn220))]) hP hD hS hA [9] (by decide) rfl
            refine va_calli (va_runV (As := []) (rest := []) ⟨hx, hb, hml, hown, hts⟩ (j_length l D cA sa o0 qn217 qn220 zn8 H.size) (cwV 0 hts gX9_write_J4_length_8abf5 rfl rfl rfl (by decide +kernel) ⟨(Nat.le_of_ble_eq_true rfl), (Nat.le_of_ble_eq_true rfl)⟩) ⟨Wd.blind, va_recv hK hPc (ci := 1) (q0 := 0) rfl rfl, fun U hU hW => ⟨rfl, Wd.call hPc hDc hK hC hZ hS hFc U hU hW⟩⟩ rfl rfl hl.1 rfl (lv_room (Nat.le_of_ble_eq_true rfl)) dX9_write_185 ⟨(Nat.le_of_ble_eq_true rfl), (Nat.le_of_ble_eq_true rfl)⟩) hS (fun q _ h => hFc q h) hFc (fun rn227 u t H1 locs ht hvm hw hB hz1 hk1 hS => ?_)
            obtain ⟨hP1, hD1⟩ := hB
            rw [ht] at hP1
            obtain ⟨hP, hD⟩ := PDq.join (w := [(oX0 a0 p0 a1 a3 a4 a5 a6 i6 i7 i8 i9 i10 i11 i12 i13 i14 i15 i16 i17 i18 i19), (a3, .inl (cA 0, 10, .inl fs)), (a4, .inl (cA 0, 10, .inl fp)), (a5, .inl (cA 0, 10, .inl ff)), (a6, .inl (cA 0, 10, .inl fd)), (p2, .inl (cA 1, 10, .inr (.inl fna))), (p3, .inl (cA 0, 10, .inl fam)), (oX9 h0 b0 (nI nb) p0 u0 r0 a0 t0 s0 o0), (oX3 p0 pr pb pe pg p1 (nI nd) p2 p3 p4 p5 (nI cn) p6 (nI pq) p7 p8 p9 (nI sc)), (qn217, .inl (cA 3, qn218, .inl fn219)), (oJ4 o0 qn217 0 zn8 (nI qn220))]) 10 hP hD [9] [0, 1, 2, 3, 4, 5, 6, 7, 8, 10] rfl rfl (by decide +kernel) (by decide +kernel) hk1 hFc hP1 hD1 rfl
            generalize H1 = H at hP hS ⊢
            obtain rfl : rn227 = (nI qn220) := hw
            obtain ⟨hP9, hD9⟩ := PDq.sub (ws' := [(oX9 h0 b0 (nI nb) p0 u0 r0 a0 t0 s0 o0), (oX0 a0 p0 a1 a3 a4 a5 a6 i6 i7 i8 i9 i10 i11 i12 i13 i14 i15 i16 i17 i18 i19), (a3, .inl (cA 0, 10, .inl fs)), (a4, .inl (cA 0, 10, .inl fp)), (a5, .inl (cA 0, 10, .inl ff)), (a6, .inl (cA 0, 10, .inl fd)), (oX3 p0 pr pb pe pg p1 (nI nd) p2 p3 p4 p5 (nI cn) p6 (nI pq) p7 p8 p9 (nI sc)), (p2, .inl (cA 1, 10, .inr (.inl fna))), (p3, .inl (cA 0, 10, .inl fam)), (oJ4 o0 qn217 0 zn8 (nI qn220)), (qn217, .inl (cA 3, qn218, .inl fn219))]) hP hD [7, 0, 1, 2, 3, 4, 8, 5, 6, 10, 9] (by decide +kernel) rfl
            refine W.widen (k := 19) (n := 4686) (Nat.le_of_ble_eq_true rfl) (Nat.le_of_ble_eq_true rfl) ?_
            exact vx_ret (W.iret (v := (nI qn220)) hx hb hr (fun t ht hW => ⟨⟨(nI qn220), (), rfl, trivial, qn217, qn218, fn219, qn220, zn8, hn222, (by omega), hn223, hn224, by rw [ht]; exact hP9, hD9⟩, hS.F ht⟩) hS.2.2 dX9_write_188)
          · skip
            by_cases hn228 : yn4 = 4
            · skip
              rw [hn228] at hl
              have hl : lv_has ls 3 [(2, .int 4), (0, .ref h0), (1, .int (nI qn1))] := hl
              refine W.eq (g2 := F0 m 54 ls [.int 4, .ref o0]) (by rw [hn228]) ?_
              obtain ⟨hPc, hDc, hFc⟩ := PDq.cut (wc := []) hP hD hS hA [] (by decide) rfl
              refine va_callr (va_runS (As := [.int 4]) (rest := [.ref o0]) ⟨hx, hb, hml, hown, hts⟩ (s_spell4 l D cA sa  H.size) (va_cwS 1 hts gX9_write_X6_spelling rfl rfl rfl (by decide +kernel) ⟨(Nat.le_of_ble_eq_true rfl), (Nat.le_of_ble_eq_true rfl)⟩) ⟨Wd.blind, fun U hU hW => ⟨rfl, Wd.call hPc hDc hK hC hZ hS hFc U hU hW⟩⟩ rfl rfl hl.1 rfl (lv_room (Nat.le_of_ble_eq_true rfl)) dX9_write_54 ⟨(Nat.le_of_ble_eq_true rfl), (Nat.le_of_ble_eq_true rfl)⟩) hS (fun q _ h => hFc q h) hFc (fun u ra t H1 locs ht hvm hw hB hz1 hk1 hS => ?_)
              obtain ⟨hra, hP1, hD1⟩ := hB
              obtain rfl := hra.symm
              rw [ht] at hP1
              obtain ⟨hP, hD⟩ := PDq.join (w := [(oX0 a0 p0 a1 a3 a4 a5 a6 i6 i7 i8 i9 i10 i11 i12 i13 i14 i15 i16 i17 i18 i19), (a3, .inl (cA 0, 10, .inl fs)), (a4, .inl (cA 0, 10, .inl fp)), (a5, .inl (cA 0, 10, .inl ff)), (a6, .inl (cA 0, 10, .inl fd)), (p2, .inl (cA 1, 10, .inr (.inl fna))), (p3, .inl (cA 0, 10, .inl fam)), (oX9 h0 b0 (nI nb) p0 u0 r0 a0 t0 s0 o0), (oX3 p0 pr pb pe pg p1 (nI nd) p2 p3 p4 p5 (nI cn) p6 (nI pq) p7 p8 p9 (nI sc)), (oJ4 o0 qn20 0 zn8 (nI (qn15 + 1))), (qn20, .inl (cA 3, qn21, .inl fn22))]) 11 hP hD [] [0, 1, 2, 3, 4, 5, 6, 7, 8, 9, 10] rfl rfl (by decide +kernel) (by decide +kernel) hk1 hFc hP1 hD1 rfl
              generalize H1 = H at hP hS ⊢
              obtain ⟨hPc, hDc, hFc⟩ := PDq.cut (wc := [(oJ4 o0 qn20 0 zn8 (nI (qn15 + 1))), (qn20, .inl (cA 3, qn21, .inl fn22))]) hP hD hS hA [9, 10] (by decide) rfl
              refine va_callr (va_runV (As := [.ref (sa 37)]) (rest := []) ⟨hx, hb, hml, hown, hts⟩ (j_appendS l D cA sa o0 qn20 (qn15 + 1) qn21 zn8 fn22 37 ([115, 101, 116, 116, 108, 101, 100]) 7 H.size (by decide +kernel) (by omega) hn24 hn25 rfl (by omega)) (cwV 1 hts gX9_write_J4_append_15ec4 rfl rfl rfl (by decide +kernel) ⟨(Nat.le_of_ble_eq_true rfl), (Nat.le_of_ble_eq_true rfl)⟩) ⟨Wd.blind, va_recv hK hPc (ci := 1) (q0 := 0) rfl rfl, fun U hU hW => ⟨rfl, Wd.call hPc hDc hK hC hZ hS hFc U hU hW⟩⟩ rfl rfl hl.1 rfl (lv_room (Nat.le_of_ble_eq_true rfl)) dX9_write_57 ⟨(Nat.le_of_ble_eq_true rfl), (Nat.le_of_ble_eq_true rfl)⟩) hS (fun q _ h => hFc q h) hFc (fun u ra t H1 locs ht hvm hw hB hz1 hk1 hS => ?_)
              obtain ⟨hra, qn229, qn230, fn231, qn232, hn233, hn234, hn235, hn236, hP1, hD1⟩ := hB
              obtain rfl := hra.symm
              rw [ht] at hP1
              obtain ⟨hP, hD⟩ := PDq.join (w := [(oX0 a0 p0 a1 a3 a4 a5 a6 i6 i7 i8 i9 i10 i11 i12 i13 i14 i15 i16 i17 i18 i19), (a3, .inl (cA 0, 10, .inl fs)), (a4, .inl (cA 0, 10, .inl fp)), (a5, .inl (cA 0, 10, .inl ff)), (a6, .inl (cA 0, 10, .inl fd)), (p2, .inl (cA 1, 10, .inr (.inl fna))), (p3, .inl (cA 0, 10, .inl fam)), (oX9 h0 b0 (nI nb) p0 u0 r0 a0 t0 s0 o0), (oX3 p0 pr pb pe pg p1 (nI nd) p2 p3 p4 p5 (nI cn) p6 (nI pq) p7 p8 p9 (nI sc)), (oJ4 o0 qn229 0 zn8 (nI qn232)), (qn229, .inl (cA 3, qn230, .inl fn231))]) 9 hP hD [9, 10] [0, 1, 2, 3, 4, 5, 6, 7, 8] rfl rfl (by decide +kernel) (by decide +kernel) hk1 hFc hP1 hD1 rfl
              generalize H1 = H at hP hS ⊢
              refine lv_pop hx hb dX9_write_60 rfl ?_
              refine lv_aload_n hx hb dX9_write_61 rfl (lv_at hl 1 rfl) ?_
              refine va_get (D := D) (ci := 10) (v := .ref o0) (C := RX9) (T := TX9) (N := 9) hx hb hts inX9 hown hK hP 7 rfl rfl 8 (by decide) (hts (.fieldLink RX9 52 "EscrowDesk" "output" "Ljava/lang/StringBuilder;") (by decide +kernel)) (fun _ h9 => h9) rfl dX9_write_62 ?_
              refine lv_bipush (v := 32) hx hb dX9_write_65 (by decide) ?_
              obtain ⟨hPc, hDc, hFc⟩ := PDq.cut (wc := [(oJ4 o0 qn229 0 zn8 (nI qn232)), (qn229, .inl (cA 3, qn230, .inl fn231))]) hP hD hS hA [9, 10] (by decide) rfl
              refine va_callr (va_runV (As := [.int 32]) (rest := []) ⟨hx, hb, hml, hown, hts⟩ (j_appendC l D cA sa o0 qn229 qn232 qn230 zn8 fn231 32 H.size hn234 hn235 hn236 (by omega) (by omega)) (cwV 1 hts gX9_write_J4_append_cf468 rfl rfl rfl (by decide +kernel) ⟨(Nat.le_of_ble_eq_true rfl), (Nat.le_of_ble_eq_true rfl)⟩) ⟨Wd.blind, va_recv hK hPc (ci := 1) (q0 := 0) rfl rfl, fun U hU hW => ⟨rfl, Wd.call hPc hDc hK hC hZ hS hFc U hU hW⟩⟩ rfl rfl hl.1 rfl (lv_room (Nat.le_of_ble_eq_true rfl)) dX9_write_67 ⟨(Nat.le_of_ble_eq_true rfl), (Nat.le_of_ble_eq_true rfl)⟩) hS (fun q _ h => hFc q h) hFc (fun u ra t H1 locs ht hvm hw hB hz1 hk1 hS => ?_)
              obtain ⟨hra, qn237, qn238, fn239, hn240, hn241, hn242, hP1, hD1⟩ := hB
              obtain rfl := hra.symm
              rw [ht] at hP1
              obtain ⟨hP, hD⟩ := PDq.join (w := [(oX0 a0 p0 a1 a3 a4 a5 a6 i6 i7 i8 i9 i10 i11 i12 i13 i14 i15 i16 i17 i18 i19), (a3, .inl (cA 0, 10, .inl fs)), (a4, .inl (cA 0, 10, .inl fp)), (a5, .inl (cA 0, 10, .inl ff)), (a6, .inl (cA 0, 10, .inl fd)), (p2, .inl (cA 1, 10, .inr (.inl fna))), (p3, .inl (cA 0, 10, .inl fam)), (oX9 h0 b0 (nI nb) p0 u0 r0 a0 t0 s0 o0), (oX3 p0 pr pb pe pg p1 (nI nd) p2 p3 p4 p5 (nI cn) p6 (nI pq) p7 p8 p9 (nI sc)), (oJ4 o0 qn237 0 zn8 (nI (qn232 + 1))), (qn237, .inl (cA 3, qn238, .inl fn239))]) 9 hP hD [9, 10] [0, 1, 2, 3, 4, 5, 6, 7, 8] rfl rfl (by decide +kernel) (by decide +kernel) hk1 hFc hP1 hD1 rfl
              generalize H1 = H at hP hS ⊢
              refine lv_pop hx hb dX9_write_70 rfl ?_
              refine lv_aload_n hx hb dX9_write_71 rfl (lv_at hl 1 rfl) ?_
              refine va_get (D := D) (ci := 10) (v := .ref o0) (C := RX9) (T := TX9) (N := 9) hx hb hts inX9 hown hK hP 7 rfl rfl 8 (by decide) (hts (.fieldLink RX9 52 "EscrowDesk" "output" "Ljava/lang/StringBuilder;") (by decide +kernel)) (fun _ h9 => h9) rfl dX9_write_72 ?_
              refine lv_aload_n hx hb dX9_write_75 rfl (lv_at hl 1 rfl) ?_
              refine va_get (D := D) (ci := 10) (v := .ref a0) (C := RX9) (T := TX9) (N := 9) hx hb hts inX9 hown hK hP 7 rfl rfl 5 (by decide) (hts (.fieldLink RX9 35 "EscrowDesk" "account" "LEscrowDesk$Account;") (by decide +kernel)) (fun _ h9 => h9) rfl dX9_write_76 ?_
              refine va_getN (D := D) (ci := 4) (v := .ref a4) (C := RX0) (T := TX0) (N := 20) hx hb hts inX0 hown hK hP 0 rfl rfl 3 (by decide) (hC.f (A := _) (a := RX9) (i := 126) (b := "EscrowDesk$Account") (n := "paid") (d := "[I") (x := "EscrowDesk") (by decide +kernel)) (fun _ h9 => h9) rfl dX9_write_79 ?_
              refine lv_iload_n hx hb dX9_write_82 rfl (lv_at hl 2 rfl) ?_
              refine va_iald hx hb hK hP 2 0 rfl rfl (vp_in_nI (n := qn1) (N := 10) (show qn1 < 10 by omega) (by decide)) dX9_write_83 ?_
              refine lv_topi (fun yn243 eyn243 => ?_)
              obtain ⟨hPc, hDc, hFc⟩ := PDq.cut (wc := [(oJ4 o0 qn237 0 zn8 (nI (qn232 + 1))), (qn237, .inl (cA 3, qn238, .inl fn239))]) hP hD hS hA [9, 10] (by decide) rfl
              refine va_callr (va_runV (As := [.int yn243]) (rest := []) ⟨hx, hb, hml, hown, hts⟩ (j_appendI l D cA sa o0 qn237 (qn232 + 1) qn238 zn8 fn239 yn243 H.size (by omega) hn241 hn242 (by omega)) (cwV 1 hts gX9_write_J4_append_bf812 rfl rfl rfl (by decide +kernel) ⟨(Nat.le_of_ble_eq_true rfl), (Nat.le_of_ble_eq_true rfl)⟩) ⟨Wd2.blind, va_recv hK hPc (ci := 1) (q0 := 0) rfl rfl, fun U hU hW => ⟨rfl, Wd2.call (Wd.call hPc hDc hK hC hZ hS hFc U hU hW) hG hS hFc hU hW⟩⟩ rfl rfl hl.1 rfl (lv_room (Nat.le_of_ble_eq_true rfl)) dX9_write_84 ⟨(Nat.le_of_ble_eq_true rfl), (Nat.le_of_ble_eq_true rfl)⟩) hS (fun q _ h => hFc q h) hFc (fun u ra t H1 locs ht hvm hw hB hz1 hk1 hS => ?_)
              obtain ⟨hra, qn244, qn245, fn246, qn247, hn248, hn249, hn250, hn251, hP1, hD1⟩ := hB
              obtain rfl := hra.symm
              rw [ht] at hP1
              obtain ⟨hP, hD⟩ := PDq.join (w := [(oX0 a0 p0 a1 a3 a4 a5 a6 i6 i7 i8 i9 i10 i11 i12 i13 i14 i15 i16 i17 i18 i19), (a3, .inl (cA 0, 10, .inl fs)), (a4, .inl (cA 0, 10, .inl fp)), (a5, .inl (cA 0, 10, .inl ff)), (a6, .inl (cA 0, 10, .inl fd)), (p2, .inl (cA 1, 10, .inr (.inl fna))), (p3, .inl (cA 0, 10, .inl fam)), (oX9 h0 b0 (nI nb) p0 u0 r0 a0 t0 s0 o0), (oX3 p0 pr pb pe pg p1 (nI nd) p2 p3 p4 p5 (nI cn) p6 (nI pq) p7 p8 p9 (nI sc)), (oJ4 o0 qn244 0 zn8 (nI qn247)), (qn244, .inl (cA 3, qn245, .inl fn246))]) 9 hP hD [9, 10] [0, 1, 2, 3, 4, 5, 6, 7, 8] rfl rfl (by decide +kernel) (by decide +kernel) hk1 hFc hP1 hD1 rfl
              generalize H1 = H at hP hS ⊢
              refine lv_pop hx hb dX9_write_87 rfl ?_
              refine lv_aload_n hx hb dX9_write_88 rfl (lv_at hl 1 rfl) ?_
              refine va_get (D := D) (ci := 10) (v := .ref o0) (C := RX9) (T := TX9) (N := 9) hx hb hts inX9 hown hK hP 7 rfl rfl 8 (by decide) (hts (.fieldLink RX9 52 "EscrowDesk" "output" "Ljava/lang/StringBuilder;") (by decide +kernel)) (fun _ h9 => h9) rfl dX9_write_89 ?_
              refine lv_bipush (v := 47) hx hb dX9_write_92 (by decide) ?_
              obtain ⟨hPc, hDc, hFc⟩ := PDq.cut (wc := [(oJ4 o0 qn244 0 zn8 (nI qn247)), (qn244, .inl (cA 3, qn245, .inl fn246))]) hP hD hS hA [9, 10] (by decide) rfl
              refine va_callr (va_runV (As := [.int 47]) (rest := []) ⟨hx, hb, hml, hown, hts⟩ (j_appendC l D cA sa o0 qn244 qn247 qn245 zn8 fn246 47 H.size hn249 hn250 hn251 (by omega) (by omega)) (cwV 1 hts gX9_write_J4_append_cf468 rfl rfl rfl (by decide +kernel) ⟨(Nat.le_of_ble_eq_true rfl), (Nat.le_of_ble_eq_true rfl)⟩) ⟨Wd.blind, va_recv hK hPc (ci := 1) (q0 := 0) rfl rfl, fun U hU hW => ⟨rfl, Wd.call hPc hDc hK hC hZ hS hFc U hU hW⟩⟩ rfl rfl hl.1 rfl (lv_room (Nat.le_of_ble_eq_true rfl)) dX9_write_94 ⟨(Nat.le_of_ble_eq_true rfl), (Nat.le_of_ble_eq_true rfl)⟩) hS (fun q _ h => hFc q h) hFc (fun u ra t H1 locs ht hvm hw hB hz1 hk1 hS => ?_)
              obtain ⟨hra, qn252, qn253, fn254, hn255, hn256, hn257, hP1, hD1⟩ := hB
              obtain rfl := hra.symm
              rw [ht] at hP1
              obtain ⟨hP, hD⟩ := PDq.join (w := [(oX0 a0 p0 a1 a3 a4 a5 a6 i6 i7 i8 i9 i10 i11 i12 i13 i14 i15 i16 i17 i18 i19), (a3, .inl (cA 0, 10, .inl fs)), (a4, .inl (cA 0, 10, .inl fp)), (a5, .inl (cA 0, 10, .inl ff)), (a6, .inl (cA 0, 10, .inl fd)), (p2, .inl (cA 1, 10, .inr (.inl fna))), (p3, .inl (cA 0, 10, .inl fam)), (oX9 h0 b0 (nI nb) p0 u0 r0 a0 t0 s0 o0), (oX3 p0 pr pb pe pg p1 (nI nd) p2 p3 p4 p5 (nI cn) p6 (nI pq) p7 p8 p9 (nI sc)), (oJ4 o0 qn252 0 zn8 (nI (qn247 + 1))), (qn252, .inl (cA 3, qn253, .inl fn254))]) 9 hP hD [9, 10] [0, 1, 2, 3, 4, 5, 6, 7, 8] rfl rfl (by decide +kernel) (by decide +kernel) hk1 hFc hP1 hD1 rfl
              generalize H1 = H at hP hS ⊢
              refine lv_pop hx hb dX9_write_97 rfl ?_
              refine lv_aload_n hx hb dX9_write_98 rfl (lv_at hl 1 rfl) ?_
              refine va_get (D := D) (ci := 10) (v := .ref o0) (C := RX9) (T := TX9) (N := 9) hx hb hts inX9 hown hK hP 7 rfl rfl 8 (by decide) (hts (.fieldLink RX9 52 "EscrowDesk" "output" "Ljava/lang/StringBuilder;") (by decide +kernel)) (fun _ h9 => h9) rfl dX9_write_99 ?_
              refine lv_aload_n hx hb dX9_write_102 rfl (lv_at hl 1 rfl) ?_
              refine va_get (D := D) (ci := 10) (v := .ref p0) (C := RX9) (T := TX9) (N := 9) hx hb hts inX9 hown hK hP 7 rfl rfl 2 (by decide) (hts (.fieldLink RX9 16 "EscrowDesk" "plan" "LEscrowDesk$Plan;") (by decide +kernel)) (fun _ h9 => h9) rfl dX9_write_103 ?_
              refine va_getN (D := D) (ci := 7) (v := .ref p3) (C := RX3) (T := TX3) (N := 17) hx hb hts inX3 hown hK hP 8 rfl rfl 7 (by decide) (hC.f (A := _) (a := RX9) (i := 165) (b := "EscrowDesk$Plan") (n := "amounts") (d := "[I") (x := "EscrowDesk") (by decide +kernel)) (fun _ h9 => h9) rfl dX9_write_106 ?_
              refine lv_iload_n hx hb dX9_write_109 rfl (lv_at hl 2 rfl) ?_
              refine va_iald hx hb hK hP 6 0 rfl rfl (vp_in_nI (n := qn1) (N := 10) (show qn1 < 10 by omega) (by decide)) dX9_write_110 ?_
              refine lv_topi (fun yn258 eyn258 => ?_)
              obtain ⟨hPc, hDc, hFc⟩ := PDq.cut (wc := [(oJ4 o0 qn252 0 zn8 (nI (qn247 + 1))), (qn252, .inl (cA 3, qn253, .inl fn254))]) hP hD hS hA [9, 10] (by decide) rfl
              refine va_callr (va_runV (As := [.int yn258]) (rest := []) ⟨hx, hb, hml, hown, hts⟩ (j_appendI l D cA sa o0 qn252 (qn247 + 1) qn253 zn8 fn254 yn258 H.size (by omega) hn256 hn257 (by omega)) (cwV 1 hts gX9_write_J4_append_bf812 rfl rfl rfl (by decide +kernel) ⟨(Nat.le_of_ble_eq_true rfl), (Nat.le_of_ble_eq_true rfl)⟩) ⟨Wd2.blind, va_recv hK hPc (ci := 1) (q0 := 0) rfl rfl, fun U hU hW => ⟨rfl, Wd2.call (Wd.call hPc hDc hK hC hZ hS hFc U hU hW) hG hS hFc hU hW⟩⟩ rfl rfl hl.1 rfl (lv_room (Nat.le_of_ble_eq_true rfl)) dX9_write_111 ⟨(Nat.le_of_ble_eq_true rfl), (Nat.le_of_ble_eq_true rfl)⟩) hS (fun q _ h => hFc q h) hFc (fun u ra t H1 locs ht hvm hw hB hz1 hk1 hS => ?_)
              obtain ⟨hra, qn259, qn260, fn261, qn262, hn263, hn264, hn265, hn266, hP1, hD1⟩ := hB
              obtain rfl := hra.symm
              rw [ht] at hP1
              obtain ⟨hP, hD⟩ := PDq.join (w := [(oX0 a0 p0 a1 a3 a4 a5 a6 i6 i7 i8 i9 i10 i11 i12 i13 i14 i15 i16 i17 i18 i19), (a3, .inl (cA 0, 10, .inl fs)), (a4, .inl (cA 0, 10, .inl fp)), (a5, .inl (cA 0, 10, .inl ff)), (a6, .inl (cA 0, 10, .inl fd)), (p2, .inl (cA 1, 10, .inr (.inl fna))), (p3, .inl (cA 0, 10, .inl fam)), (oX9 h0 b0 (nI nb) p0 u0 r0 a0 t0 s0 o0), (oX3 p0 pr pb pe pg p1 (nI nd) p2 p3 p4 p5 (nI cn) p6 (nI pq) p7 p8 p9 (nI sc)), (oJ4 o0 qn259 0 zn8 (nI qn262)), (qn259, .inl (cA 3, qn260, .inl fn261))]) 9 hP hD [9, 10] [0, 1, 2, 3, 4, 5, 6, 7, 8] rfl rfl (by decide +kernel) (by decide +kernel) hk1 hFc hP1 hD1 rfl
              generalize H1 = H at hP hS ⊢
              refine lv_pop hx hb dX9_write_114 rfl ?_
              refine lv_iload_n hx hb dX9_write_115 rfl (lv_at hl 0 rfl) ?_
              refine lv_iconst (v := 1) hx hb dX9_write_116 (by decide) ?_
              refine lv_icmp_ne (tgt := 148) hx hb dX9_write_117 (by decide) (fun c267 => ?_) (fun c9 => absurd c9 (by decide))
              refine lv_iload_n hx hb dX9_write_148 rfl (lv_at hl 0 rfl) ?_
              refine lv_iconst (v := 2) hx hb dX9_write_149 (by decide) ?_
              refine lv_icmp_ne (tgt := 181) hx hb dX9_write_150 (by decide) (fun c268 => ?_) (fun c9 => absurd c9 (by decide))
              refine lv_aload_n hx hb dX9_write_181 rfl (lv_at hl 1 rfl) ?_
              refine va_get (D := D) (ci := 10) (v := .ref o0) (C := RX9) (T := TX9) (N := 9) hx hb hts inX9 hown hK hP 7 rfl rfl 8 (by decide) (hts (.fieldLink RX9 52 "EscrowDesk" "output" "Ljava/lang/StringBuilder;") (by decide +kernel)) (fun _ h9 => h9) rfl dX9_write_182 ?_
              obtain ⟨hPc, hDc, hFc⟩ := PDq.cut (wc := [(oJ4 o0 qn259 0 zn8 (nI qn262))]) hP hD hS hA [9] (by decide) rfl
              refine va_calli (va_runV (As := []) (rest := []) ⟨hx, hb, hml, hown, hts⟩ (j_length l D cA sa o0 qn259 qn262 zn8 H.size) (cwV 0 hts gX9_write_J4_length_8abf5 rfl rfl rfl (by decide +kernel) ⟨(Nat.le_of_ble_eq_true rfl), (Nat.le_of_ble_eq_true rfl)⟩) ⟨Wd.blind, va_recv hK hPc (ci := 1) (q0 := 0) rfl rfl, fun U hU hW => ⟨rfl, Wd.call hPc hDc hK hC hZ hS hFc U hU hW⟩⟩ rfl rfl hl.1 rfl (lv_room (Nat.le_of_ble_eq_true rfl)) dX9_write_185 ⟨(Nat.le_of_ble_eq_true rfl), (Nat.le_of_ble_eq_true rfl)⟩) hS (fun q _ h => hFc q h) hFc (fun rn269 u t H1 locs ht hvm hw hB hz1 hk1 hS => ?_)
              obtain ⟨hP1, hD1⟩ := hB
              rw [ht] at hP1
              obtain ⟨hP, hD⟩ := PDq.join (w := [(oX0 a0 p0 a1 a3 a4 a5 a6 i6 i7 i8 i9 i10 i11 i12 i13 i14 i15 i16 i17 i18 i19), (a3, .inl (cA 0, 10, .inl fs)), (a4, .inl (cA 0, 10, .inl fp)), (a5, .inl (cA 0, 10, .inl ff)), (a6, .inl (cA 0, 10, .inl fd)), (p2, .inl (cA 1, 10, .inr (.inl fna))), (p3, .inl (cA 0, 10, .inl fam)), (oX9 h0 b0 (nI nb) p0 u0 r0 a0 t0 s0 o0), (oX3 p0 pr pb pe pg p1 (nI nd) p2 p3 p4 p5 (nI cn) p6 (nI pq) p7 p8 p9 (nI sc)), (qn259, .inl (cA 3, qn260, .inl fn261)), (oJ4 o0 qn259 0 zn8 (nI qn262))]) 10 hP hD [9] [0, 1, 2, 3, 4, 5, 6, 7, 8, 10] rfl rfl (by decide +kernel) (by decide +kernel) hk1 hFc hP1 hD1 rfl
              generalize H1 = H at hP hS ⊢
              obtain rfl : rn269 = (nI qn262) := hw
              obtain ⟨hP9, hD9⟩ := PDq.sub (ws' := [(oX9 h0 b0 (nI nb) p0 u0 r0 a0 t0 s0 o0), (oX0 a0 p0 a1 a3 a4 a5 a6 i6 i7 i8 i9 i10 i11 i12 i13 i14 i15 i16 i17 i18 i19), (a3, .inl (cA 0, 10, .inl fs)), (a4, .inl (cA 0, 10, .inl fp)), (a5, .inl (cA 0, 10, .inl ff)), (a6, .inl (cA 0, 10, .inl fd)), (oX3 p0 pr pb pe pg p1 (nI nd) p2 p3 p4 p5 (nI cn) p6 (nI pq) p7 p8 p9 (nI sc)), (p2, .inl (cA 1, 10, .inr (.inl fna))), (p3, .inl (cA 0, 10, .inl fam)), (oJ4 o0 qn259 0 zn8 (nI qn262)), (qn259, .inl (cA 3, qn260, .inl fn261))]) hP hD [7, 0, 1, 2, 3, 4, 8, 5, 6, 10, 9] (by decide +kernel) rfl
              refine W.widen (k := 19) (n := 4686) (Nat.le_of_ble_eq_true rfl) (Nat.le_of_ble_eq_true rfl) ?_
              exact vx_ret (W.iret (v := (nI qn262)) hx hb hr (fun t ht hW => ⟨⟨(nI qn262), (), rfl, trivial, qn259, qn260, fn261, qn262, zn8, hn264, (by omega), hn265, hn266, by rw [ht]; exact hP9, hD9⟩, hS.F ht⟩) hS.2.2 dX9_write_188)
            · skip
              obtain ⟨hPc, hDc, hFc⟩ := PDq.cut (wc := []) hP hD hS hA [] (by decide) rfl
              refine va_callr (va_runS (As := [.int yn4]) (rest := [.ref o0]) ⟨hx, hb, hml, hown, hts⟩ (s_spellX l D cA sa yn4 H.size hn26 hn68 hn127 hn186 hn228) (va_cwS 1 hts gX9_write_X6_spelling rfl rfl rfl (by decide +kernel) ⟨(Nat.le_of_ble_eq_true rfl), (Nat.le_of_ble_eq_true rfl)⟩) ⟨Wd.blind, fun U hU hW => ⟨rfl, Wd.call hPc hDc hK hC hZ hS hFc U hU hW⟩⟩ rfl rfl hl.1 rfl (lv_room (Nat.le_of_ble_eq_true rfl)) dX9_write_54 ⟨(Nat.le_of_ble_eq_true rfl), (Nat.le_of_ble_eq_true rfl)⟩) hS (fun q _ h => hFc q h) hFc (fun u ra t H1 locs ht hvm hw hB hz1 hk1 hS => ?_)
              obtain ⟨hra, hP1, hD1⟩ := hB
              obtain rfl := hra.symm
              rw [ht] at hP1
              obtain ⟨hP, hD⟩ := PDq.join (w := [(oX0 a0 p0 a1 a3 a4 a5 a6 i6 i7 i8 i9 i10 i11 i12 i13 i14 i15 i16 i17 i18 i19), (a3, .inl (cA 0, 10, .inl fs)), (a4, .inl (cA 0, 10, .inl fp)), (a5, .inl (cA 0, 10, .inl ff)), (a6, .inl (cA 0, 10, .inl fd)), (p2, .inl (cA 1, 10, .inr (.inl fna))), (p3, .inl (cA 0, 10, .inl fam)), (oX9 h0 b0 (nI nb) p0 u0 r0 a0 t0 s0 o0), (oX3 p0 pr pb pe pg p1 (nI nd) p2 p3 p4 p5 (nI cn) p6 (nI pq) p7 p8 p9 (nI sc)), (oJ4 o0 qn20 0 zn8 (nI (qn15 + 1))), (qn20, .inl (cA 3, qn21, .inl fn22))]) 11 hP hD [] [0, 1, 2, 3, 4, 5, 6, 7, 8, 9, 10] rfl rfl (by decide +kernel) (by decide +kernel) hk1 hFc hP1 hD1 rfl
              generalize H1 = H at hP hS ⊢
              obtain ⟨hPc, hDc, hFc⟩ := PDq.cut (wc := [(oJ4 o0 qn20 0 zn8 (nI (qn15 + 1))), (qn20, .inl (cA 3, qn21, .inl fn22))]) hP hD hS hA [9, 10] (by decide) rfl
              refine va_callr (va_runV (As := [.ref (sa 38)]) (rest := []) ⟨hx, hb, hml, hown, hts⟩ (j_appendS l D cA sa o0 qn20 (qn15 + 1) qn21 zn8 fn22 38 ([99, 97, 110, 99, 101, 108, 108, 101, 100]) 9 H.size (by decide +kernel) (by omega) hn24 hn25 rfl (by omega)) (cwV 1 hts gX9_write_J4_append_15ec4 rfl rfl rfl (by decide +kernel) ⟨(Nat.le_of_ble_eq_true rfl), (Nat.le_of_ble_eq_true rfl)⟩) ⟨Wd.blind, va_recv hK hPc (ci := 1) (q0 := 0) rfl rfl, fun U hU hW => ⟨rfl, Wd.call hPc hDc hK hC hZ hS hFc U hU hW⟩⟩ rfl rfl hl.1 rfl (lv_room (Nat.le_of_ble_eq_true rfl)) dX9_write_57 ⟨(Nat.le_of_ble_eq_true rfl), (Nat.le_of_ble_eq_true rfl)⟩) hS (fun q _ h => hFc q h) hFc (fun u ra t H1 locs ht hvm hw hB hz1 hk1 hS => ?_)
              obtain ⟨hra, qn270, qn271, fn272, qn273, hn274, hn275, hn276, hn277, hP1, hD1⟩ := hB
              obtain rfl := hra.symm
              rw [ht] at hP1
              obtain ⟨hP, hD⟩ := PDq.join (w := [(oX0 a0 p0 a1 a3 a4 a5 a6 i6 i7 i8 i9 i10 i11 i12 i13 i14 i15 i16 i17 i18 i19), (a3, .inl (cA 0, 10, .inl fs)), (a4, .inl (cA 0, 10, .inl fp)), (a5, .inl (cA 0, 10, .inl ff)), (a6, .inl (cA 0, 10, .inl fd)), (p2, .inl (cA 1, 10, .inr (.inl fna))), (p3, .inl (cA 0, 10, .inl fam)), (oX9 h0 b0 (nI nb) p0 u0 r0 a0 t0 s0 o0), (oX3 p0 pr pb pe pg p1 (nI nd) p2 p3 p4 p5 (nI cn) p6 (nI pq) p7 p8 p9 (nI sc)), (oJ4 o0 qn270 0 zn8 (nI qn273)), (qn270, .inl (cA 3, qn271, .inl fn272))]) 9 hP hD [9, 10] [0, 1, 2, 3, 4, 5, 6, 7, 8] rfl rfl (by decide +kernel) (by decide +kernel) hk1 hFc hP1 hD1 rfl
              generalize H1 = H at hP hS ⊢
              refine lv_pop hx hb dX9_write_60 rfl ?_
              refine lv_aload_n hx hb dX9_write_61 rfl (lv_at hl 1 rfl) ?_
              refine va_get (D := D) (ci := 10) (v := .ref o0) (C := RX9) (T := TX9) (N := 9) hx hb hts inX9 hown hK hP 7 rfl rfl 8 (by decide) (hts (.fieldLink RX9 52 "EscrowDesk" "output" "Ljava/lang/StringBuilder;") (by decide +kernel)) (fun _ h9 => h9) rfl dX9_write_62 ?_
              refine lv_bipush (v := 32) hx hb dX9_write_65 (by decide) ?_
              obtain ⟨hPc, hDc, hFc⟩ := PDq.cut (wc := [(oJ4 o0 qn270 0 zn8 (nI qn273)), (qn270, .inl (cA 3, qn271, .inl fn272))]) hP hD hS hA [9, 10] (by decide) rfl
              refine va_callr (va_runV (As := [.int 32]) (rest := []) ⟨hx, hb, hml, hown, hts⟩ (j_appendC l D cA sa o0 qn270 qn273 qn271 zn8 fn272 32 H.size hn275 hn276 hn277 (by omega) (by omega)) (cwV 1 hts gX9_write_J4_append_cf468 rfl rfl rfl (by decide +kernel) ⟨(Nat.le_of_ble_eq_true rfl), (Nat.le_of_ble_eq_true rfl)⟩) ⟨Wd.blind, va_recv hK hPc (ci := 1) (q0 := 0) rfl rfl, fun U hU hW => ⟨rfl, Wd.call hPc hDc hK hC hZ hS hFc U hU hW⟩⟩ rfl rfl hl.1 rfl (lv_room (Nat.le_of_ble_eq_true rfl)) dX9_write_67 ⟨(Nat.le_of_ble_eq_true rfl), (Nat.le_of_ble_eq_true rfl)⟩) hS (fun q _ h => hFc q h) hFc (fun u ra t H1 locs ht hvm hw hB hz1 hk1 hS => ?_)
              obtain ⟨hra, qn278, qn279, fn280, hn281, hn282, hn283, hP1, hD1⟩ := hB
              obtain rfl := hra.symm
              rw [ht] at hP1
              obtain ⟨hP, hD⟩ := PDq.join (w := [(oX0 a0 p0 a1 a3 a4 a5 a6 i6 i7 i8 i9 i10 i11 i12 i13 i14 i15 i16 i17 i18 i19), (a3, .inl (cA 0, 10, .inl fs)), (a4, .inl (cA 0, 10, .inl fp)), (a5, .inl (cA 0, 10, .inl ff)), (a6, .inl (cA 0, 10, .inl fd)), (p2, .inl (cA 1, 10, .inr (.inl fna))), (p3, .inl (cA 0, 10, .inl fam)), (oX9 h0 b0 (nI nb) p0 u0 r0 a0 t0 s0 o0), (oX3 p0 pr pb pe pg p1 (nI nd) p2 p3 p4 p5 (nI cn) p6 (nI pq) p7 p8 p9 (nI sc)), (oJ4 o0 qn278 0 zn8 (nI (qn273 + 1))), (qn278, .inl (cA 3, qn279, .inl fn280))]) 9 hP hD [9, 10] [0, 1, 2, 3, 4, 5, 6, 7, 8] rfl rfl (by decide +kernel) (by decide +kernel) hk1 hFc hP1 hD1 rfl
              generalize H1 = H at hP hS ⊢
              refine lv_pop hx hb dX9_write_70 rfl ?_
              refine lv_aload_n hx hb dX9_write_71 rfl (lv_at hl 1 rfl) ?_
              refine va_get (D := D) (ci := 10) (v := .ref o0) (C := RX9) (T := TX9) (N := 9) hx hb hts inX9 hown hK hP 7 rfl rfl 8 (by decide) (hts (.fieldLink RX9 52 "EscrowDesk" "output" "Ljava/lang/StringBuilder;") (by decide +kernel)) (fun _ h9 => h9) rfl dX9_write_72 ?_
              refine lv_aload_n hx hb dX9_write_75 rfl (lv_at hl 1 rfl) ?_
              refine va_get (D := D) (ci := 10) (v := .ref a0) (C := RX9) (T := TX9) (N := 9) hx hb hts inX9 hown hK hP 7 rfl rfl 5 (by decide) (hts (.fieldLink RX9 35 "EscrowDesk" "account" "LEscrowDesk$Account;") (by decide +kernel)) (fun _ h9 => h9) rfl dX9_write_76 ?_
              refine va_getN (D := D) (ci := 4) (v := .ref a4) (C := RX0) (T := TX0) (N := 20) hx hb hts inX0 hown hK hP 0 rfl rfl 3 (by decide) (hC.f (A := _) (a := RX9) (i := 126) (b := "EscrowDesk$Account") (n := "paid") (d := "[I") (x := "EscrowDesk") (by decide +kernel)) (fun _ h9 => h9) rfl dX9_write_79 ?_
              refine lv_iload_n hx hb dX9_write_82 rfl (lv_at hl 2 rfl) ?_
              refine va_iald hx hb hK hP 2 0 rfl rfl (vp_in_nI (n := qn1) (N := 10) (show qn1 < 10 by omega) (by decide)) dX9_write_83 ?_
              refine lv_topi (fun yn284 eyn284 => ?_)
              obtain ⟨hPc, hDc, hFc⟩ := PDq.cut (wc := [(oJ4 o0 qn278 0 zn8 (nI (qn273 + 1))), (qn278, .inl (cA 3, qn279, .inl fn280))]) hP hD hS hA [9, 10] (by decide) rfl
              refine va_callr (va_runV (As := [.int yn284]) (rest := []) ⟨hx, hb, hml, hown, hts⟩ (j_appendI l D cA sa o0 qn278 (qn273 + 1) qn279 zn8 fn280 yn284 H.size (by omega) hn282 hn283 (by omega)) (cwV 1 hts gX9_write_J4_append_bf812 rfl rfl rfl (by decide +kernel) ⟨(Nat.le_of_ble_eq_true rfl), (Nat.le_of_ble_eq_true rfl)⟩) ⟨Wd2.blind, va_recv hK hPc (ci := 1) (q0 := 0) rfl rfl, fun U hU hW => ⟨rfl, Wd2.call (Wd.call hPc hDc hK hC hZ hS hFc U hU hW) hG hS hFc hU hW⟩⟩ rfl rfl hl.1 rfl (lv_room (Nat.le_of_ble_eq_true rfl)) dX9_write_84 ⟨(Nat.le_of_ble_eq_true rfl), (Nat.le_of_ble_eq_true rfl)⟩) hS (fun q _ h => hFc q h) hFc (fun u ra t H1 locs ht hvm hw hB hz1 hk1 hS => ?_)
              obtain ⟨hra, qn285, qn286, fn287, qn288, hn289, hn290, hn291, hn292, hP1, hD1⟩ := hB
              obtain rfl := hra.symm
              rw [ht] at hP1
              obtain ⟨hP, hD⟩ := PDq.join (w := [(oX0 a0 p0 a1 a3 a4 a5 a6 i6 i7 i8 i9 i10 i11 i12 i13 i14 i15 i16 i17 i18 i19), (a3, .inl (cA 0, 10, .inl fs)), (a4, .inl (cA 0, 10, .inl fp)), (a5, .inl (cA 0, 10, .inl ff)), (a6, .inl (cA 0, 10, .inl fd)), (p2, .inl (cA 1, 10, .inr (.inl fna))), (p3, .inl (cA 0, 10, .inl fam)), (oX9 h0 b0 (nI nb) p0 u0 r0 a0 t0 s0 o0), (oX3 p0 pr pb pe pg p1 (nI nd) p2 p3 p4 p5 (nI cn) p6 (nI pq) p7 p8 p9 (nI sc)), (oJ4 o0 qn285 0 zn8 (nI qn288)), (qn285, .inl (cA 3, qn286, .inl fn287))]) 9 hP hD [9, 10] [0, 1, 2, 3, 4, 5, 6, 7, 8] rfl rfl (by decide +kernel) (by decide +kernel) hk1 hFc hP1 hD1 rfl
              generalize H1 = H at hP hS ⊢
              refine lv_pop hx hb dX9_write_87 rfl ?_
              refine lv_aload_n hx hb dX9_write_88 rfl (lv_at hl 1 rfl) ?_
              refine va_get (D := D) (ci := 10) (v := .ref o0) (C := RX9) (T := TX9) (N := 9) hx hb hts inX9 hown hK hP 7 rfl rfl 8 (by decide) (hts (.fieldLink RX9 52 "EscrowDesk" "output" "Ljava/lang/StringBuilder;") (by decide +kernel)) (fun _ h9 => h9) rfl dX9_write_89 ?_
              refine lv_bipush (v := 47) hx hb dX9_write_92 (by decide) ?_
              obtain ⟨hPc, hDc, hFc⟩ := PDq.cut (wc := [(oJ4 o0 qn285 0 zn8 (nI qn288)), (qn285, .inl (cA 3, qn286, .inl fn287))]) hP hD hS hA [9, 10] (by decide) rfl
              refine va_callr (va_runV (As := [.int 47]) (rest := []) ⟨hx, hb, hml, hown, hts⟩ (j_appendC l D cA sa o0 qn285 qn288 qn286 zn8 fn287 47 H.size hn290 hn291 hn292 (by omega) (by omega)) (cwV 1 hts gX9_write_J4_append_cf468 rfl rfl rfl (by decide +kernel) ⟨(Nat.le_of_ble_eq_true rfl), (Nat.le_of_ble_eq_true rfl)⟩) ⟨Wd.blind, va_recv hK hPc (ci := 1) (q0 := 0) rfl rfl, fun U hU hW => ⟨rfl, Wd.call hPc hDc hK hC hZ hS hFc U hU hW⟩⟩ rfl rfl hl.1 rfl (lv_room (Nat.le_of_ble_eq_true rfl)) dX9_write_94 ⟨(Nat.le_of_ble_eq_true rfl), (Nat.le_of_ble_eq_true rfl)⟩) hS (fun q _ h => hFc q h) hFc (fun u ra t H1 locs ht hvm hw hB hz1 hk1 hS => ?_)
              obtain ⟨hra, qn293, qn294, fn295, hn296, hn297, hn298, hP1, hD1⟩ := hB
              obtain rfl := hra.symm
              rw [ht] at hP1
              obtain ⟨hP, hD⟩ := PDq.join (w := [(oX0 a0 p0 a1 a3 a4 a5 a6 i6 i7 i8 i9 i10 i11 i12 i13 i14 i15 i16 i17 i18 i19), (a3, .inl (cA 0, 10, .inl fs)), (a4, .inl (cA 0, 10, .inl fp)), (a5, .inl (cA 0, 10, .inl ff)), (a6, .inl (cA 0, 10, .inl fd)), (p2, .inl (cA 1, 10, .inr (.inl fna))), (p3, .inl (cA 0, 10, .inl fam)), (oX9 h0 b0 (nI nb) p0 u0 r0 a0 t0 s0 o0), (oX3 p0 pr pb pe pg p1 (nI nd) p2 p3 p4 p5 (nI cn) p6 (nI pq) p7 p8 p9 (nI sc)), (oJ4 o0 qn293 0 zn8 (nI (qn288 + 1))), (qn293, .inl (cA 3, qn294, .inl fn295))]) 9 hP hD [9, 10] [0, 1, 2, 3, 4, 5, 6, 7, 8] rfl rfl (by decide +kernel) (by decide +kernel) hk1 hFc hP1 hD1 rfl
              generalize H1 = H at hP hS ⊢
              refine lv_pop hx hb dX9_write_97 rfl ?_
              refine lv_aload_n hx hb dX9_write_98 rfl (lv_at hl 1 rfl) ?_
              refine va_get (D := D) (ci := 10) (v := .ref o0) (C := RX9) (T := TX9) (N := 9) hx hb hts inX9 hown hK hP 7 rfl rfl 8 (by decide) (hts (.fieldLink RX9 52 "EscrowDesk" "output" "Ljava/lang/StringBuilder;") (by decide +kernel)) (fun _ h9 => h9) rfl dX9_write_99 ?_
              refine lv_aload_n hx hb dX9_write_102 rfl (lv_at hl 1 rfl) ?_
              refine va_get (D := D) (ci := 10) (v := .ref p0) (C := RX9) (T := TX9) (N := 9) hx hb hts inX9 hown hK hP 7 rfl rfl 2 (by decide) (hts (.fieldLink RX9 16 "EscrowDesk" "plan" "LEscrowDesk$Plan;") (by decide +kernel)) (fun _ h9 => h9) rfl dX9_write_103 ?_
              refine va_getN (D := D) (ci := 7) (v := .ref p3) (C := RX3) (T := TX3) (N := 17) hx hb hts inX3 hown hK hP 8 rfl rfl 7 (by decide) (hC.f (A := _) (a := RX9) (i := 165) (b := "EscrowDesk$Plan") (n := "amounts") (d := "[I") (x := "EscrowDesk") (by decide +kernel)) (fun _ h9 => h9) rfl dX9_write_106 ?_
              refine lv_iload_n hx hb dX9_write_109 rfl (lv_at hl 2 rfl) ?_
              refine va_iald hx hb hK hP 6 0 rfl rfl (vp_in_nI (n := qn1) (N := 10) (show qn1 < 10 by omega) (by decide)) dX9_write_110 ?_
              refine lv_topi (fun yn299 eyn299 => ?_)
              obtain ⟨hPc, hDc, hFc⟩ := PDq.cut (wc := [(oJ4 o0 qn293 0 zn8 (nI (qn288 + 1))), (qn293, .inl (cA 3, qn294, .inl fn295))]) hP hD hS hA [9, 10] (by decide) rfl
              refine va_callr (va_runV (As := [.int yn299]) (rest := []) ⟨hx, hb, hml, hown, hts⟩ (j_appendI l D cA sa o0 qn293 (qn288 + 1) qn294 zn8 fn295 yn299 H.size (by omega) hn297 hn298 (by omega)) (cwV 1 hts gX9_write_J4_append_bf812 rfl rfl rfl (by decide +kernel) ⟨(Nat.le_of_ble_eq_true rfl), (Nat.le_of_ble_eq_true rfl)⟩) ⟨Wd2.blind, va_recv hK hPc (ci := 1) (q0 := 0) rfl rfl, fun U hU hW => ⟨rfl, Wd2.call (Wd.call hPc hDc hK hC hZ hS hFc U hU hW) hG hS hFc hU hW⟩⟩ rfl rfl hl.1 rfl (lv_room (Nat.le_of_ble_eq_true rfl)) dX9_write_111 ⟨(Nat.le_of_ble_eq_true rfl), (Nat.le_of_ble_eq_true rfl)⟩) hS (fun q _ h => hFc q h) hFc (fun u ra t H1 locs ht hvm hw hB hz1 hk1 hS => ?_)
              obtain ⟨hra, qn300, qn301, fn302, qn303, hn304, hn305, hn306, hn307, hP1, hD1⟩ := hB
              obtain rfl := hra.symm
              rw [ht] at hP1
              obtain ⟨hP, hD⟩ := PDq.join (w := [(oX0 a0 p0 a1 a3 a4 a5 a6 i6 i7 i8 i9 i10 i11 i12 i13 i14 i15 i16 i17 i18 i19), (a3, .inl (cA 0, 10, .inl fs)), (a4, .inl (cA 0, 10, .inl fp)), (a5, .inl (cA 0, 10, .inl ff)), (a6, .inl (cA 0, 10, .inl fd)), (p2, .inl (cA 1, 10, .inr (.inl fna))), (p3, .inl (cA 0, 10, .inl fam)), (oX9 h0 b0 (nI nb) p0 u0 r0 a0 t0 s0 o0), (oX3 p0 pr pb pe pg p1 (nI nd) p2 p3 p4 p5 (nI cn) p6 (nI pq) p7 p8 p9 (nI sc)), (oJ4 o0 qn300 0 zn8 (nI qn303)), (qn300, .inl (cA 3, qn301, .inl fn302))]) 9 hP hD [9, 10] [0, 1, 2, 3, 4, 5, 6, 7, 8] rfl rfl (by decide +kernel) (by decide +kernel) hk1 hFc hP1 hD1 rfl
              generalize H1 = H at hP hS ⊢
              refine lv_pop hx hb dX9_write_114 rfl ?_
              refine lv_iload_n hx hb dX9_write_115 rfl (lv_at hl 0 rfl) ?_
              refine lv_iconst (v := 1) hx hb dX9_write_116 (by decide) ?_
              refine lv_icmp_ne (tgt := 148) hx hb dX9_write_117 (by decide) (fun c308 => ?_) (fun c9 => absurd c9 hn68)
              refine lv_iload_n hx hb dX9_write_148 rfl (lv_at hl 0 rfl) ?_
              refine lv_iconst (v := 2) hx hb dX9_write_149 (by decide) ?_
              refine lv_icmp_ne (tgt := 181) hx hb dX9_write_150 (by decide) (fun c309 => ?_) (fun c9 => absurd c9 hn127)
              refine lv_aload_n hx hb dX9_write_181 rfl (lv_at hl 1 rfl) ?_
              refine va_get (D := D) (ci := 10) (v := .ref o0) (C := RX9) (T := TX9) (N := 9) hx hb hts inX9 hown hK hP 7 rfl rfl 8 (by decide) (hts (.fieldLink RX9 52 "EscrowDesk" "output" "Ljava/lang/StringBuilder;") (by decide +kernel)) (fun _ h9 => h9) rfl dX9_write_182 ?_
              obtain ⟨hPc, hDc, hFc⟩ := PDq.cut (wc := [(oJ4 o0 qn300 0 zn8 (nI qn303))]) hP hD hS hA [9] (by decide) rfl
              refine va_calli (va_runV (As := []) (rest := []) ⟨hx, hb, hml, hown, hts⟩ (j_length l D cA sa o0 qn300 qn303 zn8 H.size) (cwV 0 hts gX9_write_J4_length_8abf5 rfl rfl rfl (by decide +kernel) ⟨(Nat.le_of_ble_eq_true rfl), (Nat.le_of_ble_eq_true rfl)⟩) ⟨Wd.blind, va_recv hK hPc (ci := 1) (q0 := 0) rfl rfl, fun U hU hW => ⟨rfl, Wd.call hPc hDc hK hC hZ hS hFc U hU hW⟩⟩ rfl rfl hl.1 rfl (lv_room (Nat.le_of_ble_eq_true rfl)) dX9_write_185 ⟨(Nat.le_of_ble_eq_true rfl), (Nat.le_of_ble_eq_true rfl)⟩) hS (fun q _ h => hFc q h) hFc (fun rn310 u t H1 locs ht hvm hw hB hz1 hk1 hS => ?_)
              obtain ⟨hP1, hD1⟩ := hB
              rw [ht] at hP1
              obtain ⟨hP, hD⟩ := PDq.join (w := [(oX0 a0 p0 a1 a3 a4 a5 a6 i6 i7 i8 i9 i10 i11 i12 i13 i14 i15 i16 i17 i18 i19), (a3, .inl (cA 0, 10, .inl fs)), (a4, .inl (cA 0, 10, .inl fp)), (a5, .inl (cA 0, 10, .inl ff)), (a6, .inl (cA 0, 10, .inl fd)), (p2, .inl (cA 1, 10, .inr (.inl fna))), (p3, .inl (cA 0, 10, .inl fam)), (oX9 h0 b0 (nI nb) p0 u0 r0 a0 t0 s0 o0), (oX3 p0 pr pb pe pg p1 (nI nd) p2 p3 p4 p5 (nI cn) p6 (nI pq) p7 p8 p9 (nI sc)), (qn300, .inl (cA 3, qn301, .inl fn302)), (oJ4 o0 qn300 0 zn8 (nI qn303))]) 10 hP hD [9] [0, 1, 2, 3, 4, 5, 6, 7, 8, 10] rfl rfl (by decide +kernel) (by decide +kernel) hk1 hFc hP1 hD1 rfl
              generalize H1 = H at hP hS ⊢
              obtain rfl : rn310 = (nI qn303) := hw
              obtain ⟨hP9, hD9⟩ := PDq.sub (ws' := [(oX9 h0 b0 (nI nb) p0 u0 r0 a0 t0 s0 o0), (oX0 a0 p0 a1 a3 a4 a5 a6 i6 i7 i8 i9 i10 i11 i12 i13 i14 i15 i16 i17 i18 i19), (a3, .inl (cA 0, 10, .inl fs)), (a4, .inl (cA 0, 10, .inl fp)), (a5, .inl (cA 0, 10, .inl ff)), (a6, .inl (cA 0, 10, .inl fd)), (oX3 p0 pr pb pe pg p1 (nI nd) p2 p3 p4 p5 (nI cn) p6 (nI pq) p7 p8 p9 (nI sc)), (p2, .inl (cA 1, 10, .inr (.inl fna))), (p3, .inl (cA 0, 10, .inl fam)), (oJ4 o0 qn300 0 zn8 (nI qn303)), (qn300, .inl (cA 3, qn301, .inl fn302))]) hP hD [7, 0, 1, 2, 3, 4, 8, 5, 6, 10, 9] (by decide +kernel) rfl
              refine W.widen (k := 19) (n := 4686) (Nat.le_of_ble_eq_true rfl) (Nat.le_of_ble_eq_true rfl) ?_
              exact vx_ret (W.iret (v := (nI qn303)) hx hb hr (fun t ht hW => ⟨⟨(nI qn303), (), rfl, trivial, qn300, qn301, fn302, qn303, zn8, hn305, (by omega), hn306, hn307, by rw [ht]; exact hP9, hD9⟩, hS.F ht⟩) hS.2.2 dX9_write_188)

set_option maxHeartbeats 4000000 in
set_option maxRecDepth 100000 in
/-- written -/
theorem s_written (l : Launch) (D : va_G) (cA : Nat → ClassId) (sa : Nat → Nat) (h0 : Nat) (b0 : Nat) (nb : Nat) (p0 : Nat) (u0 : Nat) (r0 : Nat) (a0 : Nat) (t0 : Nat) (s0 : Nat) (o0 : Nat) (o1 : Nat) (ct : Nat) (cp : Nat) (mb : Int32) (fy : Nat → Int32) (i : Int32) (sz : Nat) (hl9 : l.stackTraces = false) (hct : ct ≤ cp) (hcp : cp ≤ 126) (hfit : sb_Fit fy) : vx_Met l yX9_written wsX9_written ({ frames := 7, cells := 1, slots := 6, locals := 111 }) (va_Pc [.ref h0, .int i] (Wd D cA sa [(oX9 h0 b0 (nI nb) p0 u0 r0 a0 t0 s0 o0), (oJ4 o0 o1 0 mb (nI ct)), (o1, .inl (cA 3, cp, .inl fy))] sz)) (va_Qi (fun (r : Int32) (_ : Unit) => NC r) (fun (_ : Unit) t => Wq D (va_A [(oX9 h0 b0 (nI nb) p0 u0 r0 a0 t0 s0 o0), (oJ4 o0 o1 0 mb (nI ct)), (o1, .inl (cA 3, cp, .inl fy))] sz) [(oX9 h0 b0 (nI nb) p0 u0 r0 a0 t0 s0 o0), (oJ4 o0 o1 0 mb (nI ct)), (o1, .inl (cA 3, cp, .inl fy))] t) (va_A [(oX9 h0 b0 (nI nb) p0 u0 r0 a0 t0 s0 o0), (oJ4 o0 o1 0 mb (nI ct)), (o1, .inl (cA 3, cp, .inl fy))] sz)) (vx_X (fun _ : Unit => True) (fun E _ t => (E = "java/lang/IndexOutOfBoundsException") ∧ Wq D (va_A [(oX9 h0 b0 (nI nb) p0 u0 r0 a0 t0 s0 o0), (oJ4 o0 o1 0 mb (nI ct)), (o1, .inl (cA 3, cp, .inl fy))] sz) [(oX9 h0 b0 (nI nb) p0 u0 r0 a0 t0 s0 o0), (oJ4 o0 o1 0 mb (nI ct)), (o1, .inl (cA 3, cp, .inl fy))] t) (va_A [(oX9 h0 b0 (nI nb) p0 u0 r0 a0 t0 s0 o0), (oJ4 o0 o1 0 mb (nI ct)), (o1, .inl (cA 3, cp, .inl fy))] sz)) 1 6 (va_A [(oX9 h0 b0 (nI nb) p0 u0 r0 a0 t0 s0 o0), (oJ4 o0 o1 0 mb (nI ct)), (o1, .inl (cA 3, cp, .inl fy))] sz) := by
  refine vx_ofW (cc := cX9_written) (maxL := 2) (ret := (some .char)) (by decide) rfl ?_
  intro p e s m args below meth c s₁ B hml hno hv
  obtain ⟨rfl, hsz, hP, hK, hD0, hC, hZ⟩ := hv
  have hx := B.exec
  have hb := B.bytes
  have hr := B.returns
  have hts := atoms_spec (ws := wsX9_written) B.pre
  have hown : s.vm.findClass RX9 = some m.cls := findClass_of_methodNamed B.named
  have hlocks := B.notSynchronized
  subst hsz
  have hD := hD0.self (sz := s.heap.size)
  generalize hAe : va_A [(oX9 h0 b0 (nI nb) p0 u0 r0 a0 t0 s0 o0), (oJ4 o0 o1 0 mb (nI ct)), (o1, .inl (cA 3, cp, .inl fy))] s.heap.size = A at hD hZ ⊢
  have hA : ∀ q : Nat, s.heap.size ≤ q → A q := fun q h => by rw [← hAe]; exact Or.inr h
  have hS : va_S A s.heap s.heap [] := va_S.rf
  have hP : va_P D vwCl [(oX9 h0 b0 (nI nb) p0 u0 r0 a0 t0 s0 o0), (oJ4 o0 o1 0 mb (nI ct)), (o1, .inl (cA 3, cp, .inl fy))] s.heap := hP
  have hl := lv_entry ([.ref h0, .int i]) (n := 2) (Nat.le_of_ble_eq_true rfl)
  rw [lg_entry_eq]
  generalize (lg_sl ([.ref h0, .int i]) ++ List.replicate (2 - (lg_sl ([.ref h0, .int i])).length) Slot.unset).toArray = ls at hl ⊢
  have hl : lv_has ls 2 [(0, .ref h0), (1, .int i)] := hl
  have inX9 : ∀ w ∈ u_ws RX9 TX9 9, w ∈ wsX9_written := by decide +kernel
  refine lv_iload_n hx hb dX9_written_0 rfl (lv_at hl 1 rfl) ?_
  refine lv_aload_n hx hb dX9_written_1 rfl (lv_at hl 0 rfl) ?_
  refine va_get (D := D) (ci := 10) (v := .ref o0) (C := RX9) (T := TX9) (N := 9) hx hb hts inX9 hown hK hP 0 rfl rfl 8 (by decide) (hts (.fieldLink RX9 52 "EscrowDesk" "output" "Ljava/lang/StringBuilder;") (by decide +kernel)) (fun _ h9 => h9) rfl dX9_written_2 ?_
  obtain ⟨hPc, hDc, hFc⟩ := PDq.cut (wc := [(oJ4 o0 o1 0 mb (nI ct))]) hP hD hS hA [1] (by decide) rfl
  refine va_calli (va_runV (As := []) (rest := [.int i]) ⟨hx, hb, hml, hown, hts⟩ (j_length l D cA sa o0 o1 ct mb s.heap.size) (cwV 0 hts gX9_written_J4_length_8abf5 rfl rfl rfl (by decide +kernel) ⟨(Nat.le_of_ble_eq_true rfl), (Nat.le_of_ble_eq_true rfl)⟩) ⟨Wd.blind, va_recv hK hPc (ci := 1) (q0 := 0) rfl rfl, fun U hU hW => ⟨rfl, Wd.call hPc hDc hK hC hZ hS hFc U hU hW⟩⟩ rfl rfl hl.1 rfl (lv_room (Nat.le_of_ble_eq_true rfl)) dX9_written_5 ⟨(Nat.le_of_ble_eq_true rfl), (Nat.le_of_ble_eq_true rfl)⟩) hS (fun q _ h => hFc q h) hFc (fun rn1 u t H1 locs ht hvm hw hB hz1 hk1 hS => ?_)
  obtain ⟨hP1, hD1⟩ := hB
  rw [ht] at hP1
  obtain ⟨hP, hD⟩ := PDq.join (w := [(oX9 h0 b0 (nI nb) p0 u0 r0 a0 t0 s0 o0), (o1, .inl (cA 3, cp, .inl fy)), (oJ4 o0 o1 0 mb (nI ct))]) 2 hP hD [1] [0, 2] rfl rfl (by decide) (by decide) hk1 hFc hP1 hD1 rfl
  generalize H1 = H at hP hS ⊢
  obtain rfl : rn1 = (nI ct) := hw
  obtain ⟨hPc, hDc, hFc⟩ := PDq.cut (wc := []) hP hD hS hA [] (by decide) rfl
  refine vx_callv (vx_runS (As := [.int i, .int (nI ct)]) (rest := []) ⟨hx, hb, hml, hown, hts⟩ (s_needIndex l D cA sa i ct H.size hl9 (by omega)) (va_cwS 2 hts gX9_written_X9_needIndex rfl rfl rfl (by decide +kernel) ⟨(Nat.le_of_ble_eq_true rfl), (Nat.le_of_ble_eq_true rfl)⟩) ⟨Wd.blind, fun U hU hW => ⟨rfl, Wd.call hPc hDc hK hC hZ hS hFc U hU hW⟩⟩ rfl rfl hl.1 rfl (lv_room (Nat.le_of_ble_eq_true rfl)) dX9_written_8 ⟨(Nat.le_of_ble_eq_true rfl), (Nat.le_of_ble_eq_true rfl)⟩) hS (fun q _ h => hFc q h) hFc (fun q _ h => hFc q h) (fun E ce q9 u t H1 locs ht hvm hpx hE hz1 hk1 hS hcell hv9 hcl => ?_) (fun u t H1 locs ht hvm hw hB hz1 hk1 hS => ?_)
  · skip
    obtain ⟨hE, hP1, hD1⟩ := hE
    rw [ht] at hP1
    obtain ⟨hP, hD⟩ := PDq.join (w := [(oX9 h0 b0 (nI nb) p0 u0 r0 a0 t0 s0 o0), (o1, .inl (cA 3, cp, .inl fy)), (oJ4 o0 o1 0 mb (nI ct))]) 3 hP hD [] [0, 1, 2] rfl rfl (by decide) (by decide) hk1 hFc hP1 hD1 rfl
    generalize H1 = H at hP hS hcell ⊢
    obtain ⟨hP9, hD9⟩ := PDq.sub (ws' := [(oX9 h0 b0 (nI nb) p0 u0 r0 a0 t0 s0 o0), (oJ4 o0 o1 0 mb (nI ct)), (o1, .inl (cA 3, cp, .inl fy))]) hP hD [0, 2, 1] (by decide) rfl
    exact vx_out (fun x h => (hno x h).elim) hlocks hcell hv9 hcl (fun t ht hvm => ⟨(), trivial, ⟨hE, by rw [ht]; exact hP9, hD9⟩, hS.F ht⟩) hS.2.2 (Nat.le_of_ble_eq_true rfl) (Nat.le_of_ble_eq_true rfl)
  · skip
    obtain ⟨qn2, hn3, hn4, hP1, hD1⟩ := hB
    rw [ht] at hP1
    obtain ⟨hP, hD⟩ := PDq.join (w := [(oX9 h0 b0 (nI nb) p0 u0 r0 a0 t0 s0 o0), (o1, .inl (cA 3, cp, .inl fy)), (oJ4 o0 o1 0 mb (nI ct))]) 3 hP hD [] [0, 1, 2] rfl rfl (by decide) (by decide) hk1 hFc hP1 hD1 rfl
    generalize H1 = H at hP hS ⊢
    rw [hn4] at hl
    have hl : lv_has ls 2 [(0, .ref h0), (1, .int (nI qn2))] := hl
    refine lv_aload_n hx hb dX9_written_11 rfl (lv_at hl 0 rfl) ?_
    refine va_get (D := D) (ci := 10) (v := .ref o0) (C := RX9) (T := TX9) (N := 9) hx hb hts inX9 hown hK hP 0 rfl rfl 8 (by decide) (hts (.fieldLink RX9 52 "EscrowDesk" "output" "Ljava/lang/StringBuilder;") (by decide +kernel)) (fun _ h9 => h9) rfl dX9_written_12 ?_
    refine lv_iload_n hx hb dX9_written_15 rfl (lv_at hl 1 rfl) ?_
    obtain ⟨hPc, hDc, hFc⟩ := PDq.cut (wc := [(oJ4 o0 o1 0 mb (nI ct)), (o1, .inl (cA 3, cp, .inl fy))]) hP hD hS hA [2, 1] (by decide) rfl
    refine va_calli (va_runV (As := [.int (nI qn2)]) (rest := []) ⟨hx, hb, hml, hown, hts⟩ (j_charAt l D cA sa o0 o1 ct cp mb fy qn2 H.size hct hcp hfit hn3) (cwV 1 hts gX9_written_J4_charAt_5068e rfl rfl rfl (by decide +kernel) ⟨(Nat.le_of_ble_eq_true rfl), (Nat.le_of_ble_eq_true rfl)⟩) ⟨Wd.blind, va_recv hK hPc (ci := 1) (q0 := 0) rfl rfl, fun U hU hW => ⟨rfl, Wd.call hPc hDc hK hC hZ hS hFc U hU hW⟩⟩ rfl rfl hl.1 rfl (lv_room (Nat.le_of_ble_eq_true rfl)) dX9_written_16 ⟨(Nat.le_of_ble_eq_true rfl), (Nat.le_of_ble_eq_true rfl)⟩) hS (fun q _ h => hFc q h) hFc (fun rn5 u t H1 locs ht hvm hw hB hz1 hk1 hS => ?_)
    obtain ⟨hP1, hD1⟩ := hB
    rw [ht] at hP1
    obtain ⟨hP, hD⟩ := PDq.join (w := [(oX9 h0 b0 (nI nb) p0 u0 r0 a0 t0 s0 o0), (oJ4 o0 o1 0 mb (nI ct)), (o1, .inl (cA 3, cp, .inl fy))]) 1 hP hD [2, 1] [0] rfl rfl (by decide) (by decide) hk1 hFc hP1 hD1 rfl
    generalize H1 = H at hP hS ⊢
    have hn6 := hw
    obtain ⟨hP9, hD9⟩ := PDq.sub (ws' := [(oX9 h0 b0 (nI nb) p0 u0 r0 a0 t0 s0 o0), (oJ4 o0 o1 0 mb (nI ct)), (o1, .inl (cA 3, cp, .inl fy))]) hP hD [0, 1, 2] (by decide) rfl
    refine W.widen (k := 1) (n := 6) (Nat.le_of_ble_eq_true rfl) (Nat.le_of_ble_eq_true rfl) ?_
    exact vx_ret (W.zret (v := rn5) hx hb hr hn6 (fun t ht hW => ⟨⟨rn5, (), rfl, hn6, by rw [ht]; exact hP9, hD9⟩, hS.F ht⟩) hS.2.2 dX9_written_19)

set_option maxHeartbeats 4000000 in
set_option maxRecDepth 100000 in
/-- reference: thrown -/
theorem y_thrown (l : Launch) (D : va_G) (cA : Nat → ClassId) (sa : Nat → Nat) (w0 : Nat) (ed : Nat) (nb : Nat) (ol : Nat) (v0 : Nat) (v1 : Nat) (v2 : Nat) (v3 : Nat) (v4 : Nat) (v9 : Nat) (v13 : Nat) (v27 : Nat) (v28 : Nat) (v29 : Nat) (v30 : Nat) (v31 : Nat) (v32 : Nat) (v33 : Nat) (v34 : Nat) (v35 : Nat) (v36 : Nat) (v37 : Nat) (g8 : Int32) (g11 : Int32) (g12 : Int32) (g14 : Int32) (g15 : Int32) (g16 : Int32) (g17 : Int32) (g18 : Int32) (g19 : Int32) (g20 : Int32) (g21 : Int32) (g22 : Int32) (g23 : Int32) (g24 : Int32) (g26 : Int32) (g5 : Int64) (g6 : Int64) (g25 : Int64) (sz : Nat) : Met l yX10_thrown wsX10_thrown ({ frames := 0, cells := 0, slots := 0, locals := 0 }) (va_Pc [.ref w0] (Wd D cA sa [(oX10 w0 v0 v1 v2 v3 v4 g5 g6 (nI ed) g8 v9 (nI nb) g11 g12 v13 g14 g15 g16 g17 g18 g19 g20 g21 g22 g23 g24 g25 g26 v27 v28 v29 v30 v31 v32 v33 v34 v35 v36 v37 (nI ol))] sz)) (va_Qi (fun (r : Int32) (_ : Unit) => r = g8) (fun (_ : Unit) t => Wq D (va_A [(oX10 w0 v0 v1 v2 v3 v4 g5 g6 (nI ed) g8 v9 (nI nb) g11 g12 v13 g14 g15 g16 g17 g18 g19 g20 g21 g22 g23 g24 g25 g26 v27 v28 v29 v30 v31 v32 v33 v34 v35 v36 v37 (nI ol))] sz) [(oX10 w0 v0 v1 v2 v3 v4 g5 g6 (nI ed) g8 v9 (nI nb) g11 g12 v13 g14 g15 g16 g17 g18 g19 g20 g21 g22 g23 g24 g25 g26 v27 v28 v29 v30 v31 v32 v33 v34 v35 v36 v37 (nI ol))] t) (va_A [(oX10 w0 v0 v1 v2 v3 v4 g5 g6 (nI ed) g8 v9 (nI nb) g11 g12 v13 g14 g15 g16 g17 g18 g19 g20 g21 g22 g23 g24 g25 g26 v27 v28 v29 v30 v31 v32 v33 v34 v35 v36 v37 (nI ol))] sz)) 0 0 (va_A [(oX10 w0 v0 v1 v2 v3 v4 g5 g6 (nI ed) g8 v9 (nI nb) g11 g12 v13 g14 g15 g16 g17 g18 g19 g20 g21 g22 g23 g24 g25 g26 v27 v28 v29 v30 v31 v32 v33 v34 v35 v36 v37 (nI ol))] sz) := by
  refine Met.ofW (cc := cX10_thrown) (maxL := 1) (ret := (some .int)) (by decide) rfl ?_
  intro p e s m args below meth c s₁ B hml hv
  obtain ⟨rfl, hsz, hP, hK, hD0, hC, hZ⟩ := hv
  have hx := B.exec
  have hb := B.bytes
  have hr := B.returns
  have hts := atoms_spec (ws := wsX10_thrown) B.pre
  have hown : s.vm.findClass RX10 = some m.cls := findClass_of_methodNamed B.named
  have hlocks := B.notSynchronized
  subst hsz
  have hD := hD0.self (sz := s.heap.size)
  generalize hAe : va_A [(oX10 w0 v0 v1 v2 v3 v4 g5 g6 (nI ed) g8 v9 (nI nb) g11 g12 v13 g14 g15 g16 g17 g18 g19 g20 g21 g22 g23 g24 g25 g26 v27 v28 v29 v30 v31 v32 v33 v34 v35 v36 v37 (nI ol))] s.heap.size = A at hD hZ ⊢
  have hA : ∀ q : Nat, s.heap.size ≤ q → A q := fun q h => by rw [← hAe]; exact Or.inr h
  have hS : va_S A s.heap s.heap [] := va_S.rf
  have hP : va_P D vwCl [(oX10 w0 v0 v1 v2 v3 v4 g5 g6 (nI ed) g8 v9 (nI nb) g11 g12 v13 g14 g15 g16 g17 g18 g19 g20 g21 g22 g23 g24 g25 g26 v27 v28 v29 v30 v31 v32 v33 v34 v35 v36 v37 (nI ol))] s.heap := hP
  have hl := lv_entry ([.ref w0]) (n := 1) (Nat.le_of_ble_eq_true rfl)
  rw [lg_entry_eq]
  generalize (lg_sl ([.ref w0]) ++ List.replicate (1 - (lg_sl ([.ref w0])).length) Slot.unset).toArray = ls at hl ⊢
  have hl : lv_has ls 1 [(0, .ref w0)] := hl
  have inX10 : ∀ w ∈ u_ws RX10 TX10 39, w ∈ wsX10_thrown := by decide +kernel
  refine lv_aload_n hx hb dX10_thrown_0 rfl (lv_at hl 0 rfl) ?_
  refine va_get (D := D) (ci := 11) (v := .int g8) (C := RX10) (T := TX10) (N := 39) hx hb hts inX10 hown hK hP 0 rfl rfl 8 (by decide) (hts (.fieldLink RX10 80 "EscrowDeskModel" "thrown" "I") (by decide +kernel)) (fun _ h9 => h9) rfl dX10_thrown_1 ?_
  obtain ⟨hP9, hD9⟩ := PDq.sub (ws' := [(oX10 w0 v0 v1 v2 v3 v4 g5 g6 (nI ed) g8 v9 (nI nb) g11 g12 v13 g14 g15 g16 g17 g18 g19 g20 g21 g22 g23 g24 g25 g26 v27 v28 v29 v30 v31 v32 v33 v34 v35 v36 v37 (nI ol))]) hP hD [0] (by decide) rfl
  refine W.widen (k := 0) (n := 0) (Nat.le_of_ble_eq_true rfl) (Nat.le_of_ble_eq_true rfl) ?_
  exact (W.iret (v := g8) hx hb hr (fun t ht hW => ⟨⟨g8, (), rfl, rfl, by rw [ht]; exact hP9, hD9⟩, hS.F ht⟩) hS.2.2 dX10_thrown_4)

set_option maxHeartbeats 4000000 in
set_option maxRecDepth 100000 in
/-- letterCount, exactly -/
theorem x_letterCount (l : Launch) (D : va_G) (cA : Nat → ClassId) (sa : Nat → Nat) (w : Int64) (x : Nat) (sz : Nat) (hwx : w = lN x) (hx9 : x < 35184372088832) : Met l yX8_letterCount wsX8_letterCount ({ frames := 0, cells := 0, slots := 0, locals := 0 }) (va_Pc [.long w] (Wd D cA sa [] sz)) (va_Qi (fun (r : Int32) (_ : Unit) => ∃ n, n < 10 ∧ r = nI n ∧ DC x n) (fun (_ : Unit) t => Wq D (va_A [] sz) [] t) (va_A [] sz)) 0 0 (va_A [] sz) := by
  refine Met.ofW (cc := cX8_letterCount) (maxL := 3) (ret := (some .int)) (by decide) rfl ?_
  intro p e s m args below meth c s₁ B hml hv
  obtain ⟨rfl, hsz, hP, hK, hD0, hC, hZ⟩ := hv
  have hx := B.exec
  have hb := B.bytes
  have hr := B.returns
  have hts := atoms_spec (ws := wsX8_letterCount) B.pre
  have hown : s.vm.findClass RX8 = some m.cls := findClass_of_methodNamed B.named
  have hlocks := B.notSynchronized
  subst hsz
  have hD := hD0.self (sz := s.heap.size)
  generalize hAe : va_A [] s.heap.size = A at hD hZ ⊢
  have hA : ∀ q : Nat, s.heap.size ≤ q → A q := fun q h => by rw [← hAe]; exact Or.inr h
  have hS : va_S A s.heap s.heap [] := va_S.rf
  have hP : va_P D vwCl [] s.heap := hP
  have hl := lv_entry ([.long w]) (n := 3) (Nat.le_of_ble_eq_true rfl)
  rw [lg_entry_eq]
  generalize (lg_sl ([.long w]) ++ List.replicate (3 - (lg_sl ([.long w])).length) Slot.unset).toArray = ls at hl ⊢
  have hl : lv_has ls 3 [(0, .long w)] := hl
  refine lv_iconst (v := 0) hx hb dX8_letterCount_0 (by decide) ?_
  refine lv_istore_n (lv' := [(2, .int 0), (0, .long w)]) hx hb dX8_letterCount_1 rfl hl (by decide) rfl (fun ls hl => ?_)
  have loop1 : ∀ (n1 i1 : Nat) (H : Heap) (locs : List Loc) (ls : Array Slot), i1 + n1 = 9 → PC i1 x → va_P D vwCl [] H → va_D A [] → va_S A s.heap H locs → lv_has ls 3 [(2, .int (nI i1)), (0, .long w)] → W p l e (headSpec wsX8_letterCount ({ frames := 0, cells := 0, slots := 0, locals := 0 } : Room)).room s m ([.long w] : List Value).toArray below meth c H locs 0 0 (MQ below (va_Qi (fun (r : Int32) (_ : Unit) => ∃ n, n < 10 ∧ r = nI n ∧ DC x n) (fun (_ : Unit) t => Wq D A [] t) A) ([.long w] : List Value).toArray s 0 0 A) (F0 m 2 ls []) := by
    intro n1
    induction n1 with
    | zero =>
      intro i1 H locs ls hi1 hv0_1 hP hD hS hl
      obtain rfl : 9 = i1 := by omega
      refine lv_iload_n hx hb dX8_letterCount_2 rfl (lv_at hl 0 rfl) ?_
      refine lv_bipush (v := 9) hx hb dX8_letterCount_3 (by decide) ?_
      refine lv_icmp_ge (tgt := 24) hx hb dX8_letterCount_5 (by decide) (fun c1 => ?_) (fun c9 => absurd (nI_le (a := 9) (b := 9) (show 9 ≤ 9 by omega) (by omega)) c9)
      refine lv_iload_n hx hb dX8_letterCount_24 rfl (lv_at hl 0 rfl) ?_
      obtain ⟨hP9, hD9⟩ := PDq.sub (ws' := []) hP hD [] (by decide) rfl
      refine W.widen (k := 0) (n := 0) (Nat.le_of_ble_eq_true rfl) (Nat.le_of_ble_eq_true rfl) ?_
      exact (W.iret (v := (nI 9)) hx hb hr (fun t ht hW => ⟨⟨(nI 9), (), rfl, ⟨9, by omega, rfl, DC.nine hx9 hv0_1⟩, by rw [ht]; exact hP9, hD9⟩, hS.F ht⟩) hS.2.2 dX8_letterCount_25)
    | succ n1 ih1 =>
      intro i1 H locs ls hi1 hv0_1 hP hD hS hl
      refine lv_iload_n hx hb dX8_letterCount_2 rfl (lv_at hl 0 rfl) ?_
      refine lv_bipush (v := 9) hx hb dX8_letterCount_3 (by decide) ?_
      refine lv_icmp_ge (tgt := 24) hx hb dX8_letterCount_5 (by decide) (fun c9 => absurd c9 (nI_ge (a := i1) (b := 9) (show i1 < 9 by omega) (by omega))) (fun c2 => ?_)
      refine lv_lload_n hx hb dX8_letterCount_8 rfl (lv_at hl 1 rfl) ?_
      refine lv_iconst (v := 5) hx hb dX8_letterCount_9 (by decide) ?_
      refine lv_iload_n hx hb dX8_letterCount_10 rfl (lv_at hl 0 rfl) ?_
      refine lv_imul hx hb dX8_letterCount_11 ?_
      refine lv_topi (fun yn3 eyn3 => ?_)
      obtain rfl : yn3 = (nI (5 * i1)) := eyn3.trans (nI_mul 5 i1)
      refine lv_lushr hx hb dX8_letterCount_12 rfl ?_
      refine lv_topl (fun yn4 eyn4 => ?_)
      refine lv_lconst (v := 0) hx hb dX8_letterCount_13 (by decide) ?_
      refine W.lcmp hx hb dX8_letterCount_14 ?_
      refine lv_if_eq (tgt := 24) hx hb dX8_letterCount_15 (by decide) (fun c5 => ?_) (fun c5 => ?_)
      · skip
        refine lv_iload_n hx hb dX8_letterCount_24 rfl (lv_at hl 0 rfl) ?_
        obtain ⟨hP9, hD9⟩ := PDq.sub (ws' := []) hP hD [] (by decide) rfl
        refine W.widen (k := 0) (n := 0) (Nat.le_of_ble_eq_true rfl) (Nat.le_of_ble_eq_true rfl) ?_
        exact (W.iret (v := (nI i1)) hx hb hr (fun t ht hW => ⟨⟨(nI i1), (), rfl, ⟨i1, by omega, rfl, sh_eq hwx hx9 (by omega) eyn4 c5, hv0_1⟩, by rw [ht]; exact hP9, hD9⟩, hS.F ht⟩) hS.2.2 dX8_letterCount_25)
      · skip
        refine lv_iinc (v := (nI (i1 + 1))) (lv' := [(2, .int (nI (i1 + 1))), (0, .long w)]) hx hb dX8_letterCount_18 hl (k := 0) rfl (nI_1 _) (by decide) rfl (fun ls hl => ?_)
        refine lv_goto (tgt := 2) hx hb dX8_letterCount_21 (by decide) ?_
        obtain ⟨hP9, hD9⟩ := PDq.sub (ws' := []) hP hD [] (by decide) rfl
        exact ih1 (i1 + 1)  H _ ls (by omega) (PC.step hv0_1 (sh_ne hwx hx9 (by omega) eyn4 c5)) hP9 hD9 hS (lv_sub hl [0, 1] rfl)
  obtain ⟨hP9, hD9⟩ := PDq.sub (ws' := []) hP hD [] (by decide) rfl
  exact loop1 (9 - 0) 0  _ _ ls (by omega) (PC.zero x) hP9 hD9 hS (lv_sub hl [0, 1] rfl)

set_option maxHeartbeats 4000000 in
set_option maxRecDepth 100000 in
/-- letterAt, exactly -/
theorem x_letterAt (l : Launch) (D : va_G) (cA : Nat → ClassId) (sa : Nat → Nat) (w : Int64) (x : Nat) (n9 : Nat) (kj : Nat) (sz : Nat) (hwx : w = lN x) (hx9 : x < 35184372088832) (hdc : DC x n9) (hkj : kj < n9) : Met l yX8_letterAt wsX8_letterAt ({ frames := 1, cells := 0, slots := 0, locals := 22 }) (va_Pc [.long w, .int (nI kj)] (Wd D cA sa [] sz)) (va_Qi (fun (r : Int32) (_ : Unit) => r = nI (lt9 x n9 kj)) (fun (_ : Unit) t => Wq D (va_A [] sz) [] t) (va_A [] sz)) 0 0 (va_A [] sz) := by
  refine Met.ofW (cc := cX8_letterAt) (maxL := 4) (ret := (some .char)) (by decide) rfl ?_
  intro p e s m args below meth c s₁ B hml hv
  obtain ⟨rfl, hsz, hP, hK, hD0, hC, hZ⟩ := hv
  have hx := B.exec
  have hb := B.bytes
  have hr := B.returns
  have hts := atoms_spec (ws := wsX8_letterAt) B.pre
  have hown : s.vm.findClass RX8 = some m.cls := findClass_of_methodNamed B.named
  have hlocks := B.notSynchronized
  subst hsz
  have hD := hD0.self (sz := s.heap.size)
  generalize hAe : va_A [] s.heap.size = A at hD hZ ⊢
  have hA : ∀ q : Nat, s.heap.size ≤ q → A q := fun q h => by rw [← hAe]; exact Or.inr h
  have hS : va_S A s.heap s.heap [] := va_S.rf
  have hP : va_P D vwCl [] s.heap := hP
  have hl := lv_entry ([.long w, .int (nI kj)]) (n := 4) (Nat.le_of_ble_eq_true rfl)
  rw [lg_entry_eq]
  generalize (lg_sl ([.long w, .int (nI kj)]) ++ List.replicate (4 - (lg_sl ([.long w, .int (nI kj)])).length) Slot.unset).toArray = ls at hl ⊢
  have hl : lv_has ls 4 [(0, .long w), (2, .int (nI kj))] := hl
  refine lv_iconst (v := 5) hx hb dX8_letterAt_0 (by decide) ?_
  refine lv_lload_n hx hb dX8_letterAt_1 rfl (lv_at hl 0 rfl) ?_
  obtain ⟨hPc, hDc, hFc⟩ := PDq.cut (wc := []) hP hD hS hA [] (by decide) rfl
  refine va_calli (va_runS (As := [.long w]) (rest := [.int 5]) ⟨hx, hb, hml, hown, hts⟩ (x_letterCount l D cA sa w x s.heap.size hwx hx9) (va_cwS 1 hts gX8_letterAt_X8_letterCount rfl rfl rfl (by decide +kernel) ⟨(Nat.le_of_ble_eq_true rfl), (Nat.le_of_ble_eq_true rfl)⟩) ⟨Wd.blind, fun U hU hW => ⟨rfl, Wd.call hPc hDc hK hC hZ hS hFc U hU hW⟩⟩ rfl rfl hl.1 rfl (lv_room (Nat.le_of_ble_eq_true rfl)) dX8_letterAt_2 ⟨(Nat.le_of_ble_eq_true rfl), (Nat.le_of_ble_eq_true rfl)⟩) hS (fun q _ h => hFc q h) hFc (fun rn1 u t H1 locs ht hvm hw hB hz1 hk1 hS => ?_)
  obtain ⟨hP1, hD1⟩ := hB
  rw [ht] at hP1
  obtain ⟨hP, hD⟩ := PDq.join (w := []) 0 hP hD [] [] rfl rfl (by decide) (by decide) hk1 hFc hP1 hD1 rfl
  generalize H1 = H at hP hS ⊢
  obtain ⟨kn2, hn3, hr9, hn4⟩ := hw
  subst hr9
  obtain rfl : n9 = kn2 := DC.uniq hdc hn4
  refine lv_iconst (v := 1) hx hb dX8_letterAt_5 (by decide) ?_
  refine lv_isub hx hb dX8_letterAt_6 ?_
  refine lv_topi (fun yn5 eyn5 => ?_)
  obtain rfl : yn5 = (nI (n9 - 1)) := eyn5.trans (nI_sub (a := n9) (b := 1) (by omega))
  refine lv_iload_n hx hb dX8_letterAt_7 rfl (lv_at hl 1 rfl) ?_
  refine lv_isub hx hb dX8_letterAt_8 ?_
  refine lv_topi (fun yn6 eyn6 => ?_)
  obtain rfl : yn6 = (nI ((n9 - 1) - kj)) := eyn6.trans (nI_sub (a := (n9 - 1)) (b := kj) (by omega))
  refine lv_imul hx hb dX8_letterAt_9 ?_
  refine lv_topi (fun yn7 eyn7 => ?_)
  obtain rfl : yn7 = (nI (5 * ((n9 - 1) - kj))) := eyn7.trans (nI_mul 5 ((n9 - 1) - kj))
  refine lv_istore_n (lv' := [(3, .int (nI (5 * ((n9 - 1) - kj)))), (0, .long w), (2, .int (nI kj))]) hx hb dX8_letterAt_10 rfl hl (by decide) rfl (fun ls hl => ?_)
  refine lv_ldc2 (v := 96) hx hb hown (hts (.constantLong RX8 27 96) (by decide +kernel)) dX8_letterAt_11 ?_
  refine lv_lload_n hx hb dX8_letterAt_14 rfl (lv_at hl 1 rfl) ?_
  refine lv_iload_n hx hb dX8_letterAt_15 rfl (lv_at hl 0 rfl) ?_
  refine lv_lushr hx hb dX8_letterAt_16 rfl ?_
  refine lv_topl (fun yn8 eyn8 => ?_)
  refine lv_ldc2 (v := 31) hx hb hown (hts (.constantLong RX8 29 31) (by decide +kernel)) dX8_letterAt_17 ?_
  refine lv_land hx hb dX8_letterAt_20 ?_
  refine lv_topl (fun yn9 eyn9 => ?_)
  refine lv_ladd hx hb dX8_letterAt_21 ?_
  refine lv_topl (fun yn10 eyn10 => ?_)
  refine lv_l2i (v := yn10.toInt32) hx hb dX8_letterAt_22 rfl ?_
  refine lv_topi (fun yn11 eyn11 => ?_)
  refine lv_i2c hx hb dX8_letterAt_23 rfl ?_
  refine lv_topi (fun yn12 eyn12 => ?_)
  obtain ⟨hP9, hD9⟩ := PDq.sub (ws' := []) hP hD [] (by decide) rfl
  refine W.widen (k := 0) (n := 0) (Nat.le_of_ble_eq_true rfl) (Nat.le_of_ble_eq_true rfl) ?_
  exact (W.zret (v := yn12) hx hb hr (nar_i2c eyn12) (fun t ht hW => ⟨⟨yn12, (), rfl, (la_x hwx hx9 (by have := DC.le hx9 hdc; omega) eyn8 eyn9 eyn10 eyn11 eyn12), by rw [ht]; exact hP9, hD9⟩, hS.F ht⟩) hS.2.2 dX8_letterAt_24)

set_option maxHeartbeats 4000000 in
set_option maxRecDepth 100000 in
/-- needIndex: within -/
theorem x_needIndexIn (l : Launch) (D : va_G) (cA : Nat → ClassId) (sa : Nat → Nat) (k : Nat) (n : Nat) (sz : Nat) (hkn : k < n) (hn31 : n < 2147483648) : Met l yX9_needIndex wsX9_needIndex ({ frames := 0, cells := 0, slots := 0, locals := 0 }) (va_Pc [.int (nI k), .int (nI n)] (Wd D cA sa [] sz)) (va_Qv (fun _ : Unit => True) (fun (_ : Unit) t => Wq D (va_A [] sz) [] t) (va_A [] sz)) 0 0 (va_A [] sz) := by
  refine Met.ofW (cc := cX9_needIndex) (maxL := 2) (ret := none) (by decide) rfl ?_
  intro p e s m args below meth c s₁ B hml hv
  obtain ⟨rfl, hsz, hP, hK, hD0, hC, hZ⟩ := hv
  have hx := B.exec
  have hb := B.bytes
  have hr := B.returns
  have hts := atoms_spec (ws := wsX9_needIndex) B.pre
  have hown : s.vm.findClass RX9 = some m.cls := findClass_of_methodNamed B.named
  have hlocks := B.notSynchronized
  subst hsz
  have hD := hD0.self (sz := s.heap.size)
  generalize hAe : va_A [] s.heap.size = A at hD hZ ⊢
  have hA : ∀ q : Nat, s.heap.size ≤ q → A q := fun q h => by rw [← hAe]; exact Or.inr h
  have hS : va_S A s.heap s.heap [] := va_S.rf
  have hP : va_P D vwCl [] s.heap := hP
  have hl := lv_entry ([.int (nI k), .int (nI n)]) (n := 2) (Nat.le_of_ble_eq_true rfl)
  rw [lg_entry_eq]
  generalize (lg_sl ([.int (nI k), .int (nI n)]) ++ List.replicate (2 - (lg_sl ([.int (nI k), .int (nI n)])).length) Slot.unset).toArray = ls at hl ⊢
  have hl : lv_has ls 2 [(0, .int (nI k)), (1, .int (nI n))] := hl
  refine lv_iload_n hx hb dX9_needIndex_0 rfl (lv_at hl 0 rfl) ?_
  refine lv_if_lt (tgt := 9) hx hb dX9_needIndex_1 (by decide) (fun c9 => absurd c9 (nI_pos (n := k) (by omega))) (fun c1 => ?_)
  refine lv_iload_n hx hb dX9_needIndex_4 rfl (lv_at hl 0 rfl) ?_
  refine lv_iload_n hx hb dX9_needIndex_5 rfl (lv_at hl 1 rfl) ?_
  refine lv_icmp_lt (tgt := 20) hx hb dX9_needIndex_6 (by decide) (fun c2 => ?_) (fun c9 => absurd (nI_lt (a := k) (b := n) (show k < n by omega) (by omega)) c9)
  obtain ⟨hP9, hD9⟩ := PDq.sub (ws' := []) hP hD [] (by decide) rfl
  refine W.widen (k := 0) (n := 0) (Nat.le_of_ble_eq_true rfl) (Nat.le_of_ble_eq_true rfl) ?_
  exact (W.vret hx hb hr (fun t ht hW => ⟨⟨(), rfl, trivial, by rw [ht]; exact hP9, hD9⟩, hS.F ht⟩) hS.2.2 dX9_needIndex_20)

set_option maxHeartbeats 4000000 in
set_option maxRecDepth 100000 in
/-- needIndex: outside -/
theorem x_needIndexOut (l : Launch) (D : va_G) (cA : Nat → ClassId) (sa : Nat → Nat) (i : Int32) (n : Nat) (sz : Nat) (hl9 : l.stackTraces = false) (hn31 : n < 2147483648) (hout : ¬ ∃ k, k < n ∧ i = nI k) : vx_Met l yX9_needIndex wsX9_needIndex ({ frames := 6, cells := 1, slots := 6, locals := 90 }) (va_Pc [.int i, .int (nI n)] (Wd D cA sa [] sz)) (va_Qv (fun _ : Unit => False) (fun (_ : Unit) t => Wq D (va_A [] sz) [] t) (va_A [] sz)) (vx_X (fun _ : Unit => True) (fun E _ t => (E = "java/lang/IndexOutOfBoundsException") ∧ Wq D (va_A [] sz) [] t) (va_A [] sz)) 1 6 (va_A [] sz) := by
  refine vx_ofW (cc := cX9_needIndex) (maxL := 2) (ret := none) (by decide) rfl ?_
  intro p e s m args below meth c s₁ B hml hno hv
  obtain ⟨rfl, hsz, hP, hK, hD0, hC, hZ⟩ := hv
  have hx := B.exec
  have hb := B.bytes
  have hr := B.returns
  have hts := atoms_spec (ws := wsX9_needIndex) B.pre
  have hown : s.vm.findClass RX9 = some m.cls := findClass_of_methodNamed B.named
  have hlocks := B.notSynchronized
  subst hsz
  have hD := hD0.self (sz := s.heap.size)
  generalize hAe : va_A [] s.heap.size = A at hD hZ ⊢
  have hA : ∀ q : Nat, s.heap.size ≤ q → A q := fun q h => by rw [← hAe]; exact Or.inr h
  have hS : va_S A s.heap s.heap [] := va_S.rf
  have hP : va_P D vwCl [] s.heap := hP
  have hl := lv_entry ([.int i, .int (nI n)]) (n := 2) (Nat.le_of_ble_eq_true rfl)
  rw [lg_entry_eq]
  generalize (lg_sl ([.int i, .int (nI n)]) ++ List.replicate (2 - (lg_sl ([.int i, .int (nI n)])).length) Slot.unset).toArray = ls at hl ⊢
  have hl : lv_has ls 2 [(0, .int i), (1, .int (nI n))] := hl
  refine lv_iload_n hx hb dX9_needIndex_0 rfl (lv_at hl 0 rfl) ?_
  refine lv_if_lt (tgt := 9) hx hb dX9_needIndex_1 (by decide) (fun c1 => ?_) (fun c1 => ?_)
  · skip
    obtain ⟨hP9, hD9⟩ := PDq.sub (ws' := []) hP hD [] (by decide) rfl
    exact vx_throwSW (text := "there is no such thing") (names := ["java/lang/RuntimeException", "java/lang/Exception"]) (A := A) hx hb hl9 hown (by decide +kernel) (by decide +kernel) (hts (.classLink RX9 210 "java/lang/IndexOutOfBoundsException") (by decide +kernel)) (hts (.initialized "java/lang/IndexOutOfBoundsException") (by decide +kernel)) (hC.str 17 rfl) (vx_hat (B := [.castable "java/lang/IndexOutOfBoundsException" "java/lang/IndexOutOfBoundsException", .declares (Bundle.initS "java/lang/RuntimeException"), .declares (Bundle.initS "java/lang/Exception"), .declares (Bundle.initS "java/lang/Throwable")]) (fun w h => hts w (by first | exact (List.mem_cons_of_mem _ (List.mem_append_right _ h)) | (revert w; decide +kernel))) (by decide +kernel) (vx_c (hC.c (by decide +kernel)) (vx_c (hC.d (by decide +kernel)) (vx_c (hC.d (by decide +kernel)) (vx_c (hC.d (by decide +kernel)) vx_n))))) (by decide +kernel) hZ.1 hZ.2.1 hS (by rw [hml]; exact hl.1) dX9_needIndex_9 dX9_needIndex_12 dX9_needIndex_13 dX9_needIndex_16 dX9_needIndex_19 (fun x h => (hno x h).elim) (Nat.le_of_ble_eq_true rfl) (Nat.le_of_ble_eq_true rfl) (Nat.le_of_ble_eq_true rfl) (Nat.le_of_ble_eq_true rfl) hlocks (fun t _ h1 h2 => ⟨(), trivial, ⟨rfl, hP9.kept (fun k q hq => h2 q.1 (hP9 k q hq).lt), hD9⟩, F_of hS h1 h2⟩) hS.2.2 (Nat.le_of_ble_eq_true rfl) (Nat.le_of_ble_eq_true rfl)
  · skip
    refine lv_iload_n hx hb dX9_needIndex_4 rfl (lv_at hl 0 rfl) ?_
    refine lv_iload_n hx hb dX9_needIndex_5 rfl (lv_at hl 1 rfl) ?_
    refine lv_icmp_lt (tgt := 20) hx hb dX9_needIndex_6 (by decide) (fun c2 => ?_) (fun c2 => ?_)
    · skip
      exact absurd ⟨_, ix_lt c1 c2 hn31, ix_eq c1⟩ hout
    · skip
      obtain ⟨hP9, hD9⟩ := PDq.sub (ws' := []) hP hD [] (by decide) rfl
      exact vx_throwSW (text := "there is no such thing") (names := ["java/lang/RuntimeException", "java/lang/Exception"]) (A := A) hx hb hl9 hown (by decide +kernel) (by decide +kernel) (hts (.classLink RX9 210 "java/lang/IndexOutOfBoundsException") (by decide +kernel)) (hts (.initialized "java/lang/IndexOutOfBoundsException") (by decide +kernel)) (hC.str 17 rfl) (vx_hat (B := [.castable "java/lang/IndexOutOfBoundsException" "java/lang/IndexOutOfBoundsException", .declares (Bundle.initS "java/lang/RuntimeException"), .declares (Bundle.initS "java/lang/Exception"), .declares (Bundle.initS "java/lang/Throwable")]) (fun w h => hts w (by first | exact (List.mem_cons_of_mem _ (List.mem_append_right _ h)) | (revert w; decide +kernel))) (by decide +kernel) (vx_c (hC.c (by decide +kernel)) (vx_c (hC.d (by decide +kernel)) (vx_c (hC.d (by decide +kernel)) (vx_c (hC.d (by decide +kernel)) vx_n))))) (by decide +kernel) hZ.1 hZ.2.1 hS (by rw [hml]; exact hl.1) dX9_needIndex_9 dX9_needIndex_12 dX9_needIndex_13 dX9_needIndex_16 dX9_needIndex_19 (fun x h => (hno x h).elim) (Nat.le_of_ble_eq_true rfl) (Nat.le_of_ble_eq_true rfl) (Nat.le_of_ble_eq_true rfl) (Nat.le_of_ble_eq_true rfl) hlocks (fun t _ h1 h2 => ⟨(), trivial, ⟨rfl, hP9.kept (fun k q hq => h2 q.1 (hP9 k q hq).lt), hD9⟩, F_of hS h1 h2⟩) hS.2.2 (Nat.le_of_ble_eq_true rfl) (Nat.le_of_ble_eq_true rfl)

set_option maxHeartbeats 4000000 in
set_option maxRecDepth 100000 in
/-- needProof: within -/
theorem x_needProofIn (l : Launch) (D : va_G) (cA : Nat → ClassId) (sa : Nat → Nat) (h0 : Nat) (b0 : Nat) (nb : Nat) (p0 : Nat) (u0 : Nat) (r0 : Nat) (a0 : Nat) (t0 : Nat) (s0 : Nat) (o0 : Nat) (p1 : Nat) (p2 : Nat) (p3 : Nat) (p4 : Nat) (p5 : Nat) (p6 : Nat) (p7 : Nat) (p8 : Nat) (p9 : Nat) (cn : Nat) (pq : Nat) (nd : Nat) (sc : Nat) (pr : Int32) (pb : Int32) (pe : Int32) (pg : Int32) (ki : Nat) (sz : Nat) (hcn : cn ≤ 10) (hpq : pq ≤ 8) (hnd : nd ≤ 6) (hsc : sc ≤ 350) (hki : ki < pq) : Met l yX9_needProof wsX9_needProof ({ frames := 1, cells := 0, slots := 0, locals := 21 }) (va_Pc [.ref h0, .int (nI ki)] (Wd D cA sa [(oX9 h0 b0 (nI nb) p0 u0 r0 a0 t0 s0 o0), (oX3 p0 pr pb pe pg p1 (nI nd) p2 p3 p4 p5 (nI cn) p6 (nI pq) p7 p8 p9 (nI sc))] sz)) (va_Qv (fun _ : Unit => True) (fun (_ : Unit) t => Wq D (va_A [(oX9 h0 b0 (nI nb) p0 u0 r0 a0 t0 s0 o0), (oX3 p0 pr pb pe pg p1 (nI nd) p2 p3 p4 p5 (nI cn) p6 (nI pq) p7 p8 p9 (nI sc))] sz) [(oX9 h0 b0 (nI nb) p0 u0 r0 a0 t0 s0 o0), (oX3 p0 pr pb pe pg p1 (nI nd) p2 p3 p4 p5 (nI cn) p6 (nI pq) p7 p8 p9 (nI sc))] t) (va_A [(oX9 h0 b0 (nI nb) p0 u0 r0 a0 t0 s0 o0), (oX3 p0 pr pb pe pg p1 (nI nd) p2 p3 p4 p5 (nI cn) p6 (nI pq) p7 p8 p9 (nI sc))] sz)) 0 0 (va_A [(oX9 h0 b0 (nI nb) p0 u0 r0 a0 t0 s0 o0), (oX3 p0 pr pb pe pg p1 (nI nd) p2 p3 p4 p5 (nI cn) p6 (nI pq) p7 p8 p9 (nI sc))] sz) := by
  refine Met.ofW (cc := cX9_needProof) (maxL := 2) (ret := none) (by decide) rfl ?_
  intro p e s m args below meth c s₁ B hml hv
  obtain ⟨rfl, hsz, hP, hK, hD0, hC, hZ⟩ := hv
  have hx := B.exec
  have hb := B.bytes
  have hr := B.returns
  have hts := atoms_spec (ws := wsX9_needProof) B.pre
  have hown : s.vm.findClass RX9 = some m.cls := findClass_of_methodNamed B.named
  have hlocks := B.notSynchronized
  subst hsz
  have hD := hD0.self (sz := s.heap.size)
  generalize hAe : va_A [(oX9 h0 b0 (nI nb) p0 u0 r0 a0 t0 s0 o0), (oX3 p0 pr pb pe pg p1 (nI nd) p2 p3 p4 p5 (nI cn) p6 (nI pq) p7 p8 p9 (nI sc))] s.heap.size = A at hD hZ ⊢
  have hA : ∀ q : Nat, s.heap.size ≤ q → A q := fun q h => by rw [← hAe]; exact Or.inr h
  have hS : va_S A s.heap s.heap [] := va_S.rf
  have hP : va_P D vwCl [(oX9 h0 b0 (nI nb) p0 u0 r0 a0 t0 s0 o0), (oX3 p0 pr pb pe pg p1 (nI nd) p2 p3 p4 p5 (nI cn) p6 (nI pq) p7 p8 p9 (nI sc))] s.heap := hP
  have hl := lv_entry ([.ref h0, .int (nI ki)]) (n := 2) (Nat.le_of_ble_eq_true rfl)
  rw [lg_entry_eq]
  generalize (lg_sl ([.ref h0, .int (nI ki)]) ++ List.replicate (2 - (lg_sl ([.ref h0, .int (nI ki)])).length) Slot.unset).toArray = ls at hl ⊢
  have hl : lv_has ls 2 [(0, .ref h0), (1, .int (nI ki))] := hl
  have inX3 : ∀ w ∈ u_ws RX3 TX3 17, w ∈ wsX9_needProof := by decide +kernel
  have inX9 : ∀ w ∈ u_ws RX9 TX9 9, w ∈ wsX9_needProof := by decide +kernel
  refine lv_iload_n hx hb dX9_needProof_0 rfl (lv_at hl 1 rfl) ?_
  refine lv_aload_n hx hb dX9_needProof_1 rfl (lv_at hl 0 rfl) ?_
  refine va_get (D := D) (ci := 10) (v := .ref p0) (C := RX9) (T := TX9) (N := 9) hx hb hts inX9 hown hK hP 0 rfl rfl 2 (by decide) (hts (.fieldLink RX9 16 "EscrowDesk" "plan" "LEscrowDesk$Plan;") (by decide +kernel)) (fun _ h9 => h9) rfl dX9_needProof_2 ?_
  refine va_getN (D := D) (ci := 7) (v := .int (nI pq)) (C := RX3) (T := TX3) (N := 17) hx hb hts inX3 hown hK hP 1 rfl rfl 12 (by decide) (hC.f (A := _) (a := RX9) (i := 147) (b := "EscrowDesk$Plan") (n := "proofCount") (d := "I") (x := "EscrowDesk") (by decide +kernel)) (fun _ h9 => h9) rfl dX9_needProof_5 ?_
  obtain ⟨hPc, hDc, hFc⟩ := PDq.cut (wc := []) hP hD hS hA [] (by decide) rfl
  refine va_callv (va_runS (As := [.int (nI ki), .int (nI pq)]) (rest := []) ⟨hx, hb, hml, hown, hts⟩ (x_needIndexIn l D cA sa ki pq s.heap.size hki (by omega)) (va_cwS 2 hts gX9_needProof_X9_needIndex rfl rfl rfl (by decide +kernel) ⟨(Nat.le_of_ble_eq_true rfl), (Nat.le_of_ble_eq_true rfl)⟩) ⟨Wd.blind, fun U hU hW => ⟨rfl, Wd.call hPc hDc hK hC hZ hS hFc U hU hW⟩⟩ rfl rfl hl.1 rfl (lv_room (Nat.le_of_ble_eq_true rfl)) dX9_needProof_8 ⟨(Nat.le_of_ble_eq_true rfl), (Nat.le_of_ble_eq_true rfl)⟩) hS (fun q _ h => hFc q h) hFc (fun u t H1 locs ht hvm hw hB hz1 hk1 hS => ?_)
  obtain ⟨hP1, hD1⟩ := hB
  rw [ht] at hP1
  obtain ⟨hP, hD⟩ := PDq.join (w := [(oX9 h0 b0 (nI nb) p0 u0 r0 a0 t0 s0 o0), (oX3 p0 pr pb pe pg p1 (nI nd) p2 p3 p4 p5 (nI cn) p6 (nI pq) p7 p8 p9 (nI sc))]) 2 hP hD [] [0, 1] rfl rfl (by decide) (by decide) hk1 hFc hP1 hD1 rfl
  generalize H1 = H at hP hS ⊢
  obtain ⟨hP9, hD9⟩ := PDq.sub (ws' := [(oX9 h0 b0 (nI nb) p0 u0 r0 a0 t0 s0 o0), (oX3 p0 pr pb pe pg p1 (nI nd) p2 p3 p4 p5 (nI cn) p6 (nI pq) p7 p8 p9 (nI sc))]) hP hD [0, 1] (by decide) rfl
  refine W.widen (k := 0) (n := 0) (Nat.le_of_ble_eq_true rfl) (Nat.le_of_ble_eq_true rfl) ?_
  exact (W.vret hx hb hr (fun t ht hW => ⟨⟨(), rfl, trivial, by rw [ht]; exact hP9, hD9⟩, hS.F ht⟩) hS.2.2 dX9_needProof_11)

set_option maxHeartbeats 4000000 in
set_option maxRecDepth 100000 in
/-- needProof: outside -/
theorem x_needProofOut (l : Launch) (D : va_G) (cA : Nat → ClassId) (sa : Nat → Nat) (h0 : Nat) (b0 : Nat) (nb : Nat) (p0 : Nat) (u0 : Nat) (r0 : Nat) (a0 : Nat) (t0 : Nat) (s0 : Nat) (o0 : Nat) (p1 : Nat) (p2 : Nat) (p3 : Nat) (p4 : Nat) (p5 : Nat) (p6 : Nat) (p7 : Nat) (p8 : Nat) (p9 : Nat) (cn : Nat) (pq : Nat) (nd : Nat) (sc : Nat) (pr : Int32) (pb : Int32) (pe : Int32) (pg : Int32) (i : Int32) (sz : Nat) (hl9 : l.stackTraces = false) (hcn : cn ≤ 10) (hpq : pq ≤ 8) (hnd : nd ≤ 6) (hsc : sc ≤ 350) (hout : ¬ ∃ k, k < pq ∧ i = nI k) : vx_Met l yX9_needProof wsX9_needProof ({ frames := 7, cells := 1, slots := 6, locals := 111 }) (va_Pc [.ref h0, .int i] (Wd D cA sa [(oX9 h0 b0 (nI nb) p0 u0 r0 a0 t0 s0 o0), (oX3 p0 pr pb pe pg p1 (nI nd) p2 p3 p4 p5 (nI cn) p6 (nI pq) p7 p8 p9 (nI sc))] sz)) (va_Qv (fun _ : Unit => False) (fun (_ : Unit) t => Wq D (va_A [(oX9 h0 b0 (nI nb) p0 u0 r0 a0 t0 s0 o0), (oX3 p0 pr pb pe pg p1 (nI nd) p2 p3 p4 p5 (nI cn) p6 (nI pq) p7 p8 p9 (nI sc))] sz) [(oX9 h0 b0 (nI nb) p0 u0 r0 a0 t0 s0 o0), (oX3 p0 pr pb pe pg p1 (nI nd) p2 p3 p4 p5 (nI cn) p6 (nI pq) p7 p8 p9 (nI sc))] t) (va_A [(oX9 h0 b0 (nI nb) p0 u0 r0 a0 t0 s0 o0), (oX3 p0 pr pb pe pg p1 (nI nd) p2 p3 p4 p5 (nI cn) p6 (nI pq) p7 p8 p9 (nI sc))] sz)) (vx_X (fun _ : Unit => True) (fun E _ t => (E = "java/lang/IndexOutOfBoundsException") ∧ Wq D (va_A [(oX9 h0 b0 (nI nb) p0 u0 r0 a0 t0 s0 o0), (oX3 p0 pr pb pe pg p1 (nI nd) p2 p3 p4 p5 (nI cn) p6 (nI pq) p7 p8 p9 (nI sc))] sz) [(oX9 h0 b0 (nI nb) p0 u0 r0 a0 t0 s0 o0), (oX3 p0 pr pb pe pg p1 (nI nd) p2 p3 p4 p5 (nI cn) p6 (nI pq) p7 p8 p9 (nI sc))] t) (va_A [(oX9 h0 b0 (nI nb) p0 u0 r0 a0 t0 s0 o0), (oX3 p0 pr pb pe pg p1 (nI nd) p2 p3 p4 p5 (nI cn) p6 (nI pq) p7 p8 p9 (nI sc))] sz)) 1 6 (va_A [(oX9 h0 b0 (nI nb) p0 u0 r0 a0 t0 s0 o0), (oX3 p0 pr pb pe pg p1 (nI nd) p2 p3 p4 p5 (nI cn) p6 (nI pq) p7 p8 p9 (nI sc))] sz) := by
  refine vx_ofW (cc := cX9_needProof) (maxL := 2) (ret := none) (by decide) rfl ?_
  intro p e s m args below meth c s₁ B hml hno hv
  obtain ⟨rfl, hsz, hP, hK, hD0, hC, hZ⟩ := hv
  have hx := B.exec
  have hb := B.bytes
  have hr := B.returns
  have hts := atoms_spec (ws := wsX9_needProof) B.pre
  have hown : s.vm.findClass RX9 = some m.cls := findClass_of_methodNamed B.named
  have hlocks := B.notSynchronized
  subst hsz
  have hD := hD0.self (sz := s.heap.size)
  generalize hAe : va_A [(oX9 h0 b0 (nI nb) p0 u0 r0 a0 t0 s0 o0), (oX3 p0 pr pb pe pg p1 (nI nd) p2 p3 p4 p5 (nI cn) p6 (nI pq) p7 p8 p9 (nI sc))] s.heap.size = A at hD hZ ⊢
  have hA : ∀ q : Nat, s.heap.size ≤ q → A q := fun q h => by rw [← hAe]; exact Or.inr h
  have hS : va_S A s.heap s.heap [] := va_S.rf
  have hP : va_P D vwCl [(oX9 h0 b0 (nI nb) p0 u0 r0 a0 t0 s0 o0), (oX3 p0 pr pb pe pg p1 (nI nd) p2 p3 p4 p5 (nI cn) p6 (nI pq) p7 p8 p9 (nI sc))] s.heap := hP
  have hl := lv_entry ([.ref h0, .int i]) (n := 2) (Nat.le_of_ble_eq_true rfl)
  rw [lg_entry_eq]
  generalize (lg_sl ([.ref h0, .int i]) ++ List.replicate (2 - (lg_sl ([.ref h0, .int i])).length) Slot.unset).toArray = ls at hl ⊢
  have hl : lv_has ls 2 [(0, .ref h0), (1, .int i)] := hl
  have inX3 : ∀ w ∈ u_ws RX3 TX3 17, w ∈ wsX9_needProof := by decide +kernel
  have inX9 : ∀ w ∈ u_ws RX9 TX9 9, w ∈ wsX9_needProof := by decide +kernel
  refine lv_iload_n hx hb dX9_needProof_0 rfl (lv_at hl 1 rfl) ?_
  refine lv_aload_n hx hb dX9_needProof_1 rfl (lv_at hl 0 rfl) ?_
  refine va_get (D := D) (ci := 10) (v := .ref p0) (C := RX9) (T := TX9) (N := 9) hx hb hts inX9 hown hK hP 0 rfl rfl 2 (by decide) (hts (.fieldLink RX9 16 "EscrowDesk" "plan" "LEscrowDesk$Plan;") (by decide +kernel)) (fun _ h9 => h9) rfl dX9_needProof_2 ?_
  refine va_getN (D := D) (ci := 7) (v := .int (nI pq)) (C := RX3) (T := TX3) (N := 17) hx hb hts inX3 hown hK hP 1 rfl rfl 12 (by decide) (hC.f (A := _) (a := RX9) (i := 147) (b := "EscrowDesk$Plan") (n := "proofCount") (d := "I") (x := "EscrowDesk") (by decide +kernel)) (fun _ h9 => h9) rfl dX9_needProof_5 ?_
  obtain ⟨hPc, hDc, hFc⟩ := PDq.cut (wc := []) hP hD hS hA [] (by decide) rfl
  refine vx_callv (vx_runS (As := [.int i, .int (nI pq)]) (rest := []) ⟨hx, hb, hml, hown, hts⟩ (x_needIndexOut l D cA sa i pq s.heap.size hl9 (by omega) hout) (va_cwS 2 hts gX9_needProof_X9_needIndex rfl rfl rfl (by decide +kernel) ⟨(Nat.le_of_ble_eq_true rfl), (Nat.le_of_ble_eq_true rfl)⟩) ⟨Wd.blind, fun U hU hW => ⟨rfl, Wd.call hPc hDc hK hC hZ hS hFc U hU hW⟩⟩ rfl rfl hl.1 rfl (lv_room (Nat.le_of_ble_eq_true rfl)) dX9_needProof_8 ⟨(Nat.le_of_ble_eq_true rfl), (Nat.le_of_ble_eq_true rfl)⟩) hS (fun q _ h => hFc q h) hFc (fun q _ h => hFc q h) (fun E ce q9 u t H1 locs ht hvm hpx hE hz1 hk1 hS hcell hv9 hcl => ?_) (fun u t H1 locs ht hvm hw hB hz1 hk1 hS => ?_)
  · skip
    obtain ⟨hE, hP1, hD1⟩ := hE
    rw [ht] at hP1
    obtain ⟨hP, hD⟩ := PDq.join (w := [(oX9 h0 b0 (nI nb) p0 u0 r0 a0 t0 s0 o0), (oX3 p0 pr pb pe pg p1 (nI nd) p2 p3 p4 p5 (nI cn) p6 (nI pq) p7 p8 p9 (nI sc))]) 2 hP hD [] [0, 1] rfl rfl (by decide) (by decide) hk1 hFc hP1 hD1 rfl
    generalize H1 = H at hP hS hcell ⊢
    obtain ⟨hP9, hD9⟩ := PDq.sub (ws' := [(oX9 h0 b0 (nI nb) p0 u0 r0 a0 t0 s0 o0), (oX3 p0 pr pb pe pg p1 (nI nd) p2 p3 p4 p5 (nI cn) p6 (nI pq) p7 p8 p9 (nI sc))]) hP hD [0, 1] (by decide) rfl
    exact vx_out (fun x h => (hno x h).elim) hlocks hcell hv9 hcl (fun t ht hvm => ⟨(), trivial, ⟨hE, by rw [ht]; exact hP9, hD9⟩, hS.F ht⟩) hS.2.2 (Nat.le_of_ble_eq_true rfl) (Nat.le_of_ble_eq_true rfl)
  · skip
    exact hw.elim

set_option maxHeartbeats 4000000 in
set_option maxRecDepth 100000 in
/-- proofCharacter: a letter -/
theorem x_pcIn (l : Launch) (D : va_G) (cA : Nat → ClassId) (sa : Nat → Nat) (h0 : Nat) (b0 : Nat) (nb : Nat) (p0 : Nat) (u0 : Nat) (r0 : Nat) (a0 : Nat) (t0 : Nat) (s0 : Nat) (o0 : Nat) (p1 : Nat) (p2 : Nat) (p3 : Nat) (p4 : Nat) (p5 : Nat) (p6 : Nat) (p7 : Nat) (p8 : Nat) (p9 : Nat) (cn : Nat) (pq : Nat) (nd : Nat) (sc : Nat) (pr : Int32) (pb : Int32) (pe : Int32) (pg : Int32) (ki : Nat) (kj : Nat) (x : Nat) (n9 : Nat) (fpn : Nat → Int64) (sz : Nat) (hcn : cn ≤ 10) (hpq : pq ≤ 8) (hnd : nd ≤ 6) (hsc : sc ≤ 350) (hki : ki < pq) (hx9 : x < 35184372088832) (hfx : fpn ki = lN x) (hdc : DC x n9) (hkj : kj < n9) : Met l yX9_proofCharacter wsX9_proofCharacter ({ frames := 2, cells := 0, slots := 0, locals := 45 }) (va_Pc [.ref h0, .int (nI ki), .int (nI kj)] (Wd D cA sa [(oX9 h0 b0 (nI nb) p0 u0 r0 a0 t0 s0 o0), (oX3 p0 pr pb pe pg p1 (nI nd) p2 p3 p4 p5 (nI cn) p6 (nI pq) p7 p8 p9 (nI sc)), (p6, .inl (cA 1, 8, .inr (.inl fpn)))] sz)) (va_Qi (fun (r : Int32) (_ : Unit) => r = (nI (lt9 x n9 kj))) (fun (_ : Unit) t => Wq D (va_A [(oX9 h0 b0 (nI nb) p0 u0 r0 a0 t0 s0 o0), (oX3 p0 pr pb pe pg p1 (nI nd) p2 p3 p4 p5 (nI cn) p6 (nI pq) p7 p8 p9 (nI sc)), (p6, .inl (cA 1, 8, .inr (.inl fpn)))] sz) [(oX9 h0 b0 (nI nb) p0 u0 r0 a0 t0 s0 o0), (oX3 p0 pr pb pe pg p1 (nI nd) p2 p3 p4 p5 (nI cn) p6 (nI pq) p7 p8 p9 (nI sc)), (p6, .inl (cA 1, 8, .inr (.inl fpn)))] t) (va_A [(oX9 h0 b0 (nI nb) p0 u0 r0 a0 t0 s0 o0), (oX3 p0 pr pb pe pg p1 (nI nd) p2 p3 p4 p5 (nI cn) p6 (nI pq) p7 p8 p9 (nI sc)), (p6, .inl (cA 1, 8, .inr (.inl fpn)))] sz)) 0 0 (va_A [(oX9 h0 b0 (nI nb) p0 u0 r0 a0 t0 s0 o0), (oX3 p0 pr pb pe pg p1 (nI nd) p2 p3 p4 p5 (nI cn) p6 (nI pq) p7 p8 p9 (nI sc)), (p6, .inl (cA 1, 8, .inr (.inl fpn)))] sz) := by
  refine Met.ofW (cc := cX9_proofCharacter) (maxL := 5) (ret := (some .char)) (by decide) rfl ?_
  intro p e s m args below meth c s₁ B hml hv
  obtain ⟨rfl, hsz, hP, hK, hD0, hC, hZ⟩ := hv
  have hx := B.exec
  have hb := B.bytes
  have hr := B.returns
  have hts := atoms_spec (ws := wsX9_proofCharacter) B.pre
  have hown : s.vm.findClass RX9 = some m.cls := findClass_of_methodNamed B.named
  have hlocks := B.notSynchronized
  subst hsz
  have hD := hD0.self (sz := s.heap.size)
  generalize hAe : va_A [(oX9 h0 b0 (nI nb) p0 u0 r0 a0 t0 s0 o0), (oX3 p0 pr pb pe pg p1 (nI nd) p2 p3 p4 p5 (nI cn) p6 (nI pq) p7 p8 p9 (nI sc)), (p6, .inl (cA 1, 8, .inr (.inl fpn)))] s.heap.size = A at hD hZ ⊢
  have hA : ∀ q : Nat, s.heap.size ≤ q → A q := fun q h => by rw [← hAe]; exact Or.inr h
  have hS : va_S A s.heap s.heap [] := va_S.rf
  have hP : va_P D vwCl [(oX9 h0 b0 (nI nb) p0 u0 r0 a0 t0 s0 o0), (oX3 p0 pr pb pe pg p1 (nI nd) p2 p3 p4 p5 (nI cn) p6 (nI pq) p7 p8 p9 (nI sc)), (p6, .inl (cA 1, 8, .inr (.inl fpn)))] s.heap := hP
  have hl := lv_entry ([.ref h0, .int (nI ki), .int (nI kj)]) (n := 5) (Nat.le_of_ble_eq_true rfl)
  rw [lg_entry_eq]
  generalize (lg_sl ([.ref h0, .int (nI ki), .int (nI kj)]) ++ List.replicate (5 - (lg_sl ([.ref h0, .int (nI ki), .int (nI kj)])).length) Slot.unset).toArray = ls at hl ⊢
  have hl : lv_has ls 5 [(0, .ref h0), (1, .int (nI ki)), (2, .int (nI kj))] := hl
  have inX3 : ∀ w ∈ u_ws RX3 TX3 17, w ∈ wsX9_proofCharacter := by decide +kernel
  have inX9 : ∀ w ∈ u_ws RX9 TX9 9, w ∈ wsX9_proofCharacter := by decide +kernel
  refine lv_aload_n hx hb dX9_proofCharacter_0 rfl (lv_at hl 0 rfl) ?_
  refine lv_iload_n hx hb dX9_proofCharacter_1 rfl (lv_at hl 1 rfl) ?_
  obtain ⟨hPc, hDc, hFc⟩ := PDq.cut (wc := [(oX9 h0 b0 (nI nb) p0 u0 r0 a0 t0 s0 o0), (oX3 p0 pr pb pe pg p1 (nI nd) p2 p3 p4 p5 (nI cn) p6 (nI pq) p7 p8 p9 (nI sc))]) hP hD hS hA [0, 1] (by decide) rfl
  refine va_callv (va_runV (As := [.int (nI ki)]) (rest := []) ⟨hx, hb, hml, hown, hts⟩ (x_needProofIn l D cA sa h0 b0 nb p0 u0 r0 a0 t0 s0 o0 p1 p2 p3 p4 p5 p6 p7 p8 p9 cn pq nd sc pr pb pe pg ki s.heap.size hcn hpq hnd hsc hki) (cwV 1 hts gX9_proofCharacter_X9_needProof rfl rfl rfl (by decide +kernel) ⟨(Nat.le_of_ble_eq_true rfl), (Nat.le_of_ble_eq_true rfl)⟩) ⟨Wd.blind, va_recv hK hPc (ci := 10) (q0 := 0) rfl rfl, fun U hU hW => ⟨rfl, Wd.call hPc hDc hK hC hZ hS hFc U hU hW⟩⟩ rfl rfl hl.1 rfl (lv_room (Nat.le_of_ble_eq_true rfl)) dX9_proofCharacter_2 ⟨(Nat.le_of_ble_eq_true rfl), (Nat.le_of_ble_eq_true rfl)⟩) hS (fun q _ h => hFc q h) hFc (fun u t H1 locs ht hvm hw hB hz1 hk1 hS => ?_)
  obtain ⟨hP1, hD1⟩ := hB
  rw [ht] at hP1
  obtain ⟨hP, hD⟩ := PDq.join (w := [(p6, .inl (cA 1, 8, .inr (.inl fpn))), (oX9 h0 b0 (nI nb) p0 u0 r0 a0 t0 s0 o0), (oX3 p0 pr pb pe pg p1 (nI nd) p2 p3 p4 p5 (nI cn) p6 (nI pq) p7 p8 p9 (nI sc))]) 1 hP hD [0, 1] [2] rfl rfl (by decide) (by decide) hk1 hFc hP1 hD1 rfl
  generalize H1 = H at hP hS ⊢
  refine lv_aload_n hx hb dX9_proofCharacter_5 rfl (lv_at hl 0 rfl) ?_
  refine va_get (D := D) (ci := 10) (v := .ref p0) (C := RX9) (T := TX9) (N := 9) hx hb hts inX9 hown hK hP 1 rfl rfl 2 (by decide) (hts (.fieldLink RX9 16 "EscrowDesk" "plan" "LEscrowDesk$Plan;") (by decide +kernel)) (fun _ h9 => h9) rfl dX9_proofCharacter_6 ?_
  refine va_getN (D := D) (ci := 7) (v := .ref p6) (C := RX3) (T := TX3) (N := 17) hx hb hts inX3 hown hK hP 2 rfl rfl 11 (by decide) (hC.f (A := _) (a := RX9) (i := 186) (b := "EscrowDesk$Plan") (n := "proofNames") (d := "[J") (x := "EscrowDesk") (by decide +kernel)) (fun _ h9 => h9) rfl dX9_proofCharacter_9 ?_
  refine lv_iload_n hx hb dX9_proofCharacter_12 rfl (lv_at hl 1 rfl) ?_
  refine va_lald hx hb hK hP 0 1 rfl rfl (vp_in_nI (n := ki) (N := 8) (show ki < 8 by omega) (by decide)) dX9_proofCharacter_13 ?_
  refine lv_topl (fun yn1 eyn1 => ?_)
  obtain rfl : yn1 = (fpn ki) := eyn1.trans (by rw [nI_clamp (by omega)])
  refine lv_lstore_n (lv' := [(3, .long (fpn ki)), (0, .ref h0), (1, .int (nI ki)), (2, .int (nI kj))]) hx hb dX9_proofCharacter_14 rfl hl (by decide) rfl (fun ls hl => ?_)
  refine lv_iload_n hx hb dX9_proofCharacter_15 rfl (lv_at hl 3 rfl) ?_
  refine lv_lload_n hx hb dX9_proofCharacter_16 rfl (lv_at hl 0 rfl) ?_
  obtain ⟨hPc, hDc, hFc⟩ := PDq.cut (wc := []) hP hD hS hA [] (by decide) rfl
  refine va_calli (va_runS (As := [.long (fpn ki)]) (rest := [.int (nI kj)]) ⟨hx, hb, hml, hown, hts⟩ (x_letterCount l D cA sa (fpn ki) x H.size hfx hx9) (va_cwS 1 hts gX9_proofCharacter_X8_letterCount rfl rfl rfl (by decide +kernel) ⟨(Nat.le_of_ble_eq_true rfl), (Nat.le_of_ble_eq_true rfl)⟩) ⟨Wd.blind, fun U hU hW => ⟨rfl, Wd.call hPc hDc hK hC hZ hS hFc U hU hW⟩⟩ rfl rfl hl.1 rfl (lv_room (Nat.le_of_ble_eq_true rfl)) dX9_proofCharacter_17 ⟨(Nat.le_of_ble_eq_true rfl), (Nat.le_of_ble_eq_true rfl)⟩) hS (fun q _ h => hFc q h) hFc (fun rn2 u t H1 locs ht hvm hw hB hz1 hk1 hS => ?_)
  obtain ⟨hP1, hD1⟩ := hB
  rw [ht] at hP1
  obtain ⟨hP, hD⟩ := PDq.join (w := [(p6, .inl (cA 1, 8, .inr (.inl fpn))), (oX9 h0 b0 (nI nb) p0 u0 r0 a0 t0 s0 o0), (oX3 p0 pr pb pe pg p1 (nI nd) p2 p3 p4 p5 (nI cn) p6 (nI pq) p7 p8 p9 (nI sc))]) 3 hP hD [] [0, 1, 2] rfl rfl (by decide) (by decide) hk1 hFc hP1 hD1 rfl
  generalize H1 = H at hP hS ⊢
  obtain ⟨kn3, hn4, hr9, hn5⟩ := hw
  subst hr9
  obtain rfl : n9 = kn3 := DC.uniq hdc hn5
  obtain ⟨hPc, hDc, hFc⟩ := PDq.cut (wc := []) hP hD hS hA [] (by decide) rfl
  refine va_callv (va_runS (As := [.int (nI kj), .int (nI n9)]) (rest := []) ⟨hx, hb, hml, hown, hts⟩ (x_needIndexIn l D cA sa kj n9 H.size hkj (by omega)) (va_cwS 2 hts gX9_proofCharacter_X9_needIndex rfl rfl rfl (by decide +kernel) ⟨(Nat.le_of_ble_eq_true rfl), (Nat.le_of_ble_eq_true rfl)⟩) ⟨Wd.blind, fun U hU hW => ⟨rfl, Wd.call hPc hDc hK hC hZ hS hFc U hU hW⟩⟩ rfl rfl hl.1 rfl (lv_room (Nat.le_of_ble_eq_true rfl)) dX9_proofCharacter_20 ⟨(Nat.le_of_ble_eq_true rfl), (Nat.le_of_ble_eq_true rfl)⟩) hS (fun q _ h => hFc q h) hFc (fun u t H1 locs ht hvm hw hB hz1 hk1 hS => ?_)
  obtain ⟨hP1, hD1⟩ := hB
  rw [ht] at hP1
  obtain ⟨hP, hD⟩ := PDq.join (w := [(p6, .inl (cA 1, 8, .inr (.inl fpn))), (oX9 h0 b0 (nI nb) p0 u0 r0 a0 t0 s0 o0), (oX3 p0 pr pb pe pg p1 (nI nd) p2 p3 p4 p5 (nI cn) p6 (nI pq) p7 p8 p9 (nI sc))]) 3 hP hD [] [0, 1, 2] rfl rfl (by decide) (by decide) hk1 hFc hP1 hD1 rfl
  generalize H1 = H at hP hS ⊢
  refine lv_lload_n hx hb dX9_proofCharacter_23 rfl (lv_at hl 0 rfl) ?_
  refine lv_iload_n hx hb dX9_proofCharacter_24 rfl (lv_at hl 3 rfl) ?_
  obtain ⟨hPc, hDc, hFc⟩ := PDq.cut (wc := []) hP hD hS hA [] (by decide) rfl
  refine va_calli (va_runS (As := [.long (fpn ki), .int (nI kj)]) (rest := []) ⟨hx, hb, hml, hown, hts⟩ (x_letterAt l D cA sa (fpn ki) x n9 kj H.size hfx hx9 hdc hkj) (va_cwS 2 hts gX9_proofCharacter_X8_letterAt rfl rfl rfl (by decide +kernel) ⟨(Nat.le_of_ble_eq_true rfl), (Nat.le_of_ble_eq_true rfl)⟩) ⟨Wd.blind, fun U hU hW => ⟨rfl, Wd.call hPc hDc hK hC hZ hS hFc U hU hW⟩⟩ rfl rfl hl.1 rfl (lv_room (Nat.le_of_ble_eq_true rfl)) dX9_proofCharacter_25 ⟨(Nat.le_of_ble_eq_true rfl), (Nat.le_of_ble_eq_true rfl)⟩) hS (fun q _ h => hFc q h) hFc (fun rn6 u t H1 locs ht hvm hw hB hz1 hk1 hS => ?_)
  obtain ⟨hP1, hD1⟩ := hB
  rw [ht] at hP1
  obtain ⟨hP, hD⟩ := PDq.join (w := [(p6, .inl (cA 1, 8, .inr (.inl fpn))), (oX9 h0 b0 (nI nb) p0 u0 r0 a0 t0 s0 o0), (oX3 p0 pr pb pe pg p1 (nI nd) p2 p3 p4 p5 (nI cn) p6 (nI pq) p7 p8 p9 (nI sc))]) 3 hP hD [] [0, 1, 2] rfl rfl (by decide) (by decide) hk1 hFc hP1 hD1 rfl
  generalize H1 = H at hP hS ⊢
  obtain rfl : rn6 = (nI (lt9 x n9 kj)) := hw
  obtain ⟨hP9, hD9⟩ := PDq.sub (ws' := [(oX9 h0 b0 (nI nb) p0 u0 r0 a0 t0 s0 o0), (oX3 p0 pr pb pe pg p1 (nI nd) p2 p3 p4 p5 (nI cn) p6 (nI pq) p7 p8 p9 (nI sc)), (p6, .inl (cA 1, 8, .inr (.inl fpn)))]) hP hD [1, 2, 0] (by decide) rfl
  refine W.widen (k := 0) (n := 0) (Nat.le_of_ble_eq_true rfl) (Nat.le_of_ble_eq_true rfl) ?_
  exact (W.zret (v := (nI (lt9 x n9 kj))) hx hb hr (lt9_nar x n9 kj) (fun t ht hW => ⟨⟨(nI (lt9 x n9 kj)), (), rfl, rfl, by rw [ht]; exact hP9, hD9⟩, hS.F ht⟩) hS.2.2 dX9_proofCharacter_28)

set_option maxHeartbeats 4000000 in
set_option maxRecDepth 100000 in
/-- proofCharacter: no such letter -/
theorem x_pcOutI (l : Launch) (D : va_G) (cA : Nat → ClassId) (sa : Nat → Nat) (h0 : Nat) (b0 : Nat) (nb : Nat) (p0 : Nat) (u0 : Nat) (r0 : Nat) (a0 : Nat) (t0 : Nat) (s0 : Nat) (o0 : Nat) (p1 : Nat) (p2 : Nat) (p3 : Nat) (p4 : Nat) (p5 : Nat) (p6 : Nat) (p7 : Nat) (p8 : Nat) (p9 : Nat) (cn : Nat) (pq : Nat) (nd : Nat) (sc : Nat) (pr : Int32) (pb : Int32) (pe : Int32) (pg : Int32) (ki : Nat) (x : Nat) (n9 : Nat) (j : Int32) (fpn : Nat → Int64) (sz : Nat) (hl9 : l.stackTraces = false) (hcn : cn ≤ 10) (hpq : pq ≤ 8) (hnd : nd ≤ 6) (hsc : sc ≤ 350) (hki : ki < pq) (hx9 : x < 35184372088832) (hfx : fpn ki = lN x) (hdc : DC x n9) (hout : ¬ ∃ k, k < n9 ∧ j = nI k) : vx_Met l yX9_proofCharacter wsX9_proofCharacter ({ frames := 7, cells := 1, slots := 6, locals := 111 }) (va_Pc [.ref h0, .int (nI ki), .int j] (Wd D cA sa [(oX9 h0 b0 (nI nb) p0 u0 r0 a0 t0 s0 o0), (oX3 p0 pr pb pe pg p1 (nI nd) p2 p3 p4 p5 (nI cn) p6 (nI pq) p7 p8 p9 (nI sc)), (p6, .inl (cA 1, 8, .inr (.inl fpn)))] sz)) (va_Qi (fun (_ : Int32) (_ : Unit) => False) (fun (_ : Unit) t => Wq D (va_A [(oX9 h0 b0 (nI nb) p0 u0 r0 a0 t0 s0 o0), (oX3 p0 pr pb pe pg p1 (nI nd) p2 p3 p4 p5 (nI cn) p6 (nI pq) p7 p8 p9 (nI sc)), (p6, .inl (cA 1, 8, .inr (.inl fpn)))] sz) [(oX9 h0 b0 (nI nb) p0 u0 r0 a0 t0 s0 o0), (oX3 p0 pr pb pe pg p1 (nI nd) p2 p3 p4 p5 (nI cn) p6 (nI pq) p7 p8 p9 (nI sc)), (p6, .inl (cA 1, 8, .inr (.inl fpn)))] t) (va_A [(oX9 h0 b0 (nI nb) p0 u0 r0 a0 t0 s0 o0), (oX3 p0 pr pb pe pg p1 (nI nd) p2 p3 p4 p5 (nI cn) p6 (nI pq) p7 p8 p9 (nI sc)), (p6, .inl (cA 1, 8, .inr (.inl fpn)))] sz)) (vx_X (fun _ : Unit => True) (fun E _ t => (E = "java/lang/IndexOutOfBoundsException") ∧ Wq D (va_A [(oX9 h0 b0 (nI nb) p0 u0 r0 a0 t0 s0 o0), (oX3 p0 pr pb pe pg p1 (nI nd) p2 p3 p4 p5 (nI cn) p6 (nI pq) p7 p8 p9 (nI sc)), (p6, .inl (cA 1, 8, .inr (.inl fpn)))] sz) [(oX9 h0 b0 (nI nb) p0 u0 r0 a0 t0 s0 o0), (oX3 p0 pr pb pe pg p1 (nI nd) p2 p3 p4 p5 (nI cn) p6 (nI pq) p7 p8 p9 (nI sc)), (p6, .inl (cA 1, 8, .inr (.inl fpn)))] t) (va_A [(oX9 h0 b0 (nI nb) p0 u0 r0 a0 t0 s0 o0), (oX3 p0 pr pb pe pg p1 (nI nd) p2 p3 p4 p5 (nI cn) p6 (nI pq) p7 p8 p9 (nI sc)), (p6, .inl (cA 1, 8, .inr (.inl fpn)))] sz)) 1 6 (va_A [(oX9 h0 b0 (nI nb) p0 u0 r0 a0 t0 s0 o0), (oX3 p0 pr pb pe pg p1 (nI nd) p2 p3 p4 p5 (nI cn) p6 (nI pq) p7 p8 p9 (nI sc)), (p6, .inl (cA 1, 8, .inr (.inl fpn)))] sz) := by
  refine vx_ofW (cc := cX9_proofCharacter) (maxL := 5) (ret := (some .char)) (by decide) rfl ?_
  intro p e s m args below meth c s₁ B hml hno hv
  obtain ⟨rfl, hsz, hP, hK, hD0, hC, hZ⟩ := hv
  have hx := B.exec
  have hb := B.bytes
  have hr := B.returns
  have hts := atoms_spec (ws := wsX9_proofCharacter) B.pre
  have hown : s.vm.findClass RX9 = some m.cls := findClass_of_methodNamed B.named
  have hlocks := B.notSynchronized
  subst hsz
  have hD := hD0.self (sz := s.heap.size)
  generalize hAe : va_A [(oX9 h0 b0 (nI nb) p0 u0 r0 a0 t0 s0 o0), (oX3 p0 pr pb pe pg p1 (nI nd) p2 p3 p4 p5 (nI cn) p6 (nI pq) p7 p8 p9 (nI sc)), (p6, .inl (cA 1, 8, .inr (.inl fpn)))] s.heap.size = A at hD hZ ⊢
  have hA : ∀ q : Nat, s.heap.size ≤ q → A q := fun q h => by rw [← hAe]; exact Or.inr h
  have hS : va_S A s.heap s.heap [] := va_S.rf
  have hP : va_P D vwCl [(oX9 h0 b0 (nI nb) p0 u0 r0 a0 t0 s0 o0), (oX3 p0 pr pb pe pg p1 (nI nd) p2 p3 p4 p5 (nI cn) p6 (nI pq) p7 p8 p9 (nI sc)), (p6, .inl (cA 1, 8, .inr (.inl fpn)))] s.heap := hP
  have hl := lv_entry ([.ref h0, .int (nI ki), .int j]) (n := 5) (Nat.le_of_ble_eq_true rfl)
  rw [lg_entry_eq]
  generalize (lg_sl ([.ref h0, .int (nI ki), .int j]) ++ List.replicate (5 - (lg_sl ([.ref h0, .int (nI ki), .int j])).length) Slot.unset).toArray = ls at hl ⊢
  have hl : lv_has ls 5 [(0, .ref h0), (1, .int (nI ki)), (2, .int j)] := hl
  have inX3 : ∀ w ∈ u_ws RX3 TX3 17, w ∈ wsX9_proofCharacter := by decide +kernel
  have inX9 : ∀ w ∈ u_ws RX9 TX9 9, w ∈ wsX9_proofCharacter := by decide +kernel
  refine lv_aload_n hx hb dX9_proofCharacter_0 rfl (lv_at hl 0 rfl) ?_
  refine lv_iload_n hx hb dX9_proofCharacter_1 rfl (lv_at hl 1 rfl) ?_
  obtain ⟨hPc, hDc, hFc⟩ := PDq.cut (wc := [(oX9 h0 b0 (nI nb) p0 u0 r0 a0 t0 s0 o0), (oX3 p0 pr pb pe pg p1 (nI nd) p2 p3 p4 p5 (nI cn) p6 (nI pq) p7 p8 p9 (nI sc))]) hP hD hS hA [0, 1] (by decide) rfl
  refine va_callv (va_runV (As := [.int (nI ki)]) (rest := []) ⟨hx, hb, hml, hown, hts⟩ (x_needProofIn l D cA sa h0 b0 nb p0 u0 r0 a0 t0 s0 o0 p1 p2 p3 p4 p5 p6 p7 p8 p9 cn pq nd sc pr pb pe pg ki s.heap.size hcn hpq hnd hsc hki) (cwV 1 hts gX9_proofCharacter_X9_needProof rfl rfl rfl (by decide +kernel) ⟨(Nat.le_of_ble_eq_true rfl), (Nat.le_of_ble_eq_true rfl)⟩) ⟨Wd.blind, va_recv hK hPc (ci := 10) (q0 := 0) rfl rfl, fun U hU hW => ⟨rfl, Wd.call hPc hDc hK hC hZ hS hFc U hU hW⟩⟩ rfl rfl hl.1 rfl (lv_room (Nat.le_of_ble_eq_true rfl)) dX9_proofCharacter_2 ⟨(Nat.le_of_ble_eq_true rfl), (Nat.le_of_ble_eq_true rfl)⟩) hS (fun q _ h => hFc q h) hFc (fun u t H1 locs ht hvm hw hB hz1 hk1 hS => ?_)
  obtain ⟨hP1, hD1⟩ := hB
  rw [ht] at hP1
  obtain ⟨hP, hD⟩ := PDq.join (w := [(p6, .inl (cA 1, 8, .inr (.inl fpn))), (oX9 h0 b0 (nI nb) p0 u0 r0 a0 t0 s0 o0), (oX3 p0 pr pb pe pg p1 (nI nd) p2 p3 p4 p5 (nI cn) p6 (nI pq) p7 p8 p9 (nI sc))]) 1 hP hD [0, 1] [2] rfl rfl (by decide) (by decide) hk1 hFc hP1 hD1 rfl
  generalize H1 = H at hP hS ⊢
  refine lv_aload_n hx hb dX9_proofCharacter_5 rfl (lv_at hl 0 rfl) ?_
  refine va_get (D := D) (ci := 10) (v := .ref p0) (C := RX9) (T := TX9) (N := 9) hx hb hts inX9 hown hK hP 1 rfl rfl 2 (by decide) (hts (.fieldLink RX9 16 "EscrowDesk" "plan" "LEscrowDesk$Plan;") (by decide +kernel)) (fun _ h9 => h9) rfl dX9_proofCharacter_6 ?_
  refine va_getN (D := D) (ci := 7) (v := .ref p6) (C := RX3) (T := TX3) (N := 17) hx hb hts inX3 hown hK hP 2 rfl rfl 11 (by decide) (hC.f (A := _) (a := RX9) (i := 186) (b := "EscrowDesk$Plan") (n := "proofNames") (d := "[J") (x := "EscrowDesk") (by decide +kernel)) (fun _ h9 => h9) rfl dX9_proofCharacter_9 ?_
  refine lv_iload_n hx hb dX9_proofCharacter_12 rfl (lv_at hl 1 rfl) ?_
  refine va_lald hx hb hK hP 0 1 rfl rfl (vp_in_nI (n := ki) (N := 8) (show ki < 8 by omega) (by decide)) dX9_proofCharacter_13 ?_
  refine lv_topl (fun yn1 eyn1 => ?_)
  obtain rfl : yn1 = (fpn ki) := eyn1.trans (by rw [nI_clamp (by omega)])
  refine lv_lstore_n (lv' := [(3, .long (fpn ki)), (0, .ref h0), (1, .int (nI ki)), (2, .int j)]) hx hb dX9_proofCharacter_14 rfl hl (by decide) rfl (fun ls hl => ?_)
  refine lv_iload_n hx hb dX9_proofCharacter_15 rfl (lv_at hl 3 rfl) ?_
  refine lv_lload_n hx hb dX9_proofCharacter_16 rfl (lv_at hl 0 rfl) ?_
  obtain ⟨hPc, hDc, hFc⟩ := PDq.cut (wc := []) hP hD hS hA [] (by decide) rfl
  refine va_calli (va_runS (As := [.long (fpn ki)]) (rest := [.int j]) ⟨hx, hb, hml, hown, hts⟩ (x_letterCount l D cA sa (fpn ki) x H.size hfx hx9) (va_cwS 1 hts gX9_proofCharacter_X8_letterCount rfl rfl rfl (by decide +kernel) ⟨(Nat.le_of_ble_eq_true rfl), (Nat.le_of_ble_eq_true rfl)⟩) ⟨Wd.blind, fun U hU hW => ⟨rfl, Wd.call hPc hDc hK hC hZ hS hFc U hU hW⟩⟩ rfl rfl hl.1 rfl (lv_room (Nat.le_of_ble_eq_true rfl)) dX9_proofCharacter_17 ⟨(Nat.le_of_ble_eq_true rfl), (Nat.le_of_ble_eq_true rfl)⟩) hS (fun q _ h => hFc q h) hFc (fun rn2 u t H1 locs ht hvm hw hB hz1 hk1 hS => ?_)
  obtain ⟨hP1, hD1⟩ := hB
  rw [ht] at hP1
  obtain ⟨hP, hD⟩ := PDq.join (w := [(p6, .inl (cA 1, 8, .inr (.inl fpn))), (oX9 h0 b0 (nI nb) p0 u0 r0 a0 t0 s0 o0), (oX3 p0 pr pb pe pg p1 (nI nd) p2 p3 p4 p5 (nI cn) p6 (nI pq) p7 p8 p9 (nI sc))]) 3 hP hD [] [0, 1, 2] rfl rfl (by decide) (by decide) hk1 hFc hP1 hD1 rfl
  generalize H1 = H at hP hS ⊢
  obtain ⟨kn3, hn4, hr9, hn5⟩ := hw
  subst hr9
  obtain rfl : n9 = kn3 := DC.uniq hdc hn5
  obtain ⟨hPc, hDc, hFc⟩ := PDq.cut (wc := []) hP hD hS hA [] (by decide) rfl
  refine vx_callv (vx_runS (As := [.int j, .int (nI n9)]) (rest := []) ⟨hx, hb, hml, hown, hts⟩ (x_needIndexOut l D cA sa j n9 H.size hl9 (by omega) hout) (va_cwS 2 hts gX9_proofCharacter_X9_needIndex rfl rfl rfl (by decide +kernel) ⟨(Nat.le_of_ble_eq_true rfl), (Nat.le_of_ble_eq_true rfl)⟩) ⟨Wd.blind, fun U hU hW => ⟨rfl, Wd.call hPc hDc hK hC hZ hS hFc U hU hW⟩⟩ rfl rfl hl.1 rfl (lv_room (Nat.le_of_ble_eq_true rfl)) dX9_proofCharacter_20 ⟨(Nat.le_of_ble_eq_true rfl), (Nat.le_of_ble_eq_true rfl)⟩) hS (fun q _ h => hFc q h) hFc (fun q _ h => hFc q h) (fun E ce q9 u t H1 locs ht hvm hpx hE hz1 hk1 hS hcell hv9 hcl => ?_) (fun u t H1 locs ht hvm hw hB hz1 hk1 hS => ?_)
  · skip
    obtain ⟨hE, hP1, hD1⟩ := hE
    rw [ht] at hP1
    obtain ⟨hP, hD⟩ := PDq.join (w := [(p6, .inl (cA 1, 8, .inr (.inl fpn))), (oX9 h0 b0 (nI nb) p0 u0 r0 a0 t0 s0 o0), (oX3 p0 pr pb pe pg p1 (nI nd) p2 p3 p4 p5 (nI cn) p6 (nI pq) p7 p8 p9 (nI sc))]) 3 hP hD [] [0, 1, 2] rfl rfl (by decide) (by decide) hk1 hFc hP1 hD1 rfl
    generalize H1 = H at hP hS hcell ⊢
    obtain ⟨hP9, hD9⟩ := PDq.sub (ws' := [(oX9 h0 b0 (nI nb) p0 u0 r0 a0 t0 s0 o0), (oX3 p0 pr pb pe pg p1 (nI nd) p2 p3 p4 p5 (nI cn) p6 (nI pq) p7 p8 p9 (nI sc)), (p6, .inl (cA 1, 8, .inr (.inl fpn)))]) hP hD [1, 2, 0] (by decide) rfl
    exact vx_out (fun x h => (hno x h).elim) hlocks hcell hv9 hcl (fun t ht hvm => ⟨(), trivial, ⟨hE, by rw [ht]; exact hP9, hD9⟩, hS.F ht⟩) hS.2.2 (Nat.le_of_ble_eq_true rfl) (Nat.le_of_ble_eq_true rfl)
  · skip
    exact hw.elim

set_option maxHeartbeats 4000000 in
set_option maxRecDepth 100000 in
/-- proofCharacter: no such proof -/
theorem x_pcOutP (l : Launch) (D : va_G) (cA : Nat → ClassId) (sa : Nat → Nat) (h0 : Nat) (b0 : Nat) (nb : Nat) (p0 : Nat) (u0 : Nat) (r0 : Nat) (a0 : Nat) (t0 : Nat) (s0 : Nat) (o0 : Nat) (p1 : Nat) (p2 : Nat) (p3 : Nat) (p4 : Nat) (p5 : Nat) (p6 : Nat) (p7 : Nat) (p8 : Nat) (p9 : Nat) (cn : Nat) (pq : Nat) (nd : Nat) (sc : Nat) (pr : Int32) (pb : Int32) (pe : Int32) (pg : Int32) (i : Int32) (j : Int32) (sz : Nat) (hl9 : l.stackTraces = false) (hcn : cn ≤ 10) (hpq : pq ≤ 8) (hnd : nd ≤ 6) (hsc : sc ≤ 350) (hout : ¬ ∃ k, k < pq ∧ i = nI k) : vx_Met l yX9_proofCharacter wsX9_proofCharacter ({ frames := 8, cells := 1, slots := 6, locals := 132 }) (va_Pc [.ref h0, .int i, .int j] (Wd D cA sa [(oX9 h0 b0 (nI nb) p0 u0 r0 a0 t0 s0 o0), (oX3 p0 pr pb pe pg p1 (nI nd) p2 p3 p4 p5 (nI cn) p6 (nI pq) p7 p8 p9 (nI sc))] sz)) (va_Qi (fun (_ : Int32) (_ : Unit) => False) (fun (_ : Unit) t => Wq D (va_A [(oX9 h0 b0 (nI nb) p0 u0 r0 a0 t0 s0 o0), (oX3 p0 pr pb pe pg p1 (nI nd) p2 p3 p4 p5 (nI cn) p6 (nI pq) p7 p8 p9 (nI sc))] sz) [(oX9 h0 b0 (nI nb) p0 u0 r0 a0 t0 s0 o0), (oX3 p0 pr pb pe pg p1 (nI nd) p2 p3 p4 p5 (nI cn) p6 (nI pq) p7 p8 p9 (nI sc))] t) (va_A [(oX9 h0 b0 (nI nb) p0 u0 r0 a0 t0 s0 o0), (oX3 p0 pr pb pe pg p1 (nI nd) p2 p3 p4 p5 (nI cn) p6 (nI pq) p7 p8 p9 (nI sc))] sz)) (vx_X (fun _ : Unit => True) (fun E _ t => (E = "java/lang/IndexOutOfBoundsException") ∧ Wq D (va_A [(oX9 h0 b0 (nI nb) p0 u0 r0 a0 t0 s0 o0), (oX3 p0 pr pb pe pg p1 (nI nd) p2 p3 p4 p5 (nI cn) p6 (nI pq) p7 p8 p9 (nI sc))] sz) [(oX9 h0 b0 (nI nb) p0 u0 r0 a0 t0 s0 o0), (oX3 p0 pr pb pe pg p1 (nI nd) p2 p3 p4 p5 (nI cn) p6 (nI pq) p7 p8 p9 (nI sc))] t) (va_A [(oX9 h0 b0 (nI nb) p0 u0 r0 a0 t0 s0 o0), (oX3 p0 pr pb pe pg p1 (nI nd) p2 p3 p4 p5 (nI cn) p6 (nI pq) p7 p8 p9 (nI sc))] sz)) 1 6 (va_A [(oX9 h0 b0 (nI nb) p0 u0 r0 a0 t0 s0 o0), (oX3 p0 pr pb pe pg p1 (nI nd) p2 p3 p4 p5 (nI cn) p6 (nI pq) p7 p8 p9 (nI sc))] sz) := by
  refine vx_ofW (cc := cX9_proofCharacter) (maxL := 5) (ret := (some .char)) (by decide) rfl ?_
  intro p e s m args below meth c s₁ B hml hno hv
  obtain ⟨rfl, hsz, hP, hK, hD0, hC, hZ⟩ := hv
  have hx := B.exec
  have hb := B.bytes
  have hr := B.returns
  have hts := atoms_spec (ws := wsX9_proofCharacter) B.pre
  have hown : s.vm.findClass RX9 = some m.cls := findClass_of_methodNamed B.named
  have hlocks := B.notSynchronized
  subst hsz
  have hD := hD0.self (sz := s.heap.size)
  generalize hAe : va_A [(oX9 h0 b0 (nI nb) p0 u0 r0 a0 t0 s0 o0), (oX3 p0 pr pb pe pg p1 (nI nd) p2 p3 p4 p5 (nI cn) p6 (nI pq) p7 p8 p9 (nI sc))] s.heap.size = A at hD hZ ⊢
  have hA : ∀ q : Nat, s.heap.size ≤ q → A q := fun q h => by rw [← hAe]; exact Or.inr h
  have hS : va_S A s.heap s.heap [] := va_S.rf
  have hP : va_P D vwCl [(oX9 h0 b0 (nI nb) p0 u0 r0 a0 t0 s0 o0), (oX3 p0 pr pb pe pg p1 (nI nd) p2 p3 p4 p5 (nI cn) p6 (nI pq) p7 p8 p9 (nI sc))] s.heap := hP
  have hl := lv_entry ([.ref h0, .int i, .int j]) (n := 5) (Nat.le_of_ble_eq_true rfl)
  rw [lg_entry_eq]
  generalize (lg_sl ([.ref h0, .int i, .int j]) ++ List.replicate (5 - (lg_sl ([.ref h0, .int i, .int j])).length) Slot.unset).toArray = ls at hl ⊢
  have hl : lv_has ls 5 [(0, .ref h0), (1, .int i), (2, .int j)] := hl
  refine lv_aload_n hx hb dX9_proofCharacter_0 rfl (lv_at hl 0 rfl) ?_
  refine lv_iload_n hx hb dX9_proofCharacter_1 rfl (lv_at hl 1 rfl) ?_
  obtain ⟨hPc, hDc, hFc⟩ := PDq.cut (wc := [(oX9 h0 b0 (nI nb) p0 u0 r0 a0 t0 s0 o0), (oX3 p0 pr pb pe pg p1 (nI nd) p2 p3 p4 p5 (nI cn) p6 (nI pq) p7 p8 p9 (nI sc))]) hP hD hS hA [0, 1] (by decide) rfl
  refine vx_callv (vx_runV (As := [.int i]) (rest := []) ⟨hx, hb, hml, hown, hts⟩ (x_needProofOut l D cA sa h0 b0 nb p0 u0 r0 a0 t0 s0 o0 p1 p2 p3 p4 p5 p6 p7 p8 p9 cn pq nd sc pr pb pe pg i s.heap.size hl9 hcn hpq hnd hsc hout) (cwV 1 hts gX9_proofCharacter_X9_needProof rfl rfl rfl (by decide +kernel) ⟨(Nat.le_of_ble_eq_true rfl), (Nat.le_of_ble_eq_true rfl)⟩) ⟨Wd.blind, va_recv hK hPc (ci := 10) (q0 := 0) rfl rfl, fun U hU hW => ⟨rfl, Wd.call hPc hDc hK hC hZ hS hFc U hU hW⟩⟩ rfl rfl hl.1 rfl (lv_room (Nat.le_of_ble_eq_true rfl)) dX9_proofCharacter_2 ⟨(Nat.le_of_ble_eq_true rfl), (Nat.le_of_ble_eq_true rfl)⟩) hS (fun q _ h => hFc q h) hFc (fun q _ h => hFc q h) (fun E ce q9 u t H1 locs ht hvm hpx hE hz1 hk1 hS hcell hv9 hcl => ?_) (fun u t H1 locs ht hvm hw hB hz1 hk1 hS => ?_)
  · skip
    obtain ⟨hE, hP1, hD1⟩ := hE
    rw [ht] at hP1
    obtain ⟨hP, hD⟩ := PDq.join (w := [(oX9 h0 b0 (nI nb) p0 u0 r0 a0 t0 s0 o0), (oX3 p0 pr pb pe pg p1 (nI nd) p2 p3 p4 p5 (nI cn) p6 (nI pq) p7 p8 p9 (nI sc))]) 0 hP hD [0, 1] [] rfl rfl (by decide) (by decide) hk1 hFc hP1 hD1 rfl
    generalize H1 = H at hP hS hcell ⊢
    obtain ⟨hP9, hD9⟩ := PDq.sub (ws' := [(oX9 h0 b0 (nI nb) p0 u0 r0 a0 t0 s0 o0), (oX3 p0 pr pb pe pg p1 (nI nd) p2 p3 p4 p5 (nI cn) p6 (nI pq) p7 p8 p9 (nI sc))]) hP hD [0, 1] (by decide) rfl
    exact vx_out (fun x h => (hno x h).elim) hlocks hcell hv9 hcl (fun t ht hvm => ⟨(), trivial, ⟨hE, by rw [ht]; exact hP9, hD9⟩, hS.F ht⟩) hS.2.2 (Nat.le_of_ble_eq_true rfl) (Nat.le_of_ble_eq_true rfl)
  · skip
    exact hw.elim

set_option maxHeartbeats 4000000 in
set_option maxRecDepth 100000 in
/-- reference: lettersOf -/
theorem y_lettersOf (l : Launch) (D : va_G) (cA : Nat → ClassId) (sa : Nat → Nat) (w : Int64) (x : Nat) (sz : Nat) (hwx : w = lN x) (hx9 : x < 35184372088832) : Met l yX10_lettersOf wsX10_lettersOf ({ frames := 0, cells := 0, slots := 0, locals := 0 }) (va_Pc [.long w] (Wd D cA sa [] sz)) (va_Qi (fun (r : Int32) (_ : Unit) => ∃ n, n < 10 ∧ r = nI n ∧ DC x n) (fun (_ : Unit) t => Wq D (va_A [] sz) [] t) (va_A [] sz)) 0 0 (va_A [] sz) := by
  refine Met.ofW (cc := cX10_lettersOf) (maxL := 5) (ret := (some .int)) (by decide) rfl ?_
  intro p e s m args below meth c s₁ B hml hv
  obtain ⟨rfl, hsz, hP, hK, hD0, hC, hZ⟩ := hv
  have hx := B.exec
  have hb := B.bytes
  have hr := B.returns
  have hts := atoms_spec (ws := wsX10_lettersOf) B.pre
  have hown : s.vm.findClass RX10 = some m.cls := findClass_of_methodNamed B.named
  have hlocks := B.notSynchronized
  subst hsz
  have hD := hD0.self (sz := s.heap.size)
  generalize hAe : va_A [] s.heap.size = A at hD hZ ⊢
  have hA : ∀ q : Nat, s.heap.size ≤ q → A q := fun q h => by rw [← hAe]; exact Or.inr h
  have hS : va_S A s.heap s.heap [] := va_S.rf
  have hP : va_P D vwCl [] s.heap := hP
  have hl := lv_entry ([.long w]) (n := 5) (Nat.le_of_ble_eq_true rfl)
  rw [lg_entry_eq]
  generalize (lg_sl ([.long w]) ++ List.replicate (5 - (lg_sl ([.long w])).length) Slot.unset).toArray = ls at hl ⊢
  have hl : lv_has ls 5 [(0, .long w)] := hl
  refine lv_iconst (v := 0) hx hb dX10_lettersOf_0 (by decide) ?_
  refine lv_istore_n (lv' := [(2, .int 0), (0, .long w)]) hx hb dX10_lettersOf_1 rfl hl (by decide) rfl (fun ls hl => ?_)
  refine lv_lload_n hx hb dX10_lettersOf_2 rfl (lv_at hl 1 rfl) ?_
  refine lv_lstore_n (lv' := [(3, .long w), (2, .int 0), (0, .long w)]) hx hb dX10_lettersOf_3 rfl hl (by decide) rfl (fun ls hl => ?_)
  have loop1 : ∀ (n1 i1 : Nat) (x3_1 : Int64) (H : Heap) (locs : List Loc) (ls : Array Slot), i1 + n1 = 9 → RLx x i1 x3_1 → va_P D vwCl [] H → va_D A [] → va_S A s.heap H locs → lv_has ls 5 [(3, .long x3_1), (2, .int (nI i1)), (0, .long w)] → W p l e (headSpec wsX10_lettersOf ({ frames := 0, cells := 0, slots := 0, locals := 0 } : Room)).room s m ([.long w] : List Value).toArray below meth c H locs 0 0 (MQ below (va_Qi (fun (r : Int32) (_ : Unit) => ∃ n, n < 10 ∧ r = nI n ∧ DC x n) (fun (_ : Unit) t => Wq D A [] t) A) ([.long w] : List Value).toArray s 0 0 A) (F0 m 4 ls []) := by
    intro n1
    induction n1 with
    | zero =>
      intro i1 x3_1 H locs ls hi1 hv0_1 hP hD hS hl
      obtain rfl : 9 = i1 := by omega
      refine lv_lload_n hx hb dX10_lettersOf_4 rfl (lv_at hl 0 rfl) ?_
      refine lv_lconst (v := 0) hx hb dX10_lettersOf_5 (by decide) ?_
      refine W.lcmp hx hb dX10_lettersOf_6 ?_
      refine lv_if_le (tgt := 22) hx hb dX10_lettersOf_7 (by decide) (fun c1 => ?_) (fun c9 => absurd c9 (fun h9 => h9 (RLx.last hx9 hv0_1)))
      refine lv_iload_n hx hb dX10_lettersOf_22 rfl (lv_at hl 1 rfl) ?_
      obtain ⟨hP9, hD9⟩ := PDq.sub (ws' := []) hP hD [] (by decide) rfl
      refine W.widen (k := 0) (n := 0) (Nat.le_of_ble_eq_true rfl) (Nat.le_of_ble_eq_true rfl) ?_
      exact (W.iret (v := (nI 9)) hx hb hr (fun t ht hW => ⟨⟨(nI 9), (), rfl, ⟨9, by omega, rfl, RLx.stop hx9 hv0_1 c1⟩, by rw [ht]; exact hP9, hD9⟩, hS.F ht⟩) hS.2.2 dX10_lettersOf_23)
    | succ n1 ih1 =>
      intro i1 x3_1 H locs ls hi1 hv0_1 hP hD hS hl
      refine lv_lload_n hx hb dX10_lettersOf_4 rfl (lv_at hl 0 rfl) ?_
      refine lv_lconst (v := 0) hx hb dX10_lettersOf_5 (by decide) ?_
      refine W.lcmp hx hb dX10_lettersOf_6 ?_
      refine lv_if_le (tgt := 22) hx hb dX10_lettersOf_7 (by decide) (fun c2 => ?_) (fun c2 => ?_)
      · skip
        refine lv_iload_n hx hb dX10_lettersOf_22 rfl (lv_at hl 1 rfl) ?_
        obtain ⟨hP9, hD9⟩ := PDq.sub (ws' := []) hP hD [] (by decide) rfl
        refine W.widen (k := 0) (n := 0) (Nat.le_of_ble_eq_true rfl) (Nat.le_of_ble_eq_true rfl) ?_
        exact (W.iret (v := (nI i1)) hx hb hr (fun t ht hW => ⟨⟨(nI i1), (), rfl, ⟨i1, by omega, rfl, RLx.stop hx9 hv0_1 c2⟩, by rw [ht]; exact hP9, hD9⟩, hS.F ht⟩) hS.2.2 dX10_lettersOf_23)
      · skip
        refine lv_iinc (v := (nI (i1 + 1))) (lv' := [(2, .int (nI (i1 + 1))), (3, .long x3_1), (0, .long w)]) hx hb dX10_lettersOf_10 hl (k := 1) rfl (nI_1 _) (by decide) rfl (fun ls hl => ?_)
        refine lv_lload_n hx hb dX10_lettersOf_13 rfl (lv_at hl 1 rfl) ?_
        refine lv_ldc2 (v := 32) hx hb hown (hts (.constantLong RX10 103 32) (by decide +kernel)) dX10_lettersOf_14 ?_
        refine lv_ldiv hx hb dX10_lettersOf_17 (by decide) ?_
        refine lv_topl (fun yn3 eyn3 => ?_)
        refine lv_lstore_n (lv' := [(3, .long yn3), (2, .int (nI (i1 + 1))), (0, .long w)]) hx hb dX10_lettersOf_18 rfl hl (by decide) rfl (fun ls hl => ?_)
        refine lv_goto (tgt := 4) hx hb dX10_lettersOf_19 (by decide) ?_
        obtain ⟨hP9, hD9⟩ := PDq.sub (ws' := []) hP hD [] (by decide) rfl
        exact ih1 (i1 + 1) yn3 H _ ls (by omega) (RLx.step hx9 hv0_1 (Int32.not_le.mp c2) eyn3) hP9 hD9 hS (lv_sub hl [0, 1, 2] rfl)
  obtain ⟨hP9, hD9⟩ := PDq.sub (ws' := []) hP hD [] (by decide) rfl
  exact loop1 (9 - 0) 0 w _ _ ls (by omega) (RLx.zero hwx) hP9 hD9 hS (lv_sub hl [0, 1, 2] rfl)

set_option maxHeartbeats 4000000 in
set_option maxRecDepth 100000 in
/-- reference: letterOf -/
theorem y_letterOf (l : Launch) (D : va_G) (cA : Nat → ClassId) (sa : Nat → Nat) (w : Int64) (x : Nat) (n9 : Nat) (kj : Nat) (sz : Nat) (hwx : w = lN x) (hx9 : x < 35184372088832) (hdc : DC x n9) (hkj : kj < n9) : Met l yX10_letterOf wsX10_letterOf ({ frames := 1, cells := 0, slots := 0, locals := 24 }) (va_Pc [.long w, .int (nI kj)] (Wd D cA sa [] sz)) (va_Qi (fun (r : Int32) (_ : Unit) => r = nI (lt9 x n9 kj)) (fun (_ : Unit) t => Wq D (va_A [] sz) [] t) (va_A [] sz)) 0 0 (va_A [] sz) := by
  refine Met.ofW (cc := cX10_letterOf) (maxL := 6) (ret := (some .int)) (by decide) rfl ?_
  intro p e s m args below meth c s₁ B hml hv
  obtain ⟨rfl, hsz, hP, hK, hD0, hC, hZ⟩ := hv
  have hx := B.exec
  have hb := B.bytes
  have hr := B.returns
  have hts := atoms_spec (ws := wsX10_letterOf) B.pre
  have hown : s.vm.findClass RX10 = some m.cls := findClass_of_methodNamed B.named
  have hlocks := B.notSynchronized
  subst hsz
  have hD := hD0.self (sz := s.heap.size)
  generalize hAe : va_A [] s.heap.size = A at hD hZ ⊢
  have hA : ∀ q : Nat, s.heap.size ≤ q → A q := fun q h => by rw [← hAe]; exact Or.inr h
  have hS : va_S A s.heap s.heap [] := va_S.rf
  have hP : va_P D vwCl [] s.heap := hP
  have hl := lv_entry ([.long w, .int (nI kj)]) (n := 6) (Nat.le_of_ble_eq_true rfl)
  rw [lg_entry_eq]
  generalize (lg_sl ([.long w, .int (nI kj)]) ++ List.replicate (6 - (lg_sl ([.long w, .int (nI kj)])).length) Slot.unset).toArray = ls at hl ⊢
  have hl : lv_has ls 6 [(0, .long w), (2, .int (nI kj))] := hl
  refine lv_lload_n hx hb dX10_letterOf_0 rfl (lv_at hl 0 rfl) ?_
  refine lv_lstore_n (lv' := [(3, .long w), (0, .long w), (2, .int (nI kj))]) hx hb dX10_letterOf_1 rfl hl (by decide) rfl (fun ls hl => ?_)
  refine lv_lload_n hx hb dX10_letterOf_2 rfl (lv_at hl 1 rfl) ?_
  obtain ⟨hPc, hDc, hFc⟩ := PDq.cut (wc := []) hP hD hS hA [] (by decide) rfl
  refine va_calli (va_runS (As := [.long w]) (rest := []) ⟨hx, hb, hml, hown, hts⟩ (y_lettersOf l D cA sa w x s.heap.size hwx hx9) (va_cwS 1 hts gX10_letterOf_X10_lettersOf rfl rfl rfl (by decide +kernel) ⟨(Nat.le_of_ble_eq_true rfl), (Nat.le_of_ble_eq_true rfl)⟩) ⟨Wd.blind, fun U hU hW => ⟨rfl, Wd.call hPc hDc hK hC hZ hS hFc U hU hW⟩⟩ rfl rfl hl.1 rfl (lv_room (Nat.le_of_ble_eq_true rfl)) dX10_letterOf_3 ⟨(Nat.le_of_ble_eq_true rfl), (Nat.le_of_ble_eq_true rfl)⟩) hS (fun q _ h => hFc q h) hFc (fun rn1 u t H1 locs ht hvm hw hB hz1 hk1 hS => ?_)
  obtain ⟨hP1, hD1⟩ := hB
  rw [ht] at hP1
  obtain ⟨hP, hD⟩ := PDq.join (w := []) 0 hP hD [] [] rfl rfl (by decide) (by decide) hk1 hFc hP1 hD1 rfl
  generalize H1 = H at hP hS ⊢
  obtain ⟨kn2, hn3, hr9, hn4⟩ := hw
  subst hr9
  obtain rfl : n9 = kn2 := DC.uniq hdc hn4
  refine lv_iconst (v := 1) hx hb dX10_letterOf_6 (by decide) ?_
  refine lv_isub hx hb dX10_letterOf_7 ?_
  refine lv_topi (fun yn5 eyn5 => ?_)
  obtain rfl : yn5 = (nI (n9 - 1)) := eyn5.trans (nI_sub (a := n9) (b := 1) (by omega))
  refine lv_istore (lv' := [(5, .int (nI (n9 - 1))), (3, .long w), (0, .long w), (2, .int (nI kj))]) hx hb dX10_letterOf_8 hl (by decide) rfl (fun ls hl => ?_)
  have loop1 : ∀ (n1 : Nat) (x3_1 : Int64) (H : Heap) (locs : List Loc) (ls : Array Slot), RD x n9 (kj + n1) x3_1 → kj + n1 < n9 → va_P D vwCl [] H → va_D A [] → va_S A s.heap H locs → lv_has ls 6 [(5, .int (nI (kj + n1))), (3, .long x3_1), (0, .long w), (2, .int (nI kj))] → W p l e (headSpec wsX10_letterOf ({ frames := 1, cells := 0, slots := 0, locals := 24 } : Room)).room s m ([.long w, .int (nI kj)] : List Value).toArray below meth c H locs 0 0 (MQ below (va_Qi (fun (r : Int32) (_ : Unit) => r = nI (lt9 x n9 kj)) (fun (_ : Unit) t => Wq D A [] t) A) ([.long w, .int (nI kj)] : List Value).toArray s 0 0 A) (F0 m 10 ls []) := by
    intro n1
    induction n1 with
    | zero =>
      intro x3_1 H locs ls hv0_1 hv1_1 hP hD hS hl
      have hl : lv_has ls 6 [(5, .int (nI kj)), (3, .long x3_1), (0, .long w), (2, .int (nI kj))] := hl
      refine lv_iload hx hb dX10_letterOf_10 (lv_at hl 0 rfl) ?_
      refine lv_iload_n hx hb dX10_letterOf_12 rfl (lv_at hl 3 rfl) ?_
      refine lv_icmp_le (tgt := 28) hx hb dX10_letterOf_13 (by decide) (fun c6 => ?_) (fun c9 => absurd (nI_le (a := kj) (b := kj) (show kj ≤ kj by omega) (by omega)) c9)
      refine lv_lload_n hx hb dX10_letterOf_28 rfl (lv_at hl 1 rfl) ?_
      refine lv_ldc2 (v := 32) hx hb hown (hts (.constantLong RX10 103 32) (by decide +kernel)) dX10_letterOf_29 ?_
      refine lv_lrem hx hb dX10_letterOf_32 (by decide) ?_
      refine lv_topl (fun yn7 eyn7 => ?_)
      refine lv_l2i (v := yn7.toInt32) hx hb dX10_letterOf_33 rfl ?_
      refine lv_topi (fun yn8 eyn8 => ?_)
      refine lv_bipush (v := 96) hx hb dX10_letterOf_34 (by decide) ?_
      refine lv_iadd hx hb dX10_letterOf_36 ?_
      refine lv_topi (fun yn9 eyn9 => ?_)
      obtain ⟨hP9, hD9⟩ := PDq.sub (ws' := []) hP hD [] (by decide) rfl
      refine W.widen (k := 0) (n := 0) (Nat.le_of_ble_eq_true rfl) (Nat.le_of_ble_eq_true rfl) ?_
      exact (W.iret (v := yn9) hx hb hr (fun t ht hW => ⟨⟨yn9, (), rfl, (lo_x hx9 (show RD x n9 kj x3_1 from hv0_1) eyn7 eyn8 eyn9), by rw [ht]; exact hP9, hD9⟩, hS.F ht⟩) hS.2.2 dX10_letterOf_37)
    | succ n1 ih1 =>
      intro x3_1 H locs ls hv0_1 hv1_1 hP hD hS hl
      have hl : lv_has ls 6 [(5, .int (nI (kj + n1 + 1))), (3, .long x3_1), (0, .long w), (2, .int (nI kj))] := hl
      refine lv_iload hx hb dX10_letterOf_10 (lv_at hl 0 rfl) ?_
      refine lv_iload_n hx hb dX10_letterOf_12 rfl (lv_at hl 3 rfl) ?_
      refine lv_icmp_le (tgt := 28) hx hb dX10_letterOf_13 (by decide) (fun c9 => absurd c9 (nI_ge (a := kj) (b := (kj + n1 + 1)) (show kj < (kj + n1 + 1) by omega) (by omega))) (fun c10 => ?_)
      refine lv_lload_n hx hb dX10_letterOf_16 rfl (lv_at hl 1 rfl) ?_
      refine lv_ldc2 (v := 32) hx hb hown (hts (.constantLong RX10 103 32) (by decide +kernel)) dX10_letterOf_17 ?_
      refine lv_ldiv hx hb dX10_letterOf_20 (by decide) ?_
      refine lv_topl (fun yn11 eyn11 => ?_)
      refine lv_lstore_n (lv' := [(3, .long yn11), (5, .int (nI (kj + n1 + 1))), (0, .long w), (2, .int (nI kj))]) hx hb dX10_letterOf_21 rfl hl (by decide) rfl (fun ls hl => ?_)
      refine lv_iinc (v := (nI (kj + n1))) (lv' := [(5, .int (nI (kj + n1))), (3, .long yn11), (0, .long w), (2, .int (nI kj))]) hx hb dX10_letterOf_22 hl (k := 1) rfl (nI_dec (a := (kj + n1 + 1)) (b := (kj + n1)) (by omega)) (by decide) rfl (fun ls hl => ?_)
      refine lv_goto (tgt := 10) hx hb dX10_letterOf_25 (by decide) ?_
      obtain ⟨hP9, hD9⟩ := PDq.sub (ws' := []) hP hD [] (by decide) rfl
      exact ih1 yn11 H _ ls (RD.step hx9 (by omega) (show RD x n9 (kj + n1 + 1) x3_1 from hv0_1) eyn11) (by omega) hP9 hD9 hS (lv_sub hl [0, 1, 2, 3] rfl)
  obtain ⟨hP9, hD9⟩ := PDq.sub (ws' := []) hP hD [] (by decide) rfl
  exact loop1 ((n9 - 1) - kj) w _ _ ls (RD.start hwx (by omega)) (by omega) hP9 hD9 hS (by have q9 := lv_sub hl [0, 1, 2, 3] rfl; rw [show (n9 - 1) = kj + ((n9 - 1) - kj) by omega] at q9; exact q9)

set_option maxHeartbeats 4000000 in
set_option maxRecDepth 100000 in
/-- reference: isProof -/
theorem y_isProofIn (l : Launch) (D : va_G) (cA : Nat → ClassId) (sa : Nat → Nat) (w0 : Nat) (ed : Nat) (nb : Nat) (ol : Nat) (v0 : Nat) (v1 : Nat) (v2 : Nat) (v3 : Nat) (v4 : Nat) (v9 : Nat) (v13 : Nat) (v27 : Nat) (v28 : Nat) (v29 : Nat) (v30 : Nat) (v31 : Nat) (v32 : Nat) (v33 : Nat) (v34 : Nat) (v35 : Nat) (v36 : Nat) (v37 : Nat) (g8 : Int32) (g11 : Int32) (g12 : Int32) (g14 : Int32) (g15 : Int32) (g16 : Int32) (g17 : Int32) (g18 : Int32) (g19 : Int32) (g20 : Int32) (g21 : Int32) (g22 : Int32) (g23 : Int32) (g24 : Int32) (g26 : Int32) (g5 : Int64) (g6 : Int64) (g25 : Int64) (cn : Nat) (pq : Nat) (en : Nat) (dy : Nat) (fs : Nat → Int32) (ki : Nat) (sz : Nat) (hcn : cn ≤ 10) (hpq : pq ≤ 8) (hen : en ≤ 60) (hdy : dy ≤ 20000) (hri : RI cn pq en dy fs) (hki : ki < pq) : Met l yX10_isProof wsX10_isProof ({ frames := 1, cells := 0, slots := 0, locals := 25 }) (va_Pc [.ref w0, .int (nI ki)] (Wd D cA sa [(oX10 w0 v0 v1 v2 v3 v4 g5 g6 (nI ed) g8 v9 (nI nb) g11 g12 v13 g14 g15 g16 g17 g18 g19 g20 g21 g22 g23 g24 g25 g26 v27 v28 v29 v30 v31 v32 v33 v34 v35 v36 v37 (nI ol)), (v0, .inl (cA 0, 326, .inl fs))] sz)) (va_Qi (fun (r : Int32) (_ : Unit) => r = 1) (fun (_ : Unit) t => Wq D (va_A [(oX10 w0 v0 v1 v2 v3 v4 g5 g6 (nI ed) g8 v9 (nI nb) g11 g12 v13 g14 g15 g16 g17 g18 g19 g20 g21 g22 g23 g24 g25 g26 v27 v28 v29 v30 v31 v32 v33 v34 v35 v36 v37 (nI ol)), (v0, .inl (cA 0, 326, .inl fs))] sz) [(oX10 w0 v0 v1 v2 v3 v4 g5 g6 (nI ed) g8 v9 (nI nb) g11 g12 v13 g14 g15 g16 g17 g18 g19 g20 g21 g22 g23 g24 g25 g26 v27 v28 v29 v30 v31 v32 v33 v34 v35 v36 v37 (nI ol)), (v0, .inl (cA 0, 326, .inl fs))] t) (va_A [(oX10 w0 v0 v1 v2 v3 v4 g5 g6 (nI ed) g8 v9 (nI nb) g11 g12 v13 g14 g15 g16 g17 g18 g19 g20 g21 g22 g23 g24 g25 g26 v27 v28 v29 v30 v31 v32 v33 v34 v35 v36 v37 (nI ol)), (v0, .inl (cA 0, 326, .inl fs))] sz)) 0 0 (va_A [(oX10 w0 v0 v1 v2 v3 v4 g5 g6 (nI ed) g8 v9 (nI nb) g11 g12 v13 g14 g15 g16 g17 g18 g19 g20 g21 g22 g23 g24 g25 g26 v27 v28 v29 v30 v31 v32 v33 v34 v35 v36 v37 (nI ol)), (v0, .inl (cA 0, 326, .inl fs))] sz) := by
  refine Met.ofW (cc := cX10_isProof) (maxL := 2) (ret := (some .boolean)) (by decide) rfl ?_
  intro p e s m args below meth c s₁ B hml hv
  obtain ⟨rfl, hsz, hP, hK, hD0, hC, hZ⟩ := hv
  have hx := B.exec
  have hb := B.bytes
  have hr := B.returns
  have hts := atoms_spec (ws := wsX10_isProof) B.pre
  have hown : s.vm.findClass RX10 = some m.cls := findClass_of_methodNamed B.named
  have hlocks := B.notSynchronized
  subst hsz
  have hD := hD0.self (sz := s.heap.size)
  generalize hAe : va_A [(oX10 w0 v0 v1 v2 v3 v4 g5 g6 (nI ed) g8 v9 (nI nb) g11 g12 v13 g14 g15 g16 g17 g18 g19 g20 g21 g22 g23 g24 g25 g26 v27 v28 v29 v30 v31 v32 v33 v34 v35 v36 v37 (nI ol)), (v0, .inl (cA 0, 326, .inl fs))] s.heap.size = A at hD hZ ⊢
  have hA : ∀ q : Nat, s.heap.size ≤ q → A q := fun q h => by rw [← hAe]; exact Or.inr h
  have hS : va_S A s.heap s.heap [] := va_S.rf
  have hP : va_P D vwCl [(oX10 w0 v0 v1 v2 v3 v4 g5 g6 (nI ed) g8 v9 (nI nb) g11 g12 v13 g14 g15 g16 g17 g18 g19 g20 g21 g22 g23 g24 g25 g26 v27 v28 v29 v30 v31 v32 v33 v34 v35 v36 v37 (nI ol)), (v0, .inl (cA 0, 326, .inl fs))] s.heap := hP
  have hl := lv_entry ([.ref w0, .int (nI ki)]) (n := 2) (Nat.le_of_ble_eq_true rfl)
  rw [lg_entry_eq]
  generalize (lg_sl ([.ref w0, .int (nI ki)]) ++ List.replicate (2 - (lg_sl ([.ref w0, .int (nI ki)])).length) Slot.unset).toArray = ls at hl ⊢
  have hl : lv_has ls 2 [(0, .ref w0), (1, .int (nI ki))] := hl
  have inX10 : ∀ w ∈ u_ws RX10 TX10 39, w ∈ wsX10_isProof := by decide +kernel
  refine lv_iload_n hx hb dX10_isProof_0 rfl (lv_at hl 1 rfl) ?_
  refine lv_i2l (v := ((nI ki).toInt64)) hx hb dX10_isProof_1 rfl ?_
  refine lv_lconst (v := 0) hx hb dX10_isProof_2 (by decide) ?_
  refine lv_aload_n hx hb dX10_isProof_3 rfl (lv_at hl 0 rfl) ?_
  refine va_get (D := D) (ci := 11) (v := .ref v0) (C := RX10) (T := TX10) (N := 39) hx hb hts inX10 hown hK hP 0 rfl rfl 0 (by decide) (hts (.fieldLink RX10 7 "EscrowDeskModel" "s" "[I") (by decide +kernel)) (fun _ h9 => h9) rfl dX10_isProof_4 ?_
  refine lv_bipush (v := 14) hx hb dX10_isProof_7 (by decide) ?_
  refine va_iald hx hb hK hP 1 0 rfl rfl (vp_in_iff.mpr (by decide)) dX10_isProof_9 ?_
  refine lv_topi (fun yn1 eyn1 => ?_)
  obtain rfl : yn1 = (nI pq) := eyn1.trans hri.2.1
  refine lv_iconst (v := 1) hx hb dX10_isProof_10 (by decide) ?_
  refine lv_isub hx hb dX10_isProof_11 ?_
  refine lv_topi (fun yn2 eyn2 => ?_)
  obtain rfl : yn2 = (nI (pq - 1)) := eyn2.trans (nI_sub (a := pq) (b := 1) (by omega))
  refine lv_i2l (v := ((nI (pq - 1)).toInt64)) hx hb dX10_isProof_12 rfl ?_
  obtain ⟨hPc, hDc, hFc⟩ := PDq.cut (wc := []) hP hD hS hA [] (by decide) rfl
  refine va_calli (va_runS (As := [.long ((nI ki).toInt64), .long 0, .long ((nI (pq - 1)).toInt64)]) (rest := []) ⟨hx, hb, hml, hown, hts⟩ (r_betweenT l D cA sa ((nI ki).toInt64) 0 ((nI (pq - 1)).toInt64) s.heap.size (l64_0 (by omega)) (l64_le (by omega) (by omega))) (va_cwS 3 hts gX10_isProof_X10_between rfl rfl rfl (by decide +kernel) ⟨(Nat.le_of_ble_eq_true rfl), (Nat.le_of_ble_eq_true rfl)⟩) ⟨Wd.blind, fun U hU hW => ⟨rfl, Wd.call hPc hDc hK hC hZ hS hFc U hU hW⟩⟩ rfl rfl hl.1 rfl (lv_room (Nat.le_of_ble_eq_true rfl)) dX10_isProof_13 ⟨(Nat.le_of_ble_eq_true rfl), (Nat.le_of_ble_eq_true rfl)⟩) hS (fun q _ h => hFc q h) hFc (fun rn3 u t H1 locs ht hvm hw hB hz1 hk1 hS => ?_)
  obtain ⟨hP1, hD1⟩ := hB
  rw [ht] at hP1
  obtain ⟨hP, hD⟩ := PDq.join (w := [(oX10 w0 v0 v1 v2 v3 v4 g5 g6 (nI ed) g8 v9 (nI nb) g11 g12 v13 g14 g15 g16 g17 g18 g19 g20 g21 g22 g23 g24 g25 g26 v27 v28 v29 v30 v31 v32 v33 v34 v35 v36 v37 (nI ol)), (v0, .inl (cA 0, 326, .inl fs))]) 2 hP hD [] [0, 1] rfl rfl (by decide) (by decide) hk1 hFc hP1 hD1 rfl
  generalize H1 = H at hP hS ⊢
  obtain rfl : rn3 = 1 := hw
  obtain ⟨hP9, hD9⟩ := PDq.sub (ws' := [(oX10 w0 v0 v1 v2 v3 v4 g5 g6 (nI ed) g8 v9 (nI nb) g11 g12 v13 g14 g15 g16 g17 g18 g19 g20 g21 g22 g23 g24 g25 g26 v27 v28 v29 v30 v31 v32 v33 v34 v35 v36 v37 (nI ol)), (v0, .inl (cA 0, 326, .inl fs))]) hP hD [0, 1] (by decide) rfl
  refine W.widen (k := 0) (n := 0) (Nat.le_of_ble_eq_true rfl) (Nat.le_of_ble_eq_true rfl) ?_
  exact (W.zret (v := 1) hx hb hr (by first | rfl | decide) (fun t ht hW => ⟨⟨1, (), rfl, rfl, by rw [ht]; exact hP9, hD9⟩, hS.F ht⟩) hS.2.2 dX10_isProof_16)

set_option maxHeartbeats 4000000 in
set_option maxRecDepth 100000 in
/-- reference: isProof -/
theorem y_isProofOut (l : Launch) (D : va_G) (cA : Nat → ClassId) (sa : Nat → Nat) (w0 : Nat) (ed : Nat) (nb : Nat) (ol : Nat) (v0 : Nat) (v1 : Nat) (v2 : Nat) (v3 : Nat) (v4 : Nat) (v9 : Nat) (v13 : Nat) (v27 : Nat) (v28 : Nat) (v29 : Nat) (v30 : Nat) (v31 : Nat) (v32 : Nat) (v33 : Nat) (v34 : Nat) (v35 : Nat) (v36 : Nat) (v37 : Nat) (g8 : Int32) (g11 : Int32) (g12 : Int32) (g14 : Int32) (g15 : Int32) (g16 : Int32) (g17 : Int32) (g18 : Int32) (g19 : Int32) (g20 : Int32) (g21 : Int32) (g22 : Int32) (g23 : Int32) (g24 : Int32) (g26 : Int32) (g5 : Int64) (g6 : Int64) (g25 : Int64) (cn : Nat) (pq : Nat) (en : Nat) (dy : Nat) (fs : Nat → Int32) (i : Int32) (sz : Nat) (hcn : cn ≤ 10) (hpq : pq ≤ 8) (hen : en ≤ 60) (hdy : dy ≤ 20000) (hri : RI cn pq en dy fs) (hout : ¬ ∃ k, k < pq ∧ i = nI k) : Met l yX10_isProof wsX10_isProof ({ frames := 1, cells := 0, slots := 0, locals := 25 }) (va_Pc [.ref w0, .int i] (Wd D cA sa [(oX10 w0 v0 v1 v2 v3 v4 g5 g6 (nI ed) g8 v9 (nI nb) g11 g12 v13 g14 g15 g16 g17 g18 g19 g20 g21 g22 g23 g24 g25 g26 v27 v28 v29 v30 v31 v32 v33 v34 v35 v36 v37 (nI ol)), (v0, .inl (cA 0, 326, .inl fs))] sz)) (va_Qi (fun (r : Int32) (_ : Unit) => r = 0) (fun (_ : Unit) t => Wq D (va_A [(oX10 w0 v0 v1 v2 v3 v4 g5 g6 (nI ed) g8 v9 (nI nb) g11 g12 v13 g14 g15 g16 g17 g18 g19 g20 g21 g22 g23 g24 g25 g26 v27 v28 v29 v30 v31 v32 v33 v34 v35 v36 v37 (nI ol)), (v0, .inl (cA 0, 326, .inl fs))] sz) [(oX10 w0 v0 v1 v2 v3 v4 g5 g6 (nI ed) g8 v9 (nI nb) g11 g12 v13 g14 g15 g16 g17 g18 g19 g20 g21 g22 g23 g24 g25 g26 v27 v28 v29 v30 v31 v32 v33 v34 v35 v36 v37 (nI ol)), (v0, .inl (cA 0, 326, .inl fs))] t) (va_A [(oX10 w0 v0 v1 v2 v3 v4 g5 g6 (nI ed) g8 v9 (nI nb) g11 g12 v13 g14 g15 g16 g17 g18 g19 g20 g21 g22 g23 g24 g25 g26 v27 v28 v29 v30 v31 v32 v33 v34 v35 v36 v37 (nI ol)), (v0, .inl (cA 0, 326, .inl fs))] sz)) 0 0 (va_A [(oX10 w0 v0 v1 v2 v3 v4 g5 g6 (nI ed) g8 v9 (nI nb) g11 g12 v13 g14 g15 g16 g17 g18 g19 g20 g21 g22 g23 g24 g25 g26 v27 v28 v29 v30 v31 v32 v33 v34 v35 v36 v37 (nI ol)), (v0, .inl (cA 0, 326, .inl fs))] sz) := by
  refine Met.ofW (cc := cX10_isProof) (maxL := 2) (ret := (some .boolean)) (by decide) rfl ?_
  intro p e s m args below meth c s₁ B hml hv
  obtain ⟨rfl, hsz, hP, hK, hD0, hC, hZ⟩ := hv
  have hx := B.exec
  have hb := B.bytes
  have hr := B.returns
  have hts := atoms_spec (ws := wsX10_isProof) B.pre
  have hown : s.vm.findClass RX10 = some m.cls := findClass_of_methodNamed B.named
  have hlocks := B.notSynchronized
  subst hsz
  have hD := hD0.self (sz := s.heap.size)
  generalize hAe : va_A [(oX10 w0 v0 v1 v2 v3 v4 g5 g6 (nI ed) g8 v9 (nI nb) g11 g12 v13 g14 g15 g16 g17 g18 g19 g20 g21 g22 g23 g24 g25 g26 v27 v28 v29 v30 v31 v32 v33 v34 v35 v36 v37 (nI ol)), (v0, .inl (cA 0, 326, .inl fs))] s.heap.size = A at hD hZ ⊢
  have hA : ∀ q : Nat, s.heap.size ≤ q → A q := fun q h => by rw [← hAe]; exact Or.inr h
  have hS : va_S A s.heap s.heap [] := va_S.rf
  have hP : va_P D vwCl [(oX10 w0 v0 v1 v2 v3 v4 g5 g6 (nI ed) g8 v9 (nI nb) g11 g12 v13 g14 g15 g16 g17 g18 g19 g20 g21 g22 g23 g24 g25 g26 v27 v28 v29 v30 v31 v32 v33 v34 v35 v36 v37 (nI ol)), (v0, .inl (cA 0, 326, .inl fs))] s.heap := hP
  have hl := lv_entry ([.ref w0, .int i]) (n := 2) (Nat.le_of_ble_eq_true rfl)
  rw [lg_entry_eq]
  generalize (lg_sl ([.ref w0, .int i]) ++ List.replicate (2 - (lg_sl ([.ref w0, .int i])).length) Slot.unset).toArray = ls at hl ⊢
  have hl : lv_has ls 2 [(0, .ref w0), (1, .int i)] := hl
  have inX10 : ∀ w ∈ u_ws RX10 TX10 39, w ∈ wsX10_isProof := by decide +kernel
  refine lv_iload_n hx hb dX10_isProof_0 rfl (lv_at hl 1 rfl) ?_
  refine lv_i2l (v := (i.toInt64)) hx hb dX10_isProof_1 rfl ?_
  refine lv_lconst (v := 0) hx hb dX10_isProof_2 (by decide) ?_
  refine lv_aload_n hx hb dX10_isProof_3 rfl (lv_at hl 0 rfl) ?_
  refine va_get (D := D) (ci := 11) (v := .ref v0) (C := RX10) (T := TX10) (N := 39) hx hb hts inX10 hown hK hP 0 rfl rfl 0 (by decide) (hts (.fieldLink RX10 7 "EscrowDeskModel" "s" "[I") (by decide +kernel)) (fun _ h9 => h9) rfl dX10_isProof_4 ?_
  refine lv_bipush (v := 14) hx hb dX10_isProof_7 (by decide) ?_
  refine va_iald hx hb hK hP 1 0 rfl rfl (vp_in_iff.mpr (by decide)) dX10_isProof_9 ?_
  refine lv_topi (fun yn1 eyn1 => ?_)
  obtain rfl : yn1 = (nI pq) := eyn1.trans hri.2.1
  refine lv_iconst (v := 1) hx hb dX10_isProof_10 (by decide) ?_
  rcases Nat.eq_zero_or_pos pq with hn2 | hn2
  · skip
    refine lv_isub hx hb dX10_isProof_11 ?_
    refine lv_topi (fun yn3 eyn3 => ?_)
    obtain rfl : yn3 = (-1) := eyn3.trans (nI_sub0 hn2)
    refine lv_i2l (v := (-1)) hx hb dX10_isProof_12 (by decide) ?_
    obtain ⟨hPc, hDc, hFc⟩ := PDq.cut (wc := []) hP hD hS hA [] (by decide) rfl
    refine va_calli (va_runS (As := [.long (i.toInt64), .long 0, .long (-1)]) (rest := []) ⟨hx, hb, hml, hown, hts⟩ (r_betweenF l D cA sa (i.toInt64) 0 (-1) s.heap.size (l64_outz)) (va_cwS 3 hts gX10_isProof_X10_between rfl rfl rfl (by decide +kernel) ⟨(Nat.le_of_ble_eq_true rfl), (Nat.le_of_ble_eq_true rfl)⟩) ⟨Wd.blind, fun U hU hW => ⟨rfl, Wd.call hPc hDc hK hC hZ hS hFc U hU hW⟩⟩ rfl rfl hl.1 rfl (lv_room (Nat.le_of_ble_eq_true rfl)) dX10_isProof_13 ⟨(Nat.le_of_ble_eq_true rfl), (Nat.le_of_ble_eq_true rfl)⟩) hS (fun q _ h => hFc q h) hFc (fun rn4 u t H1 locs ht hvm hw hB hz1 hk1 hS => ?_)
    obtain ⟨hP1, hD1⟩ := hB
    rw [ht] at hP1
    obtain ⟨hP, hD⟩ := PDq.join (w := [(oX10 w0 v0 v1 v2 v3 v4 g5 g6 (nI ed) g8 v9 (nI nb) g11 g12 v13 g14 g15 g16 g17 g18 g19 g20 g21 g22 g23 g24 g25 g26 v27 v28 v29 v30 v31 v32 v33 v34 v35 v36 v37 (nI ol)), (v0, .inl (cA 0, 326, .inl fs))]) 2 hP hD [] [0, 1] rfl rfl (by decide) (by decide) hk1 hFc hP1 hD1 rfl
    generalize H1 = H at hP hS ⊢
    obtain rfl : rn4 = 0 := hw
    obtain ⟨hP9, hD9⟩ := PDq.sub (ws' := [(oX10 w0 v0 v1 v2 v3 v4 g5 g6 (nI ed) g8 v9 (nI nb) g11 g12 v13 g14 g15 g16 g17 g18 g19 g20 g21 g22 g23 g24 g25 g26 v27 v28 v29 v30 v31 v32 v33 v34 v35 v36 v37 (nI ol)), (v0, .inl (cA 0, 326, .inl fs))]) hP hD [0, 1] (by decide) rfl
    refine W.widen (k := 0) (n := 0) (Nat.le_of_ble_eq_true rfl) (Nat.le_of_ble_eq_true rfl) ?_
    exact (W.zret (v := 0) hx hb hr (by first | rfl | decide) (fun t ht hW => ⟨⟨0, (), rfl, rfl, by rw [ht]; exact hP9, hD9⟩, hS.F ht⟩) hS.2.2 dX10_isProof_16)
  · skip
    refine lv_isub hx hb dX10_isProof_11 ?_
    refine lv_topi (fun yn5 eyn5 => ?_)
    obtain rfl : yn5 = (nI (pq - 1)) := eyn5.trans (nI_sub (a := pq) (b := 1) (by omega))
    refine lv_i2l (v := ((nI (pq - 1)).toInt64)) hx hb dX10_isProof_12 rfl ?_
    obtain ⟨hPc, hDc, hFc⟩ := PDq.cut (wc := []) hP hD hS hA [] (by decide) rfl
    refine va_calli (va_runS (As := [.long (i.toInt64), .long 0, .long ((nI (pq - 1)).toInt64)]) (rest := []) ⟨hx, hb, hml, hown, hts⟩ (r_betweenF l D cA sa (i.toInt64) 0 ((nI (pq - 1)).toInt64) s.heap.size (l64_out (by omega) (by omega) hout)) (va_cwS 3 hts gX10_isProof_X10_between rfl rfl rfl (by decide +kernel) ⟨(Nat.le_of_ble_eq_true rfl), (Nat.le_of_ble_eq_true rfl)⟩) ⟨Wd.blind, fun U hU hW => ⟨rfl, Wd.call hPc hDc hK hC hZ hS hFc U hU hW⟩⟩ rfl rfl hl.1 rfl (lv_room (Nat.le_of_ble_eq_true rfl)) dX10_isProof_13 ⟨(Nat.le_of_ble_eq_true rfl), (Nat.le_of_ble_eq_true rfl)⟩) hS (fun q _ h => hFc q h) hFc (fun rn6 u t H1 locs ht hvm hw hB hz1 hk1 hS => ?_)
    obtain ⟨hP1, hD1⟩ := hB
    rw [ht] at hP1
    obtain ⟨hP, hD⟩ := PDq.join (w := [(oX10 w0 v0 v1 v2 v3 v4 g5 g6 (nI ed) g8 v9 (nI nb) g11 g12 v13 g14 g15 g16 g17 g18 g19 g20 g21 g22 g23 g24 g25 g26 v27 v28 v29 v30 v31 v32 v33 v34 v35 v36 v37 (nI ol)), (v0, .inl (cA 0, 326, .inl fs))]) 2 hP hD [] [0, 1] rfl rfl (by decide) (by decide) hk1 hFc hP1 hD1 rfl
    generalize H1 = H at hP hS ⊢
    obtain rfl : rn6 = 0 := hw
    obtain ⟨hP9, hD9⟩ := PDq.sub (ws' := [(oX10 w0 v0 v1 v2 v3 v4 g5 g6 (nI ed) g8 v9 (nI nb) g11 g12 v13 g14 g15 g16 g17 g18 g19 g20 g21 g22 g23 g24 g25 g26 v27 v28 v29 v30 v31 v32 v33 v34 v35 v36 v37 (nI ol)), (v0, .inl (cA 0, 326, .inl fs))]) hP hD [0, 1] (by decide) rfl
    refine W.widen (k := 0) (n := 0) (Nat.le_of_ble_eq_true rfl) (Nat.le_of_ble_eq_true rfl) ?_
    exact (W.zret (v := 0) hx hb hr (by first | rfl | decide) (fun t ht hW => ⟨⟨0, (), rfl, rfl, by rw [ht]; exact hP9, hD9⟩, hS.F ht⟩) hS.2.2 dX10_isProof_16)

set_option maxHeartbeats 4000000 in
set_option maxRecDepth 100000 in
/-- reference: proofCharacter -/
theorem y_pcIn (l : Launch) (D : va_G) (cA : Nat → ClassId) (sa : Nat → Nat) (w0 : Nat) (ed : Nat) (nb : Nat) (ol : Nat) (v0 : Nat) (v1 : Nat) (v2 : Nat) (v3 : Nat) (v4 : Nat) (v9 : Nat) (v13 : Nat) (v27 : Nat) (v28 : Nat) (v29 : Nat) (v30 : Nat) (v31 : Nat) (v32 : Nat) (v33 : Nat) (v34 : Nat) (v35 : Nat) (v36 : Nat) (v37 : Nat) (g8 : Int32) (g11 : Int32) (g12 : Int32) (g14 : Int32) (g15 : Int32) (g16 : Int32) (g17 : Int32) (g18 : Int32) (g19 : Int32) (g20 : Int32) (g21 : Int32) (g22 : Int32) (g23 : Int32) (g24 : Int32) (g26 : Int32) (g5 : Int64) (g6 : Int64) (g25 : Int64) (cn : Nat) (pq : Nat) (en : Nat) (dy : Nat) (fs : Nat → Int32) (ki : Nat) (kj : Nat) (x : Nat) (n9 : Nat) (l29 : Nat → Int64) (sz : Nat) (hcn : cn ≤ 10) (hpq : pq ≤ 8) (hen : en ≤ 60) (hdy : dy ≤ 20000) (hri : RI cn pq en dy fs) (hki : ki < pq) (hx9 : x < 35184372088832) (hfx : l29 ki = lN x) (hdc : DC x n9) (hkj : kj < n9) : Met l yX10_proofCharacter wsX10_proofCharacter ({ frames := 2, cells := 0, slots := 0, locals := 49 }) (va_Pc [.ref w0, .int (nI ki), .int (nI kj)] (Wd D cA sa [(oX10 w0 v0 v1 v2 v3 v4 g5 g6 (nI ed) g8 v9 (nI nb) g11 g12 v13 g14 g15 g16 g17 g18 g19 g20 g21 g22 g23 g24 g25 g26 v27 v28 v29 v30 v31 v32 v33 v34 v35 v36 v37 (nI ol)), (v0, .inl (cA 0, 326, .inl fs)), (v29, .inl (cA 1, 8, .inr (.inl l29)))] sz)) (va_Qi (fun (r : Int32) (_ : Unit) => r = (nI (lt9 x n9 kj))) (fun (_ : Unit) t => Wq D (va_A [(oX10 w0 v0 v1 v2 v3 v4 g5 g6 (nI ed) g8 v9 (nI nb) g11 g12 v13 g14 g15 g16 g17 g18 g19 g20 g21 g22 g23 g24 g25 g26 v27 v28 v29 v30 v31 v32 v33 v34 v35 v36 v37 (nI ol)), (v0, .inl (cA 0, 326, .inl fs)), (v29, .inl (cA 1, 8, .inr (.inl l29)))] sz) [(oX10 w0 v0 v1 v2 v3 v4 g5 g6 (nI ed) 0 v9 (nI nb) g11 g12 v13 g14 g15 g16 g17 g18 g19 g20 g21 g22 g23 g24 g25 g26 v27 v28 v29 v30 v31 v32 v33 v34 v35 v36 v37 (nI ol)), (v0, .inl (cA 0, 326, .inl fs)), (v29, .inl (cA 1, 8, .inr (.inl l29)))] t) (va_A [(oX10 w0 v0 v1 v2 v3 v4 g5 g6 (nI ed) g8 v9 (nI nb) g11 g12 v13 g14 g15 g16 g17 g18 g19 g20 g21 g22 g23 g24 g25 g26 v27 v28 v29 v30 v31 v32 v33 v34 v35 v36 v37 (nI ol)), (v0, .inl (cA 0, 326, .inl fs)), (v29, .inl (cA 1, 8, .inr (.inl l29)))] sz)) 0 0 (va_A [(oX10 w0 v0 v1 v2 v3 v4 g5 g6 (nI ed) g8 v9 (nI nb) g11 g12 v13 g14 g15 g16 g17 g18 g19 g20 g21 g22 g23 g24 g25 g26 v27 v28 v29 v30 v31 v32 v33 v34 v35 v36 v37 (nI ol)), (v0, .inl (cA 0, 326, .inl fs)), (v29, .inl (cA 1, 8, .inr (.inl l29)))] sz) := by
  refine Met.ofW (cc := cX10_proofCharacter) (maxL := 3) (ret := (some .char)) (by decide) rfl ?_
  intro p e s m args below meth c s₁ B hml hv
  obtain ⟨rfl, hsz, hP, hK, hD0, hC, hZ⟩ := hv
  have hx := B.exec
  have hb := B.bytes
  have hr := B.returns
  have hts := atoms_spec (ws := wsX10_proofCharacter) B.pre
  have hown : s.vm.findClass RX10 = some m.cls := findClass_of_methodNamed B.named
  have hlocks := B.notSynchronized
  subst hsz
  have hD := hD0.self (sz := s.heap.size)
  generalize hAe : va_A [(oX10 w0 v0 v1 v2 v3 v4 g5 g6 (nI ed) g8 v9 (nI nb) g11 g12 v13 g14 g15 g16 g17 g18 g19 g20 g21 g22 g23 g24 g25 g26 v27 v28 v29 v30 v31 v32 v33 v34 v35 v36 v37 (nI ol)), (v0, .inl (cA 0, 326, .inl fs)), (v29, .inl (cA 1, 8, .inr (.inl l29)))] s.heap.size = A at hD hZ ⊢
  have hA : ∀ q : Nat, s.heap.size ≤ q → A q := fun q h => by rw [← hAe]; exact Or.inr h
  have hS : va_S A s.heap s.heap [] := va_S.rf
  have hP : va_P D vwCl [(oX10 w0 v0 v1 v2 v3 v4 g5 g6 (nI ed) g8 v9 (nI nb) g11 g12 v13 g14 g15 g16 g17 g18 g19 g20 g21 g22 g23 g24 g25 g26 v27 v28 v29 v30 v31 v32 v33 v34 v35 v36 v37 (nI ol)), (v0, .inl (cA 0, 326, .inl fs)), (v29, .inl (cA 1, 8, .inr (.inl l29)))] s.heap := hP
  have hl := lv_entry ([.ref w0, .int (nI ki), .int (nI kj)]) (n := 3) (Nat.le_of_ble_eq_true rfl)
  rw [lg_entry_eq]
  generalize (lg_sl ([.ref w0, .int (nI ki), .int (nI kj)]) ++ List.replicate (3 - (lg_sl ([.ref w0, .int (nI ki), .int (nI kj)])).length) Slot.unset).toArray = ls at hl ⊢
  have hl : lv_has ls 3 [(0, .ref w0), (1, .int (nI ki)), (2, .int (nI kj))] := hl
  have inX10 : ∀ w ∈ u_ws RX10 TX10 39, w ∈ wsX10_proofCharacter := by decide +kernel
  refine lv_aload_n hx hb dX10_proofCharacter_0 rfl (lv_at hl 0 rfl) ?_
  refine lv_aload_n hx hb dX10_proofCharacter_1 rfl (lv_at hl 0 rfl) ?_
  refine lv_iload_n hx hb dX10_proofCharacter_2 rfl (lv_at hl 1 rfl) ?_
  obtain ⟨hPc, hDc, hFc⟩ := PDq.cut (wc := [(oX10 w0 v0 v1 v2 v3 v4 g5 g6 (nI ed) g8 v9 (nI nb) g11 g12 v13 g14 g15 g16 g17 g18 g19 g20 g21 g22 g23 g24 g25 g26 v27 v28 v29 v30 v31 v32 v33 v34 v35 v36 v37 (nI ol)), (v0, .inl (cA 0, 326, .inl fs))]) hP hD hS hA [0, 1] (by decide) rfl
  refine va_calli (va_runV (As := [.int (nI ki)]) (rest := [.ref w0]) ⟨hx, hb, hml, hown, hts⟩ (y_isProofIn l D cA sa w0 ed nb ol v0 v1 v2 v3 v4 v9 v13 v27 v28 v29 v30 v31 v32 v33 v34 v35 v36 v37 g8 g11 g12 g14 g15 g16 g17 g18 g19 g20 g21 g22 g23 g24 g26 g5 g6 g25 cn pq en dy fs ki s.heap.size hcn hpq hen hdy hri hki) (cwV 1 hts gX10_proofCharacter_X10_isProof rfl rfl rfl (by decide +kernel) ⟨(Nat.le_of_ble_eq_true rfl), (Nat.le_of_ble_eq_true rfl)⟩) ⟨Wd.blind, va_recv hK hPc (ci := 11) (q0 := 0) rfl rfl, fun U hU hW => ⟨rfl, Wd.call hPc hDc hK hC hZ hS hFc U hU hW⟩⟩ rfl rfl hl.1 rfl (lv_room (Nat.le_of_ble_eq_true rfl)) dX10_proofCharacter_3 ⟨(Nat.le_of_ble_eq_true rfl), (Nat.le_of_ble_eq_true rfl)⟩) hS (fun q _ h => hFc q h) hFc (fun rn1 u t H1 locs ht hvm hw hB hz1 hk1 hS => ?_)
  obtain ⟨hP1, hD1⟩ := hB
  rw [ht] at hP1
  obtain ⟨hP, hD⟩ := PDq.join (w := [(v29, .inl (cA 1, 8, .inr (.inl l29))), (oX10 w0 v0 v1 v2 v3 v4 g5 g6 (nI ed) g8 v9 (nI nb) g11 g12 v13 g14 g15 g16 g17 g18 g19 g20 g21 g22 g23 g24 g25 g26 v27 v28 v29 v30 v31 v32 v33 v34 v35 v36 v37 (nI ol)), (v0, .inl (cA 0, 326, .inl fs))]) 1 hP hD [0, 1] [2] rfl rfl (by decide) (by decide) hk1 hFc hP1 hD1 rfl
  generalize H1 = H at hP hS ⊢
  obtain rfl : rn1 = 1 := hw
  refine lv_if_eq (tgt := 34) hx hb dX10_proofCharacter_6 (by decide) (fun c9 => absurd c9 (by decide)) (fun c2 => ?_)
  refine lv_iload_n hx hb dX10_proofCharacter_9 rfl (lv_at hl 2 rfl) ?_
  refine lv_i2l (v := ((nI kj).toInt64)) hx hb dX10_proofCharacter_10 rfl ?_
  refine lv_lconst (v := 0) hx hb dX10_proofCharacter_11 (by decide) ?_
  refine lv_aload_n hx hb dX10_proofCharacter_12 rfl (lv_at hl 0 rfl) ?_
  refine va_get (D := D) (ci := 11) (v := .ref v29) (C := RX10) (T := TX10) (N := 39) hx hb hts inX10 hown hK hP 1 rfl rfl 29 (by decide) (hts (.fieldLink RX10 42 "EscrowDeskModel" "proofNames" "[J") (by decide +kernel)) (fun _ h9 => h9) rfl dX10_proofCharacter_13 ?_
  refine lv_iload_n hx hb dX10_proofCharacter_16 rfl (lv_at hl 1 rfl) ?_
  refine va_lald hx hb hK hP 0 1 rfl rfl (vp_in_nI (n := ki) (N := 8) (show ki < 8 by omega) (by decide)) dX10_proofCharacter_17 ?_
  refine lv_topl (fun yn3 eyn3 => ?_)
  obtain rfl : yn3 = (l29 ki) := eyn3.trans (by rw [nI_clamp (by omega)])
  obtain ⟨hPc, hDc, hFc⟩ := PDq.cut (wc := []) hP hD hS hA [] (by decide) rfl
  refine va_calli (va_runS (As := [.long (l29 ki)]) (rest := [.long 0, .long ((nI kj).toInt64), .ref w0]) ⟨hx, hb, hml, hown, hts⟩ (y_lettersOf l D cA sa (l29 ki) x H.size hfx hx9) (va_cwS 1 hts gX10_proofCharacter_X10_lettersOf rfl rfl rfl (by decide +kernel) ⟨(Nat.le_of_ble_eq_true rfl), (Nat.le_of_ble_eq_true rfl)⟩) ⟨Wd.blind, fun U hU hW => ⟨rfl, Wd.call hPc hDc hK hC hZ hS hFc U hU hW⟩⟩ rfl rfl hl.1 rfl (lv_room (Nat.le_of_ble_eq_true rfl)) dX10_proofCharacter_18 ⟨(Nat.le_of_ble_eq_true rfl), (Nat.le_of_ble_eq_true rfl)⟩) hS (fun q _ h => hFc q h) hFc (fun rn4 u t H1 locs ht hvm hw hB hz1 hk1 hS => ?_)
  obtain ⟨hP1, hD1⟩ := hB
  rw [ht] at hP1
  obtain ⟨hP, hD⟩ := PDq.join (w := [(v29, .inl (cA 1, 8, .inr (.inl l29))), (oX10 w0 v0 v1 v2 v3 v4 g5 g6 (nI ed) g8 v9 (nI nb) g11 g12 v13 g14 g15 g16 g17 g18 g19 g20 g21 g22 g23 g24 g25 g26 v27 v28 v29 v30 v31 v32 v33 v34 v35 v36 v37 (nI ol)), (v0, .inl (cA 0, 326, .inl fs))]) 3 hP hD [] [0, 1, 2] rfl rfl (by decide) (by decide) hk1 hFc hP1 hD1 rfl
  generalize H1 = H at hP hS ⊢
  obtain ⟨kn5, hn6, hr9, hn7⟩ := hw
  subst hr9
  obtain rfl : n9 = kn5 := DC.uniq hdc hn7
  refine lv_iconst (v := 1) hx hb dX10_proofCharacter_21 (by decide) ?_
  refine lv_isub hx hb dX10_proofCharacter_22 ?_
  refine lv_topi (fun yn8 eyn8 => ?_)
  obtain rfl : yn8 = (nI (n9 - 1)) := eyn8.trans (nI_sub (a := n9) (b := 1) (by omega))
  refine lv_i2l (v := ((nI (n9 - 1)).toInt64)) hx hb dX10_proofCharacter_23 rfl ?_
  obtain ⟨hPc, hDc, hFc⟩ := PDq.cut (wc := []) hP hD hS hA [] (by decide) rfl
  refine va_calli (va_runS (As := [.long ((nI kj).toInt64), .long 0, .long ((nI (n9 - 1)).toInt64)]) (rest := [.ref w0]) ⟨hx, hb, hml, hown, hts⟩ (r_betweenT l D cA sa ((nI kj).toInt64) 0 ((nI (n9 - 1)).toInt64) H.size (l64_0 (by omega)) (l64_le (by omega) (by omega))) (va_cwS 3 hts gX10_proofCharacter_X10_between rfl rfl rfl (by decide +kernel) ⟨(Nat.le_of_ble_eq_true rfl), (Nat.le_of_ble_eq_true rfl)⟩) ⟨Wd.blind, fun U hU hW => ⟨rfl, Wd.call hPc hDc hK hC hZ hS hFc U hU hW⟩⟩ rfl rfl hl.1 rfl (lv_room (Nat.le_of_ble_eq_true rfl)) dX10_proofCharacter_24 ⟨(Nat.le_of_ble_eq_true rfl), (Nat.le_of_ble_eq_true rfl)⟩) hS (fun q _ h => hFc q h) hFc (fun rn9 u t H1 locs ht hvm hw hB hz1 hk1 hS => ?_)
  obtain ⟨hP1, hD1⟩ := hB
  rw [ht] at hP1
  obtain ⟨hP, hD⟩ := PDq.join (w := [(v29, .inl (cA 1, 8, .inr (.inl l29))), (oX10 w0 v0 v1 v2 v3 v4 g5 g6 (nI ed) g8 v9 (nI nb) g11 g12 v13 g14 g15 g16 g17 g18 g19 g20 g21 g22 g23 g24 g25 g26 v27 v28 v29 v30 v31 v32 v33 v34 v35 v36 v37 (nI ol)), (v0, .inl (cA 0, 326, .inl fs))]) 3 hP hD [] [0, 1, 2] rfl rfl (by decide) (by decide) hk1 hFc hP1 hD1 rfl
  generalize H1 = H at hP hS ⊢
  obtain rfl : rn9 = 1 := hw
  refine lv_if_eq (tgt := 34) hx hb dX10_proofCharacter_27 (by decide) (fun c9 => absurd c9 (by decide)) (fun c10 => ?_)
  refine lv_iconst (v := 0) hx hb dX10_proofCharacter_30 (by decide) ?_
  refine lv_goto (tgt := 35) hx hb dX10_proofCharacter_31 (by decide) ?_
  refine va_put (D := D) (ci := 11) (v := .int 0) (ty := .int) (C := RX10) (T := TX10) (N := 39) hx hb hts inX10 tyX10 tyX10_ok nmX10 hown hK hP hD hS 1 rfl rfl 8 (by decide) (hts (.fieldLink RX10 80 "EscrowDeskModel" "thrown" "I") (by decide +kernel)) (fun _ h9 => h9) rfl (by decide +kernel) rfl rfl (Nat.le_of_ble_eq_true rfl) dX10_proofCharacter_35 (fun H locs hP hD hS => ?_)
  obtain ⟨hP, hD⟩ : PDq D A [(v29, .inl (cA 1, 8, .inr (.inl l29))), (oX10 w0 v0 v1 v2 v3 v4 g5 g6 (nI ed) 0 v9 (nI nb) g11 g12 v13 g14 g15 g16 g17 g18 g19 g20 g21 g22 g23 g24 g25 g26 v27 v28 v29 v30 v31 v32 v33 v34 v35 v36 v37 (nI ol)), (v0, .inl (cA 0, 326, .inl fs))] H := ⟨hP, hD⟩
  refine lv_aload_n hx hb dX10_proofCharacter_38 rfl (lv_at hl 0 rfl) ?_
  refine va_get (D := D) (ci := 11) (v := .int 0) (C := RX10) (T := TX10) (N := 39) hx hb hts inX10 hown hK hP 1 rfl rfl 8 (by decide) (hts (.fieldLink RX10 80 "EscrowDeskModel" "thrown" "I") (by decide +kernel)) (fun _ h9 => h9) rfl dX10_proofCharacter_39 ?_
  refine lv_if_ne (tgt := 59) hx hb dX10_proofCharacter_42 (by decide) (fun c9 => absurd c9 (by decide)) (fun c11 => ?_)
  refine lv_aload_n hx hb dX10_proofCharacter_45 rfl (lv_at hl 0 rfl) ?_
  refine va_get (D := D) (ci := 11) (v := .ref v29) (C := RX10) (T := TX10) (N := 39) hx hb hts inX10 hown hK hP 1 rfl rfl 29 (by decide) (hts (.fieldLink RX10 42 "EscrowDeskModel" "proofNames" "[J") (by decide +kernel)) (fun _ h9 => h9) rfl dX10_proofCharacter_46 ?_
  refine lv_iload_n hx hb dX10_proofCharacter_49 rfl (lv_at hl 1 rfl) ?_
  refine va_lald hx hb hK hP 0 1 rfl rfl (vp_in_nI (n := ki) (N := 8) (show ki < 8 by omega) (by decide)) dX10_proofCharacter_50 ?_
  refine lv_topl (fun yn12 eyn12 => ?_)
  obtain rfl : yn12 = (l29 ki) := eyn12.trans (by rw [nI_clamp (by omega)])
  refine lv_iload_n hx hb dX10_proofCharacter_51 rfl (lv_at hl 2 rfl) ?_
  obtain ⟨hPc, hDc, hFc⟩ := PDq.cut (wc := []) hP hD hS hA [] (by decide) rfl
  refine va_calli (va_runS (As := [.long (l29 ki), .int (nI kj)]) (rest := []) ⟨hx, hb, hml, hown, hts⟩ (y_letterOf l D cA sa (l29 ki) x n9 kj H.size hfx hx9 hdc hkj) (va_cwS 2 hts gX10_proofCharacter_X10_letterOf rfl rfl rfl (by decide +kernel) ⟨(Nat.le_of_ble_eq_true rfl), (Nat.le_of_ble_eq_true rfl)⟩) ⟨Wd.blind, fun U hU hW => ⟨rfl, Wd.call hPc hDc hK hC hZ hS hFc U hU hW⟩⟩ rfl rfl hl.1 rfl (lv_room (Nat.le_of_ble_eq_true rfl)) dX10_proofCharacter_52 ⟨(Nat.le_of_ble_eq_true rfl), (Nat.le_of_ble_eq_true rfl)⟩) hS (fun q _ h => hFc q h) hFc (fun rn13 u t H1 locs ht hvm hw hB hz1 hk1 hS => ?_)
  obtain ⟨hP1, hD1⟩ := hB
  rw [ht] at hP1
  obtain ⟨hP, hD⟩ := PDq.join (w := [(v29, .inl (cA 1, 8, .inr (.inl l29))), (oX10 w0 v0 v1 v2 v3 v4 g5 g6 (nI ed) 0 v9 (nI nb) g11 g12 v13 g14 g15 g16 g17 g18 g19 g20 g21 g22 g23 g24 g25 g26 v27 v28 v29 v30 v31 v32 v33 v34 v35 v36 v37 (nI ol)), (v0, .inl (cA 0, 326, .inl fs))]) 3 hP hD [] [0, 1, 2] rfl rfl (by decide) (by decide) hk1 hFc hP1 hD1 rfl
  generalize H1 = H at hP hS ⊢
  obtain rfl : rn13 = (nI (lt9 x n9 kj)) := hw
  refine lv_i2c (v := (nI (lt9 x n9 kj))) hx hb dX10_proofCharacter_55 (i2c_n _ (lt9_lt x n9 kj)) ?_
  refine lv_goto (tgt := 60) hx hb dX10_proofCharacter_56 (by decide) ?_
  obtain ⟨hP9, hD9⟩ := PDq.sub (ws' := [(oX10 w0 v0 v1 v2 v3 v4 g5 g6 (nI ed) 0 v9 (nI nb) g11 g12 v13 g14 g15 g16 g17 g18 g19 g20 g21 g22 g23 g24 g25 g26 v27 v28 v29 v30 v31 v32 v33 v34 v35 v36 v37 (nI ol)), (v0, .inl (cA 0, 326, .inl fs)), (v29, .inl (cA 1, 8, .inr (.inl l29)))]) hP hD [1, 2, 0] (by decide) rfl
  refine W.widen (k := 0) (n := 0) (Nat.le_of_ble_eq_true rfl) (Nat.le_of_ble_eq_true rfl) ?_
  exact (W.zret (v := (nI (lt9 x n9 kj))) hx hb hr (lt9_nar x n9 kj) (fun t ht hW => ⟨⟨(nI (lt9 x n9 kj)), (), rfl, rfl, by rw [ht]; exact hP9, hD9⟩, hS.F ht⟩) hS.2.2 dX10_proofCharacter_60)

set_option maxHeartbeats 4000000 in
set_option maxRecDepth 100000 in
/-- reference: proofCharacter -/
theorem y_pcOutI (l : Launch) (D : va_G) (cA : Nat → ClassId) (sa : Nat → Nat) (w0 : Nat) (ed : Nat) (nb : Nat) (ol : Nat) (v0 : Nat) (v1 : Nat) (v2 : Nat) (v3 : Nat) (v4 : Nat) (v9 : Nat) (v13 : Nat) (v27 : Nat) (v28 : Nat) (v29 : Nat) (v30 : Nat) (v31 : Nat) (v32 : Nat) (v33 : Nat) (v34 : Nat) (v35 : Nat) (v36 : Nat) (v37 : Nat) (g8 : Int32) (g11 : Int32) (g12 : Int32) (g14 : Int32) (g15 : Int32) (g16 : Int32) (g17 : Int32) (g18 : Int32) (g19 : Int32) (g20 : Int32) (g21 : Int32) (g22 : Int32) (g23 : Int32) (g24 : Int32) (g26 : Int32) (g5 : Int64) (g6 : Int64) (g25 : Int64) (cn : Nat) (pq : Nat) (en : Nat) (dy : Nat) (fs : Nat → Int32) (ki : Nat) (x : Nat) (n9 : Nat) (j : Int32) (l29 : Nat → Int64) (sz : Nat) (hcn : cn ≤ 10) (hpq : pq ≤ 8) (hen : en ≤ 60) (hdy : dy ≤ 20000) (hri : RI cn pq en dy fs) (hki : ki < pq) (hx9 : x < 35184372088832) (hfx : l29 ki = lN x) (hdc : DC x n9) (hout : ¬ ∃ k, k < n9 ∧ j = nI k) : Met l yX10_proofCharacter wsX10_proofCharacter ({ frames := 2, cells := 0, slots := 0, locals := 46 }) (va_Pc [.ref w0, .int (nI ki), .int j] (Wd D cA sa [(oX10 w0 v0 v1 v2 v3 v4 g5 g6 (nI ed) g8 v9 (nI nb) g11 g12 v13 g14 g15 g16 g17 g18 g19 g20 g21 g22 g23 g24 g25 g26 v27 v28 v29 v30 v31 v32 v33 v34 v35 v36 v37 (nI ol)), (v0, .inl (cA 0, 326, .inl fs)), (v29, .inl (cA 1, 8, .inr (.inl l29)))] sz)) (va_Qi (fun (r : Int32) (_ : Unit) => r = 0) (fun (_ : Unit) t => Wq D (va_A [(oX10 w0 v0 v1 v2 v3 v4 g5 g6 (nI ed) g8 v9 (nI nb) g11 g12 v13 g14 g15 g16 g17 g18 g19 g20 g21 g22 g23 g24 g25 g26 v27 v28 v29 v30 v31 v32 v33 v34 v35 v36 v37 (nI ol)), (v0, .inl (cA 0, 326, .inl fs)), (v29, .inl (cA 1, 8, .inr (.inl l29)))] sz) [(oX10 w0 v0 v1 v2 v3 v4 g5 g6 (nI ed) 1 v9 (nI nb) g11 g12 v13 g14 g15 g16 g17 g18 g19 g20 g21 g22 g23 g24 g25 g26 v27 v28 v29 v30 v31 v32 v33 v34 v35 v36 v37 (nI ol)), (v0, .inl (cA 0, 326, .inl fs)), (v29, .inl (cA 1, 8, .inr (.inl l29)))] t) (va_A [(oX10 w0 v0 v1 v2 v3 v4 g5 g6 (nI ed) g8 v9 (nI nb) g11 g12 v13 g14 g15 g16 g17 g18 g19 g20 g21 g22 g23 g24 g25 g26 v27 v28 v29 v30 v31 v32 v33 v34 v35 v36 v37 (nI ol)), (v0, .inl (cA 0, 326, .inl fs)), (v29, .inl (cA 1, 8, .inr (.inl l29)))] sz)) 0 0 (va_A [(oX10 w0 v0 v1 v2 v3 v4 g5 g6 (nI ed) g8 v9 (nI nb) g11 g12 v13 g14 g15 g16 g17 g18 g19 g20 g21 g22 g23 g24 g25 g26 v27 v28 v29 v30 v31 v32 v33 v34 v35 v36 v37 (nI ol)), (v0, .inl (cA 0, 326, .inl fs)), (v29, .inl (cA 1, 8, .inr (.inl l29)))] sz) := by
  refine Met.ofW (cc := cX10_proofCharacter) (maxL := 3) (ret := (some .char)) (by decide) rfl ?_
  intro p e s m args below meth c s₁ B hml hv
  obtain ⟨rfl, hsz, hP, hK, hD0, hC, hZ⟩ := hv
  have hx := B.exec
  have hb := B.bytes
  have hr := B.returns
  have hts := atoms_spec (ws := wsX10_proofCharacter) B.pre
  have hown : s.vm.findClass RX10 = some m.cls := findClass_of_methodNamed B.named
  have hlocks := B.notSynchronized
  subst hsz
  have hD := hD0.self (sz := s.heap.size)
  generalize hAe : va_A [(oX10 w0 v0 v1 v2 v3 v4 g5 g6 (nI ed) g8 v9 (nI nb) g11 g12 v13 g14 g15 g16 g17 g18 g19 g20 g21 g22 g23 g24 g25 g26 v27 v28 v29 v30 v31 v32 v33 v34 v35 v36 v37 (nI ol)), (v0, .inl (cA 0, 326, .inl fs)), (v29, .inl (cA 1, 8, .inr (.inl l29)))] s.heap.size = A at hD hZ ⊢
  have hA : ∀ q : Nat, s.heap.size ≤ q → A q := fun q h => by rw [← hAe]; exact Or.inr h
  have hS : va_S A s.heap s.heap [] := va_S.rf
  have hP : va_P D vwCl [(oX10 w0 v0 v1 v2 v3 v4 g5 g6 (nI ed) g8 v9 (nI nb) g11 g12 v13 g14 g15 g16 g17 g18 g19 g20 g21 g22 g23 g24 g25 g26 v27 v28 v29 v30 v31 v32 v33 v34 v35 v36 v37 (nI ol)), (v0, .inl (cA 0, 326, .inl fs)), (v29, .inl (cA 1, 8, .inr (.inl l29)))] s.heap := hP
  have hl := lv_entry ([.ref w0, .int (nI ki), .int j]) (n := 3) (Nat.le_of_ble_eq_true rfl)
  rw [lg_entry_eq]
  generalize (lg_sl ([.ref w0, .int (nI ki), .int j]) ++ List.replicate (3 - (lg_sl ([.ref w0, .int (nI ki), .int j])).length) Slot.unset).toArray = ls at hl ⊢
  have hl : lv_has ls 3 [(0, .ref w0), (1, .int (nI ki)), (2, .int j)] := hl
  have inX10 : ∀ w ∈ u_ws RX10 TX10 39, w ∈ wsX10_proofCharacter := by decide +kernel
  refine lv_aload_n hx hb dX10_proofCharacter_0 rfl (lv_at hl 0 rfl) ?_
  refine lv_aload_n hx hb dX10_proofCharacter_1 rfl (lv_at hl 0 rfl) ?_
  refine lv_iload_n hx hb dX10_proofCharacter_2 rfl (lv_at hl 1 rfl) ?_
  obtain ⟨hPc, hDc, hFc⟩ := PDq.cut (wc := [(oX10 w0 v0 v1 v2 v3 v4 g5 g6 (nI ed) g8 v9 (nI nb) g11 g12 v13 g14 g15 g16 g17 g18 g19 g20 g21 g22 g23 g24 g25 g26 v27 v28 v29 v30 v31 v32 v33 v34 v35 v36 v37 (nI ol)), (v0, .inl (cA 0, 326, .inl fs))]) hP hD hS hA [0, 1] (by decide) rfl
  refine va_calli (va_runV (As := [.int (nI ki)]) (rest := [.ref w0]) ⟨hx, hb, hml, hown, hts⟩ (y_isProofIn l D cA sa w0 ed nb ol v0 v1 v2 v3 v4 v9 v13 v27 v28 v29 v30 v31 v32 v33 v34 v35 v36 v37 g8 g11 g12 g14 g15 g16 g17 g18 g19 g20 g21 g22 g23 g24 g26 g5 g6 g25 cn pq en dy fs ki s.heap.size hcn hpq hen hdy hri hki) (cwV 1 hts gX10_proofCharacter_X10_isProof rfl rfl rfl (by decide +kernel) ⟨(Nat.le_of_ble_eq_true rfl), (Nat.le_of_ble_eq_true rfl)⟩) ⟨Wd.blind, va_recv hK hPc (ci := 11) (q0 := 0) rfl rfl, fun U hU hW => ⟨rfl, Wd.call hPc hDc hK hC hZ hS hFc U hU hW⟩⟩ rfl rfl hl.1 rfl (lv_room (Nat.le_of_ble_eq_true rfl)) dX10_proofCharacter_3 ⟨(Nat.le_of_ble_eq_true rfl), (Nat.le_of_ble_eq_true rfl)⟩) hS (fun q _ h => hFc q h) hFc (fun rn1 u t H1 locs ht hvm hw hB hz1 hk1 hS => ?_)
  obtain ⟨hP1, hD1⟩ := hB
  rw [ht] at hP1
  obtain ⟨hP, hD⟩ := PDq.join (w := [(v29, .inl (cA 1, 8, .inr (.inl l29))), (oX10 w0 v0 v1 v2 v3 v4 g5 g6 (nI ed) g8 v9 (nI nb) g11 g12 v13 g14 g15 g16 g17 g18 g19 g20 g21 g22 g23 g24 g25 g26 v27 v28 v29 v30 v31 v32 v33 v34 v35 v36 v37 (nI ol)), (v0, .inl (cA 0, 326, .inl fs))]) 1 hP hD [0, 1] [2] rfl rfl (by decide) (by decide) hk1 hFc hP1 hD1 rfl
  generalize H1 = H at hP hS ⊢
  obtain rfl : rn1 = 1 := hw
  refine lv_if_eq (tgt := 34) hx hb dX10_proofCharacter_6 (by decide) (fun c9 => absurd c9 (by decide)) (fun c2 => ?_)
  refine lv_iload_n hx hb dX10_proofCharacter_9 rfl (lv_at hl 2 rfl) ?_
  refine lv_i2l (v := (j.toInt64)) hx hb dX10_proofCharacter_10 rfl ?_
  refine lv_lconst (v := 0) hx hb dX10_proofCharacter_11 (by decide) ?_
  refine lv_aload_n hx hb dX10_proofCharacter_12 rfl (lv_at hl 0 rfl) ?_
  refine va_get (D := D) (ci := 11) (v := .ref v29) (C := RX10) (T := TX10) (N := 39) hx hb hts inX10 hown hK hP 1 rfl rfl 29 (by decide) (hts (.fieldLink RX10 42 "EscrowDeskModel" "proofNames" "[J") (by decide +kernel)) (fun _ h9 => h9) rfl dX10_proofCharacter_13 ?_
  refine lv_iload_n hx hb dX10_proofCharacter_16 rfl (lv_at hl 1 rfl) ?_
  refine va_lald hx hb hK hP 0 1 rfl rfl (vp_in_nI (n := ki) (N := 8) (show ki < 8 by omega) (by decide)) dX10_proofCharacter_17 ?_
  refine lv_topl (fun yn3 eyn3 => ?_)
  obtain rfl : yn3 = (l29 ki) := eyn3.trans (by rw [nI_clamp (by omega)])
  obtain ⟨hPc, hDc, hFc⟩ := PDq.cut (wc := []) hP hD hS hA [] (by decide) rfl
  refine va_calli (va_runS (As := [.long (l29 ki)]) (rest := [.long 0, .long (j.toInt64), .ref w0]) ⟨hx, hb, hml, hown, hts⟩ (y_lettersOf l D cA sa (l29 ki) x H.size hfx hx9) (va_cwS 1 hts gX10_proofCharacter_X10_lettersOf rfl rfl rfl (by decide +kernel) ⟨(Nat.le_of_ble_eq_true rfl), (Nat.le_of_ble_eq_true rfl)⟩) ⟨Wd.blind, fun U hU hW => ⟨rfl, Wd.call hPc hDc hK hC hZ hS hFc U hU hW⟩⟩ rfl rfl hl.1 rfl (lv_room (Nat.le_of_ble_eq_true rfl)) dX10_proofCharacter_18 ⟨(Nat.le_of_ble_eq_true rfl), (Nat.le_of_ble_eq_true rfl)⟩) hS (fun q _ h => hFc q h) hFc (fun rn4 u t H1 locs ht hvm hw hB hz1 hk1 hS => ?_)
  obtain ⟨hP1, hD1⟩ := hB
  rw [ht] at hP1
  obtain ⟨hP, hD⟩ := PDq.join (w := [(v29, .inl (cA 1, 8, .inr (.inl l29))), (oX10 w0 v0 v1 v2 v3 v4 g5 g6 (nI ed) g8 v9 (nI nb) g11 g12 v13 g14 g15 g16 g17 g18 g19 g20 g21 g22 g23 g24 g25 g26 v27 v28 v29 v30 v31 v32 v33 v34 v35 v36 v37 (nI ol)), (v0, .inl (cA 0, 326, .inl fs))]) 3 hP hD [] [0, 1, 2] rfl rfl (by decide) (by decide) hk1 hFc hP1 hD1 rfl
  generalize H1 = H at hP hS ⊢
  obtain ⟨kn5, hn6, hr9, hn7⟩ := hw
  subst hr9
  obtain rfl : n9 = kn5 := DC.uniq hdc hn7
  refine lv_iconst (v := 1) hx hb dX10_proofCharacter_21 (by decide) ?_
  rcases Nat.eq_zero_or_pos n9 with hn8 | hn8
  · skip
    refine lv_isub hx hb dX10_proofCharacter_22 ?_
    refine lv_topi (fun yn9 eyn9 => ?_)
    obtain rfl : yn9 = (-1) := eyn9.trans (nI_sub0 hn8)
    refine lv_i2l (v := (-1)) hx hb dX10_proofCharacter_23 (by decide) ?_
    obtain ⟨hPc, hDc, hFc⟩ := PDq.cut (wc := []) hP hD hS hA [] (by decide) rfl
    refine va_calli (va_runS (As := [.long (j.toInt64), .long 0, .long (-1)]) (rest := [.ref w0]) ⟨hx, hb, hml, hown, hts⟩ (r_betweenF l D cA sa (j.toInt64) 0 (-1) H.size (l64_outz)) (va_cwS 3 hts gX10_proofCharacter_X10_between rfl rfl rfl (by decide +kernel) ⟨(Nat.le_of_ble_eq_true rfl), (Nat.le_of_ble_eq_true rfl)⟩) ⟨Wd.blind, fun U hU hW => ⟨rfl, Wd.call hPc hDc hK hC hZ hS hFc U hU hW⟩⟩ rfl rfl hl.1 rfl (lv_room (Nat.le_of_ble_eq_true rfl)) dX10_proofCharacter_24 ⟨(Nat.le_of_ble_eq_true rfl), (Nat.le_of_ble_eq_true rfl)⟩) hS (fun q _ h => hFc q h) hFc (fun rn10 u t H1 locs ht hvm hw hB hz1 hk1 hS => ?_)
    obtain ⟨hP1, hD1⟩ := hB
    rw [ht] at hP1
    obtain ⟨hP, hD⟩ := PDq.join (w := [(v29, .inl (cA 1, 8, .inr (.inl l29))), (oX10 w0 v0 v1 v2 v3 v4 g5 g6 (nI ed) g8 v9 (nI nb) g11 g12 v13 g14 g15 g16 g17 g18 g19 g20 g21 g22 g23 g24 g25 g26 v27 v28 v29 v30 v31 v32 v33 v34 v35 v36 v37 (nI ol)), (v0, .inl (cA 0, 326, .inl fs))]) 3 hP hD [] [0, 1, 2] rfl rfl (by decide) (by decide) hk1 hFc hP1 hD1 rfl
    generalize H1 = H at hP hS ⊢
    obtain rfl : rn10 = 0 := hw
    refine lv_if_eq (tgt := 34) hx hb dX10_proofCharacter_27 (by decide) (fun c11 => ?_) (fun c9 => absurd c9 (by decide))
    refine lv_iconst (v := 1) hx hb dX10_proofCharacter_34 (by decide) ?_
    refine va_put (D := D) (ci := 11) (v := .int 1) (ty := .int) (C := RX10) (T := TX10) (N := 39) hx hb hts inX10 tyX10 tyX10_ok nmX10 hown hK hP hD hS 1 rfl rfl 8 (by decide) (hts (.fieldLink RX10 80 "EscrowDeskModel" "thrown" "I") (by decide +kernel)) (fun _ h9 => h9) rfl (by decide +kernel) rfl rfl (Nat.le_of_ble_eq_true rfl) dX10_proofCharacter_35 (fun H locs hP hD hS => ?_)
    obtain ⟨hP, hD⟩ : PDq D A [(v29, .inl (cA 1, 8, .inr (.inl l29))), (oX10 w0 v0 v1 v2 v3 v4 g5 g6 (nI ed) 1 v9 (nI nb) g11 g12 v13 g14 g15 g16 g17 g18 g19 g20 g21 g22 g23 g24 g25 g26 v27 v28 v29 v30 v31 v32 v33 v34 v35 v36 v37 (nI ol)), (v0, .inl (cA 0, 326, .inl fs))] H := ⟨hP, hD⟩
    refine lv_aload_n hx hb dX10_proofCharacter_38 rfl (lv_at hl 0 rfl) ?_
    refine va_get (D := D) (ci := 11) (v := .int 1) (C := RX10) (T := TX10) (N := 39) hx hb hts inX10 hown hK hP 1 rfl rfl 8 (by decide) (hts (.fieldLink RX10 80 "EscrowDeskModel" "thrown" "I") (by decide +kernel)) (fun _ h9 => h9) rfl dX10_proofCharacter_39 ?_
    refine lv_if_ne (tgt := 59) hx hb dX10_proofCharacter_42 (by decide) (fun c12 => ?_) (fun c9 => absurd c9 (by decide))
    refine lv_iconst (v := 0) hx hb dX10_proofCharacter_59 (by decide) ?_
    obtain ⟨hP9, hD9⟩ := PDq.sub (ws' := [(oX10 w0 v0 v1 v2 v3 v4 g5 g6 (nI ed) 1 v9 (nI nb) g11 g12 v13 g14 g15 g16 g17 g18 g19 g20 g21 g22 g23 g24 g25 g26 v27 v28 v29 v30 v31 v32 v33 v34 v35 v36 v37 (nI ol)), (v0, .inl (cA 0, 326, .inl fs)), (v29, .inl (cA 1, 8, .inr (.inl l29)))]) hP hD [1, 2, 0] (by decide) rfl
    refine W.widen (k := 0) (n := 0) (Nat.le_of_ble_eq_true rfl) (Nat.le_of_ble_eq_true rfl) ?_
    exact (W.zret (v := 0) hx hb hr (by first | rfl | decide) (fun t ht hW => ⟨⟨0, (), rfl, rfl, by rw [ht]; exact hP9, hD9⟩, hS.F ht⟩) hS.2.2 dX10_proofCharacter_60)
  · skip
    refine lv_isub hx hb dX10_proofCharacter_22 ?_
    refine lv_topi (fun yn13 eyn13 => ?_)
    obtain rfl : yn13 = (nI (n9 - 1)) := eyn13.trans (nI_sub (a := n9) (b := 1) (by omega))
    refine lv_i2l (v := ((nI (n9 - 1)).toInt64)) hx hb dX10_proofCharacter_23 rfl ?_
    obtain ⟨hPc, hDc, hFc⟩ := PDq.cut (wc := []) hP hD hS hA [] (by decide) rfl
    refine va_calli (va_runS (As := [.long (j.toInt64), .long 0, .long ((nI (n9 - 1)).toInt64)]) (rest := [.ref w0]) ⟨hx, hb, hml, hown, hts⟩ (r_betweenF l D cA sa (j.toInt64) 0 ((nI (n9 - 1)).toInt64) H.size (l64_out (by omega) (by omega) hout)) (va_cwS 3 hts gX10_proofCharacter_X10_between rfl rfl rfl (by decide +kernel) ⟨(Nat.le_of_ble_eq_true rfl), (Nat.le_of_ble_eq_true rfl)⟩) ⟨Wd.blind, fun U hU hW => ⟨rfl, Wd.call hPc hDc hK hC hZ hS hFc U hU hW⟩⟩ rfl rfl hl.1 rfl (lv_room (Nat.le_of_ble_eq_true rfl)) dX10_proofCharacter_24 ⟨(Nat.le_of_ble_eq_true rfl), (Nat.le_of_ble_eq_true rfl)⟩) hS (fun q _ h => hFc q h) hFc (fun rn14 u t H1 locs ht hvm hw hB hz1 hk1 hS => ?_)
    obtain ⟨hP1, hD1⟩ := hB
    rw [ht] at hP1
    obtain ⟨hP, hD⟩ := PDq.join (w := [(v29, .inl (cA 1, 8, .inr (.inl l29))), (oX10 w0 v0 v1 v2 v3 v4 g5 g6 (nI ed) g8 v9 (nI nb) g11 g12 v13 g14 g15 g16 g17 g18 g19 g20 g21 g22 g23 g24 g25 g26 v27 v28 v29 v30 v31 v32 v33 v34 v35 v36 v37 (nI ol)), (v0, .inl (cA 0, 326, .inl fs))]) 3 hP hD [] [0, 1, 2] rfl rfl (by decide) (by decide) hk1 hFc hP1 hD1 rfl
    generalize H1 = H at hP hS ⊢
    obtain rfl : rn14 = 0 := hw
    refine lv_if_eq (tgt := 34) hx hb dX10_proofCharacter_27 (by decide) (fun c15 => ?_) (fun c9 => absurd c9 (by decide))
    refine lv_iconst (v := 1) hx hb dX10_proofCharacter_34 (by decide) ?_
    refine va_put (D := D) (ci := 11) (v := .int 1) (ty := .int) (C := RX10) (T := TX10) (N := 39) hx hb hts inX10 tyX10 tyX10_ok nmX10 hown hK hP hD hS 1 rfl rfl 8 (by decide) (hts (.fieldLink RX10 80 "EscrowDeskModel" "thrown" "I") (by decide +kernel)) (fun _ h9 => h9) rfl (by decide +kernel) rfl rfl (Nat.le_of_ble_eq_true rfl) dX10_proofCharacter_35 (fun H locs hP hD hS => ?_)
    obtain ⟨hP, hD⟩ : PDq D A [(v29, .inl (cA 1, 8, .inr (.inl l29))), (oX10 w0 v0 v1 v2 v3 v4 g5 g6 (nI ed) 1 v9 (nI nb) g11 g12 v13 g14 g15 g16 g17 g18 g19 g20 g21 g22 g23 g24 g25 g26 v27 v28 v29 v30 v31 v32 v33 v34 v35 v36 v37 (nI ol)), (v0, .inl (cA 0, 326, .inl fs))] H := ⟨hP, hD⟩
    refine lv_aload_n hx hb dX10_proofCharacter_38 rfl (lv_at hl 0 rfl) ?_
    refine va_get (D := D) (ci := 11) (v := .int 1) (C := RX10) (T := TX10) (N := 39) hx hb hts inX10 hown hK hP 1 rfl rfl 8 (by decide) (hts (.fieldLink RX10 80 "EscrowDeskModel" "thrown" "I") (by decide +kernel)) (fun _ h9 => h9) rfl dX10_proofCharacter_39 ?_
    refine lv_if_ne (tgt := 59) hx hb dX10_proofCharacter_42 (by decide) (fun c16 => ?_) (fun c9 => absurd c9 (by decide))
    refine lv_iconst (v := 0) hx hb dX10_proofCharacter_59 (by decide) ?_
    obtain ⟨hP9, hD9⟩ := PDq.sub (ws' := [(oX10 w0 v0 v1 v2 v3 v4 g5 g6 (nI ed) 1 v9 (nI nb) g11 g12 v13 g14 g15 g16 g17 g18 g19 g20 g21 g22 g23 g24 g25 g26 v27 v28 v29 v30 v31 v32 v33 v34 v35 v36 v37 (nI ol)), (v0, .inl (cA 0, 326, .inl fs)), (v29, .inl (cA 1, 8, .inr (.inl l29)))]) hP hD [1, 2, 0] (by decide) rfl
    refine W.widen (k := 0) (n := 0) (Nat.le_of_ble_eq_true rfl) (Nat.le_of_ble_eq_true rfl) ?_
    exact (W.zret (v := 0) hx hb hr (by first | rfl | decide) (fun t ht hW => ⟨⟨0, (), rfl, rfl, by rw [ht]; exact hP9, hD9⟩, hS.F ht⟩) hS.2.2 dX10_proofCharacter_60)

set_option maxHeartbeats 4000000 in
set_option maxRecDepth 100000 in
/-- reference: proofCharacter -/
theorem y_pcOutP (l : Launch) (D : va_G) (cA : Nat → ClassId) (sa : Nat → Nat) (w0 : Nat) (ed : Nat) (nb : Nat) (ol : Nat) (v0 : Nat) (v1 : Nat) (v2 : Nat) (v3 : Nat) (v4 : Nat) (v9 : Nat) (v13 : Nat) (v27 : Nat) (v28 : Nat) (v29 : Nat) (v30 : Nat) (v31 : Nat) (v32 : Nat) (v33 : Nat) (v34 : Nat) (v35 : Nat) (v36 : Nat) (v37 : Nat) (g8 : Int32) (g11 : Int32) (g12 : Int32) (g14 : Int32) (g15 : Int32) (g16 : Int32) (g17 : Int32) (g18 : Int32) (g19 : Int32) (g20 : Int32) (g21 : Int32) (g22 : Int32) (g23 : Int32) (g24 : Int32) (g26 : Int32) (g5 : Int64) (g6 : Int64) (g25 : Int64) (cn : Nat) (pq : Nat) (en : Nat) (dy : Nat) (fs : Nat → Int32) (i : Int32) (j : Int32) (sz : Nat) (hcn : cn ≤ 10) (hpq : pq ≤ 8) (hen : en ≤ 60) (hdy : dy ≤ 20000) (hri : RI cn pq en dy fs) (hout : ¬ ∃ k, k < pq ∧ i = nI k) : Met l yX10_proofCharacter wsX10_proofCharacter ({ frames := 2, cells := 0, slots := 0, locals := 46 }) (va_Pc [.ref w0, .int i, .int j] (Wd D cA sa [(oX10 w0 v0 v1 v2 v3 v4 g5 g6 (nI ed) g8 v9 (nI nb) g11 g12 v13 g14 g15 g16 g17 g18 g19 g20 g21 g22 g23 g24 g25 g26 v27 v28 v29 v30 v31 v32 v33 v34 v35 v36 v37 (nI ol)), (v0, .inl (cA 0, 326, .inl fs))] sz)) (va_Qi (fun (r : Int32) (_ : Unit) => r = 0) (fun (_ : Unit) t => Wq D (va_A [(oX10 w0 v0 v1 v2 v3 v4 g5 g6 (nI ed) g8 v9 (nI nb) g11 g12 v13 g14 g15 g16 g17 g18 g19 g20 g21 g22 g23 g24 g25 g26 v27 v28 v29 v30 v31 v32 v33 v34 v35 v36 v37 (nI ol)), (v0, .inl (cA 0, 326, .inl fs))] sz) [(oX10 w0 v0 v1 v2 v3 v4 g5 g6 (nI ed) 1 v9 (nI nb) g11 g12 v13 g14 g15 g16 g17 g18 g19 g20 g21 g22 g23 g24 g25 g26 v27 v28 v29 v30 v31 v32 v33 v34 v35 v36 v37 (nI ol)), (v0, .inl (cA 0, 326, .inl fs))] t) (va_A [(oX10 w0 v0 v1 v2 v3 v4 g5 g6 (nI ed) g8 v9 (nI nb) g11 g12 v13 g14 g15 g16 g17 g18 g19 g20 g21 g22 g23 g24 g25 g26 v27 v28 v29 v30 v31 v32 v33 v34 v35 v36 v37 (nI ol)), (v0, .inl (cA 0, 326, .inl fs))] sz)) 0 0 (va_A [(oX10 w0 v0 v1 v2 v3 v4 g5 g6 (nI ed) g8 v9 (nI nb) g11 g12 v13 g14 g15 g16 g17 g18 g19 g20 g21 g22 g23 g24 g25 g26 v27 v28 v29 v30 v31 v32 v33 v34 v35 v36 v37 (nI ol)), (v0, .inl (cA 0, 326, .inl fs))] sz) := by
  refine Met.ofW (cc := cX10_proofCharacter) (maxL := 3) (ret := (some .char)) (by decide) rfl ?_
  intro p e s m args below meth c s₁ B hml hv
  obtain ⟨rfl, hsz, hP, hK, hD0, hC, hZ⟩ := hv
  have hx := B.exec
  have hb := B.bytes
  have hr := B.returns
  have hts := atoms_spec (ws := wsX10_proofCharacter) B.pre
  have hown : s.vm.findClass RX10 = some m.cls := findClass_of_methodNamed B.named
  have hlocks := B.notSynchronized
  subst hsz
  have hD := hD0.self (sz := s.heap.size)
  generalize hAe : va_A [(oX10 w0 v0 v1 v2 v3 v4 g5 g6 (nI ed) g8 v9 (nI nb) g11 g12 v13 g14 g15 g16 g17 g18 g19 g20 g21 g22 g23 g24 g25 g26 v27 v28 v29 v30 v31 v32 v33 v34 v35 v36 v37 (nI ol)), (v0, .inl (cA 0, 326, .inl fs))] s.heap.size = A at hD hZ ⊢
  have hA : ∀ q : Nat, s.heap.size ≤ q → A q := fun q h => by rw [← hAe]; exact Or.inr h
  have hS : va_S A s.heap s.heap [] := va_S.rf
  have hP : va_P D vwCl [(oX10 w0 v0 v1 v2 v3 v4 g5 g6 (nI ed) g8 v9 (nI nb) g11 g12 v13 g14 g15 g16 g17 g18 g19 g20 g21 g22 g23 g24 g25 g26 v27 v28 v29 v30 v31 v32 v33 v34 v35 v36 v37 (nI ol)), (v0, .inl (cA 0, 326, .inl fs))] s.heap := hP
  have hl := lv_entry ([.ref w0, .int i, .int j]) (n := 3) (Nat.le_of_ble_eq_true rfl)
  rw [lg_entry_eq]
  generalize (lg_sl ([.ref w0, .int i, .int j]) ++ List.replicate (3 - (lg_sl ([.ref w0, .int i, .int j])).length) Slot.unset).toArray = ls at hl ⊢
  have hl : lv_has ls 3 [(0, .ref w0), (1, .int i), (2, .int j)] := hl
  have inX10 : ∀ w ∈ u_ws RX10 TX10 39, w ∈ wsX10_proofCharacter := by decide +kernel
  refine lv_aload_n hx hb dX10_proofCharacter_0 rfl (lv_at hl 0 rfl) ?_
  refine lv_aload_n hx hb dX10_proofCharacter_1 rfl (lv_at hl 0 rfl) ?_
  refine lv_iload_n hx hb dX10_proofCharacter_2 rfl (lv_at hl 1 rfl) ?_
  obtain ⟨hPc, hDc, hFc⟩ := PDq.cut (wc := [(oX10 w0 v0 v1 v2 v3 v4 g5 g6 (nI ed) g8 v9 (nI nb) g11 g12 v13 g14 g15 g16 g17 g18 g19 g20 g21 g22 g23 g24 g25 g26 v27 v28 v29 v30 v31 v32 v33 v34 v35 v36 v37 (nI ol)), (v0, .inl (cA 0, 326, .inl fs))]) hP hD hS hA [0, 1] (by decide) rfl
  refine va_calli (va_runV (As := [.int i]) (rest := [.ref w0]) ⟨hx, hb, hml, hown, hts⟩ (y_isProofOut l D cA sa w0 ed nb ol v0 v1 v2 v3 v4 v9 v13 v27 v28 v29 v30 v31 v32 v33 v34 v35 v36 v37 g8 g11 g12 g14 g15 g16 g17 g18 g19 g20 g21 g22 g23 g24 g26 g5 g6 g25 cn pq en dy fs i s.heap.size hcn hpq hen hdy hri hout) (cwV 1 hts gX10_proofCharacter_X10_isProof rfl rfl rfl (by decide +kernel) ⟨(Nat.le_of_ble_eq_true rfl), (Nat.le_of_ble_eq_true rfl)⟩) ⟨Wd.blind, va_recv hK hPc (ci := 11) (q0 := 0) rfl rfl, fun U hU hW => ⟨rfl, Wd.call hPc hDc hK hC hZ hS hFc U hU hW⟩⟩ rfl rfl hl.1 rfl (lv_room (Nat.le_of_ble_eq_true rfl)) dX10_proofCharacter_3 ⟨(Nat.le_of_ble_eq_true rfl), (Nat.le_of_ble_eq_true rfl)⟩) hS (fun q _ h => hFc q h) hFc (fun rn1 u t H1 locs ht hvm hw hB hz1 hk1 hS => ?_)
  obtain ⟨hP1, hD1⟩ := hB
  rw [ht] at hP1
  obtain ⟨hP, hD⟩ := PDq.join (w := [(oX10 w0 v0 v1 v2 v3 v4 g5 g6 (nI ed) g8 v9 (nI nb) g11 g12 v13 g14 g15 g16 g17 g18 g19 g20 g21 g22 g23 g24 g25 g26 v27 v28 v29 v30 v31 v32 v33 v34 v35 v36 v37 (nI ol)), (v0, .inl (cA 0, 326, .inl fs))]) 0 hP hD [0, 1] [] rfl rfl (by decide) (by decide) hk1 hFc hP1 hD1 rfl
  generalize H1 = H at hP hS ⊢
  obtain rfl : rn1 = 0 := hw
  refine lv_if_eq (tgt := 34) hx hb dX10_proofCharacter_6 (by decide) (fun c2 => ?_) (fun c9 => absurd c9 (by decide))
  refine lv_iconst (v := 1) hx hb dX10_proofCharacter_34 (by decide) ?_
  refine va_put (D := D) (ci := 11) (v := .int 1) (ty := .int) (C := RX10) (T := TX10) (N := 39) hx hb hts inX10 tyX10 tyX10_ok nmX10 hown hK hP hD hS 0 rfl rfl 8 (by decide) (hts (.fieldLink RX10 80 "EscrowDeskModel" "thrown" "I") (by decide +kernel)) (fun _ h9 => h9) rfl (by decide +kernel) rfl rfl (Nat.le_of_ble_eq_true rfl) dX10_proofCharacter_35 (fun H locs hP hD hS => ?_)
  obtain ⟨hP, hD⟩ : PDq D A [(oX10 w0 v0 v1 v2 v3 v4 g5 g6 (nI ed) 1 v9 (nI nb) g11 g12 v13 g14 g15 g16 g17 g18 g19 g20 g21 g22 g23 g24 g25 g26 v27 v28 v29 v30 v31 v32 v33 v34 v35 v36 v37 (nI ol)), (v0, .inl (cA 0, 326, .inl fs))] H := ⟨hP, hD⟩
  refine lv_aload_n hx hb dX10_proofCharacter_38 rfl (lv_at hl 0 rfl) ?_
  refine va_get (D := D) (ci := 11) (v := .int 1) (C := RX10) (T := TX10) (N := 39) hx hb hts inX10 hown hK hP 0 rfl rfl 8 (by decide) (hts (.fieldLink RX10 80 "EscrowDeskModel" "thrown" "I") (by decide +kernel)) (fun _ h9 => h9) rfl dX10_proofCharacter_39 ?_
  refine lv_if_ne (tgt := 59) hx hb dX10_proofCharacter_42 (by decide) (fun c3 => ?_) (fun c9 => absurd c9 (by decide))
  refine lv_iconst (v := 0) hx hb dX10_proofCharacter_59 (by decide) ?_
  obtain ⟨hP9, hD9⟩ := PDq.sub (ws' := [(oX10 w0 v0 v1 v2 v3 v4 g5 g6 (nI ed) 1 v9 (nI nb) g11 g12 v13 g14 g15 g16 g17 g18 g19 g20 g21 g22 g23 g24 g25 g26 v27 v28 v29 v30 v31 v32 v33 v34 v35 v36 v37 (nI ol)), (v0, .inl (cA 0, 326, .inl fs))]) hP hD [0, 1] (by decide) rfl
  refine W.widen (k := 0) (n := 0) (Nat.le_of_ble_eq_true rfl) (Nat.le_of_ble_eq_true rfl) ?_
  exact (W.zret (v := 0) hx hb hr (by first | rfl | decide) (fun t ht hW => ⟨⟨0, (), rfl, rfl, by rw [ht]; exact hP9, hD9⟩, hS.F ht⟩) hS.2.2 dX10_proofCharacter_60)

