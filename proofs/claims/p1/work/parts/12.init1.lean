set_option maxHeartbeats 4000000 in
set_option maxRecDepth 100000 in
/-- Ledger(): a ring of 240 -/
theorem c_X2_init (l : Launch) (D : va_G) (cA : Nat → ClassId) (sa : Nat → Nat) (h0 : Nat) (sz : Nat) : Met l yX2_init wsX2_init ({ frames := 1, cells := 1, slots := 240, locals := 20 }) (va_Pc [.ref h0] (Wd D cA sa [(h0, .inr (6, [.null, .int 0, .int 0]))] sz)) (va_Qv (fun _ : Unit => True) (fun (_ : Unit) t => ∃ qn1 : Nat, Wq D (va_A [(h0, .inr (6, [.null, .int 0, .int 0]))] sz) [(h0, .inr (6, [.ref qn1, .int 0, .int 0])), (qn1, .inl (cA 0, 240, .inl (fun _ => 0)))] t) (va_A [(h0, .inr (6, [.null, .int 0, .int 0]))] sz)) 1 240 (va_A [(h0, .inr (6, [.null, .int 0, .int 0]))] sz) := by
  refine Met.ofW (cc := cX2_init) (maxL := 1) (ret := none) (by decide) rfl ?_
  intro p e s m args below meth c s₁ B hml hv
  obtain ⟨rfl, hsz, hP, hK, hD0, hC, hZ⟩ := hv
  have hx := B.exec
  have hb := B.bytes
  have hr := B.returns
  have hts := atoms_spec (ws := wsX2_init) B.pre
  have hown : s.vm.findClass RX2 = some m.cls := findClass_of_methodNamed B.named
  have hlocks := B.notSynchronized
  have hin : meth.name = "<init>" := (name_of_methodNamed B.named B.method).1
  subst hsz
  have hD := hD0.self (sz := s.heap.size)
  generalize hAe : va_A [(h0, .inr (6, [.null, .int 0, .int 0]))] s.heap.size = A at hD hZ ⊢
  have hA : ∀ q : Nat, s.heap.size ≤ q → A q := fun q h => by rw [← hAe]; exact Or.inr h
  have hS : va_S A s.heap s.heap [] := va_S.rf
  have hP : va_P D vwCl [(h0, .inr (6, [.null, .int 0, .int 0]))] s.heap := hP
  have hl := lv_entry ([.ref h0]) (n := 1) (Nat.le_of_ble_eq_true rfl)
  rw [lg_entry_eq]
  generalize (lg_sl ([.ref h0]) ++ List.replicate (1 - (lg_sl ([.ref h0])).length) Slot.unset).toArray = ls at hl ⊢
  have hl : lv_has ls 1 [(0, .ref h0)] := hl
  have inX2 : ∀ w ∈ u_ws RX2 TX2 3, w ∈ wsX2_init := by decide +kernel
  refine lv_aload_n hx hb dX2_init_0 rfl (lv_at hl 0 rfl) ?_
  refine W.objInit hx hb hown (hts (.methodLink RX2 3 objectInit) (by decide +kernel)) (hts (.instanceMethod objectInit) (by decide +kernel)) (hts (.code objectInit ⟨#[0xb1]⟩ 1 none) (by decide +kernel)) rfl (by rw [hml]; exact hl.1) rfl dX2_init_1 (Nat.le_of_ble_eq_true rfl) (Nat.le_of_ble_eq_true rfl) ?_
  refine W.eq (g2 := F0 m 4 ls []) rfl ?_
  refine lv_aload_n hx hb dX2_init_4 rfl (lv_at hl 0 rfl) ?_
  refine lv_sipush (v := 240) hx hb dX2_init_5 (by decide) ?_
  refine va_newa (atype := .int) (ty := .int) (N' := 240) (a0 := (240, .inl (fun _ => 0))) hx hb (hts (.arrayClass .int) (by decide +kernel)) rfl hK hP hD hS hA (fun _ => rfl) (by decide) (by decide +kernel) (Nat.le_of_ble_eq_true rfl) (Nat.le_of_ble_eq_true rfl) (Nat.le_of_ble_eq_true rfl) dX2_init_8 (fun qn1 c9 H hK9 hP hD hS => ?_)
  obtain rfl : c9 = cA 0 := ty_one hK9 0 rfl
  have hP : va_P D vwCl [(h0, .inr (6, [.null, .int 0, .int 0])), (qn1, .inl (cA 0, 240, .inl (fun _ => 0)))] H := hP
  have hD : va_D A [(h0, .inr (6, [.null, .int 0, .int 0])), (qn1, .inl (cA 0, 240, .inl (fun _ => 0)))] := hD
  refine va_putF (D := D) (ci := 6) (v := .ref qn1) (ty := (.array .int)) (C := RX2) (T := TX2) (N := 3) hx hb hts inX2 tyX2 tyX2_ok nmX2 hown hK hP hD hS 0 rfl rfl 0 (by decide) (hts (.fieldLink RX2 11 "EscrowDesk$Ledger" "ring" "[I") (by decide +kernel)) (fun _ h9 => h9) rfl hin rfl (by decide +kernel) rfl rfl (Nat.le_of_ble_eq_true rfl) dX2_init_10 (fun H locs hP hD hS => ?_)
  have hP : va_P D vwCl [(h0, .inr (6, [.ref qn1, .int 0, .int 0])), (qn1, .inl (cA 0, 240, .inl (fun _ => 0)))] H := hP
  have hD : va_D A [(h0, .inr (6, [.ref qn1, .int 0, .int 0])), (qn1, .inl (cA 0, 240, .inl (fun _ => 0)))] := hD
  have hP9 := hP.sub (ws' := [(h0, .inr (6, [.ref qn1, .int 0, .int 0])), (qn1, .inl (cA 0, 240, .inl (fun _ => 0)))]) [0, 1] rfl
  have hD9 := hD.sub (ws' := [(h0, .inr (6, [.ref qn1, .int 0, .int 0])), (qn1, .inl (cA 0, 240, .inl (fun _ => 0)))]) [0, 1] (by decide) rfl
  refine W.widen (k := 1) (n := 240) (Nat.le_of_ble_eq_true rfl) (Nat.le_of_ble_eq_true rfl) ?_
  exact W.vret hx hb hr (fun t ht hW => ⟨⟨(), rfl, trivial, qn1, by rw [ht]; exact hP9, hD9⟩, hS.F ht⟩) hS.2.2 dX2_init_13

set_option maxHeartbeats 4000000 in
set_option maxRecDepth 100000 in
/-- clear() -/
theorem c_X2_clear (l : Launch) (D : va_G) (cA : Nat → ClassId) (sa : Nat → Nat) (h0 h1 : Nat) (n0 k0 : Int32) (sz : Nat) : Met l yX2_clear wsX2_clear ({ frames := 0, cells := 0, slots := 0, locals := 0 }) (va_Pc [.ref h0] (Wd D cA sa [(h0, .inr (6, [.ref h1, .int n0, .int k0]))] sz)) (va_Qv (fun _ : Unit => True) (fun (_ : Unit) t => Wq D (va_A [(h0, .inr (6, [.ref h1, .int n0, .int k0]))] sz) [(h0, .inr (6, [.ref h1, .int 0, .int 0]))] t) (va_A [(h0, .inr (6, [.ref h1, .int n0, .int k0]))] sz)) 0 0 (va_A [(h0, .inr (6, [.ref h1, .int n0, .int k0]))] sz) := by
  refine Met.ofW (cc := cX2_clear) (maxL := 1) (ret := none) (by decide) rfl ?_
  intro p e s m args below meth c s₁ B hml hv
  obtain ⟨rfl, hsz, hP, hK, hD0, hC, hZ⟩ := hv
  have hx := B.exec
  have hb := B.bytes
  have hr := B.returns
  have hts := atoms_spec (ws := wsX2_clear) B.pre
  have hown : s.vm.findClass RX2 = some m.cls := findClass_of_methodNamed B.named
  have hlocks := B.notSynchronized
  subst hsz
  have hD := hD0.self (sz := s.heap.size)
  generalize hAe : va_A [(h0, .inr (6, [.ref h1, .int n0, .int k0]))] s.heap.size = A at hD hZ ⊢
  have hA : ∀ q : Nat, s.heap.size ≤ q → A q := fun q h => by rw [← hAe]; exact Or.inr h
  have hS : va_S A s.heap s.heap [] := va_S.rf
  have hP : va_P D vwCl [(h0, .inr (6, [.ref h1, .int n0, .int k0]))] s.heap := hP
  have hl := lv_entry ([.ref h0]) (n := 1) (Nat.le_of_ble_eq_true rfl)
  rw [lg_entry_eq]
  generalize (lg_sl ([.ref h0]) ++ List.replicate (1 - (lg_sl ([.ref h0])).length) Slot.unset).toArray = ls at hl ⊢
  have hl : lv_has ls 1 [(0, .ref h0)] := hl
  have inX2 : ∀ w ∈ u_ws RX2 TX2 3, w ∈ wsX2_clear := by decide +kernel
  refine lv_aload_n hx hb dX2_clear_0 rfl (lv_at hl 0 rfl) ?_
  refine lv_iconst (v := 0) hx hb dX2_clear_1 (by decide) ?_
  refine va_put (D := D) (ci := 6) (v := .int 0) (ty := .int) (C := RX2) (T := TX2) (N := 3) hx hb hts inX2 tyX2 tyX2_ok nmX2 hown hK hP hD hS 0 rfl rfl 1 (by decide) (hts (.fieldLink RX2 15 "EscrowDesk$Ledger" "next" "I") (by decide +kernel)) (fun _ h9 => h9) rfl (by decide +kernel) rfl rfl (Nat.le_of_ble_eq_true rfl) dX2_clear_2 (fun H locs hP hD hS => ?_)
  have hP : va_P D vwCl [(h0, .inr (6, [.ref h1, .int 0, .int k0]))] H := hP
  have hD : va_D A [(h0, .inr (6, [.ref h1, .int 0, .int k0]))] := hD
  refine lv_aload_n hx hb dX2_clear_5 rfl (lv_at hl 0 rfl) ?_
  refine lv_iconst (v := 0) hx hb dX2_clear_6 (by decide) ?_
  refine va_put (D := D) (ci := 6) (v := .int 0) (ty := .int) (C := RX2) (T := TX2) (N := 3) hx hb hts inX2 tyX2 tyX2_ok nmX2 hown hK hP hD hS 0 rfl rfl 2 (by decide) (hts (.fieldLink RX2 19 "EscrowDesk$Ledger" "kept" "I") (by decide +kernel)) (fun _ h9 => h9) rfl (by decide +kernel) rfl rfl (Nat.le_of_ble_eq_true rfl) dX2_clear_7 (fun H locs hP hD hS => ?_)
  have hP : va_P D vwCl [(h0, .inr (6, [.ref h1, .int 0, .int 0]))] H := hP
  have hD : va_D A [(h0, .inr (6, [.ref h1, .int 0, .int 0]))] := hD
  have hP9 := hP.sub (ws' := [(h0, .inr (6, [.ref h1, .int 0, .int 0]))]) [0] rfl
  have hD9 := hD.sub (ws' := [(h0, .inr (6, [.ref h1, .int 0, .int 0]))]) [0] (by decide) rfl
  refine W.widen (k := 0) (n := 0) (Nat.le_of_ble_eq_true rfl) (Nat.le_of_ble_eq_true rfl) ?_
  exact W.vret hx hb hr (fun t ht hW => ⟨⟨(), rfl, trivial, by rw [ht]; exact hP9, hD9⟩, hS.F ht⟩) hS.2.2 dX2_clear_10

set_option maxHeartbeats 4000000 in
set_option maxRecDepth 100000 in
/-- Account(plan) -/
theorem c_X0_init (l : Launch) (D : va_G) (cA : Nat → ClassId) (sa : Nat → Nat) (h0 h1 : Nat) (sz : Nat) : Met l yX0_init wsX0_init ({ frames := 2, cells := 6, slots := 283, locals := 40 }) (va_Pc [.ref h0, .ref h1] (Wd D cA sa [(h0, .inr (4, [.null, .null, .null, .null, .null, .null, .int 0, .int 0, .int 0, .long 0, .long 0, .long 0, .int 0, .int 0, .int 0, .int 0, .int 0, .int 0, .int 0, .int 0]))] sz)) (va_Qv (fun _ : Unit => True) (fun (_ : Unit) t => ∃ qn1 : Nat, ∃ qn2 : Nat, ∃ qn3 : Nat, ∃ qn4 : Nat, ∃ qn5 : Nat, ∃ qn6 : Nat, Wq D (va_A [(h0, .inr (4, [.null, .null, .null, .null, .null, .null, .int 0, .int 0, .int 0, .long 0, .long 0, .long 0, .int 0, .int 0, .int 0, .int 0, .int 0, .int 0, .int 0, .int 0]))] sz) [(h0, .inr (4, [.ref h1, .ref qn1, .ref qn3, .ref qn4, .ref qn5, .ref qn6, .int 0, .int 0, .int 0, .long 0, .long 0, .long 0, .int 0, .int 0, .int 0, .int 0, .int 0, .int 0, .int 0, .int 0])), (qn1, .inr (6, [.ref qn2, .int 0, .int 0])), (qn2, .inl (cA 0, 240, .inl (fun _ => 0))), (qn3, .inl (cA 0, 10, .inl (fun _ => 0))), (qn4, .inl (cA 0, 10, .inl (fun _ => 0))), (qn5, .inl (cA 0, 10, .inl (fun _ => 0))), (qn6, .inl (cA 0, 10, .inl (fun _ => 0)))] t) (va_A [(h0, .inr (4, [.null, .null, .null, .null, .null, .null, .int 0, .int 0, .int 0, .long 0, .long 0, .long 0, .int 0, .int 0, .int 0, .int 0, .int 0, .int 0, .int 0, .int 0]))] sz)) 6 283 (va_A [(h0, .inr (4, [.null, .null, .null, .null, .null, .null, .int 0, .int 0, .int 0, .long 0, .long 0, .long 0, .int 0, .int 0, .int 0, .int 0, .int 0, .int 0, .int 0, .int 0]))] sz) := by
  refine Met.ofW (cc := cX0_init) (maxL := 2) (ret := none) (by decide) rfl ?_
  intro p e s m args below meth c s₁ B hml hv
  obtain ⟨rfl, hsz, hP, hK, hD0, hC, hZ⟩ := hv
  have hx := B.exec
  have hb := B.bytes
  have hr := B.returns
  have hts := atoms_spec (ws := wsX0_init) B.pre
  have hown : s.vm.findClass RX0 = some m.cls := findClass_of_methodNamed B.named
  have hlocks := B.notSynchronized
  have hin : meth.name = "<init>" := (name_of_methodNamed B.named B.method).1
  subst hsz
  have hD := hD0.self (sz := s.heap.size)
  generalize hAe : va_A [(h0, .inr (4, [.null, .null, .null, .null, .null, .null, .int 0, .int 0, .int 0, .long 0, .long 0, .long 0, .int 0, .int 0, .int 0, .int 0, .int 0, .int 0, .int 0, .int 0]))] s.heap.size = A at hD hZ ⊢
  have hA : ∀ q : Nat, s.heap.size ≤ q → A q := fun q h => by rw [← hAe]; exact Or.inr h
  have hS : va_S A s.heap s.heap [] := va_S.rf
  have hP : va_P D vwCl [(h0, .inr (4, [.null, .null, .null, .null, .null, .null, .int 0, .int 0, .int 0, .long 0, .long 0, .long 0, .int 0, .int 0, .int 0, .int 0, .int 0, .int 0, .int 0, .int 0]))] s.heap := hP
  have hl := lv_entry ([.ref h0, .ref h1]) (n := 2) (Nat.le_of_ble_eq_true rfl)
  rw [lg_entry_eq]
  generalize (lg_sl ([.ref h0, .ref h1]) ++ List.replicate (2 - (lg_sl ([.ref h0, .ref h1])).length) Slot.unset).toArray = ls at hl ⊢
  have hl : lv_has ls 2 [(0, .ref h0), (1, .ref h1)] := hl
  have inX0 : ∀ w ∈ u_ws RX0 TX0 20, w ∈ wsX0_init := by decide +kernel
  have inX2 : ∀ w ∈ u_ws RX2 TX2 3, w ∈ wsX0_init := by decide +kernel
  refine lv_aload_n hx hb dX0_init_0 rfl (lv_at hl 0 rfl) ?_
  refine W.objInit hx hb hown (hts (.methodLink RX0 3 objectInit) (by decide +kernel)) (hts (.instanceMethod objectInit) (by decide +kernel)) (hts (.code objectInit ⟨#[0xb1]⟩ 1 none) (by decide +kernel)) rfl (by rw [hml]; exact hl.1) rfl dX0_init_1 (Nat.le_of_ble_eq_true rfl) (Nat.le_of_ble_eq_true rfl) ?_
  refine W.eq (g2 := F0 m 4 ls []) rfl ?_
  refine lv_aload_n hx hb dX0_init_4 rfl (lv_at hl 0 rfl) ?_
  refine va_new (ci := 6) (fs := [.null, .int 0, .int 0]) (C := RX2) (T := TX2) (N := 3) hx hb hts inX2 tyX2 tyX2_ok hown (hts (.classLink RX0 9 RX2) (by decide +kernel)) (hts (.instantiable RX2 3) (by decide +kernel)) (hts (.initialized RX2) (by decide +kernel)) hK hP hD hS hA rfl (by decide +kernel) (Nat.le_of_ble_eq_true rfl) (Nat.le_of_ble_eq_true rfl) dX0_init_5 (fun qn1 H hP hD hS => ?_)
  have hP : va_P D vwCl [(h0, .inr (4, [.null, .null, .null, .null, .null, .null, .int 0, .int 0, .int 0, .long 0, .long 0, .long 0, .int 0, .int 0, .int 0, .int 0, .int 0, .int 0, .int 0, .int 0])), (qn1, .inr (6, [.null, .int 0, .int 0]))] H := hP
  have hD : va_D A [(h0, .inr (4, [.null, .null, .null, .null, .null, .null, .int 0, .int 0, .int 0, .long 0, .long 0, .long 0, .int 0, .int 0, .int 0, .int 0, .int 0, .int 0, .int 0, .int 0])), (qn1, .inr (6, [.null, .int 0, .int 0]))] := hD
  refine lv_dup hx hb dX0_init_8 rfl ?_
  have hPc := hP.sub (ws' := [(qn1, .inr (6, [.null, .int 0, .int 0]))]) [1] rfl
  have hDc := hD.sub (ws' := [(qn1, .inr (6, [.null, .int 0, .int 0]))]) [1] (by decide) rfl
  have hFc := va_free (wc := [(qn1, .inr (6, [.null, .int 0, .int 0]))]) hD hS hA [1] rfl
  refine va_callv (va_runIN (As := []) (rest := [.ref qn1, .ref h0]) ⟨hx, hb, hml, hown, hts⟩ (c_X2_init l D cA sa qn1 H.size) ⟨va_cnB (host := "EscrowDesk") 0 hts gX0_init_X2_init_n11 rfl rfl rfl (hC.m (by decide +kernel)) (hts (.initialized RX2) (by decide +kernel)) (by decide +kernel) ⟨(Nat.le_of_ble_eq_true rfl), (Nat.le_of_ble_eq_true rfl)⟩, rfl, hts (.instanceMethod yX2_init) (by decide +kernel)⟩ ⟨Wd.blind, fun U hU hW => ⟨rfl, Wd.call hPc hDc hK hC hZ hS hFc U hU hW⟩⟩ rfl rfl hl.1 rfl (lv_room (Nat.le_of_ble_eq_true rfl)) dX0_init_9 ⟨(Nat.le_of_ble_eq_true rfl), (Nat.le_of_ble_eq_true rfl)⟩) hS (fun q _ h => hFc q h) hFc (fun u t H1 locs ht hvm hw hB hz1 hk1 hS => ?_)
  obtain ⟨qn2, hP1, hD1⟩ := hB
  rw [ht] at hP1
  obtain ⟨hP, hD⟩ := va_join (wr := [(h0, .inr (4, [.null, .null, .null, .null, .null, .null, .int 0, .int 0, .int 0, .long 0, .long 0, .long 0, .int 0, .int 0, .int 0, .int 0, .int 0, .int 0, .int 0, .int 0]))]) (w1 := [(qn1, .inr (6, [.ref qn2, .int 0, .int 0])), (qn2, .inl (cA 0, 240, .inl (fun _ => 0)))]) hP hD [1] [0] rfl rfl (by decide) (by decide) hk1 hFc hP1 hD1
  generalize H1 = H at hP hS ⊢
  have hP : va_P D vwCl [(h0, .inr (4, [.null, .null, .null, .null, .null, .null, .int 0, .int 0, .int 0, .long 0, .long 0, .long 0, .int 0, .int 0, .int 0, .int 0, .int 0, .int 0, .int 0, .int 0])), (qn1, .inr (6, [.ref qn2, .int 0, .int 0])), (qn2, .inl (cA 0, 240, .inl (fun _ => 0)))] H := hP
  have hD : va_D A [(h0, .inr (4, [.null, .null, .null, .null, .null, .null, .int 0, .int 0, .int 0, .long 0, .long 0, .long 0, .int 0, .int 0, .int 0, .int 0, .int 0, .int 0, .int 0, .int 0])), (qn1, .inr (6, [.ref qn2, .int 0, .int 0])), (qn2, .inl (cA 0, 240, .inl (fun _ => 0)))] := hD
  refine va_putF (D := D) (ci := 4) (v := .ref qn1) (ty := (.object "EscrowDesk$Ledger")) (C := RX0) (T := TX0) (N := 20) hx hb hts inX0 tyX0 tyX0_ok nmX0 hown hK hP hD hS 0 rfl rfl 1 (by decide) (hts (.fieldLink RX0 12 "EscrowDesk$Account" "ledger" "LEscrowDesk$Ledger;") (by decide +kernel)) (fun _ h9 => h9) rfl hin rfl (by decide +kernel) rfl rfl (Nat.le_of_ble_eq_true rfl) dX0_init_12 (fun H locs hP hD hS => ?_)
  have hP : va_P D vwCl [(h0, .inr (4, [.null, .ref qn1, .null, .null, .null, .null, .int 0, .int 0, .int 0, .long 0, .long 0, .long 0, .int 0, .int 0, .int 0, .int 0, .int 0, .int 0, .int 0, .int 0])), (qn1, .inr (6, [.ref qn2, .int 0, .int 0])), (qn2, .inl (cA 0, 240, .inl (fun _ => 0)))] H := hP
  have hD : va_D A [(h0, .inr (4, [.null, .ref qn1, .null, .null, .null, .null, .int 0, .int 0, .int 0, .long 0, .long 0, .long 0, .int 0, .int 0, .int 0, .int 0, .int 0, .int 0, .int 0, .int 0])), (qn1, .inr (6, [.ref qn2, .int 0, .int 0])), (qn2, .inl (cA 0, 240, .inl (fun _ => 0)))] := hD
  refine lv_aload_n hx hb dX0_init_15 rfl (lv_at hl 0 rfl) ?_
  refine lv_bipush (v := 10) hx hb dX0_init_16 (by decide) ?_
  refine va_newa (atype := .int) (ty := .int) (N' := 10) (a0 := (10, .inl (fun _ => 0))) hx hb (hts (.arrayClass .int) (by decide +kernel)) rfl hK hP hD hS hA (fun _ => rfl) (by decide) (by decide +kernel) (Nat.le_of_ble_eq_true rfl) (Nat.le_of_ble_eq_true rfl) (Nat.le_of_ble_eq_true rfl) dX0_init_18 (fun qn3 c9 H hK9 hP hD hS => ?_)
  obtain rfl : c9 = cA 0 := ty_one hK9 0 rfl
  have hP : va_P D vwCl [(h0, .inr (4, [.null, .ref qn1, .null, .null, .null, .null, .int 0, .int 0, .int 0, .long 0, .long 0, .long 0, .int 0, .int 0, .int 0, .int 0, .int 0, .int 0, .int 0, .int 0])), (qn1, .inr (6, [.ref qn2, .int 0, .int 0])), (qn2, .inl (cA 0, 240, .inl (fun _ => 0))), (qn3, .inl (cA 0, 10, .inl (fun _ => 0)))] H := hP
  have hD : va_D A [(h0, .inr (4, [.null, .ref qn1, .null, .null, .null, .null, .int 0, .int 0, .int 0, .long 0, .long 0, .long 0, .int 0, .int 0, .int 0, .int 0, .int 0, .int 0, .int 0, .int 0])), (qn1, .inr (6, [.ref qn2, .int 0, .int 0])), (qn2, .inl (cA 0, 240, .inl (fun _ => 0))), (qn3, .inl (cA 0, 10, .inl (fun _ => 0)))] := hD
  refine va_putF (D := D) (ci := 4) (v := .ref qn3) (ty := (.array .int)) (C := RX0) (T := TX0) (N := 20) hx hb hts inX0 tyX0 tyX0_ok nmX0 hown hK hP hD hS 0 rfl rfl 2 (by decide) (hts (.fieldLink RX0 18 "EscrowDesk$Account" "state" "[I") (by decide +kernel)) (fun _ h9 => h9) rfl hin rfl (by decide +kernel) rfl rfl (Nat.le_of_ble_eq_true rfl) dX0_init_20 (fun H locs hP hD hS => ?_)
  have hP : va_P D vwCl [(h0, .inr (4, [.null, .ref qn1, .ref qn3, .null, .null, .null, .int 0, .int 0, .int 0, .long 0, .long 0, .long 0, .int 0, .int 0, .int 0, .int 0, .int 0, .int 0, .int 0, .int 0])), (qn1, .inr (6, [.ref qn2, .int 0, .int 0])), (qn2, .inl (cA 0, 240, .inl (fun _ => 0))), (qn3, .inl (cA 0, 10, .inl (fun _ => 0)))] H := hP
  have hD : va_D A [(h0, .inr (4, [.null, .ref qn1, .ref qn3, .null, .null, .null, .int 0, .int 0, .int 0, .long 0, .long 0, .long 0, .int 0, .int 0, .int 0, .int 0, .int 0, .int 0, .int 0, .int 0])), (qn1, .inr (6, [.ref qn2, .int 0, .int 0])), (qn2, .inl (cA 0, 240, .inl (fun _ => 0))), (qn3, .inl (cA 0, 10, .inl (fun _ => 0)))] := hD
  refine lv_aload_n hx hb dX0_init_23 rfl (lv_at hl 0 rfl) ?_
  refine lv_bipush (v := 10) hx hb dX0_init_24 (by decide) ?_
  refine va_newa (atype := .int) (ty := .int) (N' := 10) (a0 := (10, .inl (fun _ => 0))) hx hb (hts (.arrayClass .int) (by decide +kernel)) rfl hK hP hD hS hA (fun _ => rfl) (by decide) (by decide +kernel) (Nat.le_of_ble_eq_true rfl) (Nat.le_of_ble_eq_true rfl) (Nat.le_of_ble_eq_true rfl) dX0_init_26 (fun qn4 c9 H hK9 hP hD hS => ?_)
  obtain rfl : c9 = cA 0 := ty_one hK9 0 rfl
  have hP : va_P D vwCl [(h0, .inr (4, [.null, .ref qn1, .ref qn3, .null, .null, .null, .int 0, .int 0, .int 0, .long 0, .long 0, .long 0, .int 0, .int 0, .int 0, .int 0, .int 0, .int 0, .int 0, .int 0])), (qn1, .inr (6, [.ref qn2, .int 0, .int 0])), (qn2, .inl (cA 0, 240, .inl (fun _ => 0))), (qn3, .inl (cA 0, 10, .inl (fun _ => 0))), (qn4, .inl (cA 0, 10, .inl (fun _ => 0)))] H := hP
  have hD : va_D A [(h0, .inr (4, [.null, .ref qn1, .ref qn3, .null, .null, .null, .int 0, .int 0, .int 0, .long 0, .long 0, .long 0, .int 0, .int 0, .int 0, .int 0, .int 0, .int 0, .int 0, .int 0])), (qn1, .inr (6, [.ref qn2, .int 0, .int 0])), (qn2, .inl (cA 0, 240, .inl (fun _ => 0))), (qn3, .inl (cA 0, 10, .inl (fun _ => 0))), (qn4, .inl (cA 0, 10, .inl (fun _ => 0)))] := hD
  refine va_putF (D := D) (ci := 4) (v := .ref qn4) (ty := (.array .int)) (C := RX0) (T := TX0) (N := 20) hx hb hts inX0 tyX0 tyX0_ok nmX0 hown hK hP hD hS 0 rfl rfl 3 (by decide) (hts (.fieldLink RX0 22 "EscrowDesk$Account" "paid" "[I") (by decide +kernel)) (fun _ h9 => h9) rfl hin rfl (by decide +kernel) rfl rfl (Nat.le_of_ble_eq_true rfl) dX0_init_28 (fun H locs hP hD hS => ?_)
  have hP : va_P D vwCl [(h0, .inr (4, [.null, .ref qn1, .ref qn3, .ref qn4, .null, .null, .int 0, .int 0, .int 0, .long 0, .long 0, .long 0, .int 0, .int 0, .int 0, .int 0, .int 0, .int 0, .int 0, .int 0])), (qn1, .inr (6, [.ref qn2, .int 0, .int 0])), (qn2, .inl (cA 0, 240, .inl (fun _ => 0))), (qn3, .inl (cA 0, 10, .inl (fun _ => 0))), (qn4, .inl (cA 0, 10, .inl (fun _ => 0)))] H := hP
  have hD : va_D A [(h0, .inr (4, [.null, .ref qn1, .ref qn3, .ref qn4, .null, .null, .int 0, .int 0, .int 0, .long 0, .long 0, .long 0, .int 0, .int 0, .int 0, .int 0, .int 0, .int 0, .int 0, .int 0])), (qn1, .inr (6, [.ref qn2, .int 0, .int 0])), (qn2, .inl (cA 0, 240, .inl (fun _ => 0))), (qn3, .inl (cA 0, 10, .inl (fun _ => 0))), (qn4, .inl (cA 0, 10, .inl (fun _ => 0)))] := hD
  refine lv_aload_n hx hb dX0_init_31 rfl (lv_at hl 0 rfl) ?_
  refine lv_bipush (v := 10) hx hb dX0_init_32 (by decide) ?_
  refine va_newa (atype := .int) (ty := .int) (N' := 10) (a0 := (10, .inl (fun _ => 0))) hx hb (hts (.arrayClass .int) (by decide +kernel)) rfl hK hP hD hS hA (fun _ => rfl) (by decide) (by decide +kernel) (Nat.le_of_ble_eq_true rfl) (Nat.le_of_ble_eq_true rfl) (Nat.le_of_ble_eq_true rfl) dX0_init_34 (fun qn5 c9 H hK9 hP hD hS => ?_)
  obtain rfl : c9 = cA 0 := ty_one hK9 0 rfl
  have hP : va_P D vwCl [(h0, .inr (4, [.null, .ref qn1, .ref qn3, .ref qn4, .null, .null, .int 0, .int 0, .int 0, .long 0, .long 0, .long 0, .int 0, .int 0, .int 0, .int 0, .int 0, .int 0, .int 0, .int 0])), (qn1, .inr (6, [.ref qn2, .int 0, .int 0])), (qn2, .inl (cA 0, 240, .inl (fun _ => 0))), (qn3, .inl (cA 0, 10, .inl (fun _ => 0))), (qn4, .inl (cA 0, 10, .inl (fun _ => 0))), (qn5, .inl (cA 0, 10, .inl (fun _ => 0)))] H := hP
  have hD : va_D A [(h0, .inr (4, [.null, .ref qn1, .ref qn3, .ref qn4, .null, .null, .int 0, .int 0, .int 0, .long 0, .long 0, .long 0, .int 0, .int 0, .int 0, .int 0, .int 0, .int 0, .int 0, .int 0])), (qn1, .inr (6, [.ref qn2, .int 0, .int 0])), (qn2, .inl (cA 0, 240, .inl (fun _ => 0))), (qn3, .inl (cA 0, 10, .inl (fun _ => 0))), (qn4, .inl (cA 0, 10, .inl (fun _ => 0))), (qn5, .inl (cA 0, 10, .inl (fun _ => 0)))] := hD
  refine va_putF (D := D) (ci := 4) (v := .ref qn5) (ty := (.array .int)) (C := RX0) (T := TX0) (N := 20) hx hb hts inX0 tyX0 tyX0_ok nmX0 hown hK hP hD hS 0 rfl rfl 4 (by decide) (hts (.fieldLink RX0 25 "EscrowDesk$Account" "frozen" "[I") (by decide +kernel)) (fun _ h9 => h9) rfl hin rfl (by decide +kernel) rfl rfl (Nat.le_of_ble_eq_true rfl) dX0_init_36 (fun H locs hP hD hS => ?_)
  have hP : va_P D vwCl [(h0, .inr (4, [.null, .ref qn1, .ref qn3, .ref qn4, .ref qn5, .null, .int 0, .int 0, .int 0, .long 0, .long 0, .long 0, .int 0, .int 0, .int 0, .int 0, .int 0, .int 0, .int 0, .int 0])), (qn1, .inr (6, [.ref qn2, .int 0, .int 0])), (qn2, .inl (cA 0, 240, .inl (fun _ => 0))), (qn3, .inl (cA 0, 10, .inl (fun _ => 0))), (qn4, .inl (cA 0, 10, .inl (fun _ => 0))), (qn5, .inl (cA 0, 10, .inl (fun _ => 0)))] H := hP
  have hD : va_D A [(h0, .inr (4, [.null, .ref qn1, .ref qn3, .ref qn4, .ref qn5, .null, .int 0, .int 0, .int 0, .long 0, .long 0, .long 0, .int 0, .int 0, .int 0, .int 0, .int 0, .int 0, .int 0, .int 0])), (qn1, .inr (6, [.ref qn2, .int 0, .int 0])), (qn2, .inl (cA 0, 240, .inl (fun _ => 0))), (qn3, .inl (cA 0, 10, .inl (fun _ => 0))), (qn4, .inl (cA 0, 10, .inl (fun _ => 0))), (qn5, .inl (cA 0, 10, .inl (fun _ => 0)))] := hD
  refine lv_aload_n hx hb dX0_init_39 rfl (lv_at hl 0 rfl) ?_
  refine lv_bipush (v := 10) hx hb dX0_init_40 (by decide) ?_
  refine va_newa (atype := .int) (ty := .int) (N' := 10) (a0 := (10, .inl (fun _ => 0))) hx hb (hts (.arrayClass .int) (by decide +kernel)) rfl hK hP hD hS hA (fun _ => rfl) (by decide) (by decide +kernel) (Nat.le_of_ble_eq_true rfl) (Nat.le_of_ble_eq_true rfl) (Nat.le_of_ble_eq_true rfl) dX0_init_42 (fun qn6 c9 H hK9 hP hD hS => ?_)
  obtain rfl : c9 = cA 0 := ty_one hK9 0 rfl
  have hP : va_P D vwCl [(h0, .inr (4, [.null, .ref qn1, .ref qn3, .ref qn4, .ref qn5, .null, .int 0, .int 0, .int 0, .long 0, .long 0, .long 0, .int 0, .int 0, .int 0, .int 0, .int 0, .int 0, .int 0, .int 0])), (qn1, .inr (6, [.ref qn2, .int 0, .int 0])), (qn2, .inl (cA 0, 240, .inl (fun _ => 0))), (qn3, .inl (cA 0, 10, .inl (fun _ => 0))), (qn4, .inl (cA 0, 10, .inl (fun _ => 0))), (qn5, .inl (cA 0, 10, .inl (fun _ => 0))), (qn6, .inl (cA 0, 10, .inl (fun _ => 0)))] H := hP
  have hD : va_D A [(h0, .inr (4, [.null, .ref qn1, .ref qn3, .ref qn4, .ref qn5, .null, .int 0, .int 0, .int 0, .long 0, .long 0, .long 0, .int 0, .int 0, .int 0, .int 0, .int 0, .int 0, .int 0, .int 0])), (qn1, .inr (6, [.ref qn2, .int 0, .int 0])), (qn2, .inl (cA 0, 240, .inl (fun _ => 0))), (qn3, .inl (cA 0, 10, .inl (fun _ => 0))), (qn4, .inl (cA 0, 10, .inl (fun _ => 0))), (qn5, .inl (cA 0, 10, .inl (fun _ => 0))), (qn6, .inl (cA 0, 10, .inl (fun _ => 0)))] := hD
  refine va_putF (D := D) (ci := 4) (v := .ref qn6) (ty := (.array .int)) (C := RX0) (T := TX0) (N := 20) hx hb hts inX0 tyX0 tyX0_ok nmX0 hown hK hP hD hS 0 rfl rfl 5 (by decide) (hts (.fieldLink RX0 28 "EscrowDesk$Account" "dueDay" "[I") (by decide +kernel)) (fun _ h9 => h9) rfl hin rfl (by decide +kernel) rfl rfl (Nat.le_of_ble_eq_true rfl) dX0_init_44 (fun H locs hP hD hS => ?_)
  have hP : va_P D vwCl [(h0, .inr (4, [.null, .ref qn1, .ref qn3, .ref qn4, .ref qn5, .ref qn6, .int 0, .int 0, .int 0, .long 0, .long 0, .long 0, .int 0, .int 0, .int 0, .int 0, .int 0, .int 0, .int 0, .int 0])), (qn1, .inr (6, [.ref qn2, .int 0, .int 0])), (qn2, .inl (cA 0, 240, .inl (fun _ => 0))), (qn3, .inl (cA 0, 10, .inl (fun _ => 0))), (qn4, .inl (cA 0, 10, .inl (fun _ => 0))), (qn5, .inl (cA 0, 10, .inl (fun _ => 0))), (qn6, .inl (cA 0, 10, .inl (fun _ => 0)))] H := hP
  have hD : va_D A [(h0, .inr (4, [.null, .ref qn1, .ref qn3, .ref qn4, .ref qn5, .ref qn6, .int 0, .int 0, .int 0, .long 0, .long 0, .long 0, .int 0, .int 0, .int 0, .int 0, .int 0, .int 0, .int 0, .int 0])), (qn1, .inr (6, [.ref qn2, .int 0, .int 0])), (qn2, .inl (cA 0, 240, .inl (fun _ => 0))), (qn3, .inl (cA 0, 10, .inl (fun _ => 0))), (qn4, .inl (cA 0, 10, .inl (fun _ => 0))), (qn5, .inl (cA 0, 10, .inl (fun _ => 0))), (qn6, .inl (cA 0, 10, .inl (fun _ => 0)))] := hD
  refine lv_aload_n hx hb dX0_init_47 rfl (lv_at hl 0 rfl) ?_
  refine lv_aload_n hx hb dX0_init_48 rfl (lv_at hl 1 rfl) ?_
  refine va_put (D := D) (ci := 4) (v := .ref h1) (ty := (.object "EscrowDesk$Plan")) (C := RX0) (T := TX0) (N := 20) hx hb hts inX0 tyX0 tyX0_ok nmX0 hown hK hP hD hS 0 rfl rfl 0 (by decide) (hts (.fieldLink RX0 31 "EscrowDesk$Account" "plan" "LEscrowDesk$Plan;") (by decide +kernel)) (fun _ h9 => h9) rfl (by decide +kernel) rfl rfl (Nat.le_of_ble_eq_true rfl) dX0_init_49 (fun H locs hP hD hS => ?_)
  have hP : va_P D vwCl [(h0, .inr (4, [.ref h1, .ref qn1, .ref qn3, .ref qn4, .ref qn5, .ref qn6, .int 0, .int 0, .int 0, .long 0, .long 0, .long 0, .int 0, .int 0, .int 0, .int 0, .int 0, .int 0, .int 0, .int 0])), (qn1, .inr (6, [.ref qn2, .int 0, .int 0])), (qn2, .inl (cA 0, 240, .inl (fun _ => 0))), (qn3, .inl (cA 0, 10, .inl (fun _ => 0))), (qn4, .inl (cA 0, 10, .inl (fun _ => 0))), (qn5, .inl (cA 0, 10, .inl (fun _ => 0))), (qn6, .inl (cA 0, 10, .inl (fun _ => 0)))] H := hP
  have hD : va_D A [(h0, .inr (4, [.ref h1, .ref qn1, .ref qn3, .ref qn4, .ref qn5, .ref qn6, .int 0, .int 0, .int 0, .long 0, .long 0, .long 0, .int 0, .int 0, .int 0, .int 0, .int 0, .int 0, .int 0, .int 0])), (qn1, .inr (6, [.ref qn2, .int 0, .int 0])), (qn2, .inl (cA 0, 240, .inl (fun _ => 0))), (qn3, .inl (cA 0, 10, .inl (fun _ => 0))), (qn4, .inl (cA 0, 10, .inl (fun _ => 0))), (qn5, .inl (cA 0, 10, .inl (fun _ => 0))), (qn6, .inl (cA 0, 10, .inl (fun _ => 0)))] := hD
  have hP9 := hP.sub (ws' := [(h0, .inr (4, [.ref h1, .ref qn1, .ref qn3, .ref qn4, .ref qn5, .ref qn6, .int 0, .int 0, .int 0, .long 0, .long 0, .long 0, .int 0, .int 0, .int 0, .int 0, .int 0, .int 0, .int 0, .int 0])), (qn1, .inr (6, [.ref qn2, .int 0, .int 0])), (qn2, .inl (cA 0, 240, .inl (fun _ => 0))), (qn3, .inl (cA 0, 10, .inl (fun _ => 0))), (qn4, .inl (cA 0, 10, .inl (fun _ => 0))), (qn5, .inl (cA 0, 10, .inl (fun _ => 0))), (qn6, .inl (cA 0, 10, .inl (fun _ => 0)))]) [0, 1, 2, 3, 4, 5, 6] rfl
  have hD9 := hD.sub (ws' := [(h0, .inr (4, [.ref h1, .ref qn1, .ref qn3, .ref qn4, .ref qn5, .ref qn6, .int 0, .int 0, .int 0, .long 0, .long 0, .long 0, .int 0, .int 0, .int 0, .int 0, .int 0, .int 0, .int 0, .int 0])), (qn1, .inr (6, [.ref qn2, .int 0, .int 0])), (qn2, .inl (cA 0, 240, .inl (fun _ => 0))), (qn3, .inl (cA 0, 10, .inl (fun _ => 0))), (qn4, .inl (cA 0, 10, .inl (fun _ => 0))), (qn5, .inl (cA 0, 10, .inl (fun _ => 0))), (qn6, .inl (cA 0, 10, .inl (fun _ => 0)))]) [0, 1, 2, 3, 4, 5, 6] (by decide) rfl
  refine W.widen (k := 6) (n := 283) (Nat.le_of_ble_eq_true rfl) (Nat.le_of_ble_eq_true rfl) ?_
  exact W.vret hx hb hr (fun t ht hW => ⟨⟨(), rfl, trivial, qn1, qn2, qn3, qn4, qn5, qn6, by rw [ht]; exact hP9, hD9⟩, hS.F ht⟩) hS.2.2 dX0_init_52

set_option maxHeartbeats 4000000 in
set_option maxRecDepth 100000 in
/-- Scanner() -/
theorem c_X5_init (l : Launch) (D : va_G) (cA : Nat → ClassId) (sa : Nat → Nat) (h0 : Nat) (sz : Nat) : Met l yX5_init wsX5_init ({ frames := 1, cells := 3, slots := 2103, locals := 20 }) (va_Pc [.ref h0] (Wd D cA sa [(h0, .inr (9, [.null, .null, .null, .int 0]))] sz)) (va_Qv (fun _ : Unit => True) (fun (_ : Unit) t => ∃ qn1 : Nat, ∃ qn2 : Nat, ∃ qn3 : Nat, Wq D (va_A [(h0, .inr (9, [.null, .null, .null, .int 0]))] sz) [(h0, .inr (9, [.ref qn1, .ref qn2, .ref qn3, .int 0])), (qn1, .inl (cA 0, 701, .inl (fun _ => 0))), (qn2, .inl (cA 0, 701, .inl (fun _ => 0))), (qn3, .inl (cA 1, 701, .inr (.inl (fun _ => 0))))] t) (va_A [(h0, .inr (9, [.null, .null, .null, .int 0]))] sz)) 3 2103 (va_A [(h0, .inr (9, [.null, .null, .null, .int 0]))] sz) := by
  refine Met.ofW (cc := cX5_init) (maxL := 1) (ret := none) (by decide) rfl ?_
  intro p e s m args below meth c s₁ B hml hv
  obtain ⟨rfl, hsz, hP, hK, hD0, hC, hZ⟩ := hv
  have hx := B.exec
  have hb := B.bytes
  have hr := B.returns
  have hts := atoms_spec (ws := wsX5_init) B.pre
  have hown : s.vm.findClass RX5 = some m.cls := findClass_of_methodNamed B.named
  have hlocks := B.notSynchronized
  have hin : meth.name = "<init>" := (name_of_methodNamed B.named B.method).1
  subst hsz
  have hD := hD0.self (sz := s.heap.size)
  generalize hAe : va_A [(h0, .inr (9, [.null, .null, .null, .int 0]))] s.heap.size = A at hD hZ ⊢
  have hA : ∀ q : Nat, s.heap.size ≤ q → A q := fun q h => by rw [← hAe]; exact Or.inr h
  have hS : va_S A s.heap s.heap [] := va_S.rf
  have hP : va_P D vwCl [(h0, .inr (9, [.null, .null, .null, .int 0]))] s.heap := hP
  have hl := lv_entry ([.ref h0]) (n := 1) (Nat.le_of_ble_eq_true rfl)
  rw [lg_entry_eq]
  generalize (lg_sl ([.ref h0]) ++ List.replicate (1 - (lg_sl ([.ref h0])).length) Slot.unset).toArray = ls at hl ⊢
  have hl : lv_has ls 1 [(0, .ref h0)] := hl
  have inX5 : ∀ w ∈ u_ws RX5 TX5 4, w ∈ wsX5_init := by decide +kernel
  refine lv_aload_n hx hb dX5_init_0 rfl (lv_at hl 0 rfl) ?_
  refine W.objInit hx hb hown (hts (.methodLink RX5 3 objectInit) (by decide +kernel)) (hts (.instanceMethod objectInit) (by decide +kernel)) (hts (.code objectInit ⟨#[0xb1]⟩ 1 none) (by decide +kernel)) rfl (by rw [hml]; exact hl.1) rfl dX5_init_1 (Nat.le_of_ble_eq_true rfl) (Nat.le_of_ble_eq_true rfl) ?_
  refine W.eq (g2 := F0 m 4 ls []) rfl ?_
  refine lv_aload_n hx hb dX5_init_4 rfl (lv_at hl 0 rfl) ?_
  refine lv_sipush (v := 701) hx hb dX5_init_5 (by decide) ?_
  refine va_newa (atype := .int) (ty := .int) (N' := 701) (a0 := (701, .inl (fun _ => 0))) hx hb (hts (.arrayClass .int) (by decide +kernel)) rfl hK hP hD hS hA (fun _ => rfl) (by decide) (by decide +kernel) (Nat.le_of_ble_eq_true rfl) (Nat.le_of_ble_eq_true rfl) (Nat.le_of_ble_eq_true rfl) dX5_init_8 (fun qn1 c9 H hK9 hP hD hS => ?_)
  obtain rfl : c9 = cA 0 := ty_one hK9 0 rfl
  have hP : va_P D vwCl [(h0, .inr (9, [.null, .null, .null, .int 0])), (qn1, .inl (cA 0, 701, .inl (fun _ => 0)))] H := hP
  have hD : va_D A [(h0, .inr (9, [.null, .null, .null, .int 0])), (qn1, .inl (cA 0, 701, .inl (fun _ => 0)))] := hD
  refine va_putF (D := D) (ci := 9) (v := .ref qn1) (ty := (.array .int)) (C := RX5) (T := TX5) (N := 4) hx hb hts inX5 tyX5 tyX5_ok nmX5 hown hK hP hD hS 0 rfl rfl 0 (by decide) (hts (.fieldLink RX5 9 "EscrowDesk$Scanner" "kinds" "[I") (by decide +kernel)) (fun _ h9 => h9) rfl hin rfl (by decide +kernel) rfl rfl (Nat.le_of_ble_eq_true rfl) dX5_init_10 (fun H locs hP hD hS => ?_)
  have hP : va_P D vwCl [(h0, .inr (9, [.ref qn1, .null, .null, .int 0])), (qn1, .inl (cA 0, 701, .inl (fun _ => 0)))] H := hP
  have hD : va_D A [(h0, .inr (9, [.ref qn1, .null, .null, .int 0])), (qn1, .inl (cA 0, 701, .inl (fun _ => 0)))] := hD
  refine lv_aload_n hx hb dX5_init_13 rfl (lv_at hl 0 rfl) ?_
  refine lv_sipush (v := 701) hx hb dX5_init_14 (by decide) ?_
  refine va_newa (atype := .int) (ty := .int) (N' := 701) (a0 := (701, .inl (fun _ => 0))) hx hb (hts (.arrayClass .int) (by decide +kernel)) rfl hK hP hD hS hA (fun _ => rfl) (by decide) (by decide +kernel) (Nat.le_of_ble_eq_true rfl) (Nat.le_of_ble_eq_true rfl) (Nat.le_of_ble_eq_true rfl) dX5_init_17 (fun qn2 c9 H hK9 hP hD hS => ?_)
  obtain rfl : c9 = cA 0 := ty_one hK9 0 rfl
  have hP : va_P D vwCl [(h0, .inr (9, [.ref qn1, .null, .null, .int 0])), (qn1, .inl (cA 0, 701, .inl (fun _ => 0))), (qn2, .inl (cA 0, 701, .inl (fun _ => 0)))] H := hP
  have hD : va_D A [(h0, .inr (9, [.ref qn1, .null, .null, .int 0])), (qn1, .inl (cA 0, 701, .inl (fun _ => 0))), (qn2, .inl (cA 0, 701, .inl (fun _ => 0)))] := hD
  refine va_putF (D := D) (ci := 9) (v := .ref qn2) (ty := (.array .int)) (C := RX5) (T := TX5) (N := 4) hx hb hts inX5 tyX5 tyX5_ok nmX5 hown hK hP hD hS 0 rfl rfl 1 (by decide) (hts (.fieldLink RX5 15 "EscrowDesk$Scanner" "starts" "[I") (by decide +kernel)) (fun _ h9 => h9) rfl hin rfl (by decide +kernel) rfl rfl (Nat.le_of_ble_eq_true rfl) dX5_init_19 (fun H locs hP hD hS => ?_)
  have hP : va_P D vwCl [(h0, .inr (9, [.ref qn1, .ref qn2, .null, .int 0])), (qn1, .inl (cA 0, 701, .inl (fun _ => 0))), (qn2, .inl (cA 0, 701, .inl (fun _ => 0)))] H := hP
  have hD : va_D A [(h0, .inr (9, [.ref qn1, .ref qn2, .null, .int 0])), (qn1, .inl (cA 0, 701, .inl (fun _ => 0))), (qn2, .inl (cA 0, 701, .inl (fun _ => 0)))] := hD
  refine lv_aload_n hx hb dX5_init_22 rfl (lv_at hl 0 rfl) ?_
  refine lv_sipush (v := 701) hx hb dX5_init_23 (by decide) ?_
  refine va_newa (atype := .long) (ty := .long) (N' := 701) (a0 := (701, .inr (.inl (fun _ => 0)))) hx hb (hts (.arrayClass .long) (by decide +kernel)) rfl hK hP hD hS hA (fun _ => rfl) (by decide) (by decide +kernel) (Nat.le_of_ble_eq_true rfl) (Nat.le_of_ble_eq_true rfl) (Nat.le_of_ble_eq_true rfl) dX5_init_26 (fun qn3 c9 H hK9 hP hD hS => ?_)
  obtain rfl : c9 = cA 1 := ty_one hK9 1 rfl
  have hP : va_P D vwCl [(h0, .inr (9, [.ref qn1, .ref qn2, .null, .int 0])), (qn1, .inl (cA 0, 701, .inl (fun _ => 0))), (qn2, .inl (cA 0, 701, .inl (fun _ => 0))), (qn3, .inl (cA 1, 701, .inr (.inl (fun _ => 0))))] H := hP
  have hD : va_D A [(h0, .inr (9, [.ref qn1, .ref qn2, .null, .int 0])), (qn1, .inl (cA 0, 701, .inl (fun _ => 0))), (qn2, .inl (cA 0, 701, .inl (fun _ => 0))), (qn3, .inl (cA 1, 701, .inr (.inl (fun _ => 0))))] := hD
  refine va_putF (D := D) (ci := 9) (v := .ref qn3) (ty := (.array .long)) (C := RX5) (T := TX5) (N := 4) hx hb hts inX5 tyX5 tyX5_ok nmX5 hown hK hP hD hS 0 rfl rfl 2 (by decide) (hts (.fieldLink RX5 18 "EscrowDesk$Scanner" "values" "[J") (by decide +kernel)) (fun _ h9 => h9) rfl hin rfl (by decide +kernel) rfl rfl (Nat.le_of_ble_eq_true rfl) dX5_init_28 (fun H locs hP hD hS => ?_)
  have hP : va_P D vwCl [(h0, .inr (9, [.ref qn1, .ref qn2, .ref qn3, .int 0])), (qn1, .inl (cA 0, 701, .inl (fun _ => 0))), (qn2, .inl (cA 0, 701, .inl (fun _ => 0))), (qn3, .inl (cA 1, 701, .inr (.inl (fun _ => 0))))] H := hP
  have hD : va_D A [(h0, .inr (9, [.ref qn1, .ref qn2, .ref qn3, .int 0])), (qn1, .inl (cA 0, 701, .inl (fun _ => 0))), (qn2, .inl (cA 0, 701, .inl (fun _ => 0))), (qn3, .inl (cA 1, 701, .inr (.inl (fun _ => 0))))] := hD
  have hP9 := hP.sub (ws' := [(h0, .inr (9, [.ref qn1, .ref qn2, .ref qn3, .int 0])), (qn1, .inl (cA 0, 701, .inl (fun _ => 0))), (qn2, .inl (cA 0, 701, .inl (fun _ => 0))), (qn3, .inl (cA 1, 701, .inr (.inl (fun _ => 0))))]) [0, 1, 2, 3] rfl
  have hD9 := hD.sub (ws' := [(h0, .inr (9, [.ref qn1, .ref qn2, .ref qn3, .int 0])), (qn1, .inl (cA 0, 701, .inl (fun _ => 0))), (qn2, .inl (cA 0, 701, .inl (fun _ => 0))), (qn3, .inl (cA 1, 701, .inr (.inl (fun _ => 0))))]) [0, 1, 2, 3] (by decide) rfl
  refine W.widen (k := 3) (n := 2103) (Nat.le_of_ble_eq_true rfl) (Nat.le_of_ble_eq_true rfl) ?_
  exact W.vret hx hb hr (fun t ht hW => ⟨⟨(), rfl, trivial, qn1, qn2, qn3, by rw [ht]; exact hP9, hD9⟩, hS.F ht⟩) hS.2.2 dX5_init_31

set_option maxHeartbeats 4000000 in
set_option maxRecDepth 100000 in
/-- Plan() -/
theorem c_X3_init (l : Launch) (D : va_G) (cA : Nat → ClassId) (sa : Nat → Nat) (h0 : Nat) (sz : Nat) : Met l yX3_init wsX3_init ({ frames := 1, cells := 9, slots := 764, locals := 20 }) (va_Pc [.ref h0] (Wd D cA sa [(h0, .inr (7, [.int 0, .int 0, .int 0, .int 0, .null, .int 0, .null, .null, .null, .null, .int 0, .null, .int 0, .null, .null, .null, .int 0]))] sz)) (va_Qv (fun _ : Unit => True) (fun (_ : Unit) t => ∃ qn1 : Nat, ∃ qn2 : Nat, ∃ qn3 : Nat, ∃ qn4 : Nat, ∃ qn5 : Nat, ∃ qn6 : Nat, ∃ qn7 : Nat, ∃ qn8 : Nat, ∃ qn9 : Nat, Wq D (va_A [(h0, .inr (7, [.int 0, .int 0, .int 0, .int 0, .null, .int 0, .null, .null, .null, .null, .int 0, .null, .int 0, .null, .null, .null, .int 0]))] sz) [(h0, .inr (7, [.int 0, .int 365, .int 0, .int 0, .ref qn1, .int 0, .ref qn2, .ref qn3, .ref qn4, .ref qn5, .int 0, .ref qn6, .int 0, .ref qn7, .ref qn8, .ref qn9, .int 0])), (qn1, .inl (cA 0, 6, .inl (fun _ => 0))), (qn2, .inl (cA 1, 10, .inr (.inl (fun _ => 0)))), (qn3, .inl (cA 0, 10, .inl (fun _ => 0))), (qn4, .inl (cA 0, 10, .inl (fun _ => 0))), (qn5, .inl (cA 0, 10, .inl (fun _ => 0))), (qn6, .inl (cA 1, 8, .inr (.inl (fun _ => 0)))), (qn7, .inl (cA 0, 350, .inl (fun _ => 0))), (qn8, .inl (cA 0, 350, .inl (fun _ => 0))), (qn9, .inl (cA 0, 10, .inl (fun _ => 0)))] t) (va_A [(h0, .inr (7, [.int 0, .int 0, .int 0, .int 0, .null, .int 0, .null, .null, .null, .null, .int 0, .null, .int 0, .null, .null, .null, .int 0]))] sz)) 9 764 (va_A [(h0, .inr (7, [.int 0, .int 0, .int 0, .int 0, .null, .int 0, .null, .null, .null, .null, .int 0, .null, .int 0, .null, .null, .null, .int 0]))] sz) := by
  refine Met.ofW (cc := cX3_init) (maxL := 1) (ret := none) (by decide) rfl ?_
  intro p e s m args below meth c s₁ B hml hv
  obtain ⟨rfl, hsz, hP, hK, hD0, hC, hZ⟩ := hv
  have hx := B.exec
  have hb := B.bytes
  have hr := B.returns
  have hts := atoms_spec (ws := wsX3_init) B.pre
  have hown : s.vm.findClass RX3 = some m.cls := findClass_of_methodNamed B.named
  have hlocks := B.notSynchronized
  have hin : meth.name = "<init>" := (name_of_methodNamed B.named B.method).1
  subst hsz
  have hD := hD0.self (sz := s.heap.size)
  generalize hAe : va_A [(h0, .inr (7, [.int 0, .int 0, .int 0, .int 0, .null, .int 0, .null, .null, .null, .null, .int 0, .null, .int 0, .null, .null, .null, .int 0]))] s.heap.size = A at hD hZ ⊢
  have hA : ∀ q : Nat, s.heap.size ≤ q → A q := fun q h => by rw [← hAe]; exact Or.inr h
  have hS : va_S A s.heap s.heap [] := va_S.rf
  have hP : va_P D vwCl [(h0, .inr (7, [.int 0, .int 0, .int 0, .int 0, .null, .int 0, .null, .null, .null, .null, .int 0, .null, .int 0, .null, .null, .null, .int 0]))] s.heap := hP
  have hl := lv_entry ([.ref h0]) (n := 1) (Nat.le_of_ble_eq_true rfl)
  rw [lg_entry_eq]
  generalize (lg_sl ([.ref h0]) ++ List.replicate (1 - (lg_sl ([.ref h0])).length) Slot.unset).toArray = ls at hl ⊢
  have hl : lv_has ls 1 [(0, .ref h0)] := hl
  have inX3 : ∀ w ∈ u_ws RX3 TX3 17, w ∈ wsX3_init := by decide +kernel
  refine lv_aload_n hx hb dX3_init_0 rfl (lv_at hl 0 rfl) ?_
  refine W.objInit hx hb hown (hts (.methodLink RX3 3 objectInit) (by decide +kernel)) (hts (.instanceMethod objectInit) (by decide +kernel)) (hts (.code objectInit ⟨#[0xb1]⟩ 1 none) (by decide +kernel)) rfl (by rw [hml]; exact hl.1) rfl dX3_init_1 (Nat.le_of_ble_eq_true rfl) (Nat.le_of_ble_eq_true rfl) ?_
  refine W.eq (g2 := F0 m 4 ls []) rfl ?_
  refine lv_aload_n hx hb dX3_init_4 rfl (lv_at hl 0 rfl) ?_
  refine lv_sipush (v := 365) hx hb dX3_init_5 (by decide) ?_
  refine va_put (D := D) (ci := 7) (v := .int 365) (ty := .int) (C := RX3) (T := TX3) (N := 17) hx hb hts inX3 tyX3 tyX3_ok nmX3 hown hK hP hD hS 0 rfl rfl 1 (by decide) (hts (.fieldLink RX3 9 "EscrowDesk$Plan" "basis" "I") (by decide +kernel)) (fun _ h9 => h9) rfl (by decide +kernel) rfl rfl (Nat.le_of_ble_eq_true rfl) dX3_init_8 (fun H locs hP hD hS => ?_)
  have hP : va_P D vwCl [(h0, .inr (7, [.int 0, .int 365, .int 0, .int 0, .null, .int 0, .null, .null, .null, .null, .int 0, .null, .int 0, .null, .null, .null, .int 0]))] H := hP
  have hD : va_D A [(h0, .inr (7, [.int 0, .int 365, .int 0, .int 0, .null, .int 0, .null, .null, .null, .null, .int 0, .null, .int 0, .null, .null, .null, .int 0]))] := hD
  refine lv_aload_n hx hb dX3_init_11 rfl (lv_at hl 0 rfl) ?_
  refine lv_bipush (v := 6) hx hb dX3_init_12 (by decide) ?_
  refine va_newa (atype := .int) (ty := .int) (N' := 6) (a0 := (6, .inl (fun _ => 0))) hx hb (hts (.arrayClass .int) (by decide +kernel)) rfl hK hP hD hS hA (fun _ => rfl) (by decide) (by decide +kernel) (Nat.le_of_ble_eq_true rfl) (Nat.le_of_ble_eq_true rfl) (Nat.le_of_ble_eq_true rfl) dX3_init_14 (fun qn1 c9 H hK9 hP hD hS => ?_)
  obtain rfl : c9 = cA 0 := ty_one hK9 0 rfl
  have hP : va_P D vwCl [(h0, .inr (7, [.int 0, .int 365, .int 0, .int 0, .null, .int 0, .null, .null, .null, .null, .int 0, .null, .int 0, .null, .null, .null, .int 0])), (qn1, .inl (cA 0, 6, .inl (fun _ => 0)))] H := hP
  have hD : va_D A [(h0, .inr (7, [.int 0, .int 365, .int 0, .int 0, .null, .int 0, .null, .null, .null, .null, .int 0, .null, .int 0, .null, .null, .null, .int 0])), (qn1, .inl (cA 0, 6, .inl (fun _ => 0)))] := hD
  refine va_putF (D := D) (ci := 7) (v := .ref qn1) (ty := (.array .int)) (C := RX3) (T := TX3) (N := 17) hx hb hts inX3 tyX3 tyX3_ok nmX3 hown hK hP hD hS 0 rfl rfl 4 (by decide) (hts (.fieldLink RX3 15 "EscrowDesk$Plan" "deposits" "[I") (by decide +kernel)) (fun _ h9 => h9) rfl hin rfl (by decide +kernel) rfl rfl (Nat.le_of_ble_eq_true rfl) dX3_init_16 (fun H locs hP hD hS => ?_)
  have hP : va_P D vwCl [(h0, .inr (7, [.int 0, .int 365, .int 0, .int 0, .ref qn1, .int 0, .null, .null, .null, .null, .int 0, .null, .int 0, .null, .null, .null, .int 0])), (qn1, .inl (cA 0, 6, .inl (fun _ => 0)))] H := hP
  have hD : va_D A [(h0, .inr (7, [.int 0, .int 365, .int 0, .int 0, .ref qn1, .int 0, .null, .null, .null, .null, .int 0, .null, .int 0, .null, .null, .null, .int 0])), (qn1, .inl (cA 0, 6, .inl (fun _ => 0)))] := hD
  refine lv_aload_n hx hb dX3_init_19 rfl (lv_at hl 0 rfl) ?_
  refine lv_bipush (v := 10) hx hb dX3_init_20 (by decide) ?_
  refine va_newa (atype := .long) (ty := .long) (N' := 10) (a0 := (10, .inr (.inl (fun _ => 0)))) hx hb (hts (.arrayClass .long) (by decide +kernel)) rfl hK hP hD hS hA (fun _ => rfl) (by decide) (by decide +kernel) (Nat.le_of_ble_eq_true rfl) (Nat.le_of_ble_eq_true rfl) (Nat.le_of_ble_eq_true rfl) dX3_init_22 (fun qn2 c9 H hK9 hP hD hS => ?_)
  obtain rfl : c9 = cA 1 := ty_one hK9 1 rfl
  have hP : va_P D vwCl [(h0, .inr (7, [.int 0, .int 365, .int 0, .int 0, .ref qn1, .int 0, .null, .null, .null, .null, .int 0, .null, .int 0, .null, .null, .null, .int 0])), (qn1, .inl (cA 0, 6, .inl (fun _ => 0))), (qn2, .inl (cA 1, 10, .inr (.inl (fun _ => 0))))] H := hP
  have hD : va_D A [(h0, .inr (7, [.int 0, .int 365, .int 0, .int 0, .ref qn1, .int 0, .null, .null, .null, .null, .int 0, .null, .int 0, .null, .null, .null, .int 0])), (qn1, .inl (cA 0, 6, .inl (fun _ => 0))), (qn2, .inl (cA 1, 10, .inr (.inl (fun _ => 0))))] := hD
  refine va_putF (D := D) (ci := 7) (v := .ref qn2) (ty := (.array .long)) (C := RX3) (T := TX3) (N := 17) hx hb hts inX3 tyX3 tyX3_ok nmX3 hown hK hP hD hS 0 rfl rfl 6 (by decide) (hts (.fieldLink RX3 19 "EscrowDesk$Plan" "names" "[J") (by decide +kernel)) (fun _ h9 => h9) rfl hin rfl (by decide +kernel) rfl rfl (Nat.le_of_ble_eq_true rfl) dX3_init_24 (fun H locs hP hD hS => ?_)
  have hP : va_P D vwCl [(h0, .inr (7, [.int 0, .int 365, .int 0, .int 0, .ref qn1, .int 0, .ref qn2, .null, .null, .null, .int 0, .null, .int 0, .null, .null, .null, .int 0])), (qn1, .inl (cA 0, 6, .inl (fun _ => 0))), (qn2, .inl (cA 1, 10, .inr (.inl (fun _ => 0))))] H := hP
  have hD : va_D A [(h0, .inr (7, [.int 0, .int 365, .int 0, .int 0, .ref qn1, .int 0, .ref qn2, .null, .null, .null, .int 0, .null, .int 0, .null, .null, .null, .int 0])), (qn1, .inl (cA 0, 6, .inl (fun _ => 0))), (qn2, .inl (cA 1, 10, .inr (.inl (fun _ => 0))))] := hD
  refine lv_aload_n hx hb dX3_init_27 rfl (lv_at hl 0 rfl) ?_
  refine lv_bipush (v := 10) hx hb dX3_init_28 (by decide) ?_
  refine va_newa (atype := .int) (ty := .int) (N' := 10) (a0 := (10, .inl (fun _ => 0))) hx hb (hts (.arrayClass .int) (by decide +kernel)) rfl hK hP hD hS hA (fun _ => rfl) (by decide) (by decide +kernel) (Nat.le_of_ble_eq_true rfl) (Nat.le_of_ble_eq_true rfl) (Nat.le_of_ble_eq_true rfl) dX3_init_30 (fun qn3 c9 H hK9 hP hD hS => ?_)
  obtain rfl : c9 = cA 0 := ty_one hK9 0 rfl
  have hP : va_P D vwCl [(h0, .inr (7, [.int 0, .int 365, .int 0, .int 0, .ref qn1, .int 0, .ref qn2, .null, .null, .null, .int 0, .null, .int 0, .null, .null, .null, .int 0])), (qn1, .inl (cA 0, 6, .inl (fun _ => 0))), (qn2, .inl (cA 1, 10, .inr (.inl (fun _ => 0)))), (qn3, .inl (cA 0, 10, .inl (fun _ => 0)))] H := hP
  have hD : va_D A [(h0, .inr (7, [.int 0, .int 365, .int 0, .int 0, .ref qn1, .int 0, .ref qn2, .null, .null, .null, .int 0, .null, .int 0, .null, .null, .null, .int 0])), (qn1, .inl (cA 0, 6, .inl (fun _ => 0))), (qn2, .inl (cA 1, 10, .inr (.inl (fun _ => 0)))), (qn3, .inl (cA 0, 10, .inl (fun _ => 0)))] := hD
  refine va_putF (D := D) (ci := 7) (v := .ref qn3) (ty := (.array .int)) (C := RX3) (T := TX3) (N := 17) hx hb hts inX3 tyX3 tyX3_ok nmX3 hown hK hP hD hS 0 rfl rfl 7 (by decide) (hts (.fieldLink RX3 23 "EscrowDesk$Plan" "amounts" "[I") (by decide +kernel)) (fun _ h9 => h9) rfl hin rfl (by decide +kernel) rfl rfl (Nat.le_of_ble_eq_true rfl) dX3_init_32 (fun H locs hP hD hS => ?_)
  have hP : va_P D vwCl [(h0, .inr (7, [.int 0, .int 365, .int 0, .int 0, .ref qn1, .int 0, .ref qn2, .ref qn3, .null, .null, .int 0, .null, .int 0, .null, .null, .null, .int 0])), (qn1, .inl (cA 0, 6, .inl (fun _ => 0))), (qn2, .inl (cA 1, 10, .inr (.inl (fun _ => 0)))), (qn3, .inl (cA 0, 10, .inl (fun _ => 0)))] H := hP
  have hD : va_D A [(h0, .inr (7, [.int 0, .int 365, .int 0, .int 0, .ref qn1, .int 0, .ref qn2, .ref qn3, .null, .null, .int 0, .null, .int 0, .null, .null, .null, .int 0])), (qn1, .inl (cA 0, 6, .inl (fun _ => 0))), (qn2, .inl (cA 1, 10, .inr (.inl (fun _ => 0)))), (qn3, .inl (cA 0, 10, .inl (fun _ => 0)))] := hD
  refine lv_aload_n hx hb dX3_init_35 rfl (lv_at hl 0 rfl) ?_
  refine lv_bipush (v := 10) hx hb dX3_init_36 (by decide) ?_
  refine va_newa (atype := .int) (ty := .int) (N' := 10) (a0 := (10, .inl (fun _ => 0))) hx hb (hts (.arrayClass .int) (by decide +kernel)) rfl hK hP hD hS hA (fun _ => rfl) (by decide) (by decide +kernel) (Nat.le_of_ble_eq_true rfl) (Nat.le_of_ble_eq_true rfl) (Nat.le_of_ble_eq_true rfl) dX3_init_38 (fun qn4 c9 H hK9 hP hD hS => ?_)
  obtain rfl : c9 = cA 0 := ty_one hK9 0 rfl
  have hP : va_P D vwCl [(h0, .inr (7, [.int 0, .int 365, .int 0, .int 0, .ref qn1, .int 0, .ref qn2, .ref qn3, .null, .null, .int 0, .null, .int 0, .null, .null, .null, .int 0])), (qn1, .inl (cA 0, 6, .inl (fun _ => 0))), (qn2, .inl (cA 1, 10, .inr (.inl (fun _ => 0)))), (qn3, .inl (cA 0, 10, .inl (fun _ => 0))), (qn4, .inl (cA 0, 10, .inl (fun _ => 0)))] H := hP
  have hD : va_D A [(h0, .inr (7, [.int 0, .int 365, .int 0, .int 0, .ref qn1, .int 0, .ref qn2, .ref qn3, .null, .null, .int 0, .null, .int 0, .null, .null, .null, .int 0])), (qn1, .inl (cA 0, 6, .inl (fun _ => 0))), (qn2, .inl (cA 1, 10, .inr (.inl (fun _ => 0)))), (qn3, .inl (cA 0, 10, .inl (fun _ => 0))), (qn4, .inl (cA 0, 10, .inl (fun _ => 0)))] := hD
  refine va_putF (D := D) (ci := 7) (v := .ref qn4) (ty := (.array .int)) (C := RX3) (T := TX3) (N := 17) hx hb hts inX3 tyX3 tyX3_ok nmX3 hown hK hP hD hS 0 rfl rfl 8 (by decide) (hts (.fieldLink RX3 26 "EscrowDesk$Plan" "priorities" "[I") (by decide +kernel)) (fun _ h9 => h9) rfl hin rfl (by decide +kernel) rfl rfl (Nat.le_of_ble_eq_true rfl) dX3_init_40 (fun H locs hP hD hS => ?_)
  have hP : va_P D vwCl [(h0, .inr (7, [.int 0, .int 365, .int 0, .int 0, .ref qn1, .int 0, .ref qn2, .ref qn3, .ref qn4, .null, .int 0, .null, .int 0, .null, .null, .null, .int 0])), (qn1, .inl (cA 0, 6, .inl (fun _ => 0))), (qn2, .inl (cA 1, 10, .inr (.inl (fun _ => 0)))), (qn3, .inl (cA 0, 10, .inl (fun _ => 0))), (qn4, .inl (cA 0, 10, .inl (fun _ => 0)))] H := hP
  have hD : va_D A [(h0, .inr (7, [.int 0, .int 365, .int 0, .int 0, .ref qn1, .int 0, .ref qn2, .ref qn3, .ref qn4, .null, .int 0, .null, .int 0, .null, .null, .null, .int 0])), (qn1, .inl (cA 0, 6, .inl (fun _ => 0))), (qn2, .inl (cA 1, 10, .inr (.inl (fun _ => 0)))), (qn3, .inl (cA 0, 10, .inl (fun _ => 0))), (qn4, .inl (cA 0, 10, .inl (fun _ => 0)))] := hD
  refine lv_aload_n hx hb dX3_init_43 rfl (lv_at hl 0 rfl) ?_
  refine lv_bipush (v := 10) hx hb dX3_init_44 (by decide) ?_
  refine va_newa (atype := .int) (ty := .int) (N' := 10) (a0 := (10, .inl (fun _ => 0))) hx hb (hts (.arrayClass .int) (by decide +kernel)) rfl hK hP hD hS hA (fun _ => rfl) (by decide) (by decide +kernel) (Nat.le_of_ble_eq_true rfl) (Nat.le_of_ble_eq_true rfl) (Nat.le_of_ble_eq_true rfl) dX3_init_46 (fun qn5 c9 H hK9 hP hD hS => ?_)
  obtain rfl : c9 = cA 0 := ty_one hK9 0 rfl
  have hP : va_P D vwCl [(h0, .inr (7, [.int 0, .int 365, .int 0, .int 0, .ref qn1, .int 0, .ref qn2, .ref qn3, .ref qn4, .null, .int 0, .null, .int 0, .null, .null, .null, .int 0])), (qn1, .inl (cA 0, 6, .inl (fun _ => 0))), (qn2, .inl (cA 1, 10, .inr (.inl (fun _ => 0)))), (qn3, .inl (cA 0, 10, .inl (fun _ => 0))), (qn4, .inl (cA 0, 10, .inl (fun _ => 0))), (qn5, .inl (cA 0, 10, .inl (fun _ => 0)))] H := hP
  have hD : va_D A [(h0, .inr (7, [.int 0, .int 365, .int 0, .int 0, .ref qn1, .int 0, .ref qn2, .ref qn3, .ref qn4, .null, .int 0, .null, .int 0, .null, .null, .null, .int 0])), (qn1, .inl (cA 0, 6, .inl (fun _ => 0))), (qn2, .inl (cA 1, 10, .inr (.inl (fun _ => 0)))), (qn3, .inl (cA 0, 10, .inl (fun _ => 0))), (qn4, .inl (cA 0, 10, .inl (fun _ => 0))), (qn5, .inl (cA 0, 10, .inl (fun _ => 0)))] := hD
  refine va_putF (D := D) (ci := 7) (v := .ref qn5) (ty := (.array .int)) (C := RX3) (T := TX3) (N := 17) hx hb hts inX3 tyX3 tyX3_ok nmX3 hown hK hP hD hS 0 rfl rfl 9 (by decide) (hts (.fieldLink RX3 29 "EscrowDesk$Plan" "byPriority" "[I") (by decide +kernel)) (fun _ h9 => h9) rfl hin rfl (by decide +kernel) rfl rfl (Nat.le_of_ble_eq_true rfl) dX3_init_48 (fun H locs hP hD hS => ?_)
  have hP : va_P D vwCl [(h0, .inr (7, [.int 0, .int 365, .int 0, .int 0, .ref qn1, .int 0, .ref qn2, .ref qn3, .ref qn4, .ref qn5, .int 0, .null, .int 0, .null, .null, .null, .int 0])), (qn1, .inl (cA 0, 6, .inl (fun _ => 0))), (qn2, .inl (cA 1, 10, .inr (.inl (fun _ => 0)))), (qn3, .inl (cA 0, 10, .inl (fun _ => 0))), (qn4, .inl (cA 0, 10, .inl (fun _ => 0))), (qn5, .inl (cA 0, 10, .inl (fun _ => 0)))] H := hP
  have hD : va_D A [(h0, .inr (7, [.int 0, .int 365, .int 0, .int 0, .ref qn1, .int 0, .ref qn2, .ref qn3, .ref qn4, .ref qn5, .int 0, .null, .int 0, .null, .null, .null, .int 0])), (qn1, .inl (cA 0, 6, .inl (fun _ => 0))), (qn2, .inl (cA 1, 10, .inr (.inl (fun _ => 0)))), (qn3, .inl (cA 0, 10, .inl (fun _ => 0))), (qn4, .inl (cA 0, 10, .inl (fun _ => 0))), (qn5, .inl (cA 0, 10, .inl (fun _ => 0)))] := hD
  refine lv_aload_n hx hb dX3_init_51 rfl (lv_at hl 0 rfl) ?_
  refine lv_bipush (v := 8) hx hb dX3_init_52 (by decide) ?_
  refine va_newa (atype := .long) (ty := .long) (N' := 8) (a0 := (8, .inr (.inl (fun _ => 0)))) hx hb (hts (.arrayClass .long) (by decide +kernel)) rfl hK hP hD hS hA (fun _ => rfl) (by decide) (by decide +kernel) (Nat.le_of_ble_eq_true rfl) (Nat.le_of_ble_eq_true rfl) (Nat.le_of_ble_eq_true rfl) dX3_init_54 (fun qn6 c9 H hK9 hP hD hS => ?_)
  obtain rfl : c9 = cA 1 := ty_one hK9 1 rfl
  have hP : va_P D vwCl [(h0, .inr (7, [.int 0, .int 365, .int 0, .int 0, .ref qn1, .int 0, .ref qn2, .ref qn3, .ref qn4, .ref qn5, .int 0, .null, .int 0, .null, .null, .null, .int 0])), (qn1, .inl (cA 0, 6, .inl (fun _ => 0))), (qn2, .inl (cA 1, 10, .inr (.inl (fun _ => 0)))), (qn3, .inl (cA 0, 10, .inl (fun _ => 0))), (qn4, .inl (cA 0, 10, .inl (fun _ => 0))), (qn5, .inl (cA 0, 10, .inl (fun _ => 0))), (qn6, .inl (cA 1, 8, .inr (.inl (fun _ => 0))))] H := hP
  have hD : va_D A [(h0, .inr (7, [.int 0, .int 365, .int 0, .int 0, .ref qn1, .int 0, .ref qn2, .ref qn3, .ref qn4, .ref qn5, .int 0, .null, .int 0, .null, .null, .null, .int 0])), (qn1, .inl (cA 0, 6, .inl (fun _ => 0))), (qn2, .inl (cA 1, 10, .inr (.inl (fun _ => 0)))), (qn3, .inl (cA 0, 10, .inl (fun _ => 0))), (qn4, .inl (cA 0, 10, .inl (fun _ => 0))), (qn5, .inl (cA 0, 10, .inl (fun _ => 0))), (qn6, .inl (cA 1, 8, .inr (.inl (fun _ => 0))))] := hD
  refine va_putF (D := D) (ci := 7) (v := .ref qn6) (ty := (.array .long)) (C := RX3) (T := TX3) (N := 17) hx hb hts inX3 tyX3 tyX3_ok nmX3 hown hK hP hD hS 0 rfl rfl 11 (by decide) (hts (.fieldLink RX3 32 "EscrowDesk$Plan" "proofNames" "[J") (by decide +kernel)) (fun _ h9 => h9) rfl hin rfl (by decide +kernel) rfl rfl (Nat.le_of_ble_eq_true rfl) dX3_init_56 (fun H locs hP hD hS => ?_)
  have hP : va_P D vwCl [(h0, .inr (7, [.int 0, .int 365, .int 0, .int 0, .ref qn1, .int 0, .ref qn2, .ref qn3, .ref qn4, .ref qn5, .int 0, .ref qn6, .int 0, .null, .null, .null, .int 0])), (qn1, .inl (cA 0, 6, .inl (fun _ => 0))), (qn2, .inl (cA 1, 10, .inr (.inl (fun _ => 0)))), (qn3, .inl (cA 0, 10, .inl (fun _ => 0))), (qn4, .inl (cA 0, 10, .inl (fun _ => 0))), (qn5, .inl (cA 0, 10, .inl (fun _ => 0))), (qn6, .inl (cA 1, 8, .inr (.inl (fun _ => 0))))] H := hP
  have hD : va_D A [(h0, .inr (7, [.int 0, .int 365, .int 0, .int 0, .ref qn1, .int 0, .ref qn2, .ref qn3, .ref qn4, .ref qn5, .int 0, .ref qn6, .int 0, .null, .null, .null, .int 0])), (qn1, .inl (cA 0, 6, .inl (fun _ => 0))), (qn2, .inl (cA 1, 10, .inr (.inl (fun _ => 0)))), (qn3, .inl (cA 0, 10, .inl (fun _ => 0))), (qn4, .inl (cA 0, 10, .inl (fun _ => 0))), (qn5, .inl (cA 0, 10, .inl (fun _ => 0))), (qn6, .inl (cA 1, 8, .inr (.inl (fun _ => 0))))] := hD
  refine lv_aload_n hx hb dX3_init_59 rfl (lv_at hl 0 rfl) ?_
  refine lv_sipush (v := 350) hx hb dX3_init_60 (by decide) ?_
  refine va_newa (atype := .int) (ty := .int) (N' := 350) (a0 := (350, .inl (fun _ => 0))) hx hb (hts (.arrayClass .int) (by decide +kernel)) rfl hK hP hD hS hA (fun _ => rfl) (by decide) (by decide +kernel) (Nat.le_of_ble_eq_true rfl) (Nat.le_of_ble_eq_true rfl) (Nat.le_of_ble_eq_true rfl) dX3_init_63 (fun qn7 c9 H hK9 hP hD hS => ?_)
  obtain rfl : c9 = cA 0 := ty_one hK9 0 rfl
  have hP : va_P D vwCl [(h0, .inr (7, [.int 0, .int 365, .int 0, .int 0, .ref qn1, .int 0, .ref qn2, .ref qn3, .ref qn4, .ref qn5, .int 0, .ref qn6, .int 0, .null, .null, .null, .int 0])), (qn1, .inl (cA 0, 6, .inl (fun _ => 0))), (qn2, .inl (cA 1, 10, .inr (.inl (fun _ => 0)))), (qn3, .inl (cA 0, 10, .inl (fun _ => 0))), (qn4, .inl (cA 0, 10, .inl (fun _ => 0))), (qn5, .inl (cA 0, 10, .inl (fun _ => 0))), (qn6, .inl (cA 1, 8, .inr (.inl (fun _ => 0)))), (qn7, .inl (cA 0, 350, .inl (fun _ => 0)))] H := hP
  have hD : va_D A [(h0, .inr (7, [.int 0, .int 365, .int 0, .int 0, .ref qn1, .int 0, .ref qn2, .ref qn3, .ref qn4, .ref qn5, .int 0, .ref qn6, .int 0, .null, .null, .null, .int 0])), (qn1, .inl (cA 0, 6, .inl (fun _ => 0))), (qn2, .inl (cA 1, 10, .inr (.inl (fun _ => 0)))), (qn3, .inl (cA 0, 10, .inl (fun _ => 0))), (qn4, .inl (cA 0, 10, .inl (fun _ => 0))), (qn5, .inl (cA 0, 10, .inl (fun _ => 0))), (qn6, .inl (cA 1, 8, .inr (.inl (fun _ => 0)))), (qn7, .inl (cA 0, 350, .inl (fun _ => 0)))] := hD
  refine va_putF (D := D) (ci := 7) (v := .ref qn7) (ty := (.array .int)) (C := RX3) (T := TX3) (N := 17) hx hb hts inX3 tyX3 tyX3_ok nmX3 hown hK hP hD hS 0 rfl rfl 13 (by decide) (hts (.fieldLink RX3 35 "EscrowDesk$Plan" "steps" "[I") (by decide +kernel)) (fun _ h9 => h9) rfl hin rfl (by decide +kernel) rfl rfl (Nat.le_of_ble_eq_true rfl) dX3_init_65 (fun H locs hP hD hS => ?_)
  have hP : va_P D vwCl [(h0, .inr (7, [.int 0, .int 365, .int 0, .int 0, .ref qn1, .int 0, .ref qn2, .ref qn3, .ref qn4, .ref qn5, .int 0, .ref qn6, .int 0, .ref qn7, .null, .null, .int 0])), (qn1, .inl (cA 0, 6, .inl (fun _ => 0))), (qn2, .inl (cA 1, 10, .inr (.inl (fun _ => 0)))), (qn3, .inl (cA 0, 10, .inl (fun _ => 0))), (qn4, .inl (cA 0, 10, .inl (fun _ => 0))), (qn5, .inl (cA 0, 10, .inl (fun _ => 0))), (qn6, .inl (cA 1, 8, .inr (.inl (fun _ => 0)))), (qn7, .inl (cA 0, 350, .inl (fun _ => 0)))] H := hP
  have hD : va_D A [(h0, .inr (7, [.int 0, .int 365, .int 0, .int 0, .ref qn1, .int 0, .ref qn2, .ref qn3, .ref qn4, .ref qn5, .int 0, .ref qn6, .int 0, .ref qn7, .null, .null, .int 0])), (qn1, .inl (cA 0, 6, .inl (fun _ => 0))), (qn2, .inl (cA 1, 10, .inr (.inl (fun _ => 0)))), (qn3, .inl (cA 0, 10, .inl (fun _ => 0))), (qn4, .inl (cA 0, 10, .inl (fun _ => 0))), (qn5, .inl (cA 0, 10, .inl (fun _ => 0))), (qn6, .inl (cA 1, 8, .inr (.inl (fun _ => 0)))), (qn7, .inl (cA 0, 350, .inl (fun _ => 0)))] := hD
  refine lv_aload_n hx hb dX3_init_68 rfl (lv_at hl 0 rfl) ?_
  refine lv_sipush (v := 350) hx hb dX3_init_69 (by decide) ?_
  refine va_newa (atype := .int) (ty := .int) (N' := 350) (a0 := (350, .inl (fun _ => 0))) hx hb (hts (.arrayClass .int) (by decide +kernel)) rfl hK hP hD hS hA (fun _ => rfl) (by decide) (by decide +kernel) (Nat.le_of_ble_eq_true rfl) (Nat.le_of_ble_eq_true rfl) (Nat.le_of_ble_eq_true rfl) dX3_init_72 (fun qn8 c9 H hK9 hP hD hS => ?_)
  obtain rfl : c9 = cA 0 := ty_one hK9 0 rfl
  have hP : va_P D vwCl [(h0, .inr (7, [.int 0, .int 365, .int 0, .int 0, .ref qn1, .int 0, .ref qn2, .ref qn3, .ref qn4, .ref qn5, .int 0, .ref qn6, .int 0, .ref qn7, .null, .null, .int 0])), (qn1, .inl (cA 0, 6, .inl (fun _ => 0))), (qn2, .inl (cA 1, 10, .inr (.inl (fun _ => 0)))), (qn3, .inl (cA 0, 10, .inl (fun _ => 0))), (qn4, .inl (cA 0, 10, .inl (fun _ => 0))), (qn5, .inl (cA 0, 10, .inl (fun _ => 0))), (qn6, .inl (cA 1, 8, .inr (.inl (fun _ => 0)))), (qn7, .inl (cA 0, 350, .inl (fun _ => 0))), (qn8, .inl (cA 0, 350, .inl (fun _ => 0)))] H := hP
  have hD : va_D A [(h0, .inr (7, [.int 0, .int 365, .int 0, .int 0, .ref qn1, .int 0, .ref qn2, .ref qn3, .ref qn4, .ref qn5, .int 0, .ref qn6, .int 0, .ref qn7, .null, .null, .int 0])), (qn1, .inl (cA 0, 6, .inl (fun _ => 0))), (qn2, .inl (cA 1, 10, .inr (.inl (fun _ => 0)))), (qn3, .inl (cA 0, 10, .inl (fun _ => 0))), (qn4, .inl (cA 0, 10, .inl (fun _ => 0))), (qn5, .inl (cA 0, 10, .inl (fun _ => 0))), (qn6, .inl (cA 1, 8, .inr (.inl (fun _ => 0)))), (qn7, .inl (cA 0, 350, .inl (fun _ => 0))), (qn8, .inl (cA 0, 350, .inl (fun _ => 0)))] := hD
  refine va_putF (D := D) (ci := 7) (v := .ref qn8) (ty := (.array .int)) (C := RX3) (T := TX3) (N := 17) hx hb hts inX3 tyX3 tyX3_ok nmX3 hown hK hP hD hS 0 rfl rfl 14 (by decide) (hts (.fieldLink RX3 38 "EscrowDesk$Plan" "operands" "[I") (by decide +kernel)) (fun _ h9 => h9) rfl hin rfl (by decide +kernel) rfl rfl (Nat.le_of_ble_eq_true rfl) dX3_init_74 (fun H locs hP hD hS => ?_)
  have hP : va_P D vwCl [(h0, .inr (7, [.int 0, .int 365, .int 0, .int 0, .ref qn1, .int 0, .ref qn2, .ref qn3, .ref qn4, .ref qn5, .int 0, .ref qn6, .int 0, .ref qn7, .ref qn8, .null, .int 0])), (qn1, .inl (cA 0, 6, .inl (fun _ => 0))), (qn2, .inl (cA 1, 10, .inr (.inl (fun _ => 0)))), (qn3, .inl (cA 0, 10, .inl (fun _ => 0))), (qn4, .inl (cA 0, 10, .inl (fun _ => 0))), (qn5, .inl (cA 0, 10, .inl (fun _ => 0))), (qn6, .inl (cA 1, 8, .inr (.inl (fun _ => 0)))), (qn7, .inl (cA 0, 350, .inl (fun _ => 0))), (qn8, .inl (cA 0, 350, .inl (fun _ => 0)))] H := hP
  have hD : va_D A [(h0, .inr (7, [.int 0, .int 365, .int 0, .int 0, .ref qn1, .int 0, .ref qn2, .ref qn3, .ref qn4, .ref qn5, .int 0, .ref qn6, .int 0, .ref qn7, .ref qn8, .null, .int 0])), (qn1, .inl (cA 0, 6, .inl (fun _ => 0))), (qn2, .inl (cA 1, 10, .inr (.inl (fun _ => 0)))), (qn3, .inl (cA 0, 10, .inl (fun _ => 0))), (qn4, .inl (cA 0, 10, .inl (fun _ => 0))), (qn5, .inl (cA 0, 10, .inl (fun _ => 0))), (qn6, .inl (cA 1, 8, .inr (.inl (fun _ => 0)))), (qn7, .inl (cA 0, 350, .inl (fun _ => 0))), (qn8, .inl (cA 0, 350, .inl (fun _ => 0)))] := hD
  refine lv_aload_n hx hb dX3_init_77 rfl (lv_at hl 0 rfl) ?_
  refine lv_bipush (v := 10) hx hb dX3_init_78 (by decide) ?_
  refine va_newa (atype := .int) (ty := .int) (N' := 10) (a0 := (10, .inl (fun _ => 0))) hx hb (hts (.arrayClass .int) (by decide +kernel)) rfl hK hP hD hS hA (fun _ => rfl) (by decide) (by decide +kernel) (Nat.le_of_ble_eq_true rfl) (Nat.le_of_ble_eq_true rfl) (Nat.le_of_ble_eq_true rfl) dX3_init_80 (fun qn9 c9 H hK9 hP hD hS => ?_)
  obtain rfl : c9 = cA 0 := ty_one hK9 0 rfl
  have hP : va_P D vwCl [(h0, .inr (7, [.int 0, .int 365, .int 0, .int 0, .ref qn1, .int 0, .ref qn2, .ref qn3, .ref qn4, .ref qn5, .int 0, .ref qn6, .int 0, .ref qn7, .ref qn8, .null, .int 0])), (qn1, .inl (cA 0, 6, .inl (fun _ => 0))), (qn2, .inl (cA 1, 10, .inr (.inl (fun _ => 0)))), (qn3, .inl (cA 0, 10, .inl (fun _ => 0))), (qn4, .inl (cA 0, 10, .inl (fun _ => 0))), (qn5, .inl (cA 0, 10, .inl (fun _ => 0))), (qn6, .inl (cA 1, 8, .inr (.inl (fun _ => 0)))), (qn7, .inl (cA 0, 350, .inl (fun _ => 0))), (qn8, .inl (cA 0, 350, .inl (fun _ => 0))), (qn9, .inl (cA 0, 10, .inl (fun _ => 0)))] H := hP
  have hD : va_D A [(h0, .inr (7, [.int 0, .int 365, .int 0, .int 0, .ref qn1, .int 0, .ref qn2, .ref qn3, .ref qn4, .ref qn5, .int 0, .ref qn6, .int 0, .ref qn7, .ref qn8, .null, .int 0])), (qn1, .inl (cA 0, 6, .inl (fun _ => 0))), (qn2, .inl (cA 1, 10, .inr (.inl (fun _ => 0)))), (qn3, .inl (cA 0, 10, .inl (fun _ => 0))), (qn4, .inl (cA 0, 10, .inl (fun _ => 0))), (qn5, .inl (cA 0, 10, .inl (fun _ => 0))), (qn6, .inl (cA 1, 8, .inr (.inl (fun _ => 0)))), (qn7, .inl (cA 0, 350, .inl (fun _ => 0))), (qn8, .inl (cA 0, 350, .inl (fun _ => 0))), (qn9, .inl (cA 0, 10, .inl (fun _ => 0)))] := hD
  refine va_putF (D := D) (ci := 7) (v := .ref qn9) (ty := (.array .int)) (C := RX3) (T := TX3) (N := 17) hx hb hts inX3 tyX3 tyX3_ok nmX3 hown hK hP hD hS 0 rfl rfl 15 (by decide) (hts (.fieldLink RX3 41 "EscrowDesk$Plan" "stepEnds" "[I") (by decide +kernel)) (fun _ h9 => h9) rfl hin rfl (by decide +kernel) rfl rfl (Nat.le_of_ble_eq_true rfl) dX3_init_82 (fun H locs hP hD hS => ?_)
  have hP : va_P D vwCl [(h0, .inr (7, [.int 0, .int 365, .int 0, .int 0, .ref qn1, .int 0, .ref qn2, .ref qn3, .ref qn4, .ref qn5, .int 0, .ref qn6, .int 0, .ref qn7, .ref qn8, .ref qn9, .int 0])), (qn1, .inl (cA 0, 6, .inl (fun _ => 0))), (qn2, .inl (cA 1, 10, .inr (.inl (fun _ => 0)))), (qn3, .inl (cA 0, 10, .inl (fun _ => 0))), (qn4, .inl (cA 0, 10, .inl (fun _ => 0))), (qn5, .inl (cA 0, 10, .inl (fun _ => 0))), (qn6, .inl (cA 1, 8, .inr (.inl (fun _ => 0)))), (qn7, .inl (cA 0, 350, .inl (fun _ => 0))), (qn8, .inl (cA 0, 350, .inl (fun _ => 0))), (qn9, .inl (cA 0, 10, .inl (fun _ => 0)))] H := hP
  have hD : va_D A [(h0, .inr (7, [.int 0, .int 365, .int 0, .int 0, .ref qn1, .int 0, .ref qn2, .ref qn3, .ref qn4, .ref qn5, .int 0, .ref qn6, .int 0, .ref qn7, .ref qn8, .ref qn9, .int 0])), (qn1, .inl (cA 0, 6, .inl (fun _ => 0))), (qn2, .inl (cA 1, 10, .inr (.inl (fun _ => 0)))), (qn3, .inl (cA 0, 10, .inl (fun _ => 0))), (qn4, .inl (cA 0, 10, .inl (fun _ => 0))), (qn5, .inl (cA 0, 10, .inl (fun _ => 0))), (qn6, .inl (cA 1, 8, .inr (.inl (fun _ => 0)))), (qn7, .inl (cA 0, 350, .inl (fun _ => 0))), (qn8, .inl (cA 0, 350, .inl (fun _ => 0))), (qn9, .inl (cA 0, 10, .inl (fun _ => 0)))] := hD
  have hP9 := hP.sub (ws' := [(h0, .inr (7, [.int 0, .int 365, .int 0, .int 0, .ref qn1, .int 0, .ref qn2, .ref qn3, .ref qn4, .ref qn5, .int 0, .ref qn6, .int 0, .ref qn7, .ref qn8, .ref qn9, .int 0])), (qn1, .inl (cA 0, 6, .inl (fun _ => 0))), (qn2, .inl (cA 1, 10, .inr (.inl (fun _ => 0)))), (qn3, .inl (cA 0, 10, .inl (fun _ => 0))), (qn4, .inl (cA 0, 10, .inl (fun _ => 0))), (qn5, .inl (cA 0, 10, .inl (fun _ => 0))), (qn6, .inl (cA 1, 8, .inr (.inl (fun _ => 0)))), (qn7, .inl (cA 0, 350, .inl (fun _ => 0))), (qn8, .inl (cA 0, 350, .inl (fun _ => 0))), (qn9, .inl (cA 0, 10, .inl (fun _ => 0)))]) [0, 1, 2, 3, 4, 5, 6, 7, 8, 9] rfl
  have hD9 := hD.sub (ws' := [(h0, .inr (7, [.int 0, .int 365, .int 0, .int 0, .ref qn1, .int 0, .ref qn2, .ref qn3, .ref qn4, .ref qn5, .int 0, .ref qn6, .int 0, .ref qn7, .ref qn8, .ref qn9, .int 0])), (qn1, .inl (cA 0, 6, .inl (fun _ => 0))), (qn2, .inl (cA 1, 10, .inr (.inl (fun _ => 0)))), (qn3, .inl (cA 0, 10, .inl (fun _ => 0))), (qn4, .inl (cA 0, 10, .inl (fun _ => 0))), (qn5, .inl (cA 0, 10, .inl (fun _ => 0))), (qn6, .inl (cA 1, 8, .inr (.inl (fun _ => 0)))), (qn7, .inl (cA 0, 350, .inl (fun _ => 0))), (qn8, .inl (cA 0, 350, .inl (fun _ => 0))), (qn9, .inl (cA 0, 10, .inl (fun _ => 0)))]) [0, 1, 2, 3, 4, 5, 6, 7, 8, 9] (by decide) rfl
  refine W.widen (k := 9) (n := 764) (Nat.le_of_ble_eq_true rfl) (Nat.le_of_ble_eq_true rfl) ?_
  exact W.vret hx hb hr (fun t ht hW => ⟨⟨(), rfl, trivial, qn1, qn2, qn3, qn4, qn5, qn6, qn7, qn8, qn9, by rw [ht]; exact hP9, hD9⟩, hS.F ht⟩) hS.2.2 dX3_init_85

set_option maxHeartbeats 4000000 in
set_option maxRecDepth 100000 in
/-- Reader(plan) -/
theorem c_X4_init (l : Launch) (D : va_G) (cA : Nat → ClassId) (sa : Nat → Nat) (h0 h1 : Nat) (sz : Nat) : Met l yX4_init wsX4_init ({ frames := 2, cells := 4, slots := 2107, locals := 40 }) (va_Pc [.ref h0, .ref h1] (Wd D cA sa [(h0, .inr (8, [.null, .null, .int 0, .int 0, .int 0, .long 0, .int 0, .int 0, .int 0]))] sz)) (va_Qv (fun _ : Unit => True) (fun (_ : Unit) t => ∃ qn1 : Nat, ∃ qn2 : Nat, ∃ qn3 : Nat, ∃ qn4 : Nat, Wq D (va_A [(h0, .inr (8, [.null, .null, .int 0, .int 0, .int 0, .long 0, .int 0, .int 0, .int 0]))] sz) [(h0, .inr (8, [.ref qn1, .ref h1, .int 0, .int 0, .int 0, .long 0, .int 0, .int 0, .int (-1)])), (qn1, .inr (9, [.ref qn2, .ref qn3, .ref qn4, .int 0])), (qn2, .inl (cA 0, 701, .inl (fun _ => 0))), (qn3, .inl (cA 0, 701, .inl (fun _ => 0))), (qn4, .inl (cA 1, 701, .inr (.inl (fun _ => 0))))] t) (va_A [(h0, .inr (8, [.null, .null, .int 0, .int 0, .int 0, .long 0, .int 0, .int 0, .int 0]))] sz)) 4 2107 (va_A [(h0, .inr (8, [.null, .null, .int 0, .int 0, .int 0, .long 0, .int 0, .int 0, .int 0]))] sz) := by
  refine Met.ofW (cc := cX4_init) (maxL := 2) (ret := none) (by decide) rfl ?_
  intro p e s m args below meth c s₁ B hml hv
  obtain ⟨rfl, hsz, hP, hK, hD0, hC, hZ⟩ := hv
  have hx := B.exec
  have hb := B.bytes
  have hr := B.returns
  have hts := atoms_spec (ws := wsX4_init) B.pre
  have hown : s.vm.findClass RX4 = some m.cls := findClass_of_methodNamed B.named
  have hlocks := B.notSynchronized
  have hin : meth.name = "<init>" := (name_of_methodNamed B.named B.method).1
  subst hsz
  have hD := hD0.self (sz := s.heap.size)
  generalize hAe : va_A [(h0, .inr (8, [.null, .null, .int 0, .int 0, .int 0, .long 0, .int 0, .int 0, .int 0]))] s.heap.size = A at hD hZ ⊢
  have hA : ∀ q : Nat, s.heap.size ≤ q → A q := fun q h => by rw [← hAe]; exact Or.inr h
  have hS : va_S A s.heap s.heap [] := va_S.rf
  have hP : va_P D vwCl [(h0, .inr (8, [.null, .null, .int 0, .int 0, .int 0, .long 0, .int 0, .int 0, .int 0]))] s.heap := hP
  have hl := lv_entry ([.ref h0, .ref h1]) (n := 2) (Nat.le_of_ble_eq_true rfl)
  rw [lg_entry_eq]
  generalize (lg_sl ([.ref h0, .ref h1]) ++ List.replicate (2 - (lg_sl ([.ref h0, .ref h1])).length) Slot.unset).toArray = ls at hl ⊢
  have hl : lv_has ls 2 [(0, .ref h0), (1, .ref h1)] := hl
  have inX4 : ∀ w ∈ u_ws RX4 TX4 9, w ∈ wsX4_init := by decide +kernel
  have inX5 : ∀ w ∈ u_ws RX5 TX5 4, w ∈ wsX4_init := by decide +kernel
  refine lv_aload_n hx hb dX4_init_0 rfl (lv_at hl 0 rfl) ?_
  refine W.objInit hx hb hown (hts (.methodLink RX4 3 objectInit) (by decide +kernel)) (hts (.instanceMethod objectInit) (by decide +kernel)) (hts (.code objectInit ⟨#[0xb1]⟩ 1 none) (by decide +kernel)) rfl (by rw [hml]; exact hl.1) rfl dX4_init_1 (Nat.le_of_ble_eq_true rfl) (Nat.le_of_ble_eq_true rfl) ?_
  refine W.eq (g2 := F0 m 4 ls []) rfl ?_
  refine lv_aload_n hx hb dX4_init_4 rfl (lv_at hl 0 rfl) ?_
  refine va_new (ci := 9) (fs := [.null, .null, .null, .int 0]) (C := RX5) (T := TX5) (N := 4) hx hb hts inX5 tyX5 tyX5_ok hown (hts (.classLink RX4 9 RX5) (by decide +kernel)) (hts (.instantiable RX5 4) (by decide +kernel)) (hts (.initialized RX5) (by decide +kernel)) hK hP hD hS hA rfl (by decide +kernel) (Nat.le_of_ble_eq_true rfl) (Nat.le_of_ble_eq_true rfl) dX4_init_5 (fun qn1 H hP hD hS => ?_)
  have hP : va_P D vwCl [(h0, .inr (8, [.null, .null, .int 0, .int 0, .int 0, .long 0, .int 0, .int 0, .int 0])), (qn1, .inr (9, [.null, .null, .null, .int 0]))] H := hP
  have hD : va_D A [(h0, .inr (8, [.null, .null, .int 0, .int 0, .int 0, .long 0, .int 0, .int 0, .int 0])), (qn1, .inr (9, [.null, .null, .null, .int 0]))] := hD
  refine lv_dup hx hb dX4_init_8 rfl ?_
  have hPc := hP.sub (ws' := [(qn1, .inr (9, [.null, .null, .null, .int 0]))]) [1] rfl
  have hDc := hD.sub (ws' := [(qn1, .inr (9, [.null, .null, .null, .int 0]))]) [1] (by decide) rfl
  have hFc := va_free (wc := [(qn1, .inr (9, [.null, .null, .null, .int 0]))]) hD hS hA [1] rfl
  refine va_callv (va_runIN (As := []) (rest := [.ref qn1, .ref h0]) ⟨hx, hb, hml, hown, hts⟩ (c_X5_init l D cA sa qn1 H.size) ⟨va_cnB (host := "EscrowDesk") 0 hts gX4_init_X5_init_n11 rfl rfl rfl (hC.m (by decide +kernel)) (hts (.initialized RX5) (by decide +kernel)) (by decide +kernel) ⟨(Nat.le_of_ble_eq_true rfl), (Nat.le_of_ble_eq_true rfl)⟩, rfl, hts (.instanceMethod yX5_init) (by decide +kernel)⟩ ⟨Wd.blind, fun U hU hW => ⟨rfl, Wd.call hPc hDc hK hC hZ hS hFc U hU hW⟩⟩ rfl rfl hl.1 rfl (lv_room (Nat.le_of_ble_eq_true rfl)) dX4_init_9 ⟨(Nat.le_of_ble_eq_true rfl), (Nat.le_of_ble_eq_true rfl)⟩) hS (fun q _ h => hFc q h) hFc (fun u t H1 locs ht hvm hw hB hz1 hk1 hS => ?_)
  obtain ⟨qn2, qn3, qn4, hP1, hD1⟩ := hB
  rw [ht] at hP1
  obtain ⟨hP, hD⟩ := va_join (wr := [(h0, .inr (8, [.null, .null, .int 0, .int 0, .int 0, .long 0, .int 0, .int 0, .int 0]))]) (w1 := [(qn1, .inr (9, [.ref qn2, .ref qn3, .ref qn4, .int 0])), (qn2, .inl (cA 0, 701, .inl (fun _ => 0))), (qn3, .inl (cA 0, 701, .inl (fun _ => 0))), (qn4, .inl (cA 1, 701, .inr (.inl (fun _ => 0))))]) hP hD [1] [0] rfl rfl (by decide) (by decide) hk1 hFc hP1 hD1
  generalize H1 = H at hP hS ⊢
  have hP : va_P D vwCl [(h0, .inr (8, [.null, .null, .int 0, .int 0, .int 0, .long 0, .int 0, .int 0, .int 0])), (qn1, .inr (9, [.ref qn2, .ref qn3, .ref qn4, .int 0])), (qn2, .inl (cA 0, 701, .inl (fun _ => 0))), (qn3, .inl (cA 0, 701, .inl (fun _ => 0))), (qn4, .inl (cA 1, 701, .inr (.inl (fun _ => 0))))] H := hP
  have hD : va_D A [(h0, .inr (8, [.null, .null, .int 0, .int 0, .int 0, .long 0, .int 0, .int 0, .int 0])), (qn1, .inr (9, [.ref qn2, .ref qn3, .ref qn4, .int 0])), (qn2, .inl (cA 0, 701, .inl (fun _ => 0))), (qn3, .inl (cA 0, 701, .inl (fun _ => 0))), (qn4, .inl (cA 1, 701, .inr (.inl (fun _ => 0))))] := hD
  refine va_putF (D := D) (ci := 8) (v := .ref qn1) (ty := (.object "EscrowDesk$Scanner")) (C := RX4) (T := TX4) (N := 9) hx hb hts inX4 tyX4 tyX4_ok nmX4 hown hK hP hD hS 0 rfl rfl 0 (by decide) (hts (.fieldLink RX4 12 "EscrowDesk$Reader" "scanner" "LEscrowDesk$Scanner;") (by decide +kernel)) (fun _ h9 => h9) rfl hin rfl (by decide +kernel) rfl rfl (Nat.le_of_ble_eq_true rfl) dX4_init_12 (fun H locs hP hD hS => ?_)
  have hP : va_P D vwCl [(h0, .inr (8, [.ref qn1, .null, .int 0, .int 0, .int 0, .long 0, .int 0, .int 0, .int 0])), (qn1, .inr (9, [.ref qn2, .ref qn3, .ref qn4, .int 0])), (qn2, .inl (cA 0, 701, .inl (fun _ => 0))), (qn3, .inl (cA 0, 701, .inl (fun _ => 0))), (qn4, .inl (cA 1, 701, .inr (.inl (fun _ => 0))))] H := hP
  have hD : va_D A [(h0, .inr (8, [.ref qn1, .null, .int 0, .int 0, .int 0, .long 0, .int 0, .int 0, .int 0])), (qn1, .inr (9, [.ref qn2, .ref qn3, .ref qn4, .int 0])), (qn2, .inl (cA 0, 701, .inl (fun _ => 0))), (qn3, .inl (cA 0, 701, .inl (fun _ => 0))), (qn4, .inl (cA 1, 701, .inr (.inl (fun _ => 0))))] := hD
  refine lv_aload_n hx hb dX4_init_15 rfl (lv_at hl 0 rfl) ?_
  refine lv_iconst (v := 0) hx hb dX4_init_16 (by decide) ?_
  refine va_put (D := D) (ci := 8) (v := .int 0) (ty := .int) (C := RX4) (T := TX4) (N := 9) hx hb hts inX4 tyX4 tyX4_ok nmX4 hown hK hP hD hS 0 rfl rfl 7 (by decide) (hts (.fieldLink RX4 18 "EscrowDesk$Reader" "errorKind" "I") (by decide +kernel)) (fun _ h9 => h9) rfl (by decide +kernel) rfl rfl (Nat.le_of_ble_eq_true rfl) dX4_init_17 (fun H locs hP hD hS => ?_)
  have hP : va_P D vwCl [(h0, .inr (8, [.ref qn1, .null, .int 0, .int 0, .int 0, .long 0, .int 0, .int 0, .int 0])), (qn1, .inr (9, [.ref qn2, .ref qn3, .ref qn4, .int 0])), (qn2, .inl (cA 0, 701, .inl (fun _ => 0))), (qn3, .inl (cA 0, 701, .inl (fun _ => 0))), (qn4, .inl (cA 1, 701, .inr (.inl (fun _ => 0))))] H := hP
  have hD : va_D A [(h0, .inr (8, [.ref qn1, .null, .int 0, .int 0, .int 0, .long 0, .int 0, .int 0, .int 0])), (qn1, .inr (9, [.ref qn2, .ref qn3, .ref qn4, .int 0])), (qn2, .inl (cA 0, 701, .inl (fun _ => 0))), (qn3, .inl (cA 0, 701, .inl (fun _ => 0))), (qn4, .inl (cA 1, 701, .inr (.inl (fun _ => 0))))] := hD
  refine lv_aload_n hx hb dX4_init_20 rfl (lv_at hl 0 rfl) ?_
  refine lv_iconst (v := (-1)) hx hb dX4_init_21 (by decide) ?_
  refine va_put (D := D) (ci := 8) (v := .int (-1)) (ty := .int) (C := RX4) (T := TX4) (N := 9) hx hb hts inX4 tyX4 tyX4_ok nmX4 hown hK hP hD hS 0 rfl rfl 8 (by decide) (hts (.fieldLink RX4 22 "EscrowDesk$Reader" "errorPosition" "I") (by decide +kernel)) (fun _ h9 => h9) rfl (by decide +kernel) rfl rfl (Nat.le_of_ble_eq_true rfl) dX4_init_22 (fun H locs hP hD hS => ?_)
  have hP : va_P D vwCl [(h0, .inr (8, [.ref qn1, .null, .int 0, .int 0, .int 0, .long 0, .int 0, .int 0, .int (-1)])), (qn1, .inr (9, [.ref qn2, .ref qn3, .ref qn4, .int 0])), (qn2, .inl (cA 0, 701, .inl (fun _ => 0))), (qn3, .inl (cA 0, 701, .inl (fun _ => 0))), (qn4, .inl (cA 1, 701, .inr (.inl (fun _ => 0))))] H := hP
  have hD : va_D A [(h0, .inr (8, [.ref qn1, .null, .int 0, .int 0, .int 0, .long 0, .int 0, .int 0, .int (-1)])), (qn1, .inr (9, [.ref qn2, .ref qn3, .ref qn4, .int 0])), (qn2, .inl (cA 0, 701, .inl (fun _ => 0))), (qn3, .inl (cA 0, 701, .inl (fun _ => 0))), (qn4, .inl (cA 1, 701, .inr (.inl (fun _ => 0))))] := hD
  refine lv_aload_n hx hb dX4_init_25 rfl (lv_at hl 0 rfl) ?_
  refine lv_aload_n hx hb dX4_init_26 rfl (lv_at hl 1 rfl) ?_
  refine va_put (D := D) (ci := 8) (v := .ref h1) (ty := (.object "EscrowDesk$Plan")) (C := RX4) (T := TX4) (N := 9) hx hb hts inX4 tyX4 tyX4_ok nmX4 hown hK hP hD hS 0 rfl rfl 1 (by decide) (hts (.fieldLink RX4 25 "EscrowDesk$Reader" "plan" "LEscrowDesk$Plan;") (by decide +kernel)) (fun _ h9 => h9) rfl (by decide +kernel) rfl rfl (Nat.le_of_ble_eq_true rfl) dX4_init_27 (fun H locs hP hD hS => ?_)
  have hP : va_P D vwCl [(h0, .inr (8, [.ref qn1, .ref h1, .int 0, .int 0, .int 0, .long 0, .int 0, .int 0, .int (-1)])), (qn1, .inr (9, [.ref qn2, .ref qn3, .ref qn4, .int 0])), (qn2, .inl (cA 0, 701, .inl (fun _ => 0))), (qn3, .inl (cA 0, 701, .inl (fun _ => 0))), (qn4, .inl (cA 1, 701, .inr (.inl (fun _ => 0))))] H := hP
  have hD : va_D A [(h0, .inr (8, [.ref qn1, .ref h1, .int 0, .int 0, .int 0, .long 0, .int 0, .int 0, .int (-1)])), (qn1, .inr (9, [.ref qn2, .ref qn3, .ref qn4, .int 0])), (qn2, .inl (cA 0, 701, .inl (fun _ => 0))), (qn3, .inl (cA 0, 701, .inl (fun _ => 0))), (qn4, .inl (cA 1, 701, .inr (.inl (fun _ => 0))))] := hD
  have hP9 := hP.sub (ws' := [(h0, .inr (8, [.ref qn1, .ref h1, .int 0, .int 0, .int 0, .long 0, .int 0, .int 0, .int (-1)])), (qn1, .inr (9, [.ref qn2, .ref qn3, .ref qn4, .int 0])), (qn2, .inl (cA 0, 701, .inl (fun _ => 0))), (qn3, .inl (cA 0, 701, .inl (fun _ => 0))), (qn4, .inl (cA 1, 701, .inr (.inl (fun _ => 0))))]) [0, 1, 2, 3, 4] rfl
  have hD9 := hD.sub (ws' := [(h0, .inr (8, [.ref qn1, .ref h1, .int 0, .int 0, .int 0, .long 0, .int 0, .int 0, .int (-1)])), (qn1, .inr (9, [.ref qn2, .ref qn3, .ref qn4, .int 0])), (qn2, .inl (cA 0, 701, .inl (fun _ => 0))), (qn3, .inl (cA 0, 701, .inl (fun _ => 0))), (qn4, .inl (cA 1, 701, .inr (.inl (fun _ => 0))))]) [0, 1, 2, 3, 4] (by decide) rfl
  refine W.widen (k := 4) (n := 2107) (Nat.le_of_ble_eq_true rfl) (Nat.le_of_ble_eq_true rfl) ?_
  exact W.vret hx hb hr (fun t ht hW => ⟨⟨(), rfl, trivial, qn1, qn2, qn3, qn4, by rw [ht]; exact hP9, hD9⟩, hS.F ht⟩) hS.2.2 dX4_init_30
