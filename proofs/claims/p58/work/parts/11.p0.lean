set_option maxRecDepth 20000 in
theorem ggX0_init_X2_init : GoodIn wsX0_init wsX2_init := goodIn_r _ [15, 16, 2, 3, 8, 17, 18, 19, 20] rfl (by decide +kernel)
set_option maxRecDepth 20000 in
theorem gX0_init_X2_init_n11 : GoodIn wsX0_init (wsX2_init) := ggX0_init_X2_init
set_option maxRecDepth 20000 in
theorem ggX4_init_X5_init : GoodIn wsX4_init wsX5_init := goodIn_r _ [12, 13, 2, 3, 14, 15, 16, 17, 18, 19, 20, 21, 22] rfl (by decide +kernel)
set_option maxRecDepth 20000 in
theorem gX4_init_X5_init_n11 : GoodIn wsX4_init (wsX5_init) := ggX4_init_X5_init
theorem dX2_init_0 : decode cX2_init 0 = .ok (.aload_n 0, 1) := by decide +kernel
theorem dX2_init_1 : decode cX2_init 1 = .ok (.invokespecial 3, 3) := by decide +kernel
theorem dX2_init_4 : decode cX2_init 4 = .ok (.aload_n 0, 1) := by decide +kernel
theorem dX2_init_5 : decode cX2_init 5 = .ok (.sipush 240, 3) := by decide +kernel
theorem dX2_init_8 : decode cX2_init 8 = .ok (.newarray .int, 2) := by decide +kernel
theorem dX2_init_10 : decode cX2_init 10 = .ok (.putfield 11, 3) := by decide +kernel
theorem dX2_init_13 : decode cX2_init 13 = .ok (.return_, 1) := by decide +kernel
theorem dX2_clear_0 : decode cX2_clear 0 = .ok (.aload_n 0, 1) := by decide +kernel
theorem dX2_clear_1 : decode cX2_clear 1 = .ok (.iconst 0, 1) := by decide +kernel
theorem dX2_clear_2 : decode cX2_clear 2 = .ok (.putfield 15, 3) := by decide +kernel
theorem dX2_clear_5 : decode cX2_clear 5 = .ok (.aload_n 0, 1) := by decide +kernel
theorem dX2_clear_6 : decode cX2_clear 6 = .ok (.iconst 0, 1) := by decide +kernel
theorem dX2_clear_7 : decode cX2_clear 7 = .ok (.putfield 19, 3) := by decide +kernel
theorem dX2_clear_10 : decode cX2_clear 10 = .ok (.return_, 1) := by decide +kernel
theorem dX0_init_0 : decode cX0_init 0 = .ok (.aload_n 0, 1) := by decide +kernel
theorem dX0_init_1 : decode cX0_init 1 = .ok (.invokespecial 3, 3) := by decide +kernel
theorem dX0_init_4 : decode cX0_init 4 = .ok (.aload_n 0, 1) := by decide +kernel
theorem dX0_init_5 : decode cX0_init 5 = .ok (.new 9, 3) := by decide +kernel
theorem dX0_init_8 : decode cX0_init 8 = .ok (.dup, 1) := by decide +kernel
theorem dX0_init_9 : decode cX0_init 9 = .ok (.invokespecial 11, 3) := by decide +kernel
theorem dX0_init_12 : decode cX0_init 12 = .ok (.putfield 12, 3) := by decide +kernel
theorem dX0_init_15 : decode cX0_init 15 = .ok (.aload_n 0, 1) := by decide +kernel
theorem dX0_init_16 : decode cX0_init 16 = .ok (.bipush 10, 2) := by decide +kernel
theorem dX0_init_18 : decode cX0_init 18 = .ok (.newarray .int, 2) := by decide +kernel
theorem dX0_init_20 : decode cX0_init 20 = .ok (.putfield 18, 3) := by decide +kernel
theorem dX0_init_23 : decode cX0_init 23 = .ok (.aload_n 0, 1) := by decide +kernel
theorem dX0_init_24 : decode cX0_init 24 = .ok (.bipush 10, 2) := by decide +kernel
theorem dX0_init_26 : decode cX0_init 26 = .ok (.newarray .int, 2) := by decide +kernel
theorem dX0_init_28 : decode cX0_init 28 = .ok (.putfield 22, 3) := by decide +kernel
theorem dX0_init_31 : decode cX0_init 31 = .ok (.aload_n 0, 1) := by decide +kernel
theorem dX0_init_32 : decode cX0_init 32 = .ok (.bipush 10, 2) := by decide +kernel
theorem dX0_init_34 : decode cX0_init 34 = .ok (.newarray .int, 2) := by decide +kernel
theorem dX0_init_36 : decode cX0_init 36 = .ok (.putfield 25, 3) := by decide +kernel
theorem dX0_init_39 : decode cX0_init 39 = .ok (.aload_n 0, 1) := by decide +kernel
theorem dX0_init_40 : decode cX0_init 40 = .ok (.bipush 10, 2) := by decide +kernel
theorem dX0_init_42 : decode cX0_init 42 = .ok (.newarray .int, 2) := by decide +kernel
theorem dX0_init_44 : decode cX0_init 44 = .ok (.putfield 28, 3) := by decide +kernel
theorem dX0_init_47 : decode cX0_init 47 = .ok (.aload_n 0, 1) := by decide +kernel
theorem dX0_init_48 : decode cX0_init 48 = .ok (.aload_n 1, 1) := by decide +kernel
theorem dX0_init_49 : decode cX0_init 49 = .ok (.putfield 31, 3) := by decide +kernel
theorem dX0_init_52 : decode cX0_init 52 = .ok (.return_, 1) := by decide +kernel
theorem dX5_init_0 : decode cX5_init 0 = .ok (.aload_n 0, 1) := by decide +kernel
theorem dX5_init_1 : decode cX5_init 1 = .ok (.invokespecial 3, 3) := by decide +kernel
theorem dX5_init_4 : decode cX5_init 4 = .ok (.aload_n 0, 1) := by decide +kernel
theorem dX5_init_5 : decode cX5_init 5 = .ok (.sipush 701, 3) := by decide +kernel
theorem dX5_init_8 : decode cX5_init 8 = .ok (.newarray .int, 2) := by decide +kernel
theorem dX5_init_10 : decode cX5_init 10 = .ok (.putfield 9, 3) := by decide +kernel
theorem dX5_init_13 : decode cX5_init 13 = .ok (.aload_n 0, 1) := by decide +kernel
theorem dX5_init_14 : decode cX5_init 14 = .ok (.sipush 701, 3) := by decide +kernel
theorem dX5_init_17 : decode cX5_init 17 = .ok (.newarray .int, 2) := by decide +kernel
theorem dX5_init_19 : decode cX5_init 19 = .ok (.putfield 15, 3) := by decide +kernel
theorem dX5_init_22 : decode cX5_init 22 = .ok (.aload_n 0, 1) := by decide +kernel
theorem dX5_init_23 : decode cX5_init 23 = .ok (.sipush 701, 3) := by decide +kernel
theorem dX5_init_26 : decode cX5_init 26 = .ok (.newarray .long, 2) := by decide +kernel
theorem dX5_init_28 : decode cX5_init 28 = .ok (.putfield 18, 3) := by decide +kernel
theorem dX5_init_31 : decode cX5_init 31 = .ok (.return_, 1) := by decide +kernel
theorem dX3_init_0 : decode cX3_init 0 = .ok (.aload_n 0, 1) := by decide +kernel
theorem dX3_init_1 : decode cX3_init 1 = .ok (.invokespecial 3, 3) := by decide +kernel
theorem dX3_init_4 : decode cX3_init 4 = .ok (.aload_n 0, 1) := by decide +kernel
theorem dX3_init_5 : decode cX3_init 5 = .ok (.sipush 365, 3) := by decide +kernel
theorem dX3_init_8 : decode cX3_init 8 = .ok (.putfield 9, 3) := by decide +kernel
theorem dX3_init_11 : decode cX3_init 11 = .ok (.aload_n 0, 1) := by decide +kernel
theorem dX3_init_12 : decode cX3_init 12 = .ok (.bipush 6, 2) := by decide +kernel
theorem dX3_init_14 : decode cX3_init 14 = .ok (.newarray .int, 2) := by decide +kernel
theorem dX3_init_16 : decode cX3_init 16 = .ok (.putfield 15, 3) := by decide +kernel
theorem dX3_init_19 : decode cX3_init 19 = .ok (.aload_n 0, 1) := by decide +kernel
theorem dX3_init_20 : decode cX3_init 20 = .ok (.bipush 10, 2) := by decide +kernel
theorem dX3_init_22 : decode cX3_init 22 = .ok (.newarray .long, 2) := by decide +kernel
theorem dX3_init_24 : decode cX3_init 24 = .ok (.putfield 19, 3) := by decide +kernel
theorem dX3_init_27 : decode cX3_init 27 = .ok (.aload_n 0, 1) := by decide +kernel
theorem dX3_init_28 : decode cX3_init 28 = .ok (.bipush 10, 2) := by decide +kernel
theorem dX3_init_30 : decode cX3_init 30 = .ok (.newarray .int, 2) := by decide +kernel
theorem dX3_init_32 : decode cX3_init 32 = .ok (.putfield 23, 3) := by decide +kernel
theorem dX3_init_35 : decode cX3_init 35 = .ok (.aload_n 0, 1) := by decide +kernel
theorem dX3_init_36 : decode cX3_init 36 = .ok (.bipush 10, 2) := by decide +kernel
theorem dX3_init_38 : decode cX3_init 38 = .ok (.newarray .int, 2) := by decide +kernel
theorem dX3_init_40 : decode cX3_init 40 = .ok (.putfield 26, 3) := by decide +kernel
theorem dX3_init_43 : decode cX3_init 43 = .ok (.aload_n 0, 1) := by decide +kernel
theorem dX3_init_44 : decode cX3_init 44 = .ok (.bipush 10, 2) := by decide +kernel
theorem dX3_init_46 : decode cX3_init 46 = .ok (.newarray .int, 2) := by decide +kernel
theorem dX3_init_48 : decode cX3_init 48 = .ok (.putfield 29, 3) := by decide +kernel
theorem dX3_init_51 : decode cX3_init 51 = .ok (.aload_n 0, 1) := by decide +kernel
theorem dX3_init_52 : decode cX3_init 52 = .ok (.bipush 8, 2) := by decide +kernel
theorem dX3_init_54 : decode cX3_init 54 = .ok (.newarray .long, 2) := by decide +kernel
theorem dX3_init_56 : decode cX3_init 56 = .ok (.putfield 32, 3) := by decide +kernel
theorem dX3_init_59 : decode cX3_init 59 = .ok (.aload_n 0, 1) := by decide +kernel
theorem dX3_init_60 : decode cX3_init 60 = .ok (.sipush 350, 3) := by decide +kernel
theorem dX3_init_63 : decode cX3_init 63 = .ok (.newarray .int, 2) := by decide +kernel
theorem dX3_init_65 : decode cX3_init 65 = .ok (.putfield 35, 3) := by decide +kernel
theorem dX3_init_68 : decode cX3_init 68 = .ok (.aload_n 0, 1) := by decide +kernel
theorem dX3_init_69 : decode cX3_init 69 = .ok (.sipush 350, 3) := by decide +kernel
theorem dX3_init_72 : decode cX3_init 72 = .ok (.newarray .int, 2) := by decide +kernel
theorem dX3_init_74 : decode cX3_init 74 = .ok (.putfield 38, 3) := by decide +kernel
theorem dX3_init_77 : decode cX3_init 77 = .ok (.aload_n 0, 1) := by decide +kernel
theorem dX3_init_78 : decode cX3_init 78 = .ok (.bipush 10, 2) := by decide +kernel
theorem dX3_init_80 : decode cX3_init 80 = .ok (.newarray .int, 2) := by decide +kernel
theorem dX3_init_82 : decode cX3_init 82 = .ok (.putfield 41, 3) := by decide +kernel
theorem dX3_init_85 : decode cX3_init 85 = .ok (.return_, 1) := by decide +kernel
theorem dX4_init_0 : decode cX4_init 0 = .ok (.aload_n 0, 1) := by decide +kernel
theorem dX4_init_1 : decode cX4_init 1 = .ok (.invokespecial 3, 3) := by decide +kernel
theorem dX4_init_4 : decode cX4_init 4 = .ok (.aload_n 0, 1) := by decide +kernel
theorem dX4_init_5 : decode cX4_init 5 = .ok (.new 9, 3) := by decide +kernel
theorem dX4_init_8 : decode cX4_init 8 = .ok (.dup, 1) := by decide +kernel
theorem dX4_init_9 : decode cX4_init 9 = .ok (.invokespecial 11, 3) := by decide +kernel
theorem dX4_init_12 : decode cX4_init 12 = .ok (.putfield 12, 3) := by decide +kernel
theorem dX4_init_15 : decode cX4_init 15 = .ok (.aload_n 0, 1) := by decide +kernel
theorem dX4_init_16 : decode cX4_init 16 = .ok (.iconst 0, 1) := by decide +kernel
theorem dX4_init_17 : decode cX4_init 17 = .ok (.putfield 18, 3) := by decide +kernel
theorem dX4_init_20 : decode cX4_init 20 = .ok (.aload_n 0, 1) := by decide +kernel
theorem dX4_init_21 : decode cX4_init 21 = .ok (.iconst (-1), 1) := by decide +kernel
theorem dX4_init_22 : decode cX4_init 22 = .ok (.putfield 22, 3) := by decide +kernel
theorem dX4_init_25 : decode cX4_init 25 = .ok (.aload_n 0, 1) := by decide +kernel
theorem dX4_init_26 : decode cX4_init 26 = .ok (.aload_n 1, 1) := by decide +kernel
theorem dX4_init_27 : decode cX4_init 27 = .ok (.putfield 25, 3) := by decide +kernel
theorem dX4_init_30 : decode cX4_init 30 = .ok (.return_, 1) := by decide +kernel

set_option maxHeartbeats 4000000 in
set_option maxRecDepth 100000 in
/-- Ledger(): a ring of 240 -/
theorem c_X2_init (l : Launch) (D : va_G) (cA : Nat → ClassId) (sa : Nat → Nat) (h0 : Nat) (sz : Nat) : Met l yX2_init wsX2_init ({ frames := 1, cells := 1, slots := 240, locals := 20 }) (va_Pc [.ref h0] (Wd D cA sa [(h0, .inr (6, [.null, .int 0, .int 0]))] sz)) (va_Qv (fun _ : Unit => True) (fun (_ : Unit) t => ∃ qn1 : Nat, Wq D (va_A [(h0, .inr (6, [.null, .int 0, .int 0]))] sz) [(h0, .inr (6, [.ref qn1, .int 0, .int 0])), (qn1, .inl (cA 0, 240, .inl (fun _ => 0)))] t) (va_A [(h0, .inr (6, [.null, .int 0, .int 0]))] sz)) 1 240 (va_A [(h0, .inr (6, [.null, .int 0, .int 0]))] sz) := by
  refine Met.ofW (cc := cX2_init) (maxL := 1) (ret := none) (by decide) rfl ?_
  intro p e s m args below meth c s₁ B hml hv
  obtain ⟨rfl, hsz, hP, hK, hD0, hC, hZ⟩ := hv
  have hx := B.exec
  have hb := B.bytes
  have hr := B.returns
  have hts := atoms_spec (ws := wsX2_init) B.pre
  have hown : s.vm.findClass RX2 = some m.cls := findClass_of_methodNamed B.named
  have hlocks := B.notSynchronized
  have hin : meth.name = "<init>" := (name_of_methodNamed B.named B.method).1
  subst hsz
  have hD := hD0.self (sz := s.heap.size)
  generalize hAe : va_A [(h0, .inr (6, [.null, .int 0, .int 0]))] s.heap.size = A at hD hZ ⊢
  have hA : ∀ q : Nat, s.heap.size ≤ q → A q := fun q h => by rw [← hAe]; exact Or.inr h
  have hS : va_S A s.heap s.heap [] := va_S.rf
  have hP : va_P D vwCl [(h0, .inr (6, [.null, .int 0, .int 0]))] s.heap := hP
  have hl := lv_entry ([.ref h0]) (n := 1) (Nat.le_of_ble_eq_true rfl)
  rw [lg_entry_eq]
  generalize (lg_sl ([.ref h0]) ++ List.replicate (1 - (lg_sl ([.ref h0])).length) Slot.unset).toArray = ls at hl ⊢
  have hl : lv_has ls 1 [(0, .ref h0)] := hl
  have inX2 : ∀ w ∈ u_ws RX2 TX2 3, w ∈ wsX2_init := by decide +kernel
  refine lv_aload_n hx hb dX2_init_0 rfl (lv_at hl 0 rfl) ?_
  refine W.objInit hx hb hown (hts (.methodLink RX2 3 objectInit) (by decide +kernel)) (hts (.instanceMethod objectInit) (by decide +kernel)) (hts (.code objectInit ⟨#[0xb1]⟩ 1 none) (by decide +kernel)) rfl (by rw [hml]; exact hl.1) rfl dX2_init_1 (Nat.le_of_ble_eq_true rfl) (Nat.le_of_ble_eq_true rfl) ?_
  refine W.eq (g2 := F0 m 4 ls []) rfl ?_
  refine lv_aload_n hx hb dX2_init_4 rfl (lv_at hl 0 rfl) ?_
  refine lv_sipush (v := 240) hx hb dX2_init_5 (by decide) ?_
  refine va_newa (atype := .int) (ty := .int) (N' := 240) (a0 := (240, .inl (fun _ => 0))) hx hb (hts (.arrayClass .int) (by decide +kernel)) rfl hK hP hD hS hA (fun _ => rfl) (by decide) (by decide +kernel) (Nat.le_of_ble_eq_true rfl) (Nat.le_of_ble_eq_true rfl) (Nat.le_of_ble_eq_true rfl) dX2_init_8 (fun qn1 c9 H hK9 hP hD hS => ?_)
  obtain rfl : c9 = cA 0 := ty_one hK9 0 rfl
  have hP : va_P D vwCl [(h0, .inr (6, [.null, .int 0, .int 0])), (qn1, .inl (cA 0, 240, .inl (fun _ => 0)))] H := hP
  have hD : va_D A [(h0, .inr (6, [.null, .int 0, .int 0])), (qn1, .inl (cA 0, 240, .inl (fun _ => 0)))] := hD
  refine va_putF (D := D) (ci := 6) (v := .ref qn1) (ty := (.array .int)) (C := RX2) (T := TX2) (N := 3) hx hb hts inX2 tyX2 tyX2_ok nmX2 hown hK hP hD hS 0 rfl rfl 0 (by decide) (hts (.fieldLink RX2 11 "EscrowDesk$Ledger" "ring" "[I") (by decide +kernel)) (fun _ h9 => h9) rfl hin rfl (by decide +kernel) rfl rfl (Nat.le_of_ble_eq_true rfl) dX2_init_10 (fun H locs hP hD hS => ?_)
  have hP : va_P D vwCl [(h0, .inr (6, [.ref qn1, .int 0, .int 0])), (qn1, .inl (cA 0, 240, .inl (fun _ => 0)))] H := hP
  have hD : va_D A [(h0, .inr (6, [.ref qn1, .int 0, .int 0])), (qn1, .inl (cA 0, 240, .inl (fun _ => 0)))] := hD
  have hP9 := hP.sub (ws' := [(h0, .inr (6, [.ref qn1, .int 0, .int 0])), (qn1, .inl (cA 0, 240, .inl (fun _ => 0)))]) [0, 1] rfl
  have hD9 := hD.sub (ws' := [(h0, .inr (6, [.ref qn1, .int 0, .int 0])), (qn1, .inl (cA 0, 240, .inl (fun _ => 0)))]) [0, 1] (by decide) rfl
  refine W.widen (k := 1) (n := 240) (Nat.le_of_ble_eq_true rfl) (Nat.le_of_ble_eq_true rfl) ?_
  exact W.vret hx hb hr (fun t ht hW => ⟨⟨(), rfl, trivial, qn1, by rw [ht]; exact hP9, hD9⟩, hS.F ht⟩) hS.2.2 dX2_init_13

set_option maxHeartbeats 4000000 in
set_option maxRecDepth 100000 in
/-- clear() -/
theorem c_X2_clear (l : Launch) (D : va_G) (cA : Nat → ClassId) (sa : Nat → Nat) (h0 h1 : Nat) (n0 k0 : Int32) (sz : Nat) : Met l yX2_clear wsX2_clear ({ frames := 0, cells := 0, slots := 0, locals := 0 }) (va_Pc [.ref h0] (Wd D cA sa [(h0, .inr (6, [.ref h1, .int n0, .int k0]))] sz)) (va_Qv (fun _ : Unit => True) (fun (_ : Unit) t => Wq D (va_A [(h0, .inr (6, [.ref h1, .int n0, .int k0]))] sz) [(h0, .inr (6, [.ref h1, .int 0, .int 0]))] t) (va_A [(h0, .inr (6, [.ref h1, .int n0, .int k0]))] sz)) 0 0 (va_A [(h0, .inr (6, [.ref h1, .int n0, .int k0]))] sz) := by
  refine Met.ofW (cc := cX2_clear) (maxL := 1) (ret := none) (by decide) rfl ?_
  intro p e s m args below meth c s₁ B hml hv
  obtain ⟨rfl, hsz, hP, hK, hD0, hC, hZ⟩ := hv
  have hx := B.exec
  have hb := B.bytes
  have hr := B.returns
  have hts := atoms_spec (ws := wsX2_clear) B.pre
  have hown : s.vm.findClass RX2 = some m.cls := findClass_of_methodNamed B.named
  have hlocks := B.notSynchronized
  subst hsz
  have hD := hD0.self (sz := s.heap.size)
  generalize hAe : va_A [(h0, .inr (6, [.ref h1, .int n0, .int k0]))] s.heap.size = A at hD hZ ⊢
  have hA : ∀ q : Nat, s.heap.size ≤ q → A q := fun q h => by rw [← hAe]; exact Or.inr h
  have hS : va_S A s.heap s.heap [] := va_S.rf
  have hP : va_P D vwCl [(h0, .inr (6, [.ref h1, .int n0, .int k0]))] s.heap := hP
  have hl := lv_entry ([.ref h0]) (n := 1) (Nat.le_of_ble_eq_true rfl)
  rw [lg_entry_eq]
  generalize (lg_sl ([.ref h0]) ++ List.replicate (1 - (lg_sl ([.ref h0])).length) Slot.unset).toArray = ls at hl ⊢
  have hl : lv_has ls 1 [(0, .ref h0)] := hl
  have inX2 : ∀ w ∈ u_ws RX2 TX2 3, w ∈ wsX2_clear := by decide +kernel
  refine lv_aload_n hx hb dX2_clear_0 rfl (lv_at hl 0 rfl) ?_
  refine lv_iconst (v := 0) hx hb dX2_clear_1 (by decide) ?_
  refine va_put (D := D) (ci := 6) (v := .int 0) (ty := .int) (C := RX2) (T := TX2) (N := 3) hx hb hts inX2 tyX2 tyX2_ok nmX2 hown hK hP hD hS 0 rfl rfl 1 (by decide) (hts (.fieldLink RX2 15 "EscrowDesk$Ledger" "next" "I") (by decide +kernel)) (fun _ h9 => h9) rfl (by decide +kernel) rfl rfl (Nat.le_of_ble_eq_true rfl) dX2_clear_2 (fun H locs hP hD hS => ?_)
  have hP : va_P D vwCl [(h0, .inr (6, [.ref h1, .int 0, .int k0]))] H := hP
  have hD : va_D A [(h0, .inr (6, [.ref h1, .int 0, .int k0]))] := hD
  refine lv_aload_n hx hb dX2_clear_5 rfl (lv_at hl 0 rfl) ?_
  refine lv_iconst (v := 0) hx hb dX2_clear_6 (by decide) ?_
  refine va_put (D := D) (ci := 6) (v := .int 0) (ty := .int) (C := RX2) (T := TX2) (N := 3) hx hb hts inX2 tyX2 tyX2_ok nmX2 hown hK hP hD hS 0 rfl rfl 2 (by decide) (hts (.fieldLink RX2 19 "EscrowDesk$Ledger" "kept" "I") (by decide +kernel)) (fun _ h9 => h9) rfl (by decide +kernel) rfl rfl (Nat.le_of_ble_eq_true rfl) dX2_clear_7 (fun H locs hP hD hS => ?_)
  have hP : va_P D vwCl [(h0, .inr (6, [.ref h1, .int 0, .int 0]))] H := hP
  have hD : va_D A [(h0, .inr (6, [.ref h1, .int 0, .int 0]))] := hD
  have hP9 := hP.sub (ws' := [(h0, .inr (6, [.ref h1, .int 0, .int 0]))]) [0] rfl
  have hD9 := hD.sub (ws' := [(h0, .inr (6, [.ref h1, .int 0, .int 0]))]) [0] (by decide) rfl
  refine W.widen (k := 0) (n := 0) (Nat.le_of_ble_eq_true rfl) (Nat.le_of_ble_eq_true rfl) ?_
  exact W.vret hx hb hr (fun t ht hW => ⟨⟨(), rfl, trivial, by rw [ht]; exact hP9, hD9⟩, hS.F ht⟩) hS.2.2 dX2_clear_10

set_option maxHeartbeats 4000000 in
set_option maxRecDepth 100000 in
/-- Account(plan) -/
theorem c_X0_init (l : Launch) (D : va_G) (cA : Nat → ClassId) (sa : Nat → Nat) (h0 h1 : Nat) (sz : Nat) : Met l yX0_init wsX0_init ({ frames := 2, cells := 6, slots := 283, locals := 40 }) (va_Pc [.ref h0, .ref h1] (Wd D cA sa [(h0, .inr (4, [.null, .null, .null, .null, .null, .null, .int 0, .int 0, .int 0, .long 0, .long 0, .long 0, .int 0, .int 0, .int 0, .int 0, .int 0, .int 0, .int 0, .int 0]))] sz)) (va_Qv (fun _ : Unit => True) (fun (_ : Unit) t => ∃ qn1 : Nat, ∃ qn2 : Nat, ∃ qn3 : Nat, ∃ qn4 : Nat, ∃ qn5 : Nat, ∃ qn6 : Nat, Wq D (va_A [(h0, .inr (4, [.null, .null, .null, .null, .null, .null, .int 0, .int 0, .int 0, .long 0, .long 0, .long 0, .int 0, .int 0, .int 0, .int 0, .int 0, .int 0, .int 0, .int 0]))] sz) [(h0, .inr (4, [.ref h1, .ref qn1, .ref qn3, .ref qn4, .ref qn5, .ref qn6, .int 0, .int 0, .int 0, .long 0, .long 0, .long 0, .int 0, .int 0, .int 0, .int 0, .int 0, .int 0, .int 0, .int 0])), (qn1, .inr (6, [.ref qn2, .int 0, .int 0])), (qn2, .inl (cA 0, 240, .inl (fun _ => 0))), (qn3, .inl (cA 0, 10, .inl (fun _ => 0))), (qn4, .inl (cA 0, 10, .inl (fun _ => 0))), (qn5, .inl (cA 0, 10, .inl (fun _ => 0))), (qn6, .inl (cA 0, 10, .inl (fun _ => 0)))] t) (va_A [(h0, .inr (4, [.null, .null, .null, .null, .null, .null, .int 0, .int 0, .int 0, .long 0, .long 0, .long 0, .int 0, .int 0, .int 0, .int 0, .int 0, .int 0, .int 0, .int 0]))] sz)) 6 283 (va_A [(h0, .inr (4, [.null, .null, .null, .null, .null, .null, .int 0, .int 0, .int 0, .long 0, .long 0, .long 0, .int 0, .int 0, .int 0, .int 0, .int 0, .int 0, .int 0, .int 0]))] sz) := by
  refine Met.ofW (cc := cX0_init) (maxL := 2) (ret := none) (by decide) rfl ?_
  intro p e s m args below meth c s₁ B hml hv
  obtain ⟨rfl, hsz, hP, hK, hD0, hC, hZ⟩ := hv
  have hx := B.exec
  have hb := B.bytes
  have hr := B.returns
  have hts := atoms_spec (ws := wsX0_init) B.pre
  have hown : s.vm.findClass RX0 = some m.cls := findClass_of_methodNamed B.named
  have hlocks := B.notSynchronized
  have hin : meth.name = "<init>" := (name_of_methodNamed B.named B.method).1
  subst hsz
  have hD := hD0.self (sz := s.heap.size)
  generalize hAe : va_A [(h0, .inr (4, [.null, .null, .null, .null, .null, .null, .int 0, .int 0, .int 0, .long 0, .long 0, .long 0, .int 0, .int 0, .int 0, .int 0, .int 0, .int 0, .int 0, .int 0]))] s.heap.size = A at hD hZ ⊢
  have hA : ∀ q : Nat, s.heap.size ≤ q → A q := fun q h => by rw [← hAe]; exact Or.inr h
  have hS : va_S A s.heap s.heap [] := va_S.rf
  have hP : va_P D vwCl [(h0, .inr (4, [.null, .null, .null, .null, .null, .null, .int 0, .int 0, .int 0, .long 0, .long 0, .long 0, .int 0, .int 0, .int 0, .int 0, .int 0, .int 0, .int 0, .int 0]))] s.heap := hP
  have hl := lv_entry ([.ref h0, .ref h1]) (n := 2) (Nat.le_of_ble_eq_true rfl)
  rw [lg_entry_eq]
  generalize (lg_sl ([.ref h0, .ref h1]) ++ List.replicate (2 - (lg_sl ([.ref h0, .ref h1])).length) Slot.unset).toArray = ls at hl ⊢
  have hl : lv_has ls 2 [(0, .ref h0), (1, .ref h1)] := hl
  have inX0 : ∀ w ∈ u_ws RX0 TX0 20, w ∈ wsX0_init := by decide +kernel
  have inX2 : ∀ w ∈ u_ws RX2 TX2 3, w ∈ wsX0_init := by decide +kernel
  refine lv_aload_n hx hb dX0_init_0 rfl (lv_at hl 0 rfl) ?_
  refine W.objInit hx hb hown (hts (.methodLink RX0 3 objectInit) (by decide +kernel)) (hts (.instanceMethod objectInit) (by decide +kernel)) (hts (.code objectInit ⟨#[0xb1]⟩ 1 none) (by decide +kernel)) rfl (by rw [hml]; exact hl.1) rfl dX0_init_1 (Nat.le_of_ble_eq_true rfl) (Nat.le_of_ble_eq_true rfl) ?_
  refine W.eq (g2 := F0 m 4 ls []) rfl ?_
  refine lv_aload_n hx hb dX0_init_4 rfl (lv_at hl 0 rfl) ?_
  refine va_new (ci := 6) (fs := [.null, .int 0, .int 0]) (C := RX2) (T := TX2) (N := 3) hx hb hts inX2 tyX2 tyX2_ok hown (hts (.classLink RX0 9 RX2) (by decide +kernel)) (hts (.instantiable RX2 3) (by decide +kernel)) (hts (.initialized RX2) (by decide +kernel)) hK hP hD hS hA rfl (by decide +kernel) (Nat.le_of_ble_eq_true rfl) (Nat.le_of_ble_eq_true rfl) dX0_init_5 (fun qn1 H hP hD hS => ?_)
  have hP : va_P D vwCl [(h0, .inr (4, [.null, .null, .null, .null, .null, .null, .int 0, .int 0, .int 0, .long 0, .long 0, .long 0, .int 0, .int 0, .int 0, .int 0, .int 0, .int 0, .int 0, .int 0])), (qn1, .inr (6, [.null, .int 0, .int 0]))] H := hP
  have hD : va_D A [(h0, .inr (4, [.null, .null, .null, .null, .null, .null, .int 0, .int 0, .int 0, .long 0, .long 0, .long 0, .int 0, .int 0, .int 0, .int 0, .int 0, .int 0, .int 0, .int 0])), (qn1, .inr (6, [.null, .int 0, .int 0]))] := hD
  refine lv_dup hx hb dX0_init_8 rfl ?_
  have hPc := hP.sub (ws' := [(qn1, .inr (6, [.null, .int 0, .int 0]))]) [1] rfl
  have hDc := hD.sub (ws' := [(qn1, .inr (6, [.null, .int 0, .int 0]))]) [1] (by decide) rfl
  have hFc := va_free (wc := [(qn1, .inr (6, [.null, .int 0, .int 0]))]) hD hS hA [1] rfl
  refine va_callv (va_runIN (As := []) (rest := [.ref qn1, .ref h0]) ⟨hx, hb, hml, hown, hts⟩ (c_X2_init l D cA sa qn1 H.size) ⟨va_cnB (host := "EscrowDesk") 0 hts gX0_init_X2_init_n11 rfl rfl rfl (hC.m (by decide +kernel)) (hts (.initialized RX2) (by decide +kernel)) (by decide +kernel) ⟨(Nat.le_of_ble_eq_true rfl), (Nat.le_of_ble_eq_true rfl)⟩, rfl, hts (.instanceMethod yX2_init) (by decide +kernel)⟩ ⟨Wd.blind, fun U hU hW => ⟨rfl, Wd.call hPc hDc hK hC hZ hS hFc U hU hW⟩⟩ rfl rfl hl.1 rfl (lv_room (Nat.le_of_ble_eq_true rfl)) dX0_init_9 ⟨(Nat.le_of_ble_eq_true rfl), (Nat.le_of_ble_eq_true rfl)⟩) hS (fun q _ h => hFc q h) hFc (fun u t H1 locs ht hvm hw hB hz1 hk1 hS => ?_)
  obtain ⟨qn2, hP1, hD1⟩ := hB
  rw [ht] at hP1
  obtain ⟨hP, hD⟩ := va_join (wr := [(h0, .inr (4, [.null, .null, .null, .null, .null, .null, .int 0, .int 0, .int 0, .long 0, .long 0, .long 0, .int 0, .int 0, .int 0, .int 0, .int 0, .int 0, .int 0, .int 0]))]) (w1 := [(qn1, .inr (6, [.ref qn2, .int 0, .int 0])), (qn2, .inl (cA 0, 240, .inl (fun _ => 0)))]) hP hD [1] [0] rfl rfl (by decide) (by decide) hk1 hFc hP1 hD1
  generalize H1 = H at hP hS ⊢
  have hP : va_P D vwCl [(h0, .inr (4, [.null, .null, .null, .null, .null, .null, .int 0, .int 0, .int 0, .long 0, .long 0, .long 0, .int 0, .int 0, .int 0, .int 0, .int 0, .int 0, .int 0, .int 0])), (qn1, .inr (6, [.ref qn2, .int 0, .int 0])), (qn2, .inl (cA 0, 240, .inl (fun _ => 0)))] H := hP
  have hD : va_D A [(h0, .inr (4, [.null, .null, .null, .null, .null, .null, .int 0, .int 0, .int 0, .long 0, .long 0, .long 0, .int 0, .int 0, .int 0, .int 0, .int 0, .int 0, .int 0, .int 0])), (qn1, .inr (6, [.ref qn2, .int 0, .int 0])), (qn2, .inl (cA 0, 240, .inl (fun _ => 0)))] := hD
  refine va_putF (D := D) (ci := 4) (v := .ref qn1) (ty := (.object "EscrowDesk$Ledger")) (C := RX0) (T := TX0) (N := 20) hx hb hts inX0 tyX0 tyX0_ok nmX0 hown hK hP hD hS 0 rfl rfl 1 (by decide) (hts (.fieldLink RX0 12 "EscrowDesk$Account" "ledger" "LEscrowDesk$Ledger;") (by decide +kernel)) (fun _ h9 => h9) rfl hin rfl (by decide +kernel) rfl rfl (Nat.le_of_ble_eq_true rfl) dX0_init_12 (fun H locs hP hD hS => ?_)
  have hP : va_P D vwCl [(h0, .inr (4, [.null, .ref qn1, .null, .null, .null, .null, .int 0, .int 0, .int 0, .long 0, .long 0, .long 0, .int 0, .int 0, .int 0, .int 0, .int 0, .int 0, .int 0, .int 0])), (qn1, .inr (6, [.ref qn2, .int 0, .int 0])), (qn2, .inl (cA 0, 240, .inl (fun _ => 0)))] H := hP
  have hD : va_D A [(h0, .inr (4, [.null, .ref qn1, .null, .null, .null, .null, .int 0, .int 0, .int 0, .long 0, .long 0, .long 0, .int 0, .int 0, .int 0, .int 0, .int 0, .int 0, .int 0, .int 0])), (qn1, .inr (6, [.ref qn2, .int 0, .int 0])), (qn2, .inl (cA 0, 240, .inl (fun _ => 0)))] := hD
  refine lv_aload_n hx hb dX0_init_15 rfl (lv_at hl 0 rfl) ?_
  refine lv_bipush (v := 10) hx hb dX0_init_16 (by decide) ?_
  refine va_newa (atype := .int) (ty := .int) (N' := 10) (a0 := (10, .inl (fun _ => 0))) hx hb (hts (.arrayClass .int) (by decide +kernel)) rfl hK hP hD hS hA (fun _ => rfl) (by decide) (by decide +kernel) (Nat.le_of_ble_eq_true rfl) (Nat.le_of_ble_eq_true rfl) (Nat.le_of_ble_eq_true rfl) dX0_init_18 (fun qn3 c9 H hK9 hP hD hS => ?_)
  obtain rfl : c9 = cA 0 := ty_one hK9 0 rfl
  have hP : va_P D vwCl [(h0, .inr (4, [.null, .ref qn1, .null, .null, .null, .null, .int 0, .int 0, .int 0, .long 0, .long 0, .long 0, .int 0, .int 0, .int 0, .int 0, .int 0, .int 0, .int 0, .int 0])), (qn1, .inr (6, [.ref qn2, .int 0, .int 0])), (qn2, .inl (cA 0, 240, .inl (fun _ => 0))), (qn3, .inl (cA 0, 10, .inl (fun _ => 0)))] H := hP
  have hD : va_D A [(h0, .inr (4, [.null, .ref qn1, .null, .null, .null, .null, .int 0, .int 0, .int 0, .long 0, .long 0, .long 0, .int 0, .int 0, .int 0, .int 0, .int 0, .int 0, .int 0, .int 0])), (qn1, .inr (6, [.ref qn2, .int 0, .int 0])), (qn2, .inl (cA 0, 240, .inl (fun _ => 0))), (qn3, .inl (cA 0, 10, .inl (fun _ => 0)))] := hD
  refine va_putF (D := D) (ci := 4) (v := .ref qn3) (ty := (.array .int)) (C := RX0) (T := TX0) (N := 20) hx hb hts inX0 tyX0 tyX0_ok nmX0 hown hK hP hD hS 0 rfl rfl 2 (by decide) (hts (.fieldLink RX0 18 "EscrowDesk$Account" "state" "[I") (by decide +kernel)) (fun _ h9 => h9) rfl hin rfl (by decide +kernel) rfl rfl (Nat.le_of_ble_eq_true rfl) dX0_init_20 (fun H locs hP hD hS => ?_)
  have hP : va_P D vwCl [(h0, .inr (4, [.null, .ref qn1, .ref qn3, .null, .null, .null, .int 0, .int 0, .int 0, .long 0, .long 0, .long 0, .int 0, .int 0, .int 0, .int 0, .int 0, .int 0, .int 0, .int 0])), (qn1, .inr (6, [.ref qn2, .int 0, .int 0])), (qn2, .inl (cA 0, 240, .inl (fun _ => 0))), (qn3, .inl (cA 0, 10, .inl (fun _ => 0)))] H := hP
  have hD : va_D A [(h0, .inr (4, [.null, .ref qn1, .ref qn3, .null, .null, .null, .int 0, .int 0, .int 0, .long 0, .long 0, .long 0, .int 0, .int 0, .int 0, .int 0, .int 0, .int 0, .int 0, .int 0])), (qn1, .inr (6, [.ref qn2, .int 0, .int 0])), (qn2, .inl (cA 0, 240, .inl (fun _ => 0))), (qn3, .inl (cA 0, 10, .inl (fun _ => 0)))] := hD
  refine lv_aload_n hx hb dX0_init_23 rfl (lv_at hl 0 rfl) ?_
  refine lv_bipush (v := 10) hx hb dX0_init_24 (by decide) ?_
  refine va_newa (atype := .int) (ty := .int) (N' := 10) (a0 := (10, .inl (fun _ => 0))) hx hb (hts (.arrayClass .int) (by decide +kernel)) rfl hK hP hD hS hA (fun _ => rfl) (by decide) (by decide +kernel) (Nat.le_of_ble_eq_true rfl) (Nat.le_of_ble_eq_true rfl) (Nat.le_of_ble_eq_true rfl) dX0_init_26 (fun qn4 c9 H hK9 hP hD hS => ?_)
  obtain rfl : c9 = cA 0 := ty_one hK9 0 rfl
  have hP : va_P D vwCl [(h0, .inr (4, [.null, .ref qn1, .ref qn3, .null, .null, .null, .int 0, .int 0, .int 0, .long 0, .long 0, .long 0, .int 0, .int 0, .int 0, .int 0, .int 0, .int 0, .int 0, .int 0])), (qn1, .inr (6, [.ref qn2, .int 0, .int 0])), (qn2, .inl (cA 0, 240, .inl (fun _ => 0))), (qn3, .inl (cA 0, 10, .inl (fun _ => 0))), (qn4, .inl (cA 0, 10, .inl (fun _ => 0)))] H := hP
  have hD : va_D A [(h0, .inr (4, [.null, .ref qn1, .ref qn3, .null, .null, .null, .int 0, .int 0, .int 0, .long 0, .long 0, .long 0, .int 0, .int 0, .int 0, .int 0, .int 0, .int 0, .int 0, .int 0])), (qn1, .inr (6, [.ref qn2, .int 0, .int 0])), (qn2, .inl (cA 0, 240, .inl (fun _ => 0))), (qn3, .inl (cA 0, 10, .inl (fun _ => 0))), (qn4, .inl (cA 0, 10, .inl (fun _ => 0)))] := hD
  refine va_putF (D := D) (ci := 4) (v := .ref qn4) (ty := (.array .int)) (C := RX0) (T := TX0) (N := 20) hx hb hts inX0 tyX0 tyX0_ok nmX0 hown hK hP hD hS 0 rfl rfl 3 (by decide) (hts (.fieldLink RX0 22 "EscrowDesk$Account" "paid" "[I") (by decide +kernel)) (fun _ h9 => h9) rfl hin rfl (by decide +kernel) rfl rfl (Nat.le_of_ble_eq_true rfl) dX0_init_28 (fun H locs hP hD hS => ?_)
  have hP : va_P D vwCl [(h0, .inr (4, [.null, .ref qn1, .ref qn3, .ref qn4, .null, .null, .int 0, .int 0, .int 0, .long 0, .long 0, .long 0, .int 0, .int 0, .int 0, .int 0, .int 0, .int 0, .int 0, .int 0])), (qn1, .inr (6, [.ref qn2, .int 0, .int 0])), (qn2, .inl (cA 0, 240, .inl (fun _ => 0))), (qn3, .inl (cA 0, 10, .inl (fun _ => 0))), (qn4, .inl (cA 0, 10, .inl (fun _ => 0)))] H := hP
  have hD : va_D A [(h0, .inr (4, [.null, .ref qn1, .ref qn3, .ref qn4, .null, .null, .int 0, .int 0, .int 0, .long 0, .long 0, .long 0, .int 0, .int 0, .int 0, .int 0, .int 0, .int 0, .int 0, .int 0])), (qn1, .inr (6, [.ref qn2, .int 0, .int 0])), (qn2, .inl (cA 0, 240, .inl (fun _ => 0))), (qn3, .inl (cA 0, 10, .inl (fun _ => 0))), (qn4, .inl (cA 0, 10, .inl (fun _ => 0)))] := hD
  refine lv_aload_n hx hb dX0_init_31 rfl (lv_at hl 0 rfl) ?_
  refine lv_bipush (v := 10) hx hb dX0_init_32 (by decide) ?_
  refine va_newa (atype := .int) (ty := .int) (N' := 10) (a0 := (10, .inl (fun _ => 0))) hx hb (hts (.arrayClass .int) (by decide +kernel)) rfl hK hP hD hS hA (fun _ => rfl) (by decide) (by decide +kernel) (Nat.le_of_ble_eq_true rfl) (Nat.le_of_ble_eq_true rfl) (Nat.le_of_ble_eq_true rfl) dX0_init_34 (fun qn5 c9 H hK9 hP hD hS => ?_)
  obtain rfl : c9 = cA 0 := ty_one hK9 0 rfl
  have hP : va_P D vwCl [(h0, .inr (4, [.null, .ref qn1, .ref qn3, .ref qn4, .null, .null, .int 0, .int 0, .int 0, .long 0, .long 0, .long 0, .int 0, .int 0, .int 0, .int 0, .int 0, .int 0, .int 0, .int 0])), (qn1, .inr (6, [.ref qn2, .int 0, .int 0])), (qn2, .inl (cA 0, 240, .inl (fun _ => 0))), (qn3, .inl (cA 0, 10, .inl (fun _ => 0))), (qn4, .inl (cA 0, 10, .inl (fun _ => 0))), (qn5, .inl (cA 0, 10, .inl (fun _ => 0)))] H := hP
  have hD : va_D A [(h0, .inr (4, [.null, .ref qn1, .ref qn3, .ref qn4, .null, .null, .int 0, .int 0, .int 0, .long 0, .long 0, .long 0, .int 0, .int 0, .int 0, .int 0, .int 0, .int 0, .int 0, .int 0])), (qn1, .inr (6, [.ref qn2, .int 0, .int 0])), (qn2, .inl (cA 0, 240, .inl (fun _ => 0))), (qn3, .inl (cA 0, 10, .inl (fun _ => 0))), (qn4, .inl (cA 0, 10, .inl (fun _ => 0))), (qn5, .inl (cA 0, 10, .inl (fun _ => 0)))] := hD
  refine va_putF (D := D) (ci := 4) (v := .ref qn5) (ty := (.array .int)) (C := RX0) (T := TX0) (N := 20) hx hb hts inX0 tyX0 tyX0_ok nmX0 hown hK hP hD hS 0 rfl rfl 4 (by decide) (hts (.fieldLink RX0 25 "EscrowDesk$Account" "frozen" "[I") (by decide +kernel)) (fun _ h9 => h9) rfl hin rfl (by decide +kernel) rfl rfl (Nat.le_of_ble_eq_true rfl) dX0_init_36 (fun H locs hP hD hS => ?_)
  have hP : va_P D vwCl [(h0, .inr (4, [.null, .ref qn1, .ref qn3, .ref qn4, .ref qn5, .null, .int 0, .int 0, .int 0, .long 0, .long 0, .long 0, .int 0, .int 0, .int 0, .int 0, .int 0, .int 0, .int 0, .int 0])), (qn1, .inr (6, [.ref qn2, .int 0, .int 0])), (qn2, .inl (cA 0, 240, .inl (fun _ => 0))), (qn3, .inl (cA 0, 10, .inl (fun _ => 0))), (qn4, .inl (cA 0, 10, .inl (fun _ => 0))), (qn5, .inl (cA 0, 10, .inl (fun _ => 0)))] H := hP
  have hD : va_D A [(h0, .inr (4, [.null, .ref qn1, .ref qn3, .ref qn4, .ref qn5, .null, .int 0, .int 0, .int 0, .long 0, .long 0, .long 0, .int 0, .int 0, .int 0, .int 0, .int 0, .int 0, .int 0, .int 0])), (qn1, .inr (6, [.ref qn2, .int 0, .int 0])), (qn2, .inl (cA 0, 240, .inl (fun _ => 0))), (qn3, .inl (cA 0, 10, .inl (fun _ => 0))), (qn4, .inl (cA 0, 10, .inl (fun _ => 0))), (qn5, .inl (cA 0, 10, .inl (fun _ => 0)))] := hD
  refine lv_aload_n hx hb dX0_init_39 rfl (lv_at hl 0 rfl) ?_
  refine lv_bipush (v := 10) hx hb dX0_init_40 (by decide) ?_
  refine va_newa (atype := .int) (ty := .int) (N' := 10) (a0 := (10, .inl (fun _ => 0))) hx hb (hts (.arrayClass .int) (by decide +kernel)) rfl hK hP hD hS hA (fun _ => rfl) (by decide) (by decide +kernel) (Nat.le_of_ble_eq_true rfl) (Nat.le_of_ble_eq_true rfl) (Nat.le_of_ble_eq_true rfl) dX0_init_42 (fun qn6 c9 H hK9 hP hD hS => ?_)
  obtain rfl : c9 = cA 0 := ty_one hK9 0 rfl
  have hP : va_P D vwCl [(h0, .inr (4, [.null, .ref qn1, .ref qn3, .ref qn4, .ref qn5, .null, .int 0, .int 0, .int 0, .long 0, .long 0, .long 0, .int 0, .int 0, .int 0, .int 0, .int 0, .int 0, .int 0, .int 0])), (qn1, .inr (6, [.ref qn2, .int 0, .int 0])), (qn2, .inl (cA 0, 240, .inl (fun _ => 0))), (qn3, .inl (cA 0, 10, .inl (fun _ => 0))), (qn4, .inl (cA 0, 10, .inl (fun _ => 0))), (qn5, .inl (cA 0, 10, .inl (fun _ => 0))), (qn6, .inl (cA 0, 10, .inl (fun _ => 0)))] H := hP
  have hD : va_D A [(h0, .inr (4, [.null, .ref qn1, .ref qn3, .ref qn4, .ref qn5, .null, .int 0, .int 0, .int 0, .long 0, .long 0, .long 0, .int 0, .int 0, .int 0, .int 0, .int 0, .int 0, .int 0, .int 0])), (qn1, .inr (6, [.ref qn2, .int 0, .int 0])), (qn2, .inl (cA 0, 240, .inl (fun _ => 0))), (qn3, .inl (cA 0, 10, .inl (fun _ => 0))), (qn4, .inl (cA 0, 10, .inl (fun _ => 0))), (qn5, .inl (cA 0, 10, .inl (fun _ => 0))), (qn6, .inl (cA 0, 10, .inl (fun _ => 0)))] := hD
  refine va_putF (D := D) (ci := 4) (v := .ref qn6) (ty := (.array .int)) (C := RX0) (T := TX0) (N := 20) hx hb hts inX0 tyX0 tyX0_ok nmX0 hown hK hP hD hS 0 rfl rfl 5 (by decide) (hts (.fieldLink RX0 28 "EscrowDesk$Account" "dueDay" "[I") (by decide +kernel)) (fun _ h9 => h9) rfl hin rfl (by decide +kernel) rfl rfl (Nat.le_of_ble_eq_true rfl) dX0_init_44 (fun H locs hP hD hS => ?_)
  have hP : va_P D vwCl [(h0, .inr (4, [.null, .ref qn1, .ref qn3, .ref qn4, .ref qn5, .ref qn6, .int 0, .int 0, .int 0, .long 0, .long 0, .long 0, .int 0, .int 0, .int 0, .int 0, .int 0, .int 0, .int 0, .int 0])), (qn1, .inr (6, [.ref qn2, .int 0, .int 0])), (qn2, .inl (cA 0, 240, .inl (fun _ => 0))), (qn3, .inl (cA 0, 10, .inl (fun _ => 0))), (qn4, .inl (cA 0, 10, .inl (fun _ => 0))), (qn5, .inl (cA 0, 10, .inl (fun _ => 0))), (qn6, .inl (cA 0, 10, .inl (fun _ => 0)))] H := hP
  have hD : va_D A [(h0, .inr (4, [.null, .ref qn1, .ref qn3, .ref qn4, .ref qn5, .ref qn6, .int 0, .int 0, .int 0, .long 0, .long 0, .long 0, .int 0, .int 0, .int 0, .int 0, .int 0, .int 0, .int 0, .int 0])), (qn1, .inr (6, [.ref qn2, .int 0, .int 0])), (qn2, .inl (cA 0, 240, .inl (fun _ => 0))), (qn3, .inl (cA 0, 10, .inl (fun _ => 0))), (qn4, .inl (cA 0, 10, .inl (fun _ => 0))), (qn5, .inl (cA 0, 10, .inl (fun _ => 0))), (qn6, .inl (cA 0, 10, .inl (fun _ => 0)))] := hD
  refine lv_aload_n hx hb dX0_init_47 rfl (lv_at hl 0 rfl) ?_
  refine lv_aload_n hx hb dX0_init_48 rfl (lv_at hl 1 rfl) ?_
  refine va_put (D := D) (ci := 4) (v := .ref h1) (ty := (.object "EscrowDesk$Plan")) (C := RX0) (T := TX0) (N := 20) hx hb hts inX0 tyX0 tyX0_ok nmX0 hown hK hP hD hS 0 rfl rfl 0 (by decide) (hts (.fieldLink RX0 31 "EscrowDesk$Account" "plan" "LEscrowDesk$Plan;") (by decide +kernel)) (fun _ h9 => h9) rfl (by decide +kernel) rfl rfl (Nat.le_of_ble_eq_true rfl) dX0_init_49 (fun H locs hP hD hS => ?_)
  have hP : va_P D vwCl [(h0, .inr (4, [.ref h1, .ref qn1, .ref qn3, .ref qn4, .ref qn5, .ref qn6, .int 0, .int 0, .int 0, .long 0, .long 0, .long 0, .int 0, .int 0, .int 0, .int 0, .int 0, .int 0, .int 0, .int 0])), (qn1, .inr (6, [.ref qn2, .int 0, .int 0])), (qn2, .inl (cA 0, 240, .inl (fun _ => 0))), (qn3, .inl (cA 0, 10, .inl (fun _ => 0))), (qn4, .inl (cA 0, 10, .inl (fun _ => 0))), (qn5, .inl (cA 0, 10, .inl (fun _ => 0))), (qn6, .inl (cA 0, 10, .inl (fun _ => 0)))] H := hP
  have hD : va_D A [(h0, .inr (4, [.ref h1, .ref qn1, .ref qn3, .ref qn4, .ref qn5, .ref qn6, .int 0, .int 0, .int 0, .long 0, .long 0, .long 0, .int 0, .int 0, .int 0, .int 0, .int 0, .int 0, .int 0, .int 0])), (qn1, .inr (6, [.ref qn2, .int 0, .int 0])), (qn2, .inl (cA 0, 240, .inl (fun _ => 0))), (qn3, .inl (cA 0, 10, .inl (fun _ => 0))), (qn4, .inl (cA 0, 10, .inl (fun _ => 0))), (qn5, .inl (cA 0, 10, .inl (fun _ => 0))), (qn6, .inl (cA 0, 10, .inl (fun _ => 0)))] := hD
  have hP9 := hP.sub (ws' := [(h0, .inr (4, [.ref h1, .ref qn1, .ref qn3, .ref qn4, .ref qn5, .ref qn6, .int 0, .int 0, .int 0, .long 0, .long 0, .long 0, .int 0, .int 0, .int 0, .int 0, .int 0, .int 0, .int 0, .int 0])), (qn1, .inr (6, [.ref qn2, .int 0, .int 0])), (qn2, .inl (cA 0, 240, .inl (fun _ => 0))), (qn3, .inl (cA 0, 10, .inl (fun _ => 0))), (qn4, .inl (cA 0, 10, .inl (fun _ => 0))), (qn5, .inl (cA 0, 10, .inl (fun _ => 0))), (qn6, .inl (cA 0, 10, .inl (fun _ => 0)))]) [0, 1, 2, 3, 4, 5, 6] rfl
  have hD9 := hD.sub (ws' := [(h0, .inr (4, [.ref h1, .ref qn1, .ref qn3, .ref qn4, .ref qn5, .ref qn6, .int 0, .int 0, .int 0, .long 0, .long 0, .long 0, .int 0, .int 0, .int 0, .int 0, .int 0, .int 0, .int 0, .int 0])), (qn1, .inr (6, [.ref qn2, .int 0, .int 0])), (qn2, .inl (cA 0, 240, .inl (fun _ => 0))), (qn3, .inl (cA 0, 10, .inl (fun _ => 0))), (qn4, .inl (cA 0, 10, .inl (fun _ => 0))), (qn5, .inl (cA 0, 10, .inl (fun _ => 0))), (qn6, .inl (cA 0, 10, .inl (fun _ => 0)))]) [0, 1, 2, 3, 4, 5, 6] (by decide) rfl
  refine W.widen (k := 6) (n := 283) (Nat.le_of_ble_eq_true rfl) (Nat.le_of_ble_eq_true rfl) ?_
  exact W.vret hx hb hr (fun t ht hW => ⟨⟨(), rfl, trivial, qn1, qn2, qn3, qn4, qn5, qn6, by rw [ht]; exact hP9, hD9⟩, hS.F ht⟩) hS.2.2 dX0_init_52

set_option maxHeartbeats 4000000 in
set_option maxRecDepth 100000 in
/-- Scanner() -/
theorem c_X5_init (l : Launch) (D : va_G) (cA : Nat → ClassId) (sa : Nat → Nat) (h0 : Nat) (sz : Nat) : Met l yX5_init wsX5_init ({ frames := 1, cells := 3, slots := 2103, locals := 20 }) (va_Pc [.ref h0] (Wd D cA sa [(h0, .inr (9, [.null, .null, .null, .int 0]))] sz)) (va_Qv (fun _ : Unit => True) (fun (_ : Unit) t => ∃ qn1 : Nat, ∃ qn2 : Nat, ∃ qn3 : Nat, Wq D (va_A [(h0, .inr (9, [.null, .null, .null, .int 0]))] sz) [(h0, .inr (9, [.ref qn1, .ref qn2, .ref qn3, .int 0])), (qn1, .inl (cA 0, 701, .inl (fun _ => 0))), (qn2, .inl (cA 0, 701, .inl (fun _ => 0))), (qn3, .inl (cA 1, 701, .inr (.inl (fun _ => 0))))] t) (va_A [(h0, .inr (9, [.null, .null, .null, .int 0]))] sz)) 3 2103 (va_A [(h0, .inr (9, [.null, .null, .null, .int 0]))] sz) := by
  refine Met.ofW (cc := cX5_init) (maxL := 1) (ret := none) (by decide) rfl ?_
  intro p e s m args below meth c s₁ B hml hv
  obtain ⟨rfl, hsz, hP, hK, hD0, hC, hZ⟩ := hv
  have hx := B.exec
  have hb := B.bytes
  have hr := B.returns
  have hts := atoms_spec (ws := wsX5_init) B.pre
  have hown : s.vm.findClass RX5 = some m.cls := findClass_of_methodNamed B.named
  have hlocks := B.notSynchronized
  have hin : meth.name = "<init>" := (name_of_methodNamed B.named B.method).1
  subst hsz
  have hD := hD0.self (sz := s.heap.size)
  generalize hAe : va_A [(h0, .inr (9, [.null, .null, .null, .int 0]))] s.heap.size = A at hD hZ ⊢
  have hA : ∀ q : Nat, s.heap.size ≤ q → A q := fun q h => by rw [← hAe]; exact Or.inr h
  have hS : va_S A s.heap s.heap [] := va_S.rf
  have hP : va_P D vwCl [(h0, .inr (9, [.null, .null, .null, .int 0]))] s.heap := hP
  have hl := lv_entry ([.ref h0]) (n := 1) (Nat.le_of_ble_eq_true rfl)
  rw [lg_entry_eq]
  generalize (lg_sl ([.ref h0]) ++ List.replicate (1 - (lg_sl ([.ref h0])).length) Slot.unset).toArray = ls at hl ⊢
  have hl : lv_has ls 1 [(0, .ref h0)] := hl
  have inX5 : ∀ w ∈ u_ws RX5 TX5 4, w ∈ wsX5_init := by decide +kernel
  refine lv_aload_n hx hb dX5_init_0 rfl (lv_at hl 0 rfl) ?_
  refine W.objInit hx hb hown (hts (.methodLink RX5 3 objectInit) (by decide +kernel)) (hts (.instanceMethod objectInit) (by decide +kernel)) (hts (.code objectInit ⟨#[0xb1]⟩ 1 none) (by decide +kernel)) rfl (by rw [hml]; exact hl.1) rfl dX5_init_1 (Nat.le_of_ble_eq_true rfl) (Nat.le_of_ble_eq_true rfl) ?_
  refine W.eq (g2 := F0 m 4 ls []) rfl ?_
  refine lv_aload_n hx hb dX5_init_4 rfl (lv_at hl 0 rfl) ?_
  refine lv_sipush (v := 701) hx hb dX5_init_5 (by decide) ?_
  refine va_newa (atype := .int) (ty := .int) (N' := 701) (a0 := (701, .inl (fun _ => 0))) hx hb (hts (.arrayClass .int) (by decide +kernel)) rfl hK hP hD hS hA (fun _ => rfl) (by decide) (by decide +kernel) (Nat.le_of_ble_eq_true rfl) (Nat.le_of_ble_eq_true rfl) (Nat.le_of_ble_eq_true rfl) dX5_init_8 (fun qn1 c9 H hK9 hP hD hS => ?_)
  obtain rfl : c9 = cA 0 := ty_one hK9 0 rfl
  have hP : va_P D vwCl [(h0, .inr (9, [.null, .null, .null, .int 0])), (qn1, .inl (cA 0, 701, .inl (fun _ => 0)))] H := hP
  have hD : va_D A [(h0, .inr (9, [.null, .null, .null, .int 0])), (qn1, .inl (cA 0, 701, .inl (fun _ => 0)))] := hD
  refine va_putF (D := D) (ci := 9) (v := .ref qn1) (ty := (.array .int)) (C := RX5) (T := TX5) (N := 4) hx hb hts inX5 tyX5 tyX5_ok nmX5 hown hK hP hD hS 0 rfl rfl 0 (by decide) (hts (.fieldLink RX5 9 "EscrowDesk$Scanner" "kinds" "[I") (by decide +kernel)) (fun _ h9 => h9) rfl hin rfl (by decide +kernel) rfl rfl (Nat.le_of_ble_eq_true rfl) dX5_init_10 (fun H locs hP hD hS => ?_)
  have hP : va_P D vwCl [(h0, .inr (9, [.ref qn1, .null, .null, .int 0])), (qn1, .inl (cA 0, 701, .inl (fun _ => 0)))] H := hP
  have hD : va_D A [(h0, .inr (9, [.ref qn1, .null, .null, .int 0])), (qn1, .inl (cA 0, 701, .inl (fun _ => 0)))] := hD
  refine lv_aload_n hx hb dX5_init_13 rfl (lv_at hl 0 rfl) ?_
  refine lv_sipush (v := 701) hx hb dX5_init_14 (by decide) ?_
  refine va_newa (atype := .int) (ty := .int) (N' := 701) (a0 := (701, .inl (fun _ => 0))) hx hb (hts (.arrayClass .int) (by decide +kernel)) rfl hK hP hD hS hA (fun _ => rfl) (by decide) (by decide +kernel) (Nat.le_of_ble_eq_true rfl) (Nat.le_of_ble_eq_true rfl) (Nat.le_of_ble_eq_true rfl) dX5_init_17 (fun qn2 c9 H hK9 hP hD hS => ?_)
  obtain rfl : c9 = cA 0 := ty_one hK9 0 rfl
  have hP : va_P D vwCl [(h0, .inr (9, [.ref qn1, .null, .null, .int 0])), (qn1, .inl (cA 0, 701, .inl (fun _ => 0))), (qn2, .inl (cA 0, 701, .inl (fun _ => 0)))] H := hP
  have hD : va_D A [(h0, .inr (9, [.ref qn1, .null, .null, .int 0])), (qn1, .inl (cA 0, 701, .inl (fun _ => 0))), (qn2, .inl (cA 0, 701, .inl (fun _ => 0)))] := hD
  refine va_putF (D := D) (ci := 9) (v := .ref qn2) (ty := (.array .int)) (C := RX5) (T := TX5) (N := 4) hx hb hts inX5 tyX5 tyX5_ok nmX5 hown hK hP hD hS 0 rfl rfl 1 (by decide) (hts (.fieldLink RX5 15 "EscrowDesk$Scanner" "starts" "[I") (by decide +kernel)) (fun _ h9 => h9) rfl hin rfl (by decide +kernel) rfl rfl (Nat.le_of_ble_eq_true rfl) dX5_init_19 (fun H locs hP hD hS => ?_)
  have hP : va_P D vwCl [(h0, .inr (9, [.ref qn1, .ref qn2, .null, .int 0])), (qn1, .inl (cA 0, 701, .inl (fun _ => 0))), (qn2, .inl (cA 0, 701, .inl (fun _ => 0)))] H := hP
  have hD : va_D A [(h0, .inr (9, [.ref qn1, .ref qn2, .null, .int 0])), (qn1, .inl (cA 0, 701, .inl (fun _ => 0))), (qn2, .inl (cA 0, 701, .inl (fun _ => 0)))] := hD
  refine lv_aload_n hx hb dX5_init_22 rfl (lv_at hl 0 rfl) ?_
  refine lv_sipush (v := 701) hx hb dX5_init_23 (by decide) ?_
  refine va_newa (atype := .long) (ty := .long) (N' := 701) (a0 := (701, .inr (.inl (fun _ => 0)))) hx hb (hts (.arrayClass .long) (by decide +kernel)) rfl hK hP hD hS hA (fun _ => rfl) (by decide) (by decide +kernel) (Nat.le_of_ble_eq_true rfl) (Nat.le_of_ble_eq_true rfl) (Nat.le_of_ble_eq_true rfl) dX5_init_26 (fun qn3 c9 H hK9 hP hD hS => ?_)
  obtain rfl : c9 = cA 1 := ty_one hK9 1 rfl
  have hP : va_P D vwCl [(h0, .inr (9, [.ref qn1, .ref qn2, .null, .int 0])), (qn1, .inl (cA 0, 701, .inl (fun _ => 0))), (qn2, .inl (cA 0, 701, .inl (fun _ => 0))), (qn3, .inl (cA 1, 701, .inr (.inl (fun _ => 0))))] H := hP
  have hD : va_D A [(h0, .inr (9, [.ref qn1, .ref qn2, .null, .int 0])), (qn1, .inl (cA 0, 701, .inl (fun _ => 0))), (qn2, .inl (cA 0, 701, .inl (fun _ => 0))), (qn3, .inl (cA 1, 701, .inr (.inl (fun _ => 0))))] := hD
  refine va_putF (D := D) (ci := 9) (v := .ref qn3) (ty := (.array .long)) (C := RX5) (T := TX5) (N := 4) hx hb hts inX5 tyX5 tyX5_ok nmX5 hown hK hP hD hS 0 rfl rfl 2 (by decide) (hts (.fieldLink RX5 18 "EscrowDesk$Scanner" "values" "[J") (by decide +kernel)) (fun _ h9 => h9) rfl hin rfl (by decide +kernel) rfl rfl (Nat.le_of_ble_eq_true rfl) dX5_init_28 (fun H locs hP hD hS => ?_)
  have hP : va_P D vwCl [(h0, .inr (9, [.ref qn1, .ref qn2, .ref qn3, .int 0])), (qn1, .inl (cA 0, 701, .inl (fun _ => 0))), (qn2, .inl (cA 0, 701, .inl (fun _ => 0))), (qn3, .inl (cA 1, 701, .inr (.inl (fun _ => 0))))] H := hP
  have hD : va_D A [(h0, .inr (9, [.ref qn1, .ref qn2, .ref qn3, .int 0])), (qn1, .inl (cA 0, 701, .inl (fun _ => 0))), (qn2, .inl (cA 0, 701, .inl (fun _ => 0))), (qn3, .inl (cA 1, 701, .inr (.inl (fun _ => 0))))] := hD
  have hP9 := hP.sub (ws' := [(h0, .inr (9, [.ref qn1, .ref qn2, .ref qn3, .int 0])), (qn1, .inl (cA 0, 701, .inl (fun _ => 0))), (qn2, .inl (cA 0, 701, .inl (fun _ => 0))), (qn3, .inl (cA 1, 701, .inr (.inl (fun _ => 0))))]) [0, 1, 2, 3] rfl
  have hD9 := hD.sub (ws' := [(h0, .inr (9, [.ref qn1, .ref qn2, .ref qn3, .int 0])), (qn1, .inl (cA 0, 701, .inl (fun _ => 0))), (qn2, .inl (cA 0, 701, .inl (fun _ => 0))), (qn3, .inl (cA 1, 701, .inr (.inl (fun _ => 0))))]) [0, 1, 2, 3] (by decide) rfl
  refine W.widen (k := 3) (n := 2103) (Nat.le_of_ble_eq_true rfl) (Nat.le_of_ble_eq_true rfl) ?_
  exact W.vret hx hb hr (fun t ht hW => ⟨⟨(), rfl, trivial, qn1, qn2, qn3, by rw [ht]; exact hP9, hD9⟩, hS.F ht⟩) hS.2.2 dX5_init_31

set_option maxHeartbeats 4000000 in
set_option maxRecDepth 100000 in
/-- Plan() -/
theorem c_X3_init (l : Launch) (D : va_G) (cA : Nat → ClassId) (sa : Nat → Nat) (h0 : Nat) (sz : Nat) : Met l yX3_init wsX3_init ({ frames := 1, cells := 9, slots := 764, locals := 20 }) (va_Pc [.ref h0] (Wd D cA sa [(h0, .inr (7, [.int 0, .int 0, .int 0, .int 0, .null, .int 0, .null, .null, .null, .null, .int 0, .null, .int 0, .null, .null, .null, .int 0]))] sz)) (va_Qv (fun _ : Unit => True) (fun (_ : Unit) t => ∃ qn1 : Nat, ∃ qn2 : Nat, ∃ qn3 : Nat, ∃ qn4 : Nat, ∃ qn5 : Nat, ∃ qn6 : Nat, ∃ qn7 : Nat, ∃ qn8 : Nat, ∃ qn9 : Nat, Wq D (va_A [(h0, .inr (7, [.int 0, .int 0, .int 0, .int 0, .null, .int 0, .null, .null, .null, .null, .int 0, .null, .int 0, .null, .null, .null, .int 0]))] sz) [(h0, .inr (7, [.int 0, .int 365, .int 0, .int 0, .ref qn1, .int 0, .ref qn2, .ref qn3, .ref qn4, .ref qn5, .int 0, .ref qn6, .int 0, .ref qn7, .ref qn8, .ref qn9, .int 0])), (qn1, .inl (cA 0, 6, .inl (fun _ => 0))), (qn2, .inl (cA 1, 10, .inr (.inl (fun _ => 0)))), (qn3, .inl (cA 0, 10, .inl (fun _ => 0))), (qn4, .inl (cA 0, 10, .inl (fun _ => 0))), (qn5, .inl (cA 0, 10, .inl (fun _ => 0))), (qn6, .inl (cA 1, 8, .inr (.inl (fun _ => 0)))), (qn7, .inl (cA 0, 350, .inl (fun _ => 0))), (qn8, .inl (cA 0, 350, .inl (fun _ => 0))), (qn9, .inl (cA 0, 10, .inl (fun _ => 0)))] t) (va_A [(h0, .inr (7, [.int 0, .int 0, .int 0, .int 0, .null, .int 0, .null, .null, .null, .null, .int 0, .null, .int 0, .null, .null, .null, .int 0]))] sz)) 9 764 (va_A [(h0, .inr (7, [.int 0, .int 0, .int 0, .int 0, .null, .int 0, .null, .null, .null, .null, .int 0, .null, .int 0, .null, .null, .null, .int 0]))] sz) := by
  refine Met.ofW (cc := cX3_init) (maxL := 1) (ret := none) (by decide) rfl ?_
  intro p e s m args below meth c s₁ B hml hv
  obtain ⟨rfl, hsz, hP, hK, hD0, hC, hZ⟩ := hv
  have hx := B.exec
  have hb := B.bytes
  have hr := B.returns
  have hts := atoms_spec (ws := wsX3_init) B.pre
  have hown : s.vm.findClass RX3 = some m.cls := findClass_of_methodNamed B.named
  have hlocks := B.notSynchronized
  have hin : meth.name = "<init>" := (name_of_methodNamed B.named B.method).1
  subst hsz
  have hD := hD0.self (sz := s.heap.size)
  generalize hAe : va_A [(h0, .inr (7, [.int 0, .int 0, .int 0, .int 0, .null, .int 0, .null, .null, .null, .null, .int 0, .null, .int 0, .null, .null, .null, .int 0]))] s.heap.size = A at hD hZ ⊢
  have hA : ∀ q : Nat, s.heap.size ≤ q → A q := fun q h => by rw [← hAe]; exact Or.inr h
  have hS : va_S A s.heap s.heap [] := va_S.rf
  have hP : va_P D vwCl [(h0, .inr (7, [.int 0, .int 0, .int 0, .int 0, .null, .int 0, .null, .null, .null, .null, .int 0, .null, .int 0, .null, .null, .null, .int 0]))] s.heap := hP
  have hl := lv_entry ([.ref h0]) (n := 1) (Nat.le_of_ble_eq_true rfl)
  rw [lg_entry_eq]
  generalize (lg_sl ([.ref h0]) ++ List.replicate (1 - (lg_sl ([.ref h0])).length) Slot.unset).toArray = ls at hl ⊢
  have hl : lv_has ls 1 [(0, .ref h0)] := hl
  have inX3 : ∀ w ∈ u_ws RX3 TX3 17, w ∈ wsX3_init := by decide +kernel
  refine lv_aload_n hx hb dX3_init_0 rfl (lv_at hl 0 rfl) ?_
  refine W.objInit hx hb hown (hts (.methodLink RX3 3 objectInit) (by decide +kernel)) (hts (.instanceMethod objectInit) (by decide +kernel)) (hts (.code objectInit ⟨#[0xb1]⟩ 1 none) (by decide +kernel)) rfl (by rw [hml]; exact hl.1) rfl dX3_init_1 (Nat.le_of_ble_eq_true rfl) (Nat.le_of_ble_eq_true rfl) ?_
  refine W.eq (g2 := F0 m 4 ls []) rfl ?_
  refine lv_aload_n hx hb dX3_init_4 rfl (lv_at hl 0 rfl) ?_
  refine lv_sipush (v := 365) hx hb dX3_init_5 (by decide) ?_
  refine va_put (D := D) (ci := 7) (v := .int 365) (ty := .int) (C := RX3) (T := TX3) (N := 17) hx hb hts inX3 tyX3 tyX3_ok nmX3 hown hK hP hD hS 0 rfl rfl 1 (by decide) (hts (.fieldLink RX3 9 "EscrowDesk$Plan" "basis" "I") (by decide +kernel)) (fun _ h9 => h9) rfl (by decide +kernel) rfl rfl (Nat.le_of_ble_eq_true rfl) dX3_init_8 (fun H locs hP hD hS => ?_)
  have hP : va_P D vwCl [(h0, .inr (7, [.int 0, .int 365, .int 0, .int 0, .null, .int 0, .null, .null, .null, .null, .int 0, .null, .int 0, .null, .null, .null, .int 0]))] H := hP
  have hD : va_D A [(h0, .inr (7, [.int 0, .int 365, .int 0, .int 0, .null, .int 0, .null, .null, .null, .null, .int 0, .null, .int 0, .null, .null, .null, .int 0]))] := hD
  refine lv_aload_n hx hb dX3_init_11 rfl (lv_at hl 0 rfl) ?_
  refine lv_bipush (v := 6) hx hb dX3_init_12 (by decide) ?_
  refine va_newa (atype := .int) (ty := .int) (N' := 6) (a0 := (6, .inl (fun _ => 0))) hx hb (hts (.arrayClass .int) (by decide +kernel)) rfl hK hP hD hS hA (fun _ => rfl) (by decide) (by decide +kernel) (Nat.le_of_ble_eq_true rfl) (Nat.le_of_ble_eq_true rfl) (Nat.le_of_ble_eq_true rfl) dX3_init_14 (fun qn1 c9 H hK9 hP hD hS => ?_)
  obtain rfl : c9 = cA 0 := ty_one hK9 0 rfl
  have hP : va_P D vwCl [(h0, .inr (7, [.int 0, .int 365, .int 0, .int 0, .null, .int 0, .null, .null, .null, .null, .int 0, .null, .int 0, .null, .null, .null, .int 0])), (qn1, .inl (cA 0, 6, .inl (fun _ => 0)))] H := hP
  have hD : va_D A [(h0, .inr (7, [.int 0, .int 365, .int 0, .int 0, .null, .int 0, .null, .null, .null, .null, .int 0, .null, .int 0, .null, .null, .null, .int 0])), (qn1, .inl (cA 0, 6, .inl (fun _ => 0)))] := hD
  refine va_putF (D := D) (ci := 7) (v := .ref qn1) (ty := (.array .int)) (C := RX3) (T := TX3) (N := 17) hx hb hts inX3 tyX3 tyX3_ok nmX3 hown hK hP hD hS 0 rfl rfl 4 (by decide) (hts (.fieldLink RX3 15 "EscrowDesk$Plan" "deposits" "[I") (by decide +kernel)) (fun _ h9 => h9) rfl hin rfl (by decide +kernel) rfl rfl (Nat.le_of_ble_eq_true rfl) dX3_init_16 (fun H locs hP hD hS => ?_)
  have hP : va_P D vwCl [(h0, .inr (7, [.int 0, .int 365, .int 0, .int 0, .ref qn1, .int 0, .null, .null, .null, .null, .int 0, .null, .int 0, .null, .null, .null, .int 0])), (qn1, .inl (cA 0, 6, .inl (fun _ => 0)))] H := hP
  have hD : va_D A [(h0, .inr (7, [.int 0, .int 365, .int 0, .int 0, .ref qn1, .int 0, .null, .null, .null, .null, .int 0, .null, .int 0, .null, .null, .null, .int 0])), (qn1, .inl (cA 0, 6, .inl (fun _ => 0)))] := hD
  refine lv_aload_n hx hb dX3_init_19 rfl (lv_at hl 0 rfl) ?_
  refine lv_bipush (v := 10) hx hb dX3_init_20 (by decide) ?_
  refine va_newa (atype := .long) (ty := .long) (N' := 10) (a0 := (10, .inr (.inl (fun _ => 0)))) hx hb (hts (.arrayClass .long) (by decide +kernel)) rfl hK hP hD hS hA (fun _ => rfl) (by decide) (by decide +kernel) (Nat.le_of_ble_eq_true rfl) (Nat.le_of_ble_eq_true rfl) (Nat.le_of_ble_eq_true rfl) dX3_init_22 (fun qn2 c9 H hK9 hP hD hS => ?_)
  obtain rfl : c9 = cA 1 := ty_one hK9 1 rfl
  have hP : va_P D vwCl [(h0, .inr (7, [.int 0, .int 365, .int 0, .int 0, .ref qn1, .int 0, .null, .null, .null, .null, .int 0, .null, .int 0, .null, .null, .null, .int 0])), (qn1, .inl (cA 0, 6, .inl (fun _ => 0))), (qn2, .inl (cA 1, 10, .inr (.inl (fun _ => 0))))] H := hP
  have hD : va_D A [(h0, .inr (7, [.int 0, .int 365, .int 0, .int 0, .ref qn1, .int 0, .null, .null, .null, .null, .int 0, .null, .int 0, .null, .null, .null, .int 0])), (qn1, .inl (cA 0, 6, .inl (fun _ => 0))), (qn2, .inl (cA 1, 10, .inr (.inl (fun _ => 0))))] := hD
  refine va_putF (D := D) (ci := 7) (v := .ref qn2) (ty := (.array .long)) (C := RX3) (T := TX3) (N := 17) hx hb hts inX3 tyX3 tyX3_ok nmX3 hown hK hP hD hS 0 rfl rfl 6 (by decide) (hts (.fieldLink RX3 19 "EscrowDesk$Plan" "names" "[J") (by decide +kernel)) (fun _ h9 => h9) rfl hin rfl (by decide +kernel) rfl rfl (Nat.le_of_ble_eq_true rfl) dX3_init_24 (fun H locs hP hD hS => ?_)
  have hP : va_P D vwCl [(h0, .inr (7, [.int 0, .int 365, .int 0, .int 0, .ref qn1, .int 0, .ref qn2, .null, .null, .null, .int 0, .null, .int 0, .null, .null, .null, .int 0])), (qn1, .inl (cA 0, 6, .inl (fun _ => 0))), (qn2, .inl (cA 1, 10, .inr (.inl (fun _ => 0))))] H := hP
  have hD : va_D A [(h0, .inr (7, [.int 0, .int 365, .int 0, .int 0, .ref qn1, .int 0, .ref qn2, .null, .null, .null, .int 0, .null, .int 0, .null, .null, .null, .int 0])), (qn1, .inl (cA 0, 6, .inl (fun _ => 0))), (qn2, .inl (cA 1, 10, .inr (.inl (fun _ => 0))))] := hD
  refine lv_aload_n hx hb dX3_init_27 rfl (lv_at hl 0 rfl) ?_
  refine lv_bipush (v := 10) hx hb dX3_init_28 (by decide) ?_
  refine va_newa (atype := .int) (ty := .int) (N' := 10) (a0 := (10, .inl (fun _ => 0))) hx hb (hts (.arrayClass .int) (by decide +kernel)) rfl hK hP hD hS hA (fun _ => rfl) (by decide) (by decide +kernel) (Nat.le_of_ble_eq_true rfl) (Nat.le_of_ble_eq_true rfl) (Nat.le_of_ble_eq_true rfl) dX3_init_30 (fun qn3 c9 H hK9 hP hD hS => ?_)
  obtain rfl : c9 = cA 0 := ty_one hK9 0 rfl
  have hP : va_P D vwCl [(h0, .inr (7, [.int 0, .int 365, .int 0, .int 0, .ref qn1, .int 0, .ref qn2, .null, .null, .null, .int 0, .null, .int 0, .null, .null, .null, .int 0])), (qn1, .inl (cA 0, 6, .inl (fun _ => 0))), (qn2, .inl (cA 1, 10, .inr (.inl (fun _ => 0)))), (qn3, .inl (cA 0, 10, .inl (fun _ => 0)))] H := hP
  have hD : va_D A [(h0, .inr (7, [.int 0, .int 365, .int 0, .int 0, .ref qn1, .int 0, .ref qn2, .null, .null, .null, .int 0, .null, .int 0, .null, .null, .null, .int 0])), (qn1, .inl (cA 0, 6, .inl (fun _ => 0))), (qn2, .inl (cA 1, 10, .inr (.inl (fun _ => 0)))), (qn3, .inl (cA 0, 10, .inl (fun _ => 0)))] := hD
  refine va_putF (D := D) (ci := 7) (v := .ref qn3) (ty := (.array .int)) (C := RX3) (T := TX3) (N := 17) hx hb hts inX3 tyX3 tyX3_ok nmX3 hown hK hP hD hS 0 rfl rfl 7 (by decide) (hts (.fieldLink RX3 23 "EscrowDesk$Plan" "amounts" "[I") (by decide +kernel)) (fun _ h9 => h9) rfl hin rfl (by decide +kernel) rfl rfl (Nat.le_of_ble_eq_true rfl) dX3_init_32 (fun H locs hP hD hS => ?_)
  have hP : va_P D vwCl [(h0, .inr (7, [.int 0, .int 365, .int 0, .int 0, .ref qn1, .int 0, .ref qn2, .ref qn3, .null, .null, .int 0, .null, .int 0, .null, .null, .null, .int 0])), (qn1, .inl (cA 0, 6, .inl (fun _ => 0))), (qn2, .inl (cA 1, 10, .inr (.inl (fun _ => 0)))), (qn3, .inl (cA 0, 10, .inl (fun _ => 0)))] H := hP
  have hD : va_D A [(h0, .inr (7, [.int 0, .int 365, .int 0, .int 0, .ref qn1, .int 0, .ref qn2, .ref qn3, .null, .null, .int 0, .null, .int 0, .null, .null, .null, .int 0])), (qn1, .inl (cA 0, 6, .inl (fun _ => 0))), (qn2, .inl (cA 1, 10, .inr (.inl (fun _ => 0)))), (qn3, .inl (cA 0, 10, .inl (fun _ => 0)))] := hD
  refine lv_aload_n hx hb dX3_init_35 rfl (lv_at hl 0 rfl) ?_
  refine lv_bipush (v := 10) hx hb dX3_init_36 (by decide) ?_
  refine va_newa (atype := .int) (ty := .int) (N' := 10) (a0 := (10, .inl (fun _ => 0))) hx hb (hts (.arrayClass .int) (by decide +kernel)) rfl hK hP hD hS hA (fun _ => rfl) (by decide) (by decide +kernel) (Nat.le_of_ble_eq_true rfl) (Nat.le_of_ble_eq_true rfl) (Nat.le_of_ble_eq_true rfl) dX3_init_38 (fun qn4 c9 H hK9 hP hD hS => ?_)
  obtain rfl : c9 = cA 0 := ty_one hK9 0 rfl
  have hP : va_P D vwCl [(h0, .inr (7, [.int 0, .int 365, .int 0, .int 0, .ref qn1, .int 0, .ref qn2, .ref qn3, .null, .null, .int 0, .null, .int 0, .null, .null, .null, .int 0])), (qn1, .inl (cA 0, 6, .inl (fun _ => 0))), (qn2, .inl (cA 1, 10, .inr (.inl (fun _ => 0)))), (qn3, .inl (cA 0, 10, .inl (fun _ => 0))), (qn4, .inl (cA 0, 10, .inl (fun _ => 0)))] H := hP
  have hD : va_D A [(h0, .inr (7, [.int 0, .int 365, .int 0, .int 0, .ref qn1, .int 0, .ref qn2, .ref qn3, .null, .null, .int 0, .null, .int 0, .null, .null, .null, .int 0])), (qn1, .inl (cA 0, 6, .inl (fun _ => 0))), (qn2, .inl (cA 1, 10, .inr (.inl (fun _ => 0)))), (qn3, .inl (cA 0, 10, .inl (fun _ => 0))), (qn4, .inl (cA 0, 10, .inl (fun _ => 0)))] := hD
  refine va_putF (D := D) (ci := 7) (v := .ref qn4) (ty := (.array .int)) (C := RX3) (T := TX3) (N := 17) hx hb hts inX3 tyX3 tyX3_ok nmX3 hown hK hP hD hS 0 rfl rfl 8 (by decide) (hts (.fieldLink RX3 26 "EscrowDesk$Plan" "priorities" "[I") (by decide +kernel)) (fun _ h9 => h9) rfl hin rfl (by decide +kernel) rfl rfl (Nat.le_of_ble_eq_true rfl) dX3_init_40 (fun H locs hP hD hS => ?_)
  have hP : va_P D vwCl [(h0, .inr (7, [.int 0, .int 365, .int 0, .int 0, .ref qn1, .int 0, .ref qn2, .ref qn3, .ref qn4, .null, .int 0, .null, .int 0, .null, .null, .null, .int 0])), (qn1, .inl (cA 0, 6, .inl (fun _ => 0))), (qn2, .inl (cA 1, 10, .inr (.inl (fun _ => 0)))), (qn3, .inl (cA 0, 10, .inl (fun _ => 0))), (qn4, .inl (cA 0, 10, .inl (fun _ => 0)))] H := hP
  have hD : va_D A [(h0, .inr (7, [.int 0, .int 365, .int 0, .int 0, .ref qn1, .int 0, .ref qn2, .ref qn3, .ref qn4, .null, .int 0, .null, .int 0, .null, .null, .null, .int 0])), (qn1, .inl (cA 0, 6, .inl (fun _ => 0))), (qn2, .inl (cA 1, 10, .inr (.inl (fun _ => 0)))), (qn3, .inl (cA 0, 10, .inl (fun _ => 0))), (qn4, .inl (cA 0, 10, .inl (fun _ => 0)))] := hD
  refine lv_aload_n hx hb dX3_init_43 rfl (lv_at hl 0 rfl) ?_
  refine lv_bipush (v := 10) hx hb dX3_init_44 (by decide) ?_
  refine va_newa (atype := .int) (ty := .int) (N' := 10) (a0 := (10, .inl (fun _ => 0))) hx hb (hts (.arrayClass .int) (by decide +kernel)) rfl hK hP hD hS hA (fun _ => rfl) (by decide) (by decide +kernel) (Nat.le_of_ble_eq_true rfl) (Nat.le_of_ble_eq_true rfl) (Nat.le_of_ble_eq_true rfl) dX3_init_46 (fun qn5 c9 H hK9 hP hD hS => ?_)
  obtain rfl : c9 = cA 0 := ty_one hK9 0 rfl
  have hP : va_P D vwCl [(h0, .inr (7, [.int 0, .int 365, .int 0, .int 0, .ref qn1, .int 0, .ref qn2, .ref qn3, .ref qn4, .null, .int 0, .null, .int 0, .null, .null, .null, .int 0])), (qn1, .inl (cA 0, 6, .inl (fun _ => 0))), (qn2, .inl (cA 1, 10, .inr (.inl (fun _ => 0)))), (qn3, .inl (cA 0, 10, .inl (fun _ => 0))), (qn4, .inl (cA 0, 10, .inl (fun _ => 0))), (qn5, .inl (cA 0, 10, .inl (fun _ => 0)))] H := hP
  have hD : va_D A [(h0, .inr (7, [.int 0, .int 365, .int 0, .int 0, .ref qn1, .int 0, .ref qn2, .ref qn3, .ref qn4, .null, .int 0, .null, .int 0, .null, .null, .null, .int 0])), (qn1, .inl (cA 0, 6, .inl (fun _ => 0))), (qn2, .inl (cA 1, 10, .inr (.inl (fun _ => 0)))), (qn3, .inl (cA 0, 10, .inl (fun _ => 0))), (qn4, .inl (cA 0, 10, .inl (fun _ => 0))), (qn5, .inl (cA 0, 10, .inl (fun _ => 0)))] := hD
  refine va_putF (D := D) (ci := 7) (v := .ref qn5) (ty := (.array .int)) (C := RX3) (T := TX3) (N := 17) hx hb hts inX3 tyX3 tyX3_ok nmX3 hown hK hP hD hS 0 rfl rfl 9 (by decide) (hts (.fieldLink RX3 29 "EscrowDesk$Plan" "byPriority" "[I") (by decide +kernel)) (fun _ h9 => h9) rfl hin rfl (by decide +kernel) rfl rfl (Nat.le_of_ble_eq_true rfl) dX3_init_48 (fun H locs hP hD hS => ?_)
  have hP : va_P D vwCl [(h0, .inr (7, [.int 0, .int 365, .int 0, .int 0, .ref qn1, .int 0, .ref qn2, .ref qn3, .ref qn4, .ref qn5, .int 0, .null, .int 0, .null, .null, .null, .int 0])), (qn1, .inl (cA 0, 6, .inl (fun _ => 0))), (qn2, .inl (cA 1, 10, .inr (.inl (fun _ => 0)))), (qn3, .inl (cA 0, 10, .inl (fun _ => 0))), (qn4, .inl (cA 0, 10, .inl (fun _ => 0))), (qn5, .inl (cA 0, 10, .inl (fun _ => 0)))] H := hP
  have hD : va_D A [(h0, .inr (7, [.int 0, .int 365, .int 0, .int 0, .ref qn1, .int 0, .ref qn2, .ref qn3, .ref qn4, .ref qn5, .int 0, .null, .int 0, .null, .null, .null, .int 0])), (qn1, .inl (cA 0, 6, .inl (fun _ => 0))), (qn2, .inl (cA 1, 10, .inr (.inl (fun _ => 0)))), (qn3, .inl (cA 0, 10, .inl (fun _ => 0))), (qn4, .inl (cA 0, 10, .inl (fun _ => 0))), (qn5, .inl (cA 0, 10, .inl (fun _ => 0)))] := hD
  refine lv_aload_n hx hb dX3_init_51 rfl (lv_at hl 0 rfl) ?_
  refine lv_bipush (v := 8) hx hb dX3_init_52 (by decide) ?_
  refine va_newa (atype := .long) (ty := .long) (N' := 8) (a0 := (8, .inr (.inl (fun _ => 0)))) hx hb (hts (.arrayClass .long) (by decide +kernel)) rfl hK hP hD hS hA (fun _ => rfl) (by decide) (by decide +kernel) (Nat.le_of_ble_eq_true rfl) (Nat.le_of_ble_eq_true rfl) (Nat.le_of_ble_eq_true rfl) dX3_init_54 (fun qn6 c9 H hK9 hP hD hS => ?_)
  obtain rfl : c9 = cA 1 := ty_one hK9 1 rfl
  have hP : va_P D vwCl [(h0, .inr (7, [.int 0, .int 365, .int 0, .int 0, .ref qn1, .int 0, .ref qn2, .ref qn3, .ref qn4, .ref qn5, .int 0, .null, .int 0, .null, .null, .null, .int 0])), (qn1, .inl (cA 0, 6, .inl (fun _ => 0))), (qn2, .inl (cA 1, 10, .inr (.inl (fun _ => 0)))), (qn3, .inl (cA 0, 10, .inl (fun _ => 0))), (qn4, .inl (cA 0, 10, .inl (fun _ => 0))), (qn5, .inl (cA 0, 10, .inl (fun _ => 0))), (qn6, .inl (cA 1, 8, .inr (.inl (fun _ => 0))))] H := hP
  have hD : va_D A [(h0, .inr (7, [.int 0, .int 365, .int 0, .int 0, .ref qn1, .int 0, .ref qn2, .ref qn3, .ref qn4, .ref qn5, .int 0, .null, .int 0, .null, .null, .null, .int 0])), (qn1, .inl (cA 0, 6, .inl (fun _ => 0))), (qn2, .inl (cA 1, 10, .inr (.inl (fun _ => 0)))), (qn3, .inl (cA 0, 10, .inl (fun _ => 0))), (qn4, .inl (cA 0, 10, .inl (fun _ => 0))), (qn5, .inl (cA 0, 10, .inl (fun _ => 0))), (qn6, .inl (cA 1, 8, .inr (.inl (fun _ => 0))))] := hD
  refine va_putF (D := D) (ci := 7) (v := .ref qn6) (ty := (.array .long)) (C := RX3) (T := TX3) (N := 17) hx hb hts inX3 tyX3 tyX3_ok nmX3 hown hK hP hD hS 0 rfl rfl 11 (by decide) (hts (.fieldLink RX3 32 "EscrowDesk$Plan" "proofNames" "[J") (by decide +kernel)) (fun _ h9 => h9) rfl hin rfl (by decide +kernel) rfl rfl (Nat.le_of_ble_eq_true rfl) dX3_init_56 (fun H locs hP hD hS => ?_)
  have hP : va_P D vwCl [(h0, .inr (7, [.int 0, .int 365, .int 0, .int 0, .ref qn1, .int 0, .ref qn2, .ref qn3, .ref qn4, .ref qn5, .int 0, .ref qn6, .int 0, .null, .null, .null, .int 0])), (qn1, .inl (cA 0, 6, .inl (fun _ => 0))), (qn2, .inl (cA 1, 10, .inr (.inl (fun _ => 0)))), (qn3, .inl (cA 0, 10, .inl (fun _ => 0))), (qn4, .inl (cA 0, 10, .inl (fun _ => 0))), (qn5, .inl (cA 0, 10, .inl (fun _ => 0))), (qn6, .inl (cA 1, 8, .inr (.inl (fun _ => 0))))] H := hP
  have hD : va_D A [(h0, .inr (7, [.int 0, .int 365, .int 0, .int 0, .ref qn1, .int 0, .ref qn2, .ref qn3, .ref qn4, .ref qn5, .int 0, .ref qn6, .int 0, .null, .null, .null, .int 0])), (qn1, .inl (cA 0, 6, .inl (fun _ => 0))), (qn2, .inl (cA 1, 10, .inr (.inl (fun _ => 0)))), (qn3, .inl (cA 0, 10, .inl (fun _ => 0))), (qn4, .inl (cA 0, 10, .inl (fun _ => 0))), (qn5, .inl (cA 0, 10, .inl (fun _ => 0))), (qn6, .inl (cA 1, 8, .inr (.inl (fun _ => 0))))] := hD
  refine lv_aload_n hx hb dX3_init_59 rfl (lv_at hl 0 rfl) ?_
  refine lv_sipush (v := 350) hx hb dX3_init_60 (by decide) ?_
  refine va_newa (atype := .int) (ty := .int) (N' := 350) (a0 := (350, .inl (fun _ => 0))) hx hb (hts (.arrayClass .int) (by decide +kernel)) rfl hK hP hD hS hA (fun _ => rfl) (by decide) (by decide +kernel) (Nat.le_of_ble_eq_true rfl) (Nat.le_of_ble_eq_true rfl) (Nat.le_of_ble_eq_true rfl) dX3_init_63 (fun qn7 c9 H hK9 hP hD hS => ?_)
  obtain rfl : c9 = cA 0 := ty_one hK9 0 rfl
  have hP : va_P D vwCl [(h0, .inr (7, [.int 0, .int 365, .int 0, .int 0, .ref qn1, .int 0, .ref qn2, .ref qn3, .ref qn4, .ref qn5, .int 0, .ref qn6, .int 0, .null, .null, .null, .int 0])), (qn1, .inl (cA 0, 6, .inl (fun _ => 0))), (qn2, .inl (cA 1, 10, .inr (.inl (fun _ => 0)))), (qn3, .inl (cA 0, 10, .inl (fun _ => 0))), (qn4, .inl (cA 0, 10, .inl (fun _ => 0))), (qn5, .inl (cA 0, 10, .inl (fun _ => 0))), (qn6, .inl (cA 1, 8, .inr (.inl (fun _ => 0)))), (qn7, .inl (cA 0, 350, .inl (fun _ => 0)))] H := hP
  have hD : va_D A [(h0, .inr (7, [.int 0, .int 365, .int 0, .int 0, .ref qn1, .int 0, .ref qn2, .ref qn3, .ref qn4, .ref qn5, .int 0, .ref qn6, .int 0, .null, .null, .null, .int 0])), (qn1, .inl (cA 0, 6, .inl (fun _ => 0))), (qn2, .inl (cA 1, 10, .inr (.inl (fun _ => 0)))), (qn3, .inl (cA 0, 10, .inl (fun _ => 0))), (qn4, .inl (cA 0, 10, .inl (fun _ => 0))), (qn5, .inl (cA 0, 10, .inl (fun _ => 0))), (qn6, .inl (cA 1, 8, .inr (.inl (fun _ => 0)))), (qn7, .inl (cA 0, 350, .inl (fun _ => 0)))] := hD
  refine va_putF (D := D) (ci := 7) (v := .ref qn7) (ty := (.array .int)) (C := RX3) (T := TX3) (N := 17) hx hb hts inX3 tyX3 tyX3_ok nmX3 hown hK hP hD hS 0 rfl rfl 13 (by decide) (hts (.fieldLink RX3 35 "EscrowDesk$Plan" "steps" "[I") (by decide +kernel)) (fun _ h9 => h9) rfl hin rfl (by decide +kernel) rfl rfl (Nat.le_of_ble_eq_true rfl) dX3_init_65 (fun H locs hP hD hS => ?_)
  have hP : va_P D vwCl [(h0, .inr (7, [.int 0, .int 365, .int 0, .int 0, .ref qn1, .int 0, .ref qn2, .ref qn3, .ref qn4, .ref qn5, .int 0, .ref qn6, .int 0, .ref qn7, .null, .null, .int 0])), (qn1, .inl (cA 0, 6, .inl (fun _ => 0))), (qn2, .inl (cA 1, 10, .inr (.inl (fun _ => 0)))), (qn3, .inl (cA 0, 10, .inl (fun _ => 0))), (qn4, .inl (cA 0, 10, .inl (fun _ => 0))), (qn5, .inl (cA 0, 10, .inl (fun _ => 0))), (qn6, .inl (cA 1, 8, .inr (.inl (fun _ => 0)))), (qn7, .inl (cA 0, 350, .inl (fun _ => 0)))] H := hP
  have hD : va_D A [(h0, .inr (7, [.int 0, .int 365, .int 0, .int 0, .ref qn1, .int 0, .ref qn2, .ref qn3, .ref qn4, .ref qn5, .int 0, .ref qn6, .int 0, .ref qn7, .null, .null, .int 0])), (qn1, .inl (cA 0, 6, .inl (fun _ => 0))), (qn2, .inl (cA 1, 10, .inr (.inl (fun _ => 0)))), (qn3, .inl (cA 0, 10, .inl (fun _ => 0))), (qn4, .inl (cA 0, 10, .inl (fun _ => 0))), (qn5, .inl (cA 0, 10, .inl (fun _ => 0))), (qn6, .inl (cA 1, 8, .inr (.inl (fun _ => 0)))), (qn7, .inl (cA 0, 350, .inl (fun _ => 0)))] := hD
  refine lv_aload_n hx hb dX3_init_68 rfl (lv_at hl 0 rfl) ?_
  refine lv_sipush (v := 350) hx hb dX3_init_69 (by decide) ?_
  refine va_newa (atype := .int) (ty := .int) (N' := 350) (a0 := (350, .inl (fun _ => 0))) hx hb (hts (.arrayClass .int) (by decide +kernel)) rfl hK hP hD hS hA (fun _ => rfl) (by decide) (by decide +kernel) (Nat.le_of_ble_eq_true rfl) (Nat.le_of_ble_eq_true rfl) (Nat.le_of_ble_eq_true rfl) dX3_init_72 (fun qn8 c9 H hK9 hP hD hS => ?_)
  obtain rfl : c9 = cA 0 := ty_one hK9 0 rfl
  have hP : va_P D vwCl [(h0, .inr (7, [.int 0, .int 365, .int 0, .int 0, .ref qn1, .int 0, .ref qn2, .ref qn3, .ref qn4, .ref qn5, .int 0, .ref qn6, .int 0, .ref qn7, .null, .null, .int 0])), (qn1, .inl (cA 0, 6, .inl (fun _ => 0))), (qn2, .inl (cA 1, 10, .inr (.inl (fun _ => 0)))), (qn3, .inl (cA 0, 10, .inl (fun _ => 0))), (qn4, .inl (cA 0, 10, .inl (fun _ => 0))), (qn5, .inl (cA 0, 10, .inl (fun _ => 0))), (qn6, .inl (cA 1, 8, .inr (.inl (fun _ => 0)))), (qn7, .inl (cA 0, 350, .inl (fun _ => 0))), (qn8, .inl (cA 0, 350, .inl (fun _ => 0)))] H := hP
  have hD : va_D A [(h0, .inr (7, [.int 0, .int 365, .int 0, .int 0, .ref qn1, .int 0, .ref qn2, .ref qn3, .ref qn4, .ref qn5, .int 0, .ref qn6, .int 0, .ref qn7, .null, .null, .int 0])), (qn1, .inl (cA 0, 6, .inl (fun _ => 0))), (qn2, .inl (cA 1, 10, .inr (.inl (fun _ => 0)))), (qn3, .inl (cA 0, 10, .inl (fun _ => 0))), (qn4, .inl (cA 0, 10, .inl (fun _ => 0))), (qn5, .inl (cA 0, 10, .inl (fun _ => 0))), (qn6, .inl (cA 1, 8, .inr (.inl (fun _ => 0)))), (qn7, .inl (cA 0, 350, .inl (fun _ => 0))), (qn8, .inl (cA 0, 350, .inl (fun _ => 0)))] := hD
  refine va_putF (D := D) (ci := 7) (v := .ref qn8) (ty := (.array .int)) (C := RX3) (T := TX3) (N := 17) hx hb hts inX3 tyX3 tyX3_ok nmX3 hown hK hP hD hS 0 rfl rfl 14 (by decide) (hts (.fieldLink RX3 38 "EscrowDesk$Plan" "operands" "[I") (by decide +kernel)) (fun _ h9 => h9) rfl hin rfl (by decide +kernel) rfl rfl (Nat.le_of_ble_eq_true rfl) dX3_init_74 (fun H locs hP hD hS => ?_)
  have hP : va_P D vwCl [(h0, .inr (7, [.int 0, .int 365, .int 0, .int 0, .ref qn1, .int 0, .ref qn2, .ref qn3, .ref qn4, .ref qn5, .int 0, .ref qn6, .int 0, .ref qn7, .ref qn8, .null, .int 0])), (qn1, .inl (cA 0, 6, .inl (fun _ => 0))), (qn2, .inl (cA 1, 10, .inr (.inl (fun _ => 0)))), (qn3, .inl (cA 0, 10, .inl (fun _ => 0))), (qn4, .inl (cA 0, 10, .inl (fun _ => 0))), (qn5, .inl (cA 0, 10, .inl (fun _ => 0))), (qn6, .inl (cA 1, 8, .inr (.inl (fun _ => 0)))), (qn7, .inl (cA 0, 350, .inl (fun _ => 0))), (qn8, .inl (cA 0, 350, .inl (fun _ => 0)))] H := hP
  have hD : va_D A [(h0, .inr (7, [.int 0, .int 365, .int 0, .int 0, .ref qn1, .int 0, .ref qn2, .ref qn3, .ref qn4, .ref qn5, .int 0, .ref qn6, .int 0, .ref qn7, .ref qn8, .null, .int 0])), (qn1, .inl (cA 0, 6, .inl (fun _ => 0))), (qn2, .inl (cA 1, 10, .inr (.inl (fun _ => 0)))), (qn3, .inl (cA 0, 10, .inl (fun _ => 0))), (qn4, .inl (cA 0, 10, .inl (fun _ => 0))), (qn5, .inl (cA 0, 10, .inl (fun _ => 0))), (qn6, .inl (cA 1, 8, .inr (.inl (fun _ => 0)))), (qn7, .inl (cA 0, 350, .inl (fun _ => 0))), (qn8, .inl (cA 0, 350, .inl (fun _ => 0)))] := hD
  refine lv_aload_n hx hb dX3_init_77 rfl (lv_at hl 0 rfl) ?_
  refine lv_bipush (v := 10) hx hb dX3_init_78 (by decide) ?_
  refine va_newa (atype := .int) (ty := .int) (N' := 10) (a0 := (10, .inl (fun _ => 0))) hx hb (hts (.arrayClass .int) (by decide +kernel)) rfl hK hP hD hS hA (fun _ => rfl) (by decide) (by decide +kernel) (Nat.le_of_ble_eq_true rfl) (Nat.le_of_ble_eq_true rfl) (Nat.le_of_ble_eq_true rfl) dX3_init_80 (fun qn9 c9 H hK9 hP hD hS => ?_)
  obtain rfl : c9 = cA 0 := ty_one hK9 0 rfl
  have hP : va_P D vwCl [(h0, .inr (7, [.int 0, .int 365, .int 0, .int 0, .ref qn1, .int 0, .ref qn2, .ref qn3, .ref qn4, .ref qn5, .int 0, .ref qn6, .int 0, .ref qn7, .ref qn8, .null, .int 0])), (qn1, .inl (cA 0, 6, .inl (fun _ => 0))), (qn2, .inl (cA 1, 10, .inr (.inl (fun _ => 0)))), (qn3, .inl (cA 0, 10, .inl (fun _ => 0))), (qn4, .inl (cA 0, 10, .inl (fun _ => 0))), (qn5, .inl (cA 0, 10, .inl (fun _ => 0))), (qn6, .inl (cA 1, 8, .inr (.inl (fun _ => 0)))), (qn7, .inl (cA 0, 350, .inl (fun _ => 0))), (qn8, .inl (cA 0, 350, .inl (fun _ => 0))), (qn9, .inl (cA 0, 10, .inl (fun _ => 0)))] H := hP
  have hD : va_D A [(h0, .inr (7, [.int 0, .int 365, .int 0, .int 0, .ref qn1, .int 0, .ref qn2, .ref qn3, .ref qn4, .ref qn5, .int 0, .ref qn6, .int 0, .ref qn7, .ref qn8, .null, .int 0])), (qn1, .inl (cA 0, 6, .inl (fun _ => 0))), (qn2, .inl (cA 1, 10, .inr (.inl (fun _ => 0)))), (qn3, .inl (cA 0, 10, .inl (fun _ => 0))), (qn4, .inl (cA 0, 10, .inl (fun _ => 0))), (qn5, .inl (cA 0, 10, .inl (fun _ => 0))), (qn6, .inl (cA 1, 8, .inr (.inl (fun _ => 0)))), (qn7, .inl (cA 0, 350, .inl (fun _ => 0))), (qn8, .inl (cA 0, 350, .inl (fun _ => 0))), (qn9, .inl (cA 0, 10, .inl (fun _ => 0)))] := hD
  refine va_putF (D := D) (ci := 7) (v := .ref qn9) (ty := (.array .int)) (C := RX3) (T := TX3) (N := 17) hx hb hts inX3 tyX3 tyX3_ok nmX3 hown hK hP hD hS 0 rfl rfl 15 (by decide) (hts (.fieldLink RX3 41 "EscrowDesk$Plan" "stepEnds" "[I") (by decide +kernel)) (fun _ h9 => h9) rfl hin rfl (by decide +kernel) rfl rfl (Nat.le_of_ble_eq_true rfl) dX3_init_82 (fun H locs hP hD hS => ?_)
  have hP : va_P D vwCl [(h0, .inr (7, [.int 0, .int 365, .int 0, .int 0, .ref qn1, .int 0, .ref qn2, .ref qn3, .ref qn4, .ref qn5, .int 0, .ref qn6, .int 0, .ref qn7, .ref qn8, .ref qn9, .int 0])), (qn1, .inl (cA 0, 6, .inl (fun _ => 0))), (qn2, .inl (cA 1, 10, .inr (.inl (fun _ => 0)))), (qn3, .inl (cA 0, 10, .inl (fun _ => 0))), (qn4, .inl (cA 0, 10, .inl (fun _ => 0))), (qn5, .inl (cA 0, 10, .inl (fun _ => 0))), (qn6, .inl (cA 1, 8, .inr (.inl (fun _ => 0)))), (qn7, .inl (cA 0, 350, .inl (fun _ => 0))), (qn8, .inl (cA 0, 350, .inl (fun _ => 0))), (qn9, .inl (cA 0, 10, .inl (fun _ => 0)))] H := hP
  have hD : va_D A [(h0, .inr (7, [.int 0, .int 365, .int 0, .int 0, .ref qn1, .int 0, .ref qn2, .ref qn3, .ref qn4, .ref qn5, .int 0, .ref qn6, .int 0, .ref qn7, .ref qn8, .ref qn9, .int 0])), (qn1, .inl (cA 0, 6, .inl (fun _ => 0))), (qn2, .inl (cA 1, 10, .inr (.inl (fun _ => 0)))), (qn3, .inl (cA 0, 10, .inl (fun _ => 0))), (qn4, .inl (cA 0, 10, .inl (fun _ => 0))), (qn5, .inl (cA 0, 10, .inl (fun _ => 0))), (qn6, .inl (cA 1, 8, .inr (.inl (fun _ => 0)))), (qn7, .inl (cA 0, 350, .inl (fun _ => 0))), (qn8, .inl (cA 0, 350, .inl (fun _ => 0))), (qn9, .inl (cA 0, 10, .inl (fun _ => 0)))] := hD
  have hP9 := hP.sub (ws' := [(h0, .inr (7, [.int 0, .int 365, .int 0, .int 0, .ref qn1, .int 0, .ref qn2, .ref qn3, .ref qn4, .ref qn5, .int 0, .ref qn6, .int 0, .ref qn7, .ref qn8, .ref qn9, .int 0])), (qn1, .inl (cA 0, 6, .inl (fun _ => 0))), (qn2, .inl (cA 1, 10, .inr (.inl (fun _ => 0)))), (qn3, .inl (cA 0, 10, .inl (fun _ => 0))), (qn4, .inl (cA 0, 10, .inl (fun _ => 0))), (qn5, .inl (cA 0, 10, .inl (fun _ => 0))), (qn6, .inl (cA 1, 8, .inr (.inl (fun _ => 0)))), (qn7, .inl (cA 0, 350, .inl (fun _ => 0))), (qn8, .inl (cA 0, 350, .inl (fun _ => 0))), (qn9, .inl (cA 0, 10, .inl (fun _ => 0)))]) [0, 1, 2, 3, 4, 5, 6, 7, 8, 9] rfl
  have hD9 := hD.sub (ws' := [(h0, .inr (7, [.int 0, .int 365, .int 0, .int 0, .ref qn1, .int 0, .ref qn2, .ref qn3, .ref qn4, .ref qn5, .int 0, .ref qn6, .int 0, .ref qn7, .ref qn8, .ref qn9, .int 0])), (qn1, .inl (cA 0, 6, .inl (fun _ => 0))), (qn2, .inl (cA 1, 10, .inr (.inl (fun _ => 0)))), (qn3, .inl (cA 0, 10, .inl (fun _ => 0))), (qn4, .inl (cA 0, 10, .inl (fun _ => 0))), (qn5, .inl (cA 0, 10, .inl (fun _ => 0))), (qn6, .inl (cA 1, 8, .inr (.inl (fun _ => 0)))), (qn7, .inl (cA 0, 350, .inl (fun _ => 0))), (qn8, .inl (cA 0, 350, .inl (fun _ => 0))), (qn9, .inl (cA 0, 10, .inl (fun _ => 0)))]) [0, 1, 2, 3, 4, 5, 6, 7, 8, 9] (by decide) rfl
  refine W.widen (k := 9) (n := 764) (Nat.le_of_ble_eq_true rfl) (Nat.le_of_ble_eq_true rfl) ?_
  exact W.vret hx hb hr (fun t ht hW => ⟨⟨(), rfl, trivial, qn1, qn2, qn3, qn4, qn5, qn6, qn7, qn8, qn9, by rw [ht]; exact hP9, hD9⟩, hS.F ht⟩) hS.2.2 dX3_init_85

set_option maxHeartbeats 4000000 in
set_option maxRecDepth 100000 in
/-- Reader(plan) -/
theorem c_X4_init (l : Launch) (D : va_G) (cA : Nat → ClassId) (sa : Nat → Nat) (h0 h1 : Nat) (sz : Nat) : Met l yX4_init wsX4_init ({ frames := 2, cells := 4, slots := 2107, locals := 40 }) (va_Pc [.ref h0, .ref h1] (Wd D cA sa [(h0, .inr (8, [.null, .null, .int 0, .int 0, .int 0, .long 0, .int 0, .int 0, .int 0]))] sz)) (va_Qv (fun _ : Unit => True) (fun (_ : Unit) t => ∃ qn1 : Nat, ∃ qn2 : Nat, ∃ qn3 : Nat, ∃ qn4 : Nat, Wq D (va_A [(h0, .inr (8, [.null, .null, .int 0, .int 0, .int 0, .long 0, .int 0, .int 0, .int 0]))] sz) [(h0, .inr (8, [.ref qn1, .ref h1, .int 0, .int 0, .int 0, .long 0, .int 0, .int 0, .int (-1)])), (qn1, .inr (9, [.ref qn2, .ref qn3, .ref qn4, .int 0])), (qn2, .inl (cA 0, 701, .inl (fun _ => 0))), (qn3, .inl (cA 0, 701, .inl (fun _ => 0))), (qn4, .inl (cA 1, 701, .inr (.inl (fun _ => 0))))] t) (va_A [(h0, .inr (8, [.null, .null, .int 0, .int 0, .int 0, .long 0, .int 0, .int 0, .int 0]))] sz)) 4 2107 (va_A [(h0, .inr (8, [.null, .null, .int 0, .int 0, .int 0, .long 0, .int 0, .int 0, .int 0]))] sz) := by
  refine Met.ofW (cc := cX4_init) (maxL := 2) (ret := none) (by decide) rfl ?_
  intro p e s m args below meth c s₁ B hml hv
  obtain ⟨rfl, hsz, hP, hK, hD0, hC, hZ⟩ := hv
  have hx := B.exec
  have hb := B.bytes
  have hr := B.returns
  have hts := atoms_spec (ws := wsX4_init) B.pre
  have hown : s.vm.findClass RX4 = some m.cls := findClass_of_methodNamed B.named
  have hlocks := B.notSynchronized
  have hin : meth.name = "<init>" := (name_of_methodNamed B.named B.method).1
  subst hsz
  have hD := hD0.self (sz := s.heap.size)
  generalize hAe : va_A [(h0, .inr (8, [.null, .null, .int 0, .int 0, .int 0, .long 0, .int 0, .int 0, .int 0]))] s.heap.size = A at hD hZ ⊢
  have hA : ∀ q : Nat, s.heap.size ≤ q → A q := fun q h => by rw [← hAe]; exact Or.inr h
  have hS : va_S A s.heap s.heap [] := va_S.rf
  have hP : va_P D vwCl [(h0, .inr (8, [.null, .null, .int 0, .int 0, .int 0, .long 0, .int 0, .int 0, .int 0]))] s.heap := hP
  have hl := lv_entry ([.ref h0, .ref h1]) (n := 2) (Nat.le_of_ble_eq_true rfl)
  rw [lg_entry_eq]
  generalize (lg_sl ([.ref h0, .ref h1]) ++ List.replicate (2 - (lg_sl ([.ref h0, .ref h1])).length) Slot.unset).toArray = ls at hl ⊢
  have hl : lv_has ls 2 [(0, .ref h0), (1, .ref h1)] := hl
  have inX4 : ∀ w ∈ u_ws RX4 TX4 9, w ∈ wsX4_init := by decide +kernel
  have inX5 : ∀ w ∈ u_ws RX5 TX5 4, w ∈ wsX4_init := by decide +kernel
  refine lv_aload_n hx hb dX4_init_0 rfl (lv_at hl 0 rfl) ?_
  refine W.objInit hx hb hown (hts (.methodLink RX4 3 objectInit) (by decide +kernel)) (hts (.instanceMethod objectInit) (by decide +kernel)) (hts (.code objectInit ⟨#[0xb1]⟩ 1 none) (by decide +kernel)) rfl (by rw [hml]; exact hl.1) rfl dX4_init_1 (Nat.le_of_ble_eq_true rfl) (Nat.le_of_ble_eq_true rfl) ?_
  refine W.eq (g2 := F0 m 4 ls []) rfl ?_
  refine lv_aload_n hx hb dX4_init_4 rfl (lv_at hl 0 rfl) ?_
  refine va_new (ci := 9) (fs := [.null, .null, .null, .int 0]) (C := RX5) (T := TX5) (N := 4) hx hb hts inX5 tyX5 tyX5_ok hown (hts (.classLink RX4 9 RX5) (by decide +kernel)) (hts (.instantiable RX5 4) (by decide +kernel)) (hts (.initialized RX5) (by decide +kernel)) hK hP hD hS hA rfl (by decide +kernel) (Nat.le_of_ble_eq_true rfl) (Nat.le_of_ble_eq_true rfl) dX4_init_5 (fun qn1 H hP hD hS => ?_)
  have hP : va_P D vwCl [(h0, .inr (8, [.null, .null, .int 0, .int 0, .int 0, .long 0, .int 0, .int 0, .int 0])), (qn1, .inr (9, [.null, .null, .null, .int 0]))] H := hP
  have hD : va_D A [(h0, .inr (8, [.null, .null, .int 0, .int 0, .int 0, .long 0, .int 0, .int 0, .int 0])), (qn1, .inr (9, [.null, .null, .null, .int 0]))] := hD
  refine lv_dup hx hb dX4_init_8 rfl ?_
  have hPc := hP.sub (ws' := [(qn1, .inr (9, [.null, .null, .null, .int 0]))]) [1] rfl
  have hDc := hD.sub (ws' := [(qn1, .inr (9, [.null, .null, .null, .int 0]))]) [1] (by decide) rfl
  have hFc := va_free (wc := [(qn1, .inr (9, [.null, .null, .null, .int 0]))]) hD hS hA [1] rfl
  refine va_callv (va_runIN (As := []) (rest := [.ref qn1, .ref h0]) ⟨hx, hb, hml, hown, hts⟩ (c_X5_init l D cA sa qn1 H.size) ⟨va_cnB (host := "EscrowDesk") 0 hts gX4_init_X5_init_n11 rfl rfl rfl (hC.m (by decide +kernel)) (hts (.initialized RX5) (by decide +kernel)) (by decide +kernel) ⟨(Nat.le_of_ble_eq_true rfl), (Nat.le_of_ble_eq_true rfl)⟩, rfl, hts (.instanceMethod yX5_init) (by decide +kernel)⟩ ⟨Wd.blind, fun U hU hW => ⟨rfl, Wd.call hPc hDc hK hC hZ hS hFc U hU hW⟩⟩ rfl rfl hl.1 rfl (lv_room (Nat.le_of_ble_eq_true rfl)) dX4_init_9 ⟨(Nat.le_of_ble_eq_true rfl), (Nat.le_of_ble_eq_true rfl)⟩) hS (fun q _ h => hFc q h) hFc (fun u t H1 locs ht hvm hw hB hz1 hk1 hS => ?_)
  obtain ⟨qn2, qn3, qn4, hP1, hD1⟩ := hB
  rw [ht] at hP1
  obtain ⟨hP, hD⟩ := va_join (wr := [(h0, .inr (8, [.null, .null, .int 0, .int 0, .int 0, .long 0, .int 0, .int 0, .int 0]))]) (w1 := [(qn1, .inr (9, [.ref qn2, .ref qn3, .ref qn4, .int 0])), (qn2, .inl (cA 0, 701, .inl (fun _ => 0))), (qn3, .inl (cA 0, 701, .inl (fun _ => 0))), (qn4, .inl (cA 1, 701, .inr (.inl (fun _ => 0))))]) hP hD [1] [0] rfl rfl (by decide) (by decide) hk1 hFc hP1 hD1
  generalize H1 = H at hP hS ⊢
  have hP : va_P D vwCl [(h0, .inr (8, [.null, .null, .int 0, .int 0, .int 0, .long 0, .int 0, .int 0, .int 0])), (qn1, .inr (9, [.ref qn2, .ref qn3, .ref qn4, .int 0])), (qn2, .inl (cA 0, 701, .inl (fun _ => 0))), (qn3, .inl (cA 0, 701, .inl (fun _ => 0))), (qn4, .inl (cA 1, 701, .inr (.inl (fun _ => 0))))] H := hP
  have hD : va_D A [(h0, .inr (8, [.null, .null, .int 0, .int 0, .int 0, .long 0, .int 0, .int 0, .int 0])), (qn1, .inr (9, [.ref qn2, .ref qn3, .ref qn4, .int 0])), (qn2, .inl (cA 0, 701, .inl (fun _ => 0))), (qn3, .inl (cA 0, 701, .inl (fun _ => 0))), (qn4, .inl (cA 1, 701, .inr (.inl (fun _ => 0))))] := hD
  refine va_putF (D := D) (ci := 8) (v := .ref qn1) (ty := (.object "EscrowDesk$Scanner")) (C := RX4) (T := TX4) (N := 9) hx hb hts inX4 tyX4 tyX4_ok nmX4 hown hK hP hD hS 0 rfl rfl 0 (by decide) (hts (.fieldLink RX4 12 "EscrowDesk$Reader" "scanner" "LEscrowDesk$Scanner;") (by decide +kernel)) (fun _ h9 => h9) rfl hin rfl (by decide +kernel) rfl rfl (Nat.le_of_ble_eq_true rfl) dX4_init_12 (fun H locs hP hD hS => ?_)
  have hP : va_P D vwCl [(h0, .inr (8, [.ref qn1, .null, .int 0, .int 0, .int 0, .long 0, .int 0, .int 0, .int 0])), (qn1, .inr (9, [.ref qn2, .ref qn3, .ref qn4, .int 0])), (qn2, .inl (cA 0, 701, .inl (fun _ => 0))), (qn3, .inl (cA 0, 701, .inl (fun _ => 0))), (qn4, .inl (cA 1, 701, .inr (.inl (fun _ => 0))))] H := hP
  have hD : va_D A [(h0, .inr (8, [.ref qn1, .null, .int 0, .int 0, .int 0, .long 0, .int 0, .int 0, .int 0])), (qn1, .inr (9, [.ref qn2, .ref qn3, .ref qn4, .int 0])), (qn2, .inl (cA 0, 701, .inl (fun _ => 0))), (qn3, .inl (cA 0, 701, .inl (fun _ => 0))), (qn4, .inl (cA 1, 701, .inr (.inl (fun _ => 0))))] := hD
  refine lv_aload_n hx hb dX4_init_15 rfl (lv_at hl 0 rfl) ?_
  refine lv_iconst (v := 0) hx hb dX4_init_16 (by decide) ?_
  refine va_put (D := D) (ci := 8) (v := .int 0) (ty := .int) (C := RX4) (T := TX4) (N := 9) hx hb hts inX4 tyX4 tyX4_ok nmX4 hown hK hP hD hS 0 rfl rfl 7 (by decide) (hts (.fieldLink RX4 18 "EscrowDesk$Reader" "errorKind" "I") (by decide +kernel)) (fun _ h9 => h9) rfl (by decide +kernel) rfl rfl (Nat.le_of_ble_eq_true rfl) dX4_init_17 (fun H locs hP hD hS => ?_)
  have hP : va_P D vwCl [(h0, .inr (8, [.ref qn1, .null, .int 0, .int 0, .int 0, .long 0, .int 0, .int 0, .int 0])), (qn1, .inr (9, [.ref qn2, .ref qn3, .ref qn4, .int 0])), (qn2, .inl (cA 0, 701, .inl (fun _ => 0))), (qn3, .inl (cA 0, 701, .inl (fun _ => 0))), (qn4, .inl (cA 1, 701, .inr (.inl (fun _ => 0))))] H := hP
  have hD : va_D A [(h0, .inr (8, [.ref qn1, .null, .int 0, .int 0, .int 0, .long 0, .int 0, .int 0, .int 0])), (qn1, .inr (9, [.ref qn2, .ref qn3, .ref qn4, .int 0])), (qn2, .inl (cA 0, 701, .inl (fun _ => 0))), (qn3, .inl (cA 0, 701, .inl (fun _ => 0))), (qn4, .inl (cA 1, 701, .inr (.inl (fun _ => 0))))] := hD
  refine lv_aload_n hx hb dX4_init_20 rfl (lv_at hl 0 rfl) ?_
  refine lv_iconst (v := (-1)) hx hb dX4_init_21 (by decide) ?_
  refine va_put (D := D) (ci := 8) (v := .int (-1)) (ty := .int) (C := RX4) (T := TX4) (N := 9) hx hb hts inX4 tyX4 tyX4_ok nmX4 hown hK hP hD hS 0 rfl rfl 8 (by decide) (hts (.fieldLink RX4 22 "EscrowDesk$Reader" "errorPosition" "I") (by decide +kernel)) (fun _ h9 => h9) rfl (by decide +kernel) rfl rfl (Nat.le_of_ble_eq_true rfl) dX4_init_22 (fun H locs hP hD hS => ?_)
  have hP : va_P D vwCl [(h0, .inr (8, [.ref qn1, .null, .int 0, .int 0, .int 0, .long 0, .int 0, .int 0, .int (-1)])), (qn1, .inr (9, [.ref qn2, .ref qn3, .ref qn4, .int 0])), (qn2, .inl (cA 0, 701, .inl (fun _ => 0))), (qn3, .inl (cA 0, 701, .inl (fun _ => 0))), (qn4, .inl (cA 1, 701, .inr (.inl (fun _ => 0))))] H := hP
  have hD : va_D A [(h0, .inr (8, [.ref qn1, .null, .int 0, .int 0, .int 0, .long 0, .int 0, .int 0, .int (-1)])), (qn1, .inr (9, [.ref qn2, .ref qn3, .ref qn4, .int 0])), (qn2, .inl (cA 0, 701, .inl (fun _ => 0))), (qn3, .inl (cA 0, 701, .inl (fun _ => 0))), (qn4, .inl (cA 1, 701, .inr (.inl (fun _ => 0))))] := hD
  refine lv_aload_n hx hb dX4_init_25 rfl (lv_at hl 0 rfl) ?_
  refine lv_aload_n hx hb dX4_init_26 rfl (lv_at hl 1 rfl) ?_
  refine va_put (D := D) (ci := 8) (v := .ref h1) (ty := (.object "EscrowDesk$Plan")) (C := RX4) (T := TX4) (N := 9) hx hb hts inX4 tyX4 tyX4_ok nmX4 hown hK hP hD hS 0 rfl rfl 1 (by decide) (hts (.fieldLink RX4 25 "EscrowDesk$Reader" "plan" "LEscrowDesk$Plan;") (by decide +kernel)) (fun _ h9 => h9) rfl (by decide +kernel) rfl rfl (Nat.le_of_ble_eq_true rfl) dX4_init_27 (fun H locs hP hD hS => ?_)
  have hP : va_P D vwCl [(h0, .inr (8, [.ref qn1, .ref h1, .int 0, .int 0, .int 0, .long 0, .int 0, .int 0, .int (-1)])), (qn1, .inr (9, [.ref qn2, .ref qn3, .ref qn4, .int 0])), (qn2, .inl (cA 0, 701, .inl (fun _ => 0))), (qn3, .inl (cA 0, 701, .inl (fun _ => 0))), (qn4, .inl (cA 1, 701, .inr (.inl (fun _ => 0))))] H := hP
  have hD : va_D A [(h0, .inr (8, [.ref qn1, .ref h1, .int 0, .int 0, .int 0, .long 0, .int 0, .int 0, .int (-1)])), (qn1, .inr (9, [.ref qn2, .ref qn3, .ref qn4, .int 0])), (qn2, .inl (cA 0, 701, .inl (fun _ => 0))), (qn3, .inl (cA 0, 701, .inl (fun _ => 0))), (qn4, .inl (cA 1, 701, .inr (.inl (fun _ => 0))))] := hD
  have hP9 := hP.sub (ws' := [(h0, .inr (8, [.ref qn1, .ref h1, .int 0, .int 0, .int 0, .long 0, .int 0, .int 0, .int (-1)])), (qn1, .inr (9, [.ref qn2, .ref qn3, .ref qn4, .int 0])), (qn2, .inl (cA 0, 701, .inl (fun _ => 0))), (qn3, .inl (cA 0, 701, .inl (fun _ => 0))), (qn4, .inl (cA 1, 701, .inr (.inl (fun _ => 0))))]) [0, 1, 2, 3, 4] rfl
  have hD9 := hD.sub (ws' := [(h0, .inr (8, [.ref qn1, .ref h1, .int 0, .int 0, .int 0, .long 0, .int 0, .int 0, .int (-1)])), (qn1, .inr (9, [.ref qn2, .ref qn3, .ref qn4, .int 0])), (qn2, .inl (cA 0, 701, .inl (fun _ => 0))), (qn3, .inl (cA 0, 701, .inl (fun _ => 0))), (qn4, .inl (cA 1, 701, .inr (.inl (fun _ => 0))))]) [0, 1, 2, 3, 4] (by decide) rfl
  refine W.widen (k := 4) (n := 2107) (Nat.le_of_ble_eq_true rfl) (Nat.le_of_ble_eq_true rfl) ?_
  exact W.vret hx hb hr (fun t ht hW => ⟨⟨(), rfl, trivial, qn1, qn2, qn3, qn4, by rw [ht]; exact hP9, hD9⟩, hS.F ht⟩) hS.2.2 dX4_init_30

theorem dJ5_init_d00df_0 : decode cJ5_init_d00df 0 = .ok (.aload_n 0, 1) := by decide +kernel
theorem dJ5_init_d00df_1 : decode cJ5_init_d00df 1 = .ok (.invokespecial 3, 3) := by decide +kernel
theorem dJ5_init_d00df_4 : decode cJ5_init_d00df 4 = .ok (.getstatic 18, 3) := by decide +kernel
theorem dJ5_init_d00df_7 : decode cJ5_init_d00df 7 = .ok (.ifCond .eq 18, 3) := by decide +kernel
theorem dJ5_init_d00df_10 : decode cJ5_init_d00df 10 = .ok (.aload_n 0, 1) := by decide +kernel
theorem dJ5_init_d00df_11 : decode cJ5_init_d00df 11 = .ok (.iload_n 1, 1) := by decide +kernel
theorem dJ5_init_d00df_12 : decode cJ5_init_d00df 12 = .ok (.newarray .byte, 2) := by decide +kernel
theorem dJ5_init_d00df_14 : decode cJ5_init_d00df 14 = .ok (.putfield 15, 3) := by decide +kernel
theorem dJ5_init_d00df_17 : decode cJ5_init_d00df 17 = .ok (.aload_n 0, 1) := by decide +kernel
theorem dJ5_init_d00df_18 : decode cJ5_init_d00df 18 = .ok (.iconst 0, 1) := by decide +kernel
theorem dJ5_init_d00df_19 : decode cJ5_init_d00df 19 = .ok (.putfield 22, 3) := by decide +kernel
theorem dJ5_init_d00df_22 : decode cJ5_init_d00df 22 = .ok (.goto 16, 3) := by decide +kernel
theorem dJ5_init_d00df_38 : decode cJ5_init_d00df 38 = .ok (.return_, 1) := by decide +kernel
theorem dJ4_init_da8c8_0 : decode cJ4_init_da8c8 0 = .ok (.aload_n 0, 1) := by decide +kernel
theorem dJ4_init_da8c8_1 : decode cJ4_init_da8c8 1 = .ok (.bipush 16, 2) := by decide +kernel
theorem dJ4_init_da8c8_3 : decode cJ4_init_da8c8 3 = .ok (.invokespecial 1, 3) := by decide +kernel
theorem dJ4_init_da8c8_6 : decode cJ4_init_da8c8 6 = .ok (.return_, 1) := by decide +kernel
theorem dX0_openWith_0 : decode cX0_openWith 0 = .ok (.aload_n 0, 1) := by decide +kernel
theorem dX0_openWith_1 : decode cX0_openWith 1 = .ok (.aload_n 1, 1) := by decide +kernel
theorem dX0_openWith_2 : decode cX0_openWith 2 = .ok (.putfield 31, 3) := by decide +kernel
theorem dX0_openWith_5 : decode cX0_openWith 5 = .ok (.aload_n 0, 1) := by decide +kernel
theorem dX0_openWith_6 : decode cX0_openWith 6 = .ok (.getfield 12, 3) := by decide +kernel
theorem dX0_openWith_9 : decode cX0_openWith 9 = .ok (.invokevirtual 35, 3) := by decide +kernel
theorem dX0_openWith_12 : decode cX0_openWith 12 = .ok (.iconst 0, 1) := by decide +kernel
theorem dX0_openWith_13 : decode cX0_openWith 13 = .ok (.istore_n 2, 1) := by decide +kernel
theorem dX0_openWith_14 : decode cX0_openWith 14 = .ok (.iload_n 2, 1) := by decide +kernel
theorem dX0_openWith_15 : decode cX0_openWith 15 = .ok (.bipush 10, 2) := by decide +kernel
theorem dX0_openWith_17 : decode cX0_openWith 17 = .ok (.if_icmp .ge 37, 3) := by decide +kernel
theorem dX0_openWith_20 : decode cX0_openWith 20 = .ok (.aload_n 0, 1) := by decide +kernel
theorem dX0_openWith_21 : decode cX0_openWith 21 = .ok (.getfield 18, 3) := by decide +kernel
theorem dX0_openWith_24 : decode cX0_openWith 24 = .ok (.iload_n 2, 1) := by decide +kernel
theorem dX0_openWith_25 : decode cX0_openWith 25 = .ok (.iconst 0, 1) := by decide +kernel
theorem dX0_openWith_26 : decode cX0_openWith 26 = .ok (.iastore, 1) := by decide +kernel
theorem dX0_openWith_27 : decode cX0_openWith 27 = .ok (.aload_n 0, 1) := by decide +kernel
theorem dX0_openWith_28 : decode cX0_openWith 28 = .ok (.getfield 22, 3) := by decide +kernel
theorem dX0_openWith_31 : decode cX0_openWith 31 = .ok (.iload_n 2, 1) := by decide +kernel
theorem dX0_openWith_32 : decode cX0_openWith 32 = .ok (.iconst 0, 1) := by decide +kernel
theorem dX0_openWith_33 : decode cX0_openWith 33 = .ok (.iastore, 1) := by decide +kernel
theorem dX0_openWith_34 : decode cX0_openWith 34 = .ok (.aload_n 0, 1) := by decide +kernel
theorem dX0_openWith_35 : decode cX0_openWith 35 = .ok (.getfield 25, 3) := by decide +kernel
theorem dX0_openWith_38 : decode cX0_openWith 38 = .ok (.iload_n 2, 1) := by decide +kernel
theorem dX0_openWith_39 : decode cX0_openWith 39 = .ok (.iconst 0, 1) := by decide +kernel
theorem dX0_openWith_40 : decode cX0_openWith 40 = .ok (.iastore, 1) := by decide +kernel
theorem dX0_openWith_41 : decode cX0_openWith 41 = .ok (.aload_n 0, 1) := by decide +kernel
theorem dX0_openWith_42 : decode cX0_openWith 42 = .ok (.getfield 28, 3) := by decide +kernel
theorem dX0_openWith_45 : decode cX0_openWith 45 = .ok (.iload_n 2, 1) := by decide +kernel
theorem dX0_openWith_46 : decode cX0_openWith 46 = .ok (.iconst (-1), 1) := by decide +kernel
theorem dX0_openWith_47 : decode cX0_openWith 47 = .ok (.iastore, 1) := by decide +kernel
theorem dX0_openWith_48 : decode cX0_openWith 48 = .ok (.iinc 2 1, 3) := by decide +kernel
theorem dX0_openWith_51 : decode cX0_openWith 51 = .ok (.goto (-37), 3) := by decide +kernel
theorem dX0_openWith_54 : decode cX0_openWith 54 = .ok (.aload_n 0, 1) := by decide +kernel
theorem dX0_openWith_55 : decode cX0_openWith 55 = .ok (.iconst 0, 1) := by decide +kernel
theorem dX0_openWith_56 : decode cX0_openWith 56 = .ok (.putfield 40, 3) := by decide +kernel
theorem dX0_openWith_59 : decode cX0_openWith 59 = .ok (.aload_n 0, 1) := by decide +kernel
theorem dX0_openWith_60 : decode cX0_openWith 60 = .ok (.iconst 0, 1) := by decide +kernel
theorem dX0_openWith_61 : decode cX0_openWith 61 = .ok (.putfield 44, 3) := by decide +kernel
theorem dX0_openWith_64 : decode cX0_openWith 64 = .ok (.aload_n 0, 1) := by decide +kernel
theorem dX0_openWith_65 : decode cX0_openWith 65 = .ok (.iconst 0, 1) := by decide +kernel
theorem dX0_openWith_66 : decode cX0_openWith 66 = .ok (.putfield 47, 3) := by decide +kernel
theorem dX0_openWith_69 : decode cX0_openWith 69 = .ok (.aload_n 0, 1) := by decide +kernel
theorem dX0_openWith_70 : decode cX0_openWith 70 = .ok (.lconst 0, 1) := by decide +kernel
theorem dX0_openWith_71 : decode cX0_openWith 71 = .ok (.putfield 50, 3) := by decide +kernel
theorem dX0_openWith_74 : decode cX0_openWith 74 = .ok (.aload_n 0, 1) := by decide +kernel
theorem dX0_openWith_75 : decode cX0_openWith 75 = .ok (.lconst 0, 1) := by decide +kernel
theorem dX0_openWith_76 : decode cX0_openWith 76 = .ok (.putfield 54, 3) := by decide +kernel
theorem dX0_openWith_79 : decode cX0_openWith 79 = .ok (.aload_n 0, 1) := by decide +kernel
theorem dX0_openWith_80 : decode cX0_openWith 80 = .ok (.lconst 0, 1) := by decide +kernel
theorem dX0_openWith_81 : decode cX0_openWith 81 = .ok (.putfield 57, 3) := by decide +kernel
theorem dX0_openWith_84 : decode cX0_openWith 84 = .ok (.aload_n 0, 1) := by decide +kernel
theorem dX0_openWith_85 : decode cX0_openWith 85 = .ok (.iconst 0, 1) := by decide +kernel
theorem dX0_openWith_86 : decode cX0_openWith 86 = .ok (.putfield 60, 3) := by decide +kernel
theorem dX0_openWith_89 : decode cX0_openWith 89 = .ok (.aload_n 0, 1) := by decide +kernel
theorem dX0_openWith_90 : decode cX0_openWith 90 = .ok (.iconst 0, 1) := by decide +kernel
theorem dX0_openWith_91 : decode cX0_openWith 91 = .ok (.putfield 63, 3) := by decide +kernel
theorem dX0_openWith_94 : decode cX0_openWith 94 = .ok (.aload_n 0, 1) := by decide +kernel
theorem dX0_openWith_95 : decode cX0_openWith 95 = .ok (.iconst 0, 1) := by decide +kernel
theorem dX0_openWith_96 : decode cX0_openWith 96 = .ok (.putfield 66, 3) := by decide +kernel
theorem dX0_openWith_99 : decode cX0_openWith 99 = .ok (.aload_n 0, 1) := by decide +kernel
theorem dX0_openWith_100 : decode cX0_openWith 100 = .ok (.aload_n 0, 1) := by decide +kernel
theorem dX0_openWith_101 : decode cX0_openWith 101 = .ok (.getfield 31, 3) := by decide +kernel
theorem dX0_openWith_104 : decode cX0_openWith 104 = .ok (.getfield 69, 3) := by decide +kernel
theorem dX0_openWith_107 : decode cX0_openWith 107 = .ok (.putfield 74, 3) := by decide +kernel
theorem dX0_openWith_110 : decode cX0_openWith 110 = .ok (.aload_n 0, 1) := by decide +kernel
theorem dX0_openWith_111 : decode cX0_openWith 111 = .ok (.aload_n 0, 1) := by decide +kernel
theorem dX0_openWith_112 : decode cX0_openWith 112 = .ok (.getfield 31, 3) := by decide +kernel
theorem dX0_openWith_115 : decode cX0_openWith 115 = .ok (.getfield 75, 3) := by decide +kernel
theorem dX0_openWith_118 : decode cX0_openWith 118 = .ok (.putfield 78, 3) := by decide +kernel
theorem dX0_openWith_121 : decode cX0_openWith 121 = .ok (.aload_n 0, 1) := by decide +kernel
theorem dX0_openWith_122 : decode cX0_openWith 122 = .ok (.aload_n 0, 1) := by decide +kernel
theorem dX0_openWith_123 : decode cX0_openWith 123 = .ok (.getfield 31, 3) := by decide +kernel
theorem dX0_openWith_126 : decode cX0_openWith 126 = .ok (.getfield 79, 3) := by decide +kernel
theorem dX0_openWith_129 : decode cX0_openWith 129 = .ok (.putfield 82, 3) := by decide +kernel
theorem dX0_openWith_132 : decode cX0_openWith 132 = .ok (.aload_n 0, 1) := by decide +kernel
theorem dX0_openWith_133 : decode cX0_openWith 133 = .ok (.iconst 0, 1) := by decide +kernel
theorem dX0_openWith_134 : decode cX0_openWith 134 = .ok (.putfield 83, 3) := by decide +kernel
theorem dX0_openWith_137 : decode cX0_openWith 137 = .ok (.aload_n 0, 1) := by decide +kernel
theorem dX0_openWith_138 : decode cX0_openWith 138 = .ok (.iconst 0, 1) := by decide +kernel
theorem dX0_openWith_139 : decode cX0_openWith 139 = .ok (.putfield 86, 3) := by decide +kernel
theorem dX0_openWith_142 : decode cX0_openWith 142 = .ok (.iconst 0, 1) := by decide +kernel
theorem dX0_openWith_143 : decode cX0_openWith 143 = .ok (.istore_n 2, 1) := by decide +kernel
theorem dX0_openWith_144 : decode cX0_openWith 144 = .ok (.iload_n 2, 1) := by decide +kernel
theorem dX0_openWith_145 : decode cX0_openWith 145 = .ok (.aload_n 0, 1) := by decide +kernel
theorem dX0_openWith_146 : decode cX0_openWith 146 = .ok (.getfield 31, 3) := by decide +kernel
theorem dX0_openWith_149 : decode cX0_openWith 149 = .ok (.getfield 89, 3) := by decide +kernel
theorem dX0_openWith_152 : decode cX0_openWith 152 = .ok (.if_icmp .ge 22, 3) := by decide +kernel
theorem dX0_openWith_155 : decode cX0_openWith 155 = .ok (.aload_n 0, 1) := by decide +kernel
theorem dX0_openWith_156 : decode cX0_openWith 156 = .ok (.aload_n 0, 1) := by decide +kernel
theorem dX0_openWith_157 : decode cX0_openWith 157 = .ok (.getfield 31, 3) := by decide +kernel
theorem dX0_openWith_160 : decode cX0_openWith 160 = .ok (.getfield 92, 3) := by decide +kernel
theorem dX0_openWith_163 : decode cX0_openWith 163 = .ok (.iload_n 2, 1) := by decide +kernel
theorem dX0_openWith_164 : decode cX0_openWith 164 = .ok (.iaload, 1) := by decide +kernel
theorem dX0_openWith_165 : decode cX0_openWith 165 = .ok (.invokevirtual 95, 3) := by decide +kernel
theorem dX0_openWith_168 : decode cX0_openWith 168 = .ok (.iinc 2 1, 3) := by decide +kernel
theorem dX0_openWith_171 : decode cX0_openWith 171 = .ok (.goto (-27), 3) := by decide +kernel
theorem dX0_openWith_174 : decode cX0_openWith 174 = .ok (.return_, 1) := by decide +kernel
theorem dX1_init_0 : decode cX1_init 0 = .ok (.aload_n 0, 1) := by decide +kernel
theorem dX1_init_1 : decode cX1_init 1 = .ok (.invokespecial 3, 3) := by decide +kernel
theorem dX1_init_4 : decode cX1_init 4 = .ok (.aload_n 0, 1) := by decide +kernel
theorem dX1_init_5 : decode cX1_init 5 = .ok (.bipush 10, 2) := by decide +kernel
theorem dX1_init_7 : decode cX1_init 7 = .ok (.anewarray 11, 3) := by decide +kernel
theorem dX1_init_10 : decode cX1_init 10 = .ok (.putfield 13, 3) := by decide +kernel
theorem dX1_init_13 : decode cX1_init 13 = .ok (.iconst 0, 1) := by decide +kernel
theorem dX1_init_14 : decode cX1_init 14 = .ok (.istore_n 2, 1) := by decide +kernel
theorem dX1_init_15 : decode cX1_init 15 = .ok (.iload_n 2, 1) := by decide +kernel
theorem dX1_init_16 : decode cX1_init 16 = .ok (.bipush 10, 2) := by decide +kernel
theorem dX1_init_18 : decode cX1_init 18 = .ok (.if_icmp .ge 23, 3) := by decide +kernel
theorem dX1_init_21 : decode cX1_init 21 = .ok (.aload_n 0, 1) := by decide +kernel
theorem dX1_init_22 : decode cX1_init 22 = .ok (.getfield 13, 3) := by decide +kernel
theorem dX1_init_25 : decode cX1_init 25 = .ok (.iload_n 2, 1) := by decide +kernel
theorem dX1_init_26 : decode cX1_init 26 = .ok (.new 11, 3) := by decide +kernel
theorem dX1_init_29 : decode cX1_init 29 = .ok (.dup, 1) := by decide +kernel
theorem dX1_init_30 : decode cX1_init 30 = .ok (.aload_n 1, 1) := by decide +kernel
theorem dX1_init_31 : decode cX1_init 31 = .ok (.invokespecial 17, 3) := by decide +kernel
theorem dX1_init_34 : decode cX1_init 34 = .ok (.aastore, 1) := by decide +kernel
theorem dX1_init_35 : decode cX1_init 35 = .ok (.iinc 2 1, 3) := by decide +kernel
theorem dX1_init_38 : decode cX1_init 38 = .ok (.goto (-23), 3) := by decide +kernel
theorem dX1_init_41 : decode cX1_init 41 = .ok (.return_, 1) := by decide +kernel
theorem dX9_init_0 : decode cX9_init 0 = .ok (.aload_n 0, 1) := by decide +kernel
theorem dX9_init_1 : decode cX9_init 1 = .ok (.invokespecial 1, 3) := by decide +kernel
theorem dX9_init_4 : decode cX9_init 4 = .ok (.aload_n 0, 1) := by decide +kernel
theorem dX9_init_5 : decode cX9_init 5 = .ok (.sipush 700, 3) := by decide +kernel
theorem dX9_init_8 : decode cX9_init 8 = .ok (.newarray .char, 2) := by decide +kernel
theorem dX9_init_10 : decode cX9_init 10 = .ok (.putfield 9, 3) := by decide +kernel
theorem dX9_init_13 : decode cX9_init 13 = .ok (.aload_n 0, 1) := by decide +kernel
theorem dX9_init_14 : decode cX9_init 14 = .ok (.new 13, 3) := by decide +kernel
theorem dX9_init_17 : decode cX9_init 17 = .ok (.dup, 1) := by decide +kernel
theorem dX9_init_18 : decode cX9_init 18 = .ok (.invokespecial 15, 3) := by decide +kernel
theorem dX9_init_21 : decode cX9_init 21 = .ok (.putfield 16, 3) := by decide +kernel
theorem dX9_init_24 : decode cX9_init 24 = .ok (.aload_n 0, 1) := by decide +kernel
theorem dX9_init_25 : decode cX9_init 25 = .ok (.new 13, 3) := by decide +kernel
theorem dX9_init_28 : decode cX9_init 28 = .ok (.dup, 1) := by decide +kernel
theorem dX9_init_29 : decode cX9_init 29 = .ok (.invokespecial 15, 3) := by decide +kernel
theorem dX9_init_32 : decode cX9_init 32 = .ok (.putfield 20, 3) := by decide +kernel
theorem dX9_init_35 : decode cX9_init 35 = .ok (.aload_n 0, 1) := by decide +kernel
theorem dX9_init_36 : decode cX9_init 36 = .ok (.new 23, 3) := by decide +kernel
theorem dX9_init_39 : decode cX9_init 39 = .ok (.dup, 1) := by decide +kernel
theorem dX9_init_40 : decode cX9_init 40 = .ok (.aload_n 0, 1) := by decide +kernel
theorem dX9_init_41 : decode cX9_init 41 = .ok (.getfield 20, 3) := by decide +kernel
theorem dX9_init_44 : decode cX9_init 44 = .ok (.invokespecial 25, 3) := by decide +kernel
theorem dX9_init_47 : decode cX9_init 47 = .ok (.putfield 28, 3) := by decide +kernel
theorem dX9_init_50 : decode cX9_init 50 = .ok (.aload_n 0, 1) := by decide +kernel
theorem dX9_init_51 : decode cX9_init 51 = .ok (.new 32, 3) := by decide +kernel
theorem dX9_init_54 : decode cX9_init 54 = .ok (.dup, 1) := by decide +kernel
theorem dX9_init_55 : decode cX9_init 55 = .ok (.aload_n 0, 1) := by decide +kernel
theorem dX9_init_56 : decode cX9_init 56 = .ok (.getfield 16, 3) := by decide +kernel
theorem dX9_init_59 : decode cX9_init 59 = .ok (.invokespecial 34, 3) := by decide +kernel
theorem dX9_init_62 : decode cX9_init 62 = .ok (.putfield 35, 3) := by decide +kernel
theorem dX9_init_65 : decode cX9_init 65 = .ok (.aload_n 0, 1) := by decide +kernel
theorem dX9_init_66 : decode cX9_init 66 = .ok (.new 32, 3) := by decide +kernel
theorem dX9_init_69 : decode cX9_init 69 = .ok (.dup, 1) := by decide +kernel
theorem dX9_init_70 : decode cX9_init 70 = .ok (.aload_n 0, 1) := by decide +kernel
theorem dX9_init_71 : decode cX9_init 71 = .ok (.getfield 16, 3) := by decide +kernel
theorem dX9_init_74 : decode cX9_init 74 = .ok (.invokespecial 34, 3) := by decide +kernel
theorem dX9_init_77 : decode cX9_init 77 = .ok (.putfield 39, 3) := by decide +kernel
theorem dX9_init_80 : decode cX9_init 80 = .ok (.aload_n 0, 1) := by decide +kernel
theorem dX9_init_81 : decode cX9_init 81 = .ok (.new 42, 3) := by decide +kernel
theorem dX9_init_84 : decode cX9_init 84 = .ok (.dup, 1) := by decide +kernel
theorem dX9_init_85 : decode cX9_init 85 = .ok (.aload_n 0, 1) := by decide +kernel
theorem dX9_init_86 : decode cX9_init 86 = .ok (.getfield 16, 3) := by decide +kernel
theorem dX9_init_89 : decode cX9_init 89 = .ok (.invokespecial 44, 3) := by decide +kernel
theorem dX9_init_92 : decode cX9_init 92 = .ok (.putfield 45, 3) := by decide +kernel
theorem dX9_init_95 : decode cX9_init 95 = .ok (.aload_n 0, 1) := by decide +kernel
theorem dX9_init_96 : decode cX9_init 96 = .ok (.new 49, 3) := by decide +kernel
theorem dX9_init_99 : decode cX9_init 99 = .ok (.dup, 1) := by decide +kernel
theorem dX9_init_100 : decode cX9_init 100 = .ok (.invokespecial 51, 3) := by decide +kernel
theorem dX9_init_103 : decode cX9_init 103 = .ok (.putfield 52, 3) := by decide +kernel
theorem dX9_init_106 : decode cX9_init 106 = .ok (.aload_n 0, 1) := by decide +kernel
theorem dX9_init_107 : decode cX9_init 107 = .ok (.getfield 35, 3) := by decide +kernel
theorem dX9_init_110 : decode cX9_init 110 = .ok (.aload_n 0, 1) := by decide +kernel
theorem dX9_init_111 : decode cX9_init 111 = .ok (.getfield 16, 3) := by decide +kernel
theorem dX9_init_114 : decode cX9_init 114 = .ok (.invokevirtual 56, 3) := by decide +kernel
theorem dX9_init_117 : decode cX9_init 117 = .ok (.return_, 1) := by decide +kernel

set_option maxRecDepth 20000 in
theorem ggJ4_init_da8c8_J5_init_d00df : GoodIn wsJ4_init_da8c8 wsJ5_init_d00df := goodIn_r _ [4, 5, 6, 7, 8, 9, 10, 11, 12, 13, 14, 15, 16, 17, 18, 19, 20, 21, 22, 23] rfl (by decide +kernel)
set_option maxRecDepth 20000 in
theorem gJ4_init_da8c8_J5_init_d00df : GoodIn wsJ4_init_da8c8 (wsJ5_init_d00df) := ggJ4_init_da8c8_J5_init_d00df

set_option maxRecDepth 20000 in
theorem ggX0_openWith_X2_clear : GoodIn wsX0_openWith wsX2_clear := goodIn_r _ [25, 26, 27, 79, 80, 81] rfl (by decide +kernel)
set_option maxRecDepth 20000 in
theorem gX0_openWith_X2_clear : GoodIn wsX0_openWith (wsV RX0 35 RX2 yX2_clear wsX2_clear) := goodIn_app (goodIn_r _ [21, 22, 23, 24] rfl (by decide +kernel)) ggX0_openWith_X2_clear

set_option maxRecDepth 20000 in
theorem ggX1_init_X0_init : GoodIn wsX1_init wsX0_init := goodIn_r _ [10, 11, 2, 3, 12, 13, 14, 15, 16, 17, 18, 19, 20, 21, 22, 23, 24, 25, 49, 50, 51, 29, 30, 31, 32, 33, 34, 35, 36, 37, 38, 39, 40, 41, 42, 43, 44, 45, 46, 47, 48] rfl (by decide +kernel)
set_option maxRecDepth 20000 in
theorem gX1_init_X0_init : GoodIn wsX1_init (wsX0_init) := ggX1_init_X0_init

set_option maxRecDepth 20000 in
theorem ggX9_init_J4_init_da8c8 : GoodIn wsX9_init wsJ4_init_da8c8 := goodIn_r _ [86, 87, 88, 89, 90, 91, 2, 3, 92, 93, 94, 95, 96, 97, 98, 99, 100, 101, 102, 103, 198, 199, 200, 201] rfl (by decide +kernel)
set_option maxRecDepth 20000 in
theorem gX9_init_J4_init_da8c8 : GoodIn wsX9_init (wsJ4_init_da8c8) := ggX9_init_J4_init_da8c8

set_option maxRecDepth 20000 in
theorem ggX9_init_X0_init : GoodIn wsX9_init wsX0_init := goodIn_r _ [62, 63, 2, 3, 64, 65, 66, 67, 32, 68, 69, 70, 71, 72, 73, 74, 75, 76, 206, 207, 208, 175, 176, 177, 178, 179, 180, 181, 182, 183, 184, 185, 186, 187, 188, 189, 190, 191, 192, 193, 194] rfl (by decide +kernel)
set_option maxRecDepth 20000 in
theorem gX9_init_X0_init : GoodIn wsX9_init (wsX0_init) := ggX9_init_X0_init

set_option maxRecDepth 20000 in
theorem ggX9_init_X0_openWith : GoodIn wsX9_init wsX0_openWith := goodIn_r _ [107, 72, 67, 68, 69, 70, 71, 108, 109, 110, 111, 112, 113, 114, 115, 116, 117, 118, 119, 120, 121, 122, 123, 124, 66, 125, 126, 127, 128, 129, 130, 17, 131, 132, 133, 134, 135, 76, 136, 137, 138, 139, 175, 176, 177, 178, 179, 180, 181, 182, 183, 184, 185, 186, 187, 188, 189, 190, 191, 192, 193, 194, 149, 150, 151, 152, 153, 154, 155, 156, 157, 158, 159, 160, 161, 162, 163, 164, 165, 206, 207, 208] rfl (by decide +kernel)
set_option maxRecDepth 20000 in
theorem gX9_init_X0_openWith : GoodIn wsX9_init (wsV RX9 56 RX0 yX0_openWith wsX0_openWith) := goodIn_app (goodIn_r _ [104, 105, 106, 17] rfl (by decide +kernel)) ggX9_init_X0_openWith

set_option maxRecDepth 20000 in
theorem ggX9_init_X1_init : GoodIn wsX9_init wsX1_init := goodIn_r _ [79, 80, 2, 3, 81, 82, 16, 17, 83, 61, 62, 63, 64, 65, 66, 67, 32, 68, 69, 70, 71, 72, 73, 74, 75, 76, 195, 196, 197, 175, 176, 177, 178, 179, 180, 181, 182, 183, 184, 185, 186, 187, 188, 189, 190, 191, 192, 193, 194, 206, 207, 208] rfl (by decide +kernel)
set_option maxRecDepth 20000 in
theorem gX9_init_X1_init : GoodIn wsX9_init (wsX1_init) := ggX9_init_X1_init

set_option maxRecDepth 20000 in
theorem ggX9_init_X3_init : GoodIn wsX9_init wsX3_init := goodIn_r _ [29, 30, 2, 3, 31, 32, 33, 34, 35, 36, 37, 38, 39, 40, 41, 42, 149, 150, 151, 152, 153, 154, 155, 156, 157, 158, 159, 160, 161, 162, 163, 164, 165] rfl (by decide +kernel)
set_option maxRecDepth 20000 in
theorem gX9_init_X3_init_n15 : GoodIn wsX9_init (wsX3_init) := ggX9_init_X3_init

set_option maxRecDepth 20000 in
theorem ggX9_init_X4_init : GoodIn wsX9_init wsX4_init := goodIn_r _ [45, 46, 2, 3, 47, 48, 49, 50, 51, 52, 53, 54, 55, 56, 32, 57, 58, 34, 59, 202, 203, 204, 205, 166, 167, 168, 169, 170, 171, 172, 173, 174] rfl (by decide +kernel)
set_option maxRecDepth 20000 in
theorem gX9_init_X4_init : GoodIn wsX9_init (wsX4_init) := ggX9_init_X4_init

set_option maxHeartbeats 4000000 in
set_option maxRecDepth 100000 in
/-- AbstractStringBuilder(16) -/
theorem c_J5_init (l : Launch) (D : va_G) (cA : Nat → ClassId) (sa : Nat → Nat) (h0 : Nat) (sz : Nat) : Met l yJ5_init_d00df wsJ5_init_d00df ({ frames := 1, cells := 1, slots := 16, locals := 20 }) (va_Pc [.ref h0, .int 16] (Wd D cA sa [(h0, .inr (1, [.null, .int 0, .int 0, .int 0]))] sz)) (va_Qv (fun _ : Unit => True) (fun (_ : Unit) t => ∃ qn2 : Nat, Wq D (va_A [(h0, .inr (1, [.null, .int 0, .int 0, .int 0]))] sz) [(h0, .inr (1, [.ref qn2, .int 0, .int 0, .int 0])), (qn2, .inl (cA 3, 16, .inl (fun _ => 0)))] t) (va_A [(h0, .inr (1, [.null, .int 0, .int 0, .int 0]))] sz)) 1 16 (va_A [(h0, .inr (1, [.null, .int 0, .int 0, .int 0]))] sz) := by
  refine Met.ofW (cc := cJ5_init_d00df) (maxL := 2) (ret := none) (by decide) rfl ?_
  intro p e s m args below meth c s₁ B hml hv
  obtain ⟨rfl, hsz, hP, hK, hD0, hC, hZ⟩ := hv
  have hx := B.exec
  have hb := B.bytes
  have hr := B.returns
  have hts := atoms_spec (ws := wsJ5_init_d00df) B.pre
  have hown : s.vm.findClass RJ5 = some m.cls := findClass_of_methodNamed B.named
  have hlocks := B.notSynchronized
  have hin : meth.name = "<init>" := (name_of_methodNamed B.named B.method).1
  subst hsz
  have hD := hD0.self (sz := s.heap.size)
  generalize hAe : va_A [(h0, .inr (1, [.null, .int 0, .int 0, .int 0]))] s.heap.size = A at hD hZ ⊢
  have hA : ∀ q : Nat, s.heap.size ≤ q → A q := fun q h => by rw [← hAe]; exact Or.inr h
  have hS : va_S A s.heap s.heap [] := va_S.rf
  have hP : va_P D vwCl [(h0, .inr (1, [.null, .int 0, .int 0, .int 0]))] s.heap := hP
  have hl := lv_entry ([.ref h0, .int 16]) (n := 2) (Nat.le_of_ble_eq_true rfl)
  rw [lg_entry_eq]
  generalize (lg_sl ([.ref h0, .int 16]) ++ List.replicate (2 - (lg_sl ([.ref h0, .int 16])).length) Slot.unset).toArray = ls at hl ⊢
  have hl : lv_has ls 2 [(0, .ref h0), (1, .int 16)] := hl
  have inJ4 : ∀ w ∈ u_ws RJ4 TJ4 4, w ∈ wsJ5_init_d00df := by decide +kernel
  refine lv_aload_n hx hb dJ5_init_d00df_0 rfl (lv_at hl 0 rfl) ?_
  refine W.objInit hx hb hown (hts (.methodLink RJ5 3 objectInit) (by decide +kernel)) (hts (.instanceMethod objectInit) (by decide +kernel)) (hts (.code objectInit ⟨#[0xb1]⟩ 1 none) (by decide +kernel)) rfl (by rw [hml]; exact hl.1) rfl dJ5_init_d00df_1 (Nat.le_of_ble_eq_true rfl) (Nat.le_of_ble_eq_true rfl) ?_
  refine W.eq (g2 := F0 m 4 ls []) rfl ?_
  refine va_gets hx hb hZ.2.2.1 hS hown (hts (.fieldLink RJ5 18 "java/lang/String" "COMPACT_STRINGS" "Z") (by decide +kernel)) (fun _ h9 => h9) dJ5_init_d00df_4 ?_
  refine lv_if_eq (tgt := 25) hx hb dJ5_init_d00df_7 (by decide) (fun c9 => absurd c9 (by decide)) (fun c1 => ?_)
  refine lv_aload_n hx hb dJ5_init_d00df_10 rfl (lv_at hl 0 rfl) ?_
  refine lv_iload_n hx hb dJ5_init_d00df_11 rfl (lv_at hl 1 rfl) ?_
  refine va_newa (atype := .byte) (ty := .byte) (N' := 16) (a0 := (16, .inl (fun _ => 0))) hx hb (hts (.arrayClass .byte) (by decide +kernel)) rfl hK hP hD hS hA (fun _ => rfl) (by decide) (by decide +kernel) (Nat.le_of_ble_eq_true rfl) (Nat.le_of_ble_eq_true rfl) (Nat.le_of_ble_eq_true rfl) dJ5_init_d00df_12 (fun qn2 c9 H hK9 hP hD hS => ?_)
  obtain rfl : c9 = cA 3 := ty_one hK9 3 rfl
  have hP : va_P D vwCl [(h0, .inr (1, [.null, .int 0, .int 0, .int 0])), (qn2, .inl (cA 3, 16, .inl (fun _ => 0)))] H := hP
  have hD : va_D A [(h0, .inr (1, [.null, .int 0, .int 0, .int 0])), (qn2, .inl (cA 3, 16, .inl (fun _ => 0)))] := hD
  refine va_put (D := D) (ci := 1) (v := .ref qn2) (ty := (.array .byte)) (C := RJ4) (T := TJ4) (N := 4) hx hb hts inJ4 tyJ4 tyJ4_ok nmJ4 hown hK hP hD hS 0 rfl rfl 0 (by decide) (hts (.fieldLink RJ5 15 "java/lang/AbstractStringBuilder" "value" "[B") (by decide +kernel)) (fun _ h9 => h9) rfl (by decide +kernel) rfl rfl (Nat.le_of_ble_eq_true rfl) dJ5_init_d00df_14 (fun H locs hP hD hS => ?_)
  have hP : va_P D vwCl [(h0, .inr (1, [.ref qn2, .int 0, .int 0, .int 0])), (qn2, .inl (cA 3, 16, .inl (fun _ => 0)))] H := hP
  have hD : va_D A [(h0, .inr (1, [.ref qn2, .int 0, .int 0, .int 0])), (qn2, .inl (cA 3, 16, .inl (fun _ => 0)))] := hD
  refine lv_aload_n hx hb dJ5_init_d00df_17 rfl (lv_at hl 0 rfl) ?_
  refine lv_iconst (v := 0) hx hb dJ5_init_d00df_18 (by decide) ?_
  refine va_put (D := D) (ci := 1) (v := .int 0) (ty := .byte) (C := RJ4) (T := TJ4) (N := 4) hx hb hts inJ4 tyJ4 tyJ4_ok nmJ4 hown hK hP hD hS 0 rfl rfl 1 (by decide) (hts (.fieldLink RJ5 22 "java/lang/AbstractStringBuilder" "coder" "B") (by decide +kernel)) (fun _ h9 => h9) rfl (by decide +kernel) rfl rfl (Nat.le_of_ble_eq_true rfl) dJ5_init_d00df_19 (fun H locs hP hD hS => ?_)
  have hP : va_P D vwCl [(h0, .inr (1, [.ref qn2, .int 0, .int 0, .int 0])), (qn2, .inl (cA 3, 16, .inl (fun _ => 0)))] H := hP
  have hD : va_D A [(h0, .inr (1, [.ref qn2, .int 0, .int 0, .int 0])), (qn2, .inl (cA 3, 16, .inl (fun _ => 0)))] := hD
  refine lv_goto (tgt := 38) hx hb dJ5_init_d00df_22 (by decide) ?_
  have hP9 := hP.sub (ws' := [(h0, .inr (1, [.ref qn2, .int 0, .int 0, .int 0])), (qn2, .inl (cA 3, 16, .inl (fun _ => 0)))]) [0, 1] rfl
  have hD9 := hD.sub (ws' := [(h0, .inr (1, [.ref qn2, .int 0, .int 0, .int 0])), (qn2, .inl (cA 3, 16, .inl (fun _ => 0)))]) [0, 1] (by decide) rfl
  refine W.widen (k := 1) (n := 16) (Nat.le_of_ble_eq_true rfl) (Nat.le_of_ble_eq_true rfl) ?_
  exact W.vret hx hb hr (fun t ht hW => ⟨⟨(), rfl, trivial, qn2, by rw [ht]; exact hP9, hD9⟩, hS.F ht⟩) hS.2.2 dJ5_init_d00df_38

set_option maxHeartbeats 4000000 in
set_option maxRecDepth 100000 in
/-- StringBuilder() -/
theorem c_J4_init (l : Launch) (D : va_G) (cA : Nat → ClassId) (sa : Nat → Nat) (h0 : Nat) (sz : Nat) : Met l yJ4_init_da8c8 wsJ4_init_da8c8 ({ frames := 2, cells := 1, slots := 16, locals := 41 }) (va_Pc [.ref h0] (Wd D cA sa [(h0, .inr (1, [.null, .int 0, .int 0, .int 0]))] sz)) (va_Qv (fun _ : Unit => True) (fun (_ : Unit) t => ∃ qn1 : Nat, Wq D (va_A [(h0, .inr (1, [.null, .int 0, .int 0, .int 0]))] sz) [(h0, .inr (1, [.ref qn1, .int 0, .int 0, .int 0])), (qn1, .inl (cA 3, 16, .inl (fun _ => 0)))] t) (va_A [(h0, .inr (1, [.null, .int 0, .int 0, .int 0]))] sz)) 1 16 (va_A [(h0, .inr (1, [.null, .int 0, .int 0, .int 0]))] sz) := by
  refine Met.ofW (cc := cJ4_init_da8c8) (maxL := 1) (ret := none) (by decide) rfl ?_
  intro p e s m args below meth c s₁ B hml hv
  obtain ⟨rfl, hsz, hP, hK, hD0, hC, hZ⟩ := hv
  have hx := B.exec
  have hb := B.bytes
  have hr := B.returns
  have hts := atoms_spec (ws := wsJ4_init_da8c8) B.pre
  have hown : s.vm.findClass RJ4 = some m.cls := findClass_of_methodNamed B.named
  have hlocks := B.notSynchronized
  have hin : meth.name = "<init>" := (name_of_methodNamed B.named B.method).1
  subst hsz
  have hD := hD0.self (sz := s.heap.size)
  generalize hAe : va_A [(h0, .inr (1, [.null, .int 0, .int 0, .int 0]))] s.heap.size = A at hD hZ ⊢
  have hA : ∀ q : Nat, s.heap.size ≤ q → A q := fun q h => by rw [← hAe]; exact Or.inr h
  have hS : va_S A s.heap s.heap [] := va_S.rf
  have hP : va_P D vwCl [(h0, .inr (1, [.null, .int 0, .int 0, .int 0]))] s.heap := hP
  have hl := lv_entry ([.ref h0]) (n := 1) (Nat.le_of_ble_eq_true rfl)
  rw [lg_entry_eq]
  generalize (lg_sl ([.ref h0]) ++ List.replicate (1 - (lg_sl ([.ref h0])).length) Slot.unset).toArray = ls at hl ⊢
  have hl : lv_has ls 1 [(0, .ref h0)] := hl
  refine lv_aload_n hx hb dJ4_init_da8c8_0 rfl (lv_at hl 0 rfl) ?_
  refine lv_bipush (v := 16) hx hb dJ4_init_da8c8_1 (by decide) ?_
  have hPc := hP.sub (ws' := [(h0, .inr (1, [.null, .int 0, .int 0, .int 0]))]) [0] rfl
  have hDc := hD.sub (ws' := [(h0, .inr (1, [.null, .int 0, .int 0, .int 0]))]) [0] (by decide) rfl
  have hFc := va_free (wc := [(h0, .inr (1, [.null, .int 0, .int 0, .int 0]))]) hD hS hA [0] rfl
  refine va_callv (va_runI (As := [.int 16]) (rest := []) ⟨hx, hb, hml, hown, hts⟩ (c_J5_init l D cA sa h0 s.heap.size) (cwI 1 hts gJ4_init_da8c8_J5_init_d00df rfl rfl rfl (hts (.initialized RJ5) (by decide +kernel)) (hts (.methodLink RJ4 1 yJ5_init_d00df) (by decide +kernel)) (hts (.instanceMethod yJ5_init_d00df) (by decide +kernel)) rfl (by decide +kernel) ⟨(Nat.le_of_ble_eq_true rfl), (Nat.le_of_ble_eq_true rfl)⟩) ⟨Wd.blind, fun U hU hW => ⟨rfl, Wd.call hPc hDc hK hC hZ hS hFc U hU hW⟩⟩ rfl rfl hl.1 rfl (lv_room (Nat.le_of_ble_eq_true rfl)) dJ4_init_da8c8_3 ⟨(Nat.le_of_ble_eq_true rfl), (Nat.le_of_ble_eq_true rfl)⟩) hS (fun q _ h => hFc q h) hFc (fun u t H1 locs ht hvm hw hB hz1 hk1 hS => ?_)
  obtain ⟨qn1, hP1, hD1⟩ := hB
  rw [ht] at hP1
  obtain ⟨hP, hD⟩ := va_join (wr := []) (w1 := [(h0, .inr (1, [.ref qn1, .int 0, .int 0, .int 0])), (qn1, .inl (cA 3, 16, .inl (fun _ => 0)))]) hP hD [0] [] rfl rfl (by decide) (by decide) hk1 hFc hP1 hD1
  generalize H1 = H at hP hS ⊢
  have hP : va_P D vwCl [(h0, .inr (1, [.ref qn1, .int 0, .int 0, .int 0])), (qn1, .inl (cA 3, 16, .inl (fun _ => 0)))] H := hP
  have hD : va_D A [(h0, .inr (1, [.ref qn1, .int 0, .int 0, .int 0])), (qn1, .inl (cA 3, 16, .inl (fun _ => 0)))] := hD
  have hP9 := hP.sub (ws' := [(h0, .inr (1, [.ref qn1, .int 0, .int 0, .int 0])), (qn1, .inl (cA 3, 16, .inl (fun _ => 0)))]) [0, 1] rfl
  have hD9 := hD.sub (ws' := [(h0, .inr (1, [.ref qn1, .int 0, .int 0, .int 0])), (qn1, .inl (cA 3, 16, .inl (fun _ => 0)))]) [0, 1] (by decide) rfl
  refine W.widen (k := 1) (n := 16) (Nat.le_of_ble_eq_true rfl) (Nat.le_of_ble_eq_true rfl) ?_
  exact W.vret hx hb hr (fun t ht hW => ⟨⟨(), rfl, trivial, qn1, by rw [ht]; exact hP9, hD9⟩, hS.F ht⟩) hS.2.2 dJ4_init_da8c8_6

set_option maxHeartbeats 4000000 in
set_option maxRecDepth 100000 in
/-- openWith(plan), an empty plan -/
theorem c_X0_openWith (l : Launch) (D : va_G) (cA : Nat → ClassId) (sa : Nat → Nat) (h0 h1 h2 h3 h4 h5 h6 p0 p1 p2 p3 p4 p5 p6 p7 p8 p9 : Nat) (x0 x6 x7 x8 x9 x10 x11 x12 x13 x14 x15 x16 x17 x18 x19 : Value) (n0 k0 : Int32) (f3 f4 f5 f6 : Nat → Int32) (sz : Nat) : Met l yX0_openWith wsX0_openWith ({ frames := 1, cells := 0, slots := 0, locals := 20 }) (va_Pc [.ref h0, .ref p0] (Wd D cA sa [(h0, .inr (4, [x0, .ref h1, .ref h3, .ref h4, .ref h5, .ref h6, x6, x7, x8, x9, x10, x11, x12, x13, x14, x15, x16, x17, x18, x19])), (h1, .inr (6, [.ref h2, .int n0, .int k0])), (h3, .inl (cA 0, 10, .inl f3)), (h4, .inl (cA 0, 10, .inl f4)), (h5, .inl (cA 0, 10, .inl f5)), (h6, .inl (cA 0, 10, .inl f6)), (p0, .inr (7, [.int 0, .int 365, .int 0, .int 0, .ref p1, .int 0, .ref p2, .ref p3, .ref p4, .ref p5, .int 0, .ref p6, .int 0, .ref p7, .ref p8, .ref p9, .int 0]))] sz)) (va_Qv (fun _ : Unit => True) (fun (_ : Unit) t => ∃ fn47 : Nat → Int32, ∃ fn48 : Nat → Int32, ∃ fn49 : Nat → Int32, ∃ fn50 : Nat → Int32, Wq D (va_A [(h0, .inr (4, [x0, .ref h1, .ref h3, .ref h4, .ref h5, .ref h6, x6, x7, x8, x9, x10, x11, x12, x13, x14, x15, x16, x17, x18, x19])), (h1, .inr (6, [.ref h2, .int n0, .int k0])), (h3, .inl (cA 0, 10, .inl f3)), (h4, .inl (cA 0, 10, .inl f4)), (h5, .inl (cA 0, 10, .inl f5)), (h6, .inl (cA 0, 10, .inl f6)), (p0, .inr (7, [.int 0, .int 365, .int 0, .int 0, .ref p1, .int 0, .ref p2, .ref p3, .ref p4, .ref p5, .int 0, .ref p6, .int 0, .ref p7, .ref p8, .ref p9, .int 0]))] sz) [(h0, .inr (4, [.ref p0, .ref h1, .ref h3, .ref h4, .ref h5, .ref h6, .int 0, .int 0, .int 0, .long 0, .long 0, .long 0, .int 0, .int 0, .int 0, .int 0, .int 365, .int 0, .int 0, .int 0])), (h1, .inr (6, [.ref h2, .int 0, .int 0])), (h3, .inl (cA 0, 10, .inl fn47)), (h4, .inl (cA 0, 10, .inl fn48)), (h5, .inl (cA 0, 10, .inl fn49)), (h6, .inl (cA 0, 10, .inl fn50)), (p0, .inr (7, [.int 0, .int 365, .int 0, .int 0, .ref p1, .int 0, .ref p2, .ref p3, .ref p4, .ref p5, .int 0, .ref p6, .int 0, .ref p7, .ref p8, .ref p9, .int 0]))] t) (va_A [(h0, .inr (4, [x0, .ref h1, .ref h3, .ref h4, .ref h5, .ref h6, x6, x7, x8, x9, x10, x11, x12, x13, x14, x15, x16, x17, x18, x19])), (h1, .inr (6, [.ref h2, .int n0, .int k0])), (h3, .inl (cA 0, 10, .inl f3)), (h4, .inl (cA 0, 10, .inl f4)), (h5, .inl (cA 0, 10, .inl f5)), (h6, .inl (cA 0, 10, .inl f6)), (p0, .inr (7, [.int 0, .int 365, .int 0, .int 0, .ref p1, .int 0, .ref p2, .ref p3, .ref p4, .ref p5, .int 0, .ref p6, .int 0, .ref p7, .ref p8, .ref p9, .int 0]))] sz)) 0 0 (va_A [(h0, .inr (4, [x0, .ref h1, .ref h3, .ref h4, .ref h5, .ref h6, x6, x7, x8, x9, x10, x11, x12, x13, x14, x15, x16, x17, x18, x19])), (h1, .inr (6, [.ref h2, .int n0, .int k0])), (h3, .inl (cA 0, 10, .inl f3)), (h4, .inl (cA 0, 10, .inl f4)), (h5, .inl (cA 0, 10, .inl f5)), (h6, .inl (cA 0, 10, .inl f6)), (p0, .inr (7, [.int 0, .int 365, .int 0, .int 0, .ref p1, .int 0, .ref p2, .ref p3, .ref p4, .ref p5, .int 0, .ref p6, .int 0, .ref p7, .ref p8, .ref p9, .int 0]))] sz) := by
  refine Met.ofW (cc := cX0_openWith) (maxL := 3) (ret := none) (by decide) rfl ?_
  intro p e s m args below meth c s₁ B hml hv
  obtain ⟨rfl, hsz, hP, hK, hD0, hC, hZ⟩ := hv
  have hx := B.exec
  have hb := B.bytes
  have hr := B.returns
  have hts := atoms_spec (ws := wsX0_openWith) B.pre
  have hown : s.vm.findClass RX0 = some m.cls := findClass_of_methodNamed B.named
  have hlocks := B.notSynchronized
  subst hsz
  have hD := hD0.self (sz := s.heap.size)
  generalize hAe : va_A [(h0, .inr (4, [x0, .ref h1, .ref h3, .ref h4, .ref h5, .ref h6, x6, x7, x8, x9, x10, x11, x12, x13, x14, x15, x16, x17, x18, x19])), (h1, .inr (6, [.ref h2, .int n0, .int k0])), (h3, .inl (cA 0, 10, .inl f3)), (h4, .inl (cA 0, 10, .inl f4)), (h5, .inl (cA 0, 10, .inl f5)), (h6, .inl (cA 0, 10, .inl f6)), (p0, .inr (7, [.int 0, .int 365, .int 0, .int 0, .ref p1, .int 0, .ref p2, .ref p3, .ref p4, .ref p5, .int 0, .ref p6, .int 0, .ref p7, .ref p8, .ref p9, .int 0]))] s.heap.size = A at hD hZ ⊢
  have hA : ∀ q : Nat, s.heap.size ≤ q → A q := fun q h => by rw [← hAe]; exact Or.inr h
  have hS : va_S A s.heap s.heap [] := va_S.rf
  have hP : va_P D vwCl [(h0, .inr (4, [x0, .ref h1, .ref h3, .ref h4, .ref h5, .ref h6, x6, x7, x8, x9, x10, x11, x12, x13, x14, x15, x16, x17, x18, x19])), (h1, .inr (6, [.ref h2, .int n0, .int k0])), (h3, .inl (cA 0, 10, .inl f3)), (h4, .inl (cA 0, 10, .inl f4)), (h5, .inl (cA 0, 10, .inl f5)), (h6, .inl (cA 0, 10, .inl f6)), (p0, .inr (7, [.int 0, .int 365, .int 0, .int 0, .ref p1, .int 0, .ref p2, .ref p3, .ref p4, .ref p5, .int 0, .ref p6, .int 0, .ref p7, .ref p8, .ref p9, .int 0]))] s.heap := hP
  have hl := lv_entry ([.ref h0, .ref p0]) (n := 3) (Nat.le_of_ble_eq_true rfl)
  rw [lg_entry_eq]
  generalize (lg_sl ([.ref h0, .ref p0]) ++ List.replicate (3 - (lg_sl ([.ref h0, .ref p0])).length) Slot.unset).toArray = ls at hl ⊢
  have hl : lv_has ls 3 [(0, .ref h0), (1, .ref p0)] := hl
  have inX0 : ∀ w ∈ u_ws RX0 TX0 20, w ∈ wsX0_openWith := by decide +kernel
  have inX3 : ∀ w ∈ u_ws RX3 TX3 17, w ∈ wsX0_openWith := by decide +kernel
  refine lv_aload_n hx hb dX0_openWith_0 rfl (lv_at hl 0 rfl) ?_
  refine lv_aload_n hx hb dX0_openWith_1 rfl (lv_at hl 1 rfl) ?_
  refine va_put (D := D) (ci := 4) (v := .ref p0) (ty := (.object "EscrowDesk$Plan")) (C := RX0) (T := TX0) (N := 20) hx hb hts inX0 tyX0 tyX0_ok nmX0 hown hK hP hD hS 0 rfl rfl 0 (by decide) (hts (.fieldLink RX0 31 "EscrowDesk$Account" "plan" "LEscrowDesk$Plan;") (by decide +kernel)) (fun _ h9 => h9) rfl (by decide +kernel) rfl rfl (Nat.le_of_ble_eq_true rfl) dX0_openWith_2 (fun H locs hP hD hS => ?_)
  have hP : va_P D vwCl [(h0, .inr (4, [.ref p0, .ref h1, .ref h3, .ref h4, .ref h5, .ref h6, x6, x7, x8, x9, x10, x11, x12, x13, x14, x15, x16, x17, x18, x19])), (h1, .inr (6, [.ref h2, .int n0, .int k0])), (h3, .inl (cA 0, 10, .inl f3)), (h4, .inl (cA 0, 10, .inl f4)), (h5, .inl (cA 0, 10, .inl f5)), (h6, .inl (cA 0, 10, .inl f6)), (p0, .inr (7, [.int 0, .int 365, .int 0, .int 0, .ref p1, .int 0, .ref p2, .ref p3, .ref p4, .ref p5, .int 0, .ref p6, .int 0, .ref p7, .ref p8, .ref p9, .int 0]))] H := hP
  have hD : va_D A [(h0, .inr (4, [.ref p0, .ref h1, .ref h3, .ref h4, .ref h5, .ref h6, x6, x7, x8, x9, x10, x11, x12, x13, x14, x15, x16, x17, x18, x19])), (h1, .inr (6, [.ref h2, .int n0, .int k0])), (h3, .inl (cA 0, 10, .inl f3)), (h4, .inl (cA 0, 10, .inl f4)), (h5, .inl (cA 0, 10, .inl f5)), (h6, .inl (cA 0, 10, .inl f6)), (p0, .inr (7, [.int 0, .int 365, .int 0, .int 0, .ref p1, .int 0, .ref p2, .ref p3, .ref p4, .ref p5, .int 0, .ref p6, .int 0, .ref p7, .ref p8, .ref p9, .int 0]))] := hD
  refine lv_aload_n hx hb dX0_openWith_5 rfl (lv_at hl 0 rfl) ?_
  refine va_get (D := D) (ci := 4) (v := .ref h1) (C := RX0) (T := TX0) (N := 20) hx hb hts inX0 hown hK hP 0 rfl rfl 1 (by decide) (hts (.fieldLink RX0 12 "EscrowDesk$Account" "ledger" "LEscrowDesk$Ledger;") (by decide +kernel)) (fun _ h9 => h9) rfl dX0_openWith_6 ?_
  have hPc := hP.sub (ws' := [(h1, .inr (6, [.ref h2, .int n0, .int k0]))]) [1] rfl
  have hDc := hD.sub (ws' := [(h1, .inr (6, [.ref h2, .int n0, .int k0]))]) [1] (by decide) rfl
  have hFc := va_free (wc := [(h1, .inr (6, [.ref h2, .int n0, .int k0]))]) hD hS hA [1] rfl
  refine va_callv (va_runV (As := []) (rest := []) ⟨hx, hb, hml, hown, hts⟩ (c_X2_clear l D cA sa h1 h2 n0 k0 H.size) (cwV 0 hts gX0_openWith_X2_clear rfl rfl rfl (by decide +kernel) ⟨(Nat.le_of_ble_eq_true rfl), (Nat.le_of_ble_eq_true rfl)⟩) ⟨Wd.blind, va_recv hK hPc (ci := 6) (q0 := 0) rfl rfl, fun U hU hW => ⟨rfl, Wd.call hPc hDc hK hC hZ hS hFc U hU hW⟩⟩ rfl rfl hl.1 rfl (lv_room (Nat.le_of_ble_eq_true rfl)) dX0_openWith_9 ⟨(Nat.le_of_ble_eq_true rfl), (Nat.le_of_ble_eq_true rfl)⟩) hS (fun q _ h => hFc q h) hFc (fun u t H1 locs ht hvm hw hB hz1 hk1 hS => ?_)
  obtain ⟨hP1, hD1⟩ := hB
  rw [ht] at hP1
  obtain ⟨hP, hD⟩ := va_join (wr := [(h0, .inr (4, [.ref p0, .ref h1, .ref h3, .ref h4, .ref h5, .ref h6, x6, x7, x8, x9, x10, x11, x12, x13, x14, x15, x16, x17, x18, x19])), (h3, .inl (cA 0, 10, .inl f3)), (h4, .inl (cA 0, 10, .inl f4)), (h5, .inl (cA 0, 10, .inl f5)), (h6, .inl (cA 0, 10, .inl f6)), (p0, .inr (7, [.int 0, .int 365, .int 0, .int 0, .ref p1, .int 0, .ref p2, .ref p3, .ref p4, .ref p5, .int 0, .ref p6, .int 0, .ref p7, .ref p8, .ref p9, .int 0]))]) (w1 := [(h1, .inr (6, [.ref h2, .int 0, .int 0]))]) hP hD [1] [0, 2, 3, 4, 5, 6] rfl rfl (by decide) (by decide) hk1 hFc hP1 hD1
  generalize H1 = H at hP hS ⊢
  have hP : va_P D vwCl [(h0, .inr (4, [.ref p0, .ref h1, .ref h3, .ref h4, .ref h5, .ref h6, x6, x7, x8, x9, x10, x11, x12, x13, x14, x15, x16, x17, x18, x19])), (h3, .inl (cA 0, 10, .inl f3)), (h4, .inl (cA 0, 10, .inl f4)), (h5, .inl (cA 0, 10, .inl f5)), (h6, .inl (cA 0, 10, .inl f6)), (p0, .inr (7, [.int 0, .int 365, .int 0, .int 0, .ref p1, .int 0, .ref p2, .ref p3, .ref p4, .ref p5, .int 0, .ref p6, .int 0, .ref p7, .ref p8, .ref p9, .int 0])), (h1, .inr (6, [.ref h2, .int 0, .int 0]))] H := hP
  have hD : va_D A [(h0, .inr (4, [.ref p0, .ref h1, .ref h3, .ref h4, .ref h5, .ref h6, x6, x7, x8, x9, x10, x11, x12, x13, x14, x15, x16, x17, x18, x19])), (h3, .inl (cA 0, 10, .inl f3)), (h4, .inl (cA 0, 10, .inl f4)), (h5, .inl (cA 0, 10, .inl f5)), (h6, .inl (cA 0, 10, .inl f6)), (p0, .inr (7, [.int 0, .int 365, .int 0, .int 0, .ref p1, .int 0, .ref p2, .ref p3, .ref p4, .ref p5, .int 0, .ref p6, .int 0, .ref p7, .ref p8, .ref p9, .int 0])), (h1, .inr (6, [.ref h2, .int 0, .int 0]))] := hD
  refine lv_iconst (v := 0) hx hb dX0_openWith_12 (by decide) ?_
  refine lv_istore_n (lv' := [(2, .int 0), (0, .ref h0), (1, .ref p0)]) hx hb dX0_openWith_13 rfl hl (by decide) rfl (fun ls hl => ?_)
  refine lv_iload_n hx hb dX0_openWith_14 rfl (lv_at hl 0 rfl) ?_
  refine lv_bipush (v := 10) hx hb dX0_openWith_15 (by decide) ?_
  refine lv_icmp_ge (tgt := 54) hx hb dX0_openWith_17 (by decide) (fun c9 => absurd c9 (by decide)) (fun c1 => ?_)
  refine lv_aload_n hx hb dX0_openWith_20 rfl (lv_at hl 1 rfl) ?_
  refine va_get (D := D) (ci := 4) (v := .ref h3) (C := RX0) (T := TX0) (N := 20) hx hb hts inX0 hown hK hP 0 rfl rfl 2 (by decide) (hts (.fieldLink RX0 18 "EscrowDesk$Account" "state" "[I") (by decide +kernel)) (fun _ h9 => h9) rfl dX0_openWith_21 ?_
  refine lv_iload_n hx hb dX0_openWith_24 rfl (lv_at hl 0 rfl) ?_
  refine lv_iconst (v := 0) hx hb dX0_openWith_25 (by decide) ?_
  refine va_iast hx hb hK hP hD hS 1 0 rfl rfl (vp_in_iff.mpr (by decide)) dX0_openWith_26 (fun H locs hP hD hS => ?_)
  have hP : va_P D vwCl [(h0, .inr (4, [.ref p0, .ref h1, .ref h3, .ref h4, .ref h5, .ref h6, x6, x7, x8, x9, x10, x11, x12, x13, x14, x15, x16, x17, x18, x19])), (h3, .inl (cA 0, 10, .inl (upd f3 0 0))), (h4, .inl (cA 0, 10, .inl f4)), (h5, .inl (cA 0, 10, .inl f5)), (h6, .inl (cA 0, 10, .inl f6)), (p0, .inr (7, [.int 0, .int 365, .int 0, .int 0, .ref p1, .int 0, .ref p2, .ref p3, .ref p4, .ref p5, .int 0, .ref p6, .int 0, .ref p7, .ref p8, .ref p9, .int 0])), (h1, .inr (6, [.ref h2, .int 0, .int 0]))] H := hP
  have hD : va_D A [(h0, .inr (4, [.ref p0, .ref h1, .ref h3, .ref h4, .ref h5, .ref h6, x6, x7, x8, x9, x10, x11, x12, x13, x14, x15, x16, x17, x18, x19])), (h3, .inl (cA 0, 10, .inl (upd f3 0 0))), (h4, .inl (cA 0, 10, .inl f4)), (h5, .inl (cA 0, 10, .inl f5)), (h6, .inl (cA 0, 10, .inl f6)), (p0, .inr (7, [.int 0, .int 365, .int 0, .int 0, .ref p1, .int 0, .ref p2, .ref p3, .ref p4, .ref p5, .int 0, .ref p6, .int 0, .ref p7, .ref p8, .ref p9, .int 0])), (h1, .inr (6, [.ref h2, .int 0, .int 0]))] := hD
  generalize (upd f3 0 0) = fn2 at hP hD
  have hP : va_P D vwCl [(h0, .inr (4, [.ref p0, .ref h1, .ref h3, .ref h4, .ref h5, .ref h6, x6, x7, x8, x9, x10, x11, x12, x13, x14, x15, x16, x17, x18, x19])), (h3, .inl (cA 0, 10, .inl fn2)), (h4, .inl (cA 0, 10, .inl f4)), (h5, .inl (cA 0, 10, .inl f5)), (h6, .inl (cA 0, 10, .inl f6)), (p0, .inr (7, [.int 0, .int 365, .int 0, .int 0, .ref p1, .int 0, .ref p2, .ref p3, .ref p4, .ref p5, .int 0, .ref p6, .int 0, .ref p7, .ref p8, .ref p9, .int 0])), (h1, .inr (6, [.ref h2, .int 0, .int 0]))] H := hP
  have hD : va_D A [(h0, .inr (4, [.ref p0, .ref h1, .ref h3, .ref h4, .ref h5, .ref h6, x6, x7, x8, x9, x10, x11, x12, x13, x14, x15, x16, x17, x18, x19])), (h3, .inl (cA 0, 10, .inl fn2)), (h4, .inl (cA 0, 10, .inl f4)), (h5, .inl (cA 0, 10, .inl f5)), (h6, .inl (cA 0, 10, .inl f6)), (p0, .inr (7, [.int 0, .int 365, .int 0, .int 0, .ref p1, .int 0, .ref p2, .ref p3, .ref p4, .ref p5, .int 0, .ref p6, .int 0, .ref p7, .ref p8, .ref p9, .int 0])), (h1, .inr (6, [.ref h2, .int 0, .int 0]))] := hD
  refine lv_aload_n hx hb dX0_openWith_27 rfl (lv_at hl 1 rfl) ?_
  refine va_get (D := D) (ci := 4) (v := .ref h4) (C := RX0) (T := TX0) (N := 20) hx hb hts inX0 hown hK hP 0 rfl rfl 3 (by decide) (hts (.fieldLink RX0 22 "EscrowDesk$Account" "paid" "[I") (by decide +kernel)) (fun _ h9 => h9) rfl dX0_openWith_28 ?_
  refine lv_iload_n hx hb dX0_openWith_31 rfl (lv_at hl 0 rfl) ?_
  refine lv_iconst (v := 0) hx hb dX0_openWith_32 (by decide) ?_
  refine va_iast hx hb hK hP hD hS 2 0 rfl rfl (vp_in_iff.mpr (by decide)) dX0_openWith_33 (fun H locs hP hD hS => ?_)
  have hP : va_P D vwCl [(h0, .inr (4, [.ref p0, .ref h1, .ref h3, .ref h4, .ref h5, .ref h6, x6, x7, x8, x9, x10, x11, x12, x13, x14, x15, x16, x17, x18, x19])), (h3, .inl (cA 0, 10, .inl fn2)), (h4, .inl (cA 0, 10, .inl (upd f4 0 0))), (h5, .inl (cA 0, 10, .inl f5)), (h6, .inl (cA 0, 10, .inl f6)), (p0, .inr (7, [.int 0, .int 365, .int 0, .int 0, .ref p1, .int 0, .ref p2, .ref p3, .ref p4, .ref p5, .int 0, .ref p6, .int 0, .ref p7, .ref p8, .ref p9, .int 0])), (h1, .inr (6, [.ref h2, .int 0, .int 0]))] H := hP
  have hD : va_D A [(h0, .inr (4, [.ref p0, .ref h1, .ref h3, .ref h4, .ref h5, .ref h6, x6, x7, x8, x9, x10, x11, x12, x13, x14, x15, x16, x17, x18, x19])), (h3, .inl (cA 0, 10, .inl fn2)), (h4, .inl (cA 0, 10, .inl (upd f4 0 0))), (h5, .inl (cA 0, 10, .inl f5)), (h6, .inl (cA 0, 10, .inl f6)), (p0, .inr (7, [.int 0, .int 365, .int 0, .int 0, .ref p1, .int 0, .ref p2, .ref p3, .ref p4, .ref p5, .int 0, .ref p6, .int 0, .ref p7, .ref p8, .ref p9, .int 0])), (h1, .inr (6, [.ref h2, .int 0, .int 0]))] := hD
  generalize (upd f4 0 0) = fn3 at hP hD
  have hP : va_P D vwCl [(h0, .inr (4, [.ref p0, .ref h1, .ref h3, .ref h4, .ref h5, .ref h6, x6, x7, x8, x9, x10, x11, x12, x13, x14, x15, x16, x17, x18, x19])), (h3, .inl (cA 0, 10, .inl fn2)), (h4, .inl (cA 0, 10, .inl fn3)), (h5, .inl (cA 0, 10, .inl f5)), (h6, .inl (cA 0, 10, .inl f6)), (p0, .inr (7, [.int 0, .int 365, .int 0, .int 0, .ref p1, .int 0, .ref p2, .ref p3, .ref p4, .ref p5, .int 0, .ref p6, .int 0, .ref p7, .ref p8, .ref p9, .int 0])), (h1, .inr (6, [.ref h2, .int 0, .int 0]))] H := hP
  have hD : va_D A [(h0, .inr (4, [.ref p0, .ref h1, .ref h3, .ref h4, .ref h5, .ref h6, x6, x7, x8, x9, x10, x11, x12, x13, x14, x15, x16, x17, x18, x19])), (h3, .inl (cA 0, 10, .inl fn2)), (h4, .inl (cA 0, 10, .inl fn3)), (h5, .inl (cA 0, 10, .inl f5)), (h6, .inl (cA 0, 10, .inl f6)), (p0, .inr (7, [.int 0, .int 365, .int 0, .int 0, .ref p1, .int 0, .ref p2, .ref p3, .ref p4, .ref p5, .int 0, .ref p6, .int 0, .ref p7, .ref p8, .ref p9, .int 0])), (h1, .inr (6, [.ref h2, .int 0, .int 0]))] := hD
  refine lv_aload_n hx hb dX0_openWith_34 rfl (lv_at hl 1 rfl) ?_
  refine va_get (D := D) (ci := 4) (v := .ref h5) (C := RX0) (T := TX0) (N := 20) hx hb hts inX0 hown hK hP 0 rfl rfl 4 (by decide) (hts (.fieldLink RX0 25 "EscrowDesk$Account" "frozen" "[I") (by decide +kernel)) (fun _ h9 => h9) rfl dX0_openWith_35 ?_
  refine lv_iload_n hx hb dX0_openWith_38 rfl (lv_at hl 0 rfl) ?_
  refine lv_iconst (v := 0) hx hb dX0_openWith_39 (by decide) ?_
  refine va_iast hx hb hK hP hD hS 3 0 rfl rfl (vp_in_iff.mpr (by decide)) dX0_openWith_40 (fun H locs hP hD hS => ?_)
  have hP : va_P D vwCl [(h0, .inr (4, [.ref p0, .ref h1, .ref h3, .ref h4, .ref h5, .ref h6, x6, x7, x8, x9, x10, x11, x12, x13, x14, x15, x16, x17, x18, x19])), (h3, .inl (cA 0, 10, .inl fn2)), (h4, .inl (cA 0, 10, .inl fn3)), (h5, .inl (cA 0, 10, .inl (upd f5 0 0))), (h6, .inl (cA 0, 10, .inl f6)), (p0, .inr (7, [.int 0, .int 365, .int 0, .int 0, .ref p1, .int 0, .ref p2, .ref p3, .ref p4, .ref p5, .int 0, .ref p6, .int 0, .ref p7, .ref p8, .ref p9, .int 0])), (h1, .inr (6, [.ref h2, .int 0, .int 0]))] H := hP
  have hD : va_D A [(h0, .inr (4, [.ref p0, .ref h1, .ref h3, .ref h4, .ref h5, .ref h6, x6, x7, x8, x9, x10, x11, x12, x13, x14, x15, x16, x17, x18, x19])), (h3, .inl (cA 0, 10, .inl fn2)), (h4, .inl (cA 0, 10, .inl fn3)), (h5, .inl (cA 0, 10, .inl (upd f5 0 0))), (h6, .inl (cA 0, 10, .inl f6)), (p0, .inr (7, [.int 0, .int 365, .int 0, .int 0, .ref p1, .int 0, .ref p2, .ref p3, .ref p4, .ref p5, .int 0, .ref p6, .int 0, .ref p7, .ref p8, .ref p9, .int 0])), (h1, .inr (6, [.ref h2, .int 0, .int 0]))] := hD
  generalize (upd f5 0 0) = fn4 at hP hD
  have hP : va_P D vwCl [(h0, .inr (4, [.ref p0, .ref h1, .ref h3, .ref h4, .ref h5, .ref h6, x6, x7, x8, x9, x10, x11, x12, x13, x14, x15, x16, x17, x18, x19])), (h3, .inl (cA 0, 10, .inl fn2)), (h4, .inl (cA 0, 10, .inl fn3)), (h5, .inl (cA 0, 10, .inl fn4)), (h6, .inl (cA 0, 10, .inl f6)), (p0, .inr (7, [.int 0, .int 365, .int 0, .int 0, .ref p1, .int 0, .ref p2, .ref p3, .ref p4, .ref p5, .int 0, .ref p6, .int 0, .ref p7, .ref p8, .ref p9, .int 0])), (h1, .inr (6, [.ref h2, .int 0, .int 0]))] H := hP
  have hD : va_D A [(h0, .inr (4, [.ref p0, .ref h1, .ref h3, .ref h4, .ref h5, .ref h6, x6, x7, x8, x9, x10, x11, x12, x13, x14, x15, x16, x17, x18, x19])), (h3, .inl (cA 0, 10, .inl fn2)), (h4, .inl (cA 0, 10, .inl fn3)), (h5, .inl (cA 0, 10, .inl fn4)), (h6, .inl (cA 0, 10, .inl f6)), (p0, .inr (7, [.int 0, .int 365, .int 0, .int 0, .ref p1, .int 0, .ref p2, .ref p3, .ref p4, .ref p5, .int 0, .ref p6, .int 0, .ref p7, .ref p8, .ref p9, .int 0])), (h1, .inr (6, [.ref h2, .int 0, .int 0]))] := hD
  refine lv_aload_n hx hb dX0_openWith_41 rfl (lv_at hl 1 rfl) ?_
  refine va_get (D := D) (ci := 4) (v := .ref h6) (C := RX0) (T := TX0) (N := 20) hx hb hts inX0 hown hK hP 0 rfl rfl 5 (by decide) (hts (.fieldLink RX0 28 "EscrowDesk$Account" "dueDay" "[I") (by decide +kernel)) (fun _ h9 => h9) rfl dX0_openWith_42 ?_
  refine lv_iload_n hx hb dX0_openWith_45 rfl (lv_at hl 0 rfl) ?_
  refine lv_iconst (v := (-1)) hx hb dX0_openWith_46 (by decide) ?_
  refine va_iast hx hb hK hP hD hS 4 0 rfl rfl (vp_in_iff.mpr (by decide)) dX0_openWith_47 (fun H locs hP hD hS => ?_)
  have hP : va_P D vwCl [(h0, .inr (4, [.ref p0, .ref h1, .ref h3, .ref h4, .ref h5, .ref h6, x6, x7, x8, x9, x10, x11, x12, x13, x14, x15, x16, x17, x18, x19])), (h3, .inl (cA 0, 10, .inl fn2)), (h4, .inl (cA 0, 10, .inl fn3)), (h5, .inl (cA 0, 10, .inl fn4)), (h6, .inl (cA 0, 10, .inl (upd f6 0 (-1)))), (p0, .inr (7, [.int 0, .int 365, .int 0, .int 0, .ref p1, .int 0, .ref p2, .ref p3, .ref p4, .ref p5, .int 0, .ref p6, .int 0, .ref p7, .ref p8, .ref p9, .int 0])), (h1, .inr (6, [.ref h2, .int 0, .int 0]))] H := hP
  have hD : va_D A [(h0, .inr (4, [.ref p0, .ref h1, .ref h3, .ref h4, .ref h5, .ref h6, x6, x7, x8, x9, x10, x11, x12, x13, x14, x15, x16, x17, x18, x19])), (h3, .inl (cA 0, 10, .inl fn2)), (h4, .inl (cA 0, 10, .inl fn3)), (h5, .inl (cA 0, 10, .inl fn4)), (h6, .inl (cA 0, 10, .inl (upd f6 0 (-1)))), (p0, .inr (7, [.int 0, .int 365, .int 0, .int 0, .ref p1, .int 0, .ref p2, .ref p3, .ref p4, .ref p5, .int 0, .ref p6, .int 0, .ref p7, .ref p8, .ref p9, .int 0])), (h1, .inr (6, [.ref h2, .int 0, .int 0]))] := hD
  generalize (upd f6 0 (-1)) = fn5 at hP hD
  have hP : va_P D vwCl [(h0, .inr (4, [.ref p0, .ref h1, .ref h3, .ref h4, .ref h5, .ref h6, x6, x7, x8, x9, x10, x11, x12, x13, x14, x15, x16, x17, x18, x19])), (h3, .inl (cA 0, 10, .inl fn2)), (h4, .inl (cA 0, 10, .inl fn3)), (h5, .inl (cA 0, 10, .inl fn4)), (h6, .inl (cA 0, 10, .inl fn5)), (p0, .inr (7, [.int 0, .int 365, .int 0, .int 0, .ref p1, .int 0, .ref p2, .ref p3, .ref p4, .ref p5, .int 0, .ref p6, .int 0, .ref p7, .ref p8, .ref p9, .int 0])), (h1, .inr (6, [.ref h2, .int 0, .int 0]))] H := hP
  have hD : va_D A [(h0, .inr (4, [.ref p0, .ref h1, .ref h3, .ref h4, .ref h5, .ref h6, x6, x7, x8, x9, x10, x11, x12, x13, x14, x15, x16, x17, x18, x19])), (h3, .inl (cA 0, 10, .inl fn2)), (h4, .inl (cA 0, 10, .inl fn3)), (h5, .inl (cA 0, 10, .inl fn4)), (h6, .inl (cA 0, 10, .inl fn5)), (p0, .inr (7, [.int 0, .int 365, .int 0, .int 0, .ref p1, .int 0, .ref p2, .ref p3, .ref p4, .ref p5, .int 0, .ref p6, .int 0, .ref p7, .ref p8, .ref p9, .int 0])), (h1, .inr (6, [.ref h2, .int 0, .int 0]))] := hD
  refine lv_iinc (v := 1) (lv' := [(2, .int 1), (0, .ref h0), (1, .ref p0)]) hx hb dX0_openWith_48 hl (k := 0) rfl (by first | rfl | decide +kernel) (by decide) rfl (fun ls hl => ?_)
  refine lv_goto (tgt := 14) hx hb dX0_openWith_51 (by decide) ?_
  refine lv_iload_n hx hb dX0_openWith_14 rfl (lv_at hl 0 rfl) ?_
  refine lv_bipush (v := 10) hx hb dX0_openWith_15 (by decide) ?_
  refine lv_icmp_ge (tgt := 54) hx hb dX0_openWith_17 (by decide) (fun c9 => absurd c9 (by decide)) (fun c6 => ?_)
  refine lv_aload_n hx hb dX0_openWith_20 rfl (lv_at hl 1 rfl) ?_
  refine va_get (D := D) (ci := 4) (v := .ref h3) (C := RX0) (T := TX0) (N := 20) hx hb hts inX0 hown hK hP 0 rfl rfl 2 (by decide) (hts (.fieldLink RX0 18 "EscrowDesk$Account" "state" "[I") (by decide +kernel)) (fun _ h9 => h9) rfl dX0_openWith_21 ?_
  refine lv_iload_n hx hb dX0_openWith_24 rfl (lv_at hl 0 rfl) ?_
  refine lv_iconst (v := 0) hx hb dX0_openWith_25 (by decide) ?_
  refine va_iast hx hb hK hP hD hS 1 0 rfl rfl (vp_in_iff.mpr (by decide)) dX0_openWith_26 (fun H locs hP hD hS => ?_)
  have hP : va_P D vwCl [(h0, .inr (4, [.ref p0, .ref h1, .ref h3, .ref h4, .ref h5, .ref h6, x6, x7, x8, x9, x10, x11, x12, x13, x14, x15, x16, x17, x18, x19])), (h3, .inl (cA 0, 10, .inl (upd fn2 1 0))), (h4, .inl (cA 0, 10, .inl fn3)), (h5, .inl (cA 0, 10, .inl fn4)), (h6, .inl (cA 0, 10, .inl fn5)), (p0, .inr (7, [.int 0, .int 365, .int 0, .int 0, .ref p1, .int 0, .ref p2, .ref p3, .ref p4, .ref p5, .int 0, .ref p6, .int 0, .ref p7, .ref p8, .ref p9, .int 0])), (h1, .inr (6, [.ref h2, .int 0, .int 0]))] H := hP
  have hD : va_D A [(h0, .inr (4, [.ref p0, .ref h1, .ref h3, .ref h4, .ref h5, .ref h6, x6, x7, x8, x9, x10, x11, x12, x13, x14, x15, x16, x17, x18, x19])), (h3, .inl (cA 0, 10, .inl (upd fn2 1 0))), (h4, .inl (cA 0, 10, .inl fn3)), (h5, .inl (cA 0, 10, .inl fn4)), (h6, .inl (cA 0, 10, .inl fn5)), (p0, .inr (7, [.int 0, .int 365, .int 0, .int 0, .ref p1, .int 0, .ref p2, .ref p3, .ref p4, .ref p5, .int 0, .ref p6, .int 0, .ref p7, .ref p8, .ref p9, .int 0])), (h1, .inr (6, [.ref h2, .int 0, .int 0]))] := hD
  generalize (upd fn2 1 0) = fn7 at hP hD
  have hP : va_P D vwCl [(h0, .inr (4, [.ref p0, .ref h1, .ref h3, .ref h4, .ref h5, .ref h6, x6, x7, x8, x9, x10, x11, x12, x13, x14, x15, x16, x17, x18, x19])), (h3, .inl (cA 0, 10, .inl fn7)), (h4, .inl (cA 0, 10, .inl fn3)), (h5, .inl (cA 0, 10, .inl fn4)), (h6, .inl (cA 0, 10, .inl fn5)), (p0, .inr (7, [.int 0, .int 365, .int 0, .int 0, .ref p1, .int 0, .ref p2, .ref p3, .ref p4, .ref p5, .int 0, .ref p6, .int 0, .ref p7, .ref p8, .ref p9, .int 0])), (h1, .inr (6, [.ref h2, .int 0, .int 0]))] H := hP
  have hD : va_D A [(h0, .inr (4, [.ref p0, .ref h1, .ref h3, .ref h4, .ref h5, .ref h6, x6, x7, x8, x9, x10, x11, x12, x13, x14, x15, x16, x17, x18, x19])), (h3, .inl (cA 0, 10, .inl fn7)), (h4, .inl (cA 0, 10, .inl fn3)), (h5, .inl (cA 0, 10, .inl fn4)), (h6, .inl (cA 0, 10, .inl fn5)), (p0, .inr (7, [.int 0, .int 365, .int 0, .int 0, .ref p1, .int 0, .ref p2, .ref p3, .ref p4, .ref p5, .int 0, .ref p6, .int 0, .ref p7, .ref p8, .ref p9, .int 0])), (h1, .inr (6, [.ref h2, .int 0, .int 0]))] := hD
  refine lv_aload_n hx hb dX0_openWith_27 rfl (lv_at hl 1 rfl) ?_
  refine va_get (D := D) (ci := 4) (v := .ref h4) (C := RX0) (T := TX0) (N := 20) hx hb hts inX0 hown hK hP 0 rfl rfl 3 (by decide) (hts (.fieldLink RX0 22 "EscrowDesk$Account" "paid" "[I") (by decide +kernel)) (fun _ h9 => h9) rfl dX0_openWith_28 ?_
  refine lv_iload_n hx hb dX0_openWith_31 rfl (lv_at hl 0 rfl) ?_
  refine lv_iconst (v := 0) hx hb dX0_openWith_32 (by decide) ?_
  refine va_iast hx hb hK hP hD hS 2 0 rfl rfl (vp_in_iff.mpr (by decide)) dX0_openWith_33 (fun H locs hP hD hS => ?_)
  have hP : va_P D vwCl [(h0, .inr (4, [.ref p0, .ref h1, .ref h3, .ref h4, .ref h5, .ref h6, x6, x7, x8, x9, x10, x11, x12, x13, x14, x15, x16, x17, x18, x19])), (h3, .inl (cA 0, 10, .inl fn7)), (h4, .inl (cA 0, 10, .inl (upd fn3 1 0))), (h5, .inl (cA 0, 10, .inl fn4)), (h6, .inl (cA 0, 10, .inl fn5)), (p0, .inr (7, [.int 0, .int 365, .int 0, .int 0, .ref p1, .int 0, .ref p2, .ref p3, .ref p4, .ref p5, .int 0, .ref p6, .int 0, .ref p7, .ref p8, .ref p9, .int 0])), (h1, .inr (6, [.ref h2, .int 0, .int 0]))] H := hP
  have hD : va_D A [(h0, .inr (4, [.ref p0, .ref h1, .ref h3, .ref h4, .ref h5, .ref h6, x6, x7, x8, x9, x10, x11, x12, x13, x14, x15, x16, x17, x18, x19])), (h3, .inl (cA 0, 10, .inl fn7)), (h4, .inl (cA 0, 10, .inl (upd fn3 1 0))), (h5, .inl (cA 0, 10, .inl fn4)), (h6, .inl (cA 0, 10, .inl fn5)), (p0, .inr (7, [.int 0, .int 365, .int 0, .int 0, .ref p1, .int 0, .ref p2, .ref p3, .ref p4, .ref p5, .int 0, .ref p6, .int 0, .ref p7, .ref p8, .ref p9, .int 0])), (h1, .inr (6, [.ref h2, .int 0, .int 0]))] := hD
  generalize (upd fn3 1 0) = fn8 at hP hD
  have hP : va_P D vwCl [(h0, .inr (4, [.ref p0, .ref h1, .ref h3, .ref h4, .ref h5, .ref h6, x6, x7, x8, x9, x10, x11, x12, x13, x14, x15, x16, x17, x18, x19])), (h3, .inl (cA 0, 10, .inl fn7)), (h4, .inl (cA 0, 10, .inl fn8)), (h5, .inl (cA 0, 10, .inl fn4)), (h6, .inl (cA 0, 10, .inl fn5)), (p0, .inr (7, [.int 0, .int 365, .int 0, .int 0, .ref p1, .int 0, .ref p2, .ref p3, .ref p4, .ref p5, .int 0, .ref p6, .int 0, .ref p7, .ref p8, .ref p9, .int 0])), (h1, .inr (6, [.ref h2, .int 0, .int 0]))] H := hP
  have hD : va_D A [(h0, .inr (4, [.ref p0, .ref h1, .ref h3, .ref h4, .ref h5, .ref h6, x6, x7, x8, x9, x10, x11, x12, x13, x14, x15, x16, x17, x18, x19])), (h3, .inl (cA 0, 10, .inl fn7)), (h4, .inl (cA 0, 10, .inl fn8)), (h5, .inl (cA 0, 10, .inl fn4)), (h6, .inl (cA 0, 10, .inl fn5)), (p0, .inr (7, [.int 0, .int 365, .int 0, .int 0, .ref p1, .int 0, .ref p2, .ref p3, .ref p4, .ref p5, .int 0, .ref p6, .int 0, .ref p7, .ref p8, .ref p9, .int 0])), (h1, .inr (6, [.ref h2, .int 0, .int 0]))] := hD
  refine lv_aload_n hx hb dX0_openWith_34 rfl (lv_at hl 1 rfl) ?_
  refine va_get (D := D) (ci := 4) (v := .ref h5) (C := RX0) (T := TX0) (N := 20) hx hb hts inX0 hown hK hP 0 rfl rfl 4 (by decide) (hts (.fieldLink RX0 25 "EscrowDesk$Account" "frozen" "[I") (by decide +kernel)) (fun _ h9 => h9) rfl dX0_openWith_35 ?_
  refine lv_iload_n hx hb dX0_openWith_38 rfl (lv_at hl 0 rfl) ?_
  refine lv_iconst (v := 0) hx hb dX0_openWith_39 (by decide) ?_
  refine va_iast hx hb hK hP hD hS 3 0 rfl rfl (vp_in_iff.mpr (by decide)) dX0_openWith_40 (fun H locs hP hD hS => ?_)
  have hP : va_P D vwCl [(h0, .inr (4, [.ref p0, .ref h1, .ref h3, .ref h4, .ref h5, .ref h6, x6, x7, x8, x9, x10, x11, x12, x13, x14, x15, x16, x17, x18, x19])), (h3, .inl (cA 0, 10, .inl fn7)), (h4, .inl (cA 0, 10, .inl fn8)), (h5, .inl (cA 0, 10, .inl (upd fn4 1 0))), (h6, .inl (cA 0, 10, .inl fn5)), (p0, .inr (7, [.int 0, .int 365, .int 0, .int 0, .ref p1, .int 0, .ref p2, .ref p3, .ref p4, .ref p5, .int 0, .ref p6, .int 0, .ref p7, .ref p8, .ref p9, .int 0])), (h1, .inr (6, [.ref h2, .int 0, .int 0]))] H := hP
  have hD : va_D A [(h0, .inr (4, [.ref p0, .ref h1, .ref h3, .ref h4, .ref h5, .ref h6, x6, x7, x8, x9, x10, x11, x12, x13, x14, x15, x16, x17, x18, x19])), (h3, .inl (cA 0, 10, .inl fn7)), (h4, .inl (cA 0, 10, .inl fn8)), (h5, .inl (cA 0, 10, .inl (upd fn4 1 0))), (h6, .inl (cA 0, 10, .inl fn5)), (p0, .inr (7, [.int 0, .int 365, .int 0, .int 0, .ref p1, .int 0, .ref p2, .ref p3, .ref p4, .ref p5, .int 0, .ref p6, .int 0, .ref p7, .ref p8, .ref p9, .int 0])), (h1, .inr (6, [.ref h2, .int 0, .int 0]))] := hD
  generalize (upd fn4 1 0) = fn9 at hP hD
  have hP : va_P D vwCl [(h0, .inr (4, [.ref p0, .ref h1, .ref h3, .ref h4, .ref h5, .ref h6, x6, x7, x8, x9, x10, x11, x12, x13, x14, x15, x16, x17, x18, x19])), (h3, .inl (cA 0, 10, .inl fn7)), (h4, .inl (cA 0, 10, .inl fn8)), (h5, .inl (cA 0, 10, .inl fn9)), (h6, .inl (cA 0, 10, .inl fn5)), (p0, .inr (7, [.int 0, .int 365, .int 0, .int 0, .ref p1, .int 0, .ref p2, .ref p3, .ref p4, .ref p5, .int 0, .ref p6, .int 0, .ref p7, .ref p8, .ref p9, .int 0])), (h1, .inr (6, [.ref h2, .int 0, .int 0]))] H := hP
  have hD : va_D A [(h0, .inr (4, [.ref p0, .ref h1, .ref h3, .ref h4, .ref h5, .ref h6, x6, x7, x8, x9, x10, x11, x12, x13, x14, x15, x16, x17, x18, x19])), (h3, .inl (cA 0, 10, .inl fn7)), (h4, .inl (cA 0, 10, .inl fn8)), (h5, .inl (cA 0, 10, .inl fn9)), (h6, .inl (cA 0, 10, .inl fn5)), (p0, .inr (7, [.int 0, .int 365, .int 0, .int 0, .ref p1, .int 0, .ref p2, .ref p3, .ref p4, .ref p5, .int 0, .ref p6, .int 0, .ref p7, .ref p8, .ref p9, .int 0])), (h1, .inr (6, [.ref h2, .int 0, .int 0]))] := hD
  refine lv_aload_n hx hb dX0_openWith_41 rfl (lv_at hl 1 rfl) ?_
  refine va_get (D := D) (ci := 4) (v := .ref h6) (C := RX0) (T := TX0) (N := 20) hx hb hts inX0 hown hK hP 0 rfl rfl 5 (by decide) (hts (.fieldLink RX0 28 "EscrowDesk$Account" "dueDay" "[I") (by decide +kernel)) (fun _ h9 => h9) rfl dX0_openWith_42 ?_
  refine lv_iload_n hx hb dX0_openWith_45 rfl (lv_at hl 0 rfl) ?_
  refine lv_iconst (v := (-1)) hx hb dX0_openWith_46 (by decide) ?_
  refine va_iast hx hb hK hP hD hS 4 0 rfl rfl (vp_in_iff.mpr (by decide)) dX0_openWith_47 (fun H locs hP hD hS => ?_)
  have hP : va_P D vwCl [(h0, .inr (4, [.ref p0, .ref h1, .ref h3, .ref h4, .ref h5, .ref h6, x6, x7, x8, x9, x10, x11, x12, x13, x14, x15, x16, x17, x18, x19])), (h3, .inl (cA 0, 10, .inl fn7)), (h4, .inl (cA 0, 10, .inl fn8)), (h5, .inl (cA 0, 10, .inl fn9)), (h6, .inl (cA 0, 10, .inl (upd fn5 1 (-1)))), (p0, .inr (7, [.int 0, .int 365, .int 0, .int 0, .ref p1, .int 0, .ref p2, .ref p3, .ref p4, .ref p5, .int 0, .ref p6, .int 0, .ref p7, .ref p8, .ref p9, .int 0])), (h1, .inr (6, [.ref h2, .int 0, .int 0]))] H := hP
  have hD : va_D A [(h0, .inr (4, [.ref p0, .ref h1, .ref h3, .ref h4, .ref h5, .ref h6, x6, x7, x8, x9, x10, x11, x12, x13, x14, x15, x16, x17, x18, x19])), (h3, .inl (cA 0, 10, .inl fn7)), (h4, .inl (cA 0, 10, .inl fn8)), (h5, .inl (cA 0, 10, .inl fn9)), (h6, .inl (cA 0, 10, .inl (upd fn5 1 (-1)))), (p0, .inr (7, [.int 0, .int 365, .int 0, .int 0, .ref p1, .int 0, .ref p2, .ref p3, .ref p4, .ref p5, .int 0, .ref p6, .int 0, .ref p7, .ref p8, .ref p9, .int 0])), (h1, .inr (6, [.ref h2, .int 0, .int 0]))] := hD
  generalize (upd fn5 1 (-1)) = fn10 at hP hD
  have hP : va_P D vwCl [(h0, .inr (4, [.ref p0, .ref h1, .ref h3, .ref h4, .ref h5, .ref h6, x6, x7, x8, x9, x10, x11, x12, x13, x14, x15, x16, x17, x18, x19])), (h3, .inl (cA 0, 10, .inl fn7)), (h4, .inl (cA 0, 10, .inl fn8)), (h5, .inl (cA 0, 10, .inl fn9)), (h6, .inl (cA 0, 10, .inl fn10)), (p0, .inr (7, [.int 0, .int 365, .int 0, .int 0, .ref p1, .int 0, .ref p2, .ref p3, .ref p4, .ref p5, .int 0, .ref p6, .int 0, .ref p7, .ref p8, .ref p9, .int 0])), (h1, .inr (6, [.ref h2, .int 0, .int 0]))] H := hP
  have hD : va_D A [(h0, .inr (4, [.ref p0, .ref h1, .ref h3, .ref h4, .ref h5, .ref h6, x6, x7, x8, x9, x10, x11, x12, x13, x14, x15, x16, x17, x18, x19])), (h3, .inl (cA 0, 10, .inl fn7)), (h4, .inl (cA 0, 10, .inl fn8)), (h5, .inl (cA 0, 10, .inl fn9)), (h6, .inl (cA 0, 10, .inl fn10)), (p0, .inr (7, [.int 0, .int 365, .int 0, .int 0, .ref p1, .int 0, .ref p2, .ref p3, .ref p4, .ref p5, .int 0, .ref p6, .int 0, .ref p7, .ref p8, .ref p9, .int 0])), (h1, .inr (6, [.ref h2, .int 0, .int 0]))] := hD
  refine lv_iinc (v := 2) (lv' := [(2, .int 2), (0, .ref h0), (1, .ref p0)]) hx hb dX0_openWith_48 hl (k := 0) rfl (by first | rfl | decide +kernel) (by decide) rfl (fun ls hl => ?_)
  refine lv_goto (tgt := 14) hx hb dX0_openWith_51 (by decide) ?_
  refine lv_iload_n hx hb dX0_openWith_14 rfl (lv_at hl 0 rfl) ?_
  refine lv_bipush (v := 10) hx hb dX0_openWith_15 (by decide) ?_
  refine lv_icmp_ge (tgt := 54) hx hb dX0_openWith_17 (by decide) (fun c9 => absurd c9 (by decide)) (fun c11 => ?_)
  refine lv_aload_n hx hb dX0_openWith_20 rfl (lv_at hl 1 rfl) ?_
  refine va_get (D := D) (ci := 4) (v := .ref h3) (C := RX0) (T := TX0) (N := 20) hx hb hts inX0 hown hK hP 0 rfl rfl 2 (by decide) (hts (.fieldLink RX0 18 "EscrowDesk$Account" "state" "[I") (by decide +kernel)) (fun _ h9 => h9) rfl dX0_openWith_21 ?_
  refine lv_iload_n hx hb dX0_openWith_24 rfl (lv_at hl 0 rfl) ?_
  refine lv_iconst (v := 0) hx hb dX0_openWith_25 (by decide) ?_
  refine va_iast hx hb hK hP hD hS 1 0 rfl rfl (vp_in_iff.mpr (by decide)) dX0_openWith_26 (fun H locs hP hD hS => ?_)
  have hP : va_P D vwCl [(h0, .inr (4, [.ref p0, .ref h1, .ref h3, .ref h4, .ref h5, .ref h6, x6, x7, x8, x9, x10, x11, x12, x13, x14, x15, x16, x17, x18, x19])), (h3, .inl (cA 0, 10, .inl (upd fn7 2 0))), (h4, .inl (cA 0, 10, .inl fn8)), (h5, .inl (cA 0, 10, .inl fn9)), (h6, .inl (cA 0, 10, .inl fn10)), (p0, .inr (7, [.int 0, .int 365, .int 0, .int 0, .ref p1, .int 0, .ref p2, .ref p3, .ref p4, .ref p5, .int 0, .ref p6, .int 0, .ref p7, .ref p8, .ref p9, .int 0])), (h1, .inr (6, [.ref h2, .int 0, .int 0]))] H := hP
  have hD : va_D A [(h0, .inr (4, [.ref p0, .ref h1, .ref h3, .ref h4, .ref h5, .ref h6, x6, x7, x8, x9, x10, x11, x12, x13, x14, x15, x16, x17, x18, x19])), (h3, .inl (cA 0, 10, .inl (upd fn7 2 0))), (h4, .inl (cA 0, 10, .inl fn8)), (h5, .inl (cA 0, 10, .inl fn9)), (h6, .inl (cA 0, 10, .inl fn10)), (p0, .inr (7, [.int 0, .int 365, .int 0, .int 0, .ref p1, .int 0, .ref p2, .ref p3, .ref p4, .ref p5, .int 0, .ref p6, .int 0, .ref p7, .ref p8, .ref p9, .int 0])), (h1, .inr (6, [.ref h2, .int 0, .int 0]))] := hD
  generalize (upd fn7 2 0) = fn12 at hP hD
  have hP : va_P D vwCl [(h0, .inr (4, [.ref p0, .ref h1, .ref h3, .ref h4, .ref h5, .ref h6, x6, x7, x8, x9, x10, x11, x12, x13, x14, x15, x16, x17, x18, x19])), (h3, .inl (cA 0, 10, .inl fn12)), (h4, .inl (cA 0, 10, .inl fn8)), (h5, .inl (cA 0, 10, .inl fn9)), (h6, .inl (cA 0, 10, .inl fn10)), (p0, .inr (7, [.int 0, .int 365, .int 0, .int 0, .ref p1, .int 0, .ref p2, .ref p3, .ref p4, .ref p5, .int 0, .ref p6, .int 0, .ref p7, .ref p8, .ref p9, .int 0])), (h1, .inr (6, [.ref h2, .int 0, .int 0]))] H := hP
  have hD : va_D A [(h0, .inr (4, [.ref p0, .ref h1, .ref h3, .ref h4, .ref h5, .ref h6, x6, x7, x8, x9, x10, x11, x12, x13, x14, x15, x16, x17, x18, x19])), (h3, .inl (cA 0, 10, .inl fn12)), (h4, .inl (cA 0, 10, .inl fn8)), (h5, .inl (cA 0, 10, .inl fn9)), (h6, .inl (cA 0, 10, .inl fn10)), (p0, .inr (7, [.int 0, .int 365, .int 0, .int 0, .ref p1, .int 0, .ref p2, .ref p3, .ref p4, .ref p5, .int 0, .ref p6, .int 0, .ref p7, .ref p8, .ref p9, .int 0])), (h1, .inr (6, [.ref h2, .int 0, .int 0]))] := hD
  refine lv_aload_n hx hb dX0_openWith_27 rfl (lv_at hl 1 rfl) ?_
  refine va_get (D := D) (ci := 4) (v := .ref h4) (C := RX0) (T := TX0) (N := 20) hx hb hts inX0 hown hK hP 0 rfl rfl 3 (by decide) (hts (.fieldLink RX0 22 "EscrowDesk$Account" "paid" "[I") (by decide +kernel)) (fun _ h9 => h9) rfl dX0_openWith_28 ?_
  refine lv_iload_n hx hb dX0_openWith_31 rfl (lv_at hl 0 rfl) ?_
  refine lv_iconst (v := 0) hx hb dX0_openWith_32 (by decide) ?_
  refine va_iast hx hb hK hP hD hS 2 0 rfl rfl (vp_in_iff.mpr (by decide)) dX0_openWith_33 (fun H locs hP hD hS => ?_)
  have hP : va_P D vwCl [(h0, .inr (4, [.ref p0, .ref h1, .ref h3, .ref h4, .ref h5, .ref h6, x6, x7, x8, x9, x10, x11, x12, x13, x14, x15, x16, x17, x18, x19])), (h3, .inl (cA 0, 10, .inl fn12)), (h4, .inl (cA 0, 10, .inl (upd fn8 2 0))), (h5, .inl (cA 0, 10, .inl fn9)), (h6, .inl (cA 0, 10, .inl fn10)), (p0, .inr (7, [.int 0, .int 365, .int 0, .int 0, .ref p1, .int 0, .ref p2, .ref p3, .ref p4, .ref p5, .int 0, .ref p6, .int 0, .ref p7, .ref p8, .ref p9, .int 0])), (h1, .inr (6, [.ref h2, .int 0, .int 0]))] H := hP
  have hD : va_D A [(h0, .inr (4, [.ref p0, .ref h1, .ref h3, .ref h4, .ref h5, .ref h6, x6, x7, x8, x9, x10, x11, x12, x13, x14, x15, x16, x17, x18, x19])), (h3, .inl (cA 0, 10, .inl fn12)), (h4, .inl (cA 0, 10, .inl (upd fn8 2 0))), (h5, .inl (cA 0, 10, .inl fn9)), (h6, .inl (cA 0, 10, .inl fn10)), (p0, .inr (7, [.int 0, .int 365, .int 0, .int 0, .ref p1, .int 0, .ref p2, .ref p3, .ref p4, .ref p5, .int 0, .ref p6, .int 0, .ref p7, .ref p8, .ref p9, .int 0])), (h1, .inr (6, [.ref h2, .int 0, .int 0]))] := hD
  generalize (upd fn8 2 0) = fn13 at hP hD
  have hP : va_P D vwCl [(h0, .inr (4, [.ref p0, .ref h1, .ref h3, .ref h4, .ref h5, .ref h6, x6, x7, x8, x9, x10, x11, x12, x13, x14, x15, x16, x17, x18, x19])), (h3, .inl (cA 0, 10, .inl fn12)), (h4, .inl (cA 0, 10, .inl fn13)), (h5, .inl (cA 0, 10, .inl fn9)), (h6, .inl (cA 0, 10, .inl fn10)), (p0, .inr (7, [.int 0, .int 365, .int 0, .int 0, .ref p1, .int 0, .ref p2, .ref p3, .ref p4, .ref p5, .int 0, .ref p6, .int 0, .ref p7, .ref p8, .ref p9, .int 0])), (h1, .inr (6, [.ref h2, .int 0, .int 0]))] H := hP
  have hD : va_D A [(h0, .inr (4, [.ref p0, .ref h1, .ref h3, .ref h4, .ref h5, .ref h6, x6, x7, x8, x9, x10, x11, x12, x13, x14, x15, x16, x17, x18, x19])), (h3, .inl (cA 0, 10, .inl fn12)), (h4, .inl (cA 0, 10, .inl fn13)), (h5, .inl (cA 0, 10, .inl fn9)), (h6, .inl (cA 0, 10, .inl fn10)), (p0, .inr (7, [.int 0, .int 365, .int 0, .int 0, .ref p1, .int 0, .ref p2, .ref p3, .ref p4, .ref p5, .int 0, .ref p6, .int 0, .ref p7, .ref p8, .ref p9, .int 0])), (h1, .inr (6, [.ref h2, .int 0, .int 0]))] := hD
  refine lv_aload_n hx hb dX0_openWith_34 rfl (lv_at hl 1 rfl) ?_
  refine va_get (D := D) (ci := 4) (v := .ref h5) (C := RX0) (T := TX0) (N := 20) hx hb hts inX0 hown hK hP 0 rfl rfl 4 (by decide) (hts (.fieldLink RX0 25 "EscrowDesk$Account" "frozen" "[I") (by decide +kernel)) (fun _ h9 => h9) rfl dX0_openWith_35 ?_
  refine lv_iload_n hx hb dX0_openWith_38 rfl (lv_at hl 0 rfl) ?_
  refine lv_iconst (v := 0) hx hb dX0_openWith_39 (by decide) ?_
  refine va_iast hx hb hK hP hD hS 3 0 rfl rfl (vp_in_iff.mpr (by decide)) dX0_openWith_40 (fun H locs hP hD hS => ?_)
  have hP : va_P D vwCl [(h0, .inr (4, [.ref p0, .ref h1, .ref h3, .ref h4, .ref h5, .ref h6, x6, x7, x8, x9, x10, x11, x12, x13, x14, x15, x16, x17, x18, x19])), (h3, .inl (cA 0, 10, .inl fn12)), (h4, .inl (cA 0, 10, .inl fn13)), (h5, .inl (cA 0, 10, .inl (upd fn9 2 0))), (h6, .inl (cA 0, 10, .inl fn10)), (p0, .inr (7, [.int 0, .int 365, .int 0, .int 0, .ref p1, .int 0, .ref p2, .ref p3, .ref p4, .ref p5, .int 0, .ref p6, .int 0, .ref p7, .ref p8, .ref p9, .int 0])), (h1, .inr (6, [.ref h2, .int 0, .int 0]))] H := hP
  have hD : va_D A [(h0, .inr (4, [.ref p0, .ref h1, .ref h3, .ref h4, .ref h5, .ref h6, x6, x7, x8, x9, x10, x11, x12, x13, x14, x15, x16, x17, x18, x19])), (h3, .inl (cA 0, 10, .inl fn12)), (h4, .inl (cA 0, 10, .inl fn13)), (h5, .inl (cA 0, 10, .inl (upd fn9 2 0))), (h6, .inl (cA 0, 10, .inl fn10)), (p0, .inr (7, [.int 0, .int 365, .int 0, .int 0, .ref p1, .int 0, .ref p2, .ref p3, .ref p4, .ref p5, .int 0, .ref p6, .int 0, .ref p7, .ref p8, .ref p9, .int 0])), (h1, .inr (6, [.ref h2, .int 0, .int 0]))] := hD
  generalize (upd fn9 2 0) = fn14 at hP hD
  have hP : va_P D vwCl [(h0, .inr (4, [.ref p0, .ref h1, .ref h3, .ref h4, .ref h5, .ref h6, x6, x7, x8, x9, x10, x11, x12, x13, x14, x15, x16, x17, x18, x19])), (h3, .inl (cA 0, 10, .inl fn12)), (h4, .inl (cA 0, 10, .inl fn13)), (h5, .inl (cA 0, 10, .inl fn14)), (h6, .inl (cA 0, 10, .inl fn10)), (p0, .inr (7, [.int 0, .int 365, .int 0, .int 0, .ref p1, .int 0, .ref p2, .ref p3, .ref p4, .ref p5, .int 0, .ref p6, .int 0, .ref p7, .ref p8, .ref p9, .int 0])), (h1, .inr (6, [.ref h2, .int 0, .int 0]))] H := hP
  have hD : va_D A [(h0, .inr (4, [.ref p0, .ref h1, .ref h3, .ref h4, .ref h5, .ref h6, x6, x7, x8, x9, x10, x11, x12, x13, x14, x15, x16, x17, x18, x19])), (h3, .inl (cA 0, 10, .inl fn12)), (h4, .inl (cA 0, 10, .inl fn13)), (h5, .inl (cA 0, 10, .inl fn14)), (h6, .inl (cA 0, 10, .inl fn10)), (p0, .inr (7, [.int 0, .int 365, .int 0, .int 0, .ref p1, .int 0, .ref p2, .ref p3, .ref p4, .ref p5, .int 0, .ref p6, .int 0, .ref p7, .ref p8, .ref p9, .int 0])), (h1, .inr (6, [.ref h2, .int 0, .int 0]))] := hD
  refine lv_aload_n hx hb dX0_openWith_41 rfl (lv_at hl 1 rfl) ?_
  refine va_get (D := D) (ci := 4) (v := .ref h6) (C := RX0) (T := TX0) (N := 20) hx hb hts inX0 hown hK hP 0 rfl rfl 5 (by decide) (hts (.fieldLink RX0 28 "EscrowDesk$Account" "dueDay" "[I") (by decide +kernel)) (fun _ h9 => h9) rfl dX0_openWith_42 ?_
  refine lv_iload_n hx hb dX0_openWith_45 rfl (lv_at hl 0 rfl) ?_
  refine lv_iconst (v := (-1)) hx hb dX0_openWith_46 (by decide) ?_
  refine va_iast hx hb hK hP hD hS 4 0 rfl rfl (vp_in_iff.mpr (by decide)) dX0_openWith_47 (fun H locs hP hD hS => ?_)
  have hP : va_P D vwCl [(h0, .inr (4, [.ref p0, .ref h1, .ref h3, .ref h4, .ref h5, .ref h6, x6, x7, x8, x9, x10, x11, x12, x13, x14, x15, x16, x17, x18, x19])), (h3, .inl (cA 0, 10, .inl fn12)), (h4, .inl (cA 0, 10, .inl fn13)), (h5, .inl (cA 0, 10, .inl fn14)), (h6, .inl (cA 0, 10, .inl (upd fn10 2 (-1)))), (p0, .inr (7, [.int 0, .int 365, .int 0, .int 0, .ref p1, .int 0, .ref p2, .ref p3, .ref p4, .ref p5, .int 0, .ref p6, .int 0, .ref p7, .ref p8, .ref p9, .int 0])), (h1, .inr (6, [.ref h2, .int 0, .int 0]))] H := hP
  have hD : va_D A [(h0, .inr (4, [.ref p0, .ref h1, .ref h3, .ref h4, .ref h5, .ref h6, x6, x7, x8, x9, x10, x11, x12, x13, x14, x15, x16, x17, x18, x19])), (h3, .inl (cA 0, 10, .inl fn12)), (h4, .inl (cA 0, 10, .inl fn13)), (h5, .inl (cA 0, 10, .inl fn14)), (h6, .inl (cA 0, 10, .inl (upd fn10 2 (-1)))), (p0, .inr (7, [.int 0, .int 365, .int 0, .int 0, .ref p1, .int 0, .ref p2, .ref p3, .ref p4, .ref p5, .int 0, .ref p6, .int 0, .ref p7, .ref p8, .ref p9, .int 0])), (h1, .inr (6, [.ref h2, .int 0, .int 0]))] := hD
  generalize (upd fn10 2 (-1)) = fn15 at hP hD
  have hP : va_P D vwCl [(h0, .inr (4, [.ref p0, .ref h1, .ref h3, .ref h4, .ref h5, .ref h6, x6, x7, x8, x9, x10, x11, x12, x13, x14, x15, x16, x17, x18, x19])), (h3, .inl (cA 0, 10, .inl fn12)), (h4, .inl (cA 0, 10, .inl fn13)), (h5, .inl (cA 0, 10, .inl fn14)), (h6, .inl (cA 0, 10, .inl fn15)), (p0, .inr (7, [.int 0, .int 365, .int 0, .int 0, .ref p1, .int 0, .ref p2, .ref p3, .ref p4, .ref p5, .int 0, .ref p6, .int 0, .ref p7, .ref p8, .ref p9, .int 0])), (h1, .inr (6, [.ref h2, .int 0, .int 0]))] H := hP
  have hD : va_D A [(h0, .inr (4, [.ref p0, .ref h1, .ref h3, .ref h4, .ref h5, .ref h6, x6, x7, x8, x9, x10, x11, x12, x13, x14, x15, x16, x17, x18, x19])), (h3, .inl (cA 0, 10, .inl fn12)), (h4, .inl (cA 0, 10, .inl fn13)), (h5, .inl (cA 0, 10, .inl fn14)), (h6, .inl (cA 0, 10, .inl fn15)), (p0, .inr (7, [.int 0, .int 365, .int 0, .int 0, .ref p1, .int 0, .ref p2, .ref p3, .ref p4, .ref p5, .int 0, .ref p6, .int 0, .ref p7, .ref p8, .ref p9, .int 0])), (h1, .inr (6, [.ref h2, .int 0, .int 0]))] := hD
  refine lv_iinc (v := 3) (lv' := [(2, .int 3), (0, .ref h0), (1, .ref p0)]) hx hb dX0_openWith_48 hl (k := 0) rfl (by first | rfl | decide +kernel) (by decide) rfl (fun ls hl => ?_)
  refine lv_goto (tgt := 14) hx hb dX0_openWith_51 (by decide) ?_
  refine lv_iload_n hx hb dX0_openWith_14 rfl (lv_at hl 0 rfl) ?_
  refine lv_bipush (v := 10) hx hb dX0_openWith_15 (by decide) ?_
  refine lv_icmp_ge (tgt := 54) hx hb dX0_openWith_17 (by decide) (fun c9 => absurd c9 (by decide)) (fun c16 => ?_)
  refine lv_aload_n hx hb dX0_openWith_20 rfl (lv_at hl 1 rfl) ?_
  refine va_get (D := D) (ci := 4) (v := .ref h3) (C := RX0) (T := TX0) (N := 20) hx hb hts inX0 hown hK hP 0 rfl rfl 2 (by decide) (hts (.fieldLink RX0 18 "EscrowDesk$Account" "state" "[I") (by decide +kernel)) (fun _ h9 => h9) rfl dX0_openWith_21 ?_
  refine lv_iload_n hx hb dX0_openWith_24 rfl (lv_at hl 0 rfl) ?_
  refine lv_iconst (v := 0) hx hb dX0_openWith_25 (by decide) ?_
  refine va_iast hx hb hK hP hD hS 1 0 rfl rfl (vp_in_iff.mpr (by decide)) dX0_openWith_26 (fun H locs hP hD hS => ?_)
  have hP : va_P D vwCl [(h0, .inr (4, [.ref p0, .ref h1, .ref h3, .ref h4, .ref h5, .ref h6, x6, x7, x8, x9, x10, x11, x12, x13, x14, x15, x16, x17, x18, x19])), (h3, .inl (cA 0, 10, .inl (upd fn12 3 0))), (h4, .inl (cA 0, 10, .inl fn13)), (h5, .inl (cA 0, 10, .inl fn14)), (h6, .inl (cA 0, 10, .inl fn15)), (p0, .inr (7, [.int 0, .int 365, .int 0, .int 0, .ref p1, .int 0, .ref p2, .ref p3, .ref p4, .ref p5, .int 0, .ref p6, .int 0, .ref p7, .ref p8, .ref p9, .int 0])), (h1, .inr (6, [.ref h2, .int 0, .int 0]))] H := hP
  have hD : va_D A [(h0, .inr (4, [.ref p0, .ref h1, .ref h3, .ref h4, .ref h5, .ref h6, x6, x7, x8, x9, x10, x11, x12, x13, x14, x15, x16, x17, x18, x19])), (h3, .inl (cA 0, 10, .inl (upd fn12 3 0))), (h4, .inl (cA 0, 10, .inl fn13)), (h5, .inl (cA 0, 10, .inl fn14)), (h6, .inl (cA 0, 10, .inl fn15)), (p0, .inr (7, [.int 0, .int 365, .int 0, .int 0, .ref p1, .int 0, .ref p2, .ref p3, .ref p4, .ref p5, .int 0, .ref p6, .int 0, .ref p7, .ref p8, .ref p9, .int 0])), (h1, .inr (6, [.ref h2, .int 0, .int 0]))] := hD
  generalize (upd fn12 3 0) = fn17 at hP hD
  have hP : va_P D vwCl [(h0, .inr (4, [.ref p0, .ref h1, .ref h3, .ref h4, .ref h5, .ref h6, x6, x7, x8, x9, x10, x11, x12, x13, x14, x15, x16, x17, x18, x19])), (h3, .inl (cA 0, 10, .inl fn17)), (h4, .inl (cA 0, 10, .inl fn13)), (h5, .inl (cA 0, 10, .inl fn14)), (h6, .inl (cA 0, 10, .inl fn15)), (p0, .inr (7, [.int 0, .int 365, .int 0, .int 0, .ref p1, .int 0, .ref p2, .ref p3, .ref p4, .ref p5, .int 0, .ref p6, .int 0, .ref p7, .ref p8, .ref p9, .int 0])), (h1, .inr (6, [.ref h2, .int 0, .int 0]))] H := hP
  have hD : va_D A [(h0, .inr (4, [.ref p0, .ref h1, .ref h3, .ref h4, .ref h5, .ref h6, x6, x7, x8, x9, x10, x11, x12, x13, x14, x15, x16, x17, x18, x19])), (h3, .inl (cA 0, 10, .inl fn17)), (h4, .inl (cA 0, 10, .inl fn13)), (h5, .inl (cA 0, 10, .inl fn14)), (h6, .inl (cA 0, 10, .inl fn15)), (p0, .inr (7, [.int 0, .int 365, .int 0, .int 0, .ref p1, .int 0, .ref p2, .ref p3, .ref p4, .ref p5, .int 0, .ref p6, .int 0, .ref p7, .ref p8, .ref p9, .int 0])), (h1, .inr (6, [.ref h2, .int 0, .int 0]))] := hD
  refine lv_aload_n hx hb dX0_openWith_27 rfl (lv_at hl 1 rfl) ?_
  refine va_get (D := D) (ci := 4) (v := .ref h4) (C := RX0) (T := TX0) (N := 20) hx hb hts inX0 hown hK hP 0 rfl rfl 3 (by decide) (hts (.fieldLink RX0 22 "EscrowDesk$Account" "paid" "[I") (by decide +kernel)) (fun _ h9 => h9) rfl dX0_openWith_28 ?_
  refine lv_iload_n hx hb dX0_openWith_31 rfl (lv_at hl 0 rfl) ?_
  refine lv_iconst (v := 0) hx hb dX0_openWith_32 (by decide) ?_
  refine va_iast hx hb hK hP hD hS 2 0 rfl rfl (vp_in_iff.mpr (by decide)) dX0_openWith_33 (fun H locs hP hD hS => ?_)
  have hP : va_P D vwCl [(h0, .inr (4, [.ref p0, .ref h1, .ref h3, .ref h4, .ref h5, .ref h6, x6, x7, x8, x9, x10, x11, x12, x13, x14, x15, x16, x17, x18, x19])), (h3, .inl (cA 0, 10, .inl fn17)), (h4, .inl (cA 0, 10, .inl (upd fn13 3 0))), (h5, .inl (cA 0, 10, .inl fn14)), (h6, .inl (cA 0, 10, .inl fn15)), (p0, .inr (7, [.int 0, .int 365, .int 0, .int 0, .ref p1, .int 0, .ref p2, .ref p3, .ref p4, .ref p5, .int 0, .ref p6, .int 0, .ref p7, .ref p8, .ref p9, .int 0])), (h1, .inr (6, [.ref h2, .int 0, .int 0]))] H := hP
  have hD : va_D A [(h0, .inr (4, [.ref p0, .ref h1, .ref h3, .ref h4, .ref h5, .ref h6, x6, x7, x8, x9, x10, x11, x12, x13, x14, x15, x16, x17, x18, x19])), (h3, .inl (cA 0, 10, .inl fn17)), (h4, .inl (cA 0, 10, .inl (upd fn13 3 0))), (h5, .inl (cA 0, 10, .inl fn14)), (h6, .inl (cA 0, 10, .inl fn15)), (p0, .inr (7, [.int 0, .int 365, .int 0, .int 0, .ref p1, .int 0, .ref p2, .ref p3, .ref p4, .ref p5, .int 0, .ref p6, .int 0, .ref p7, .ref p8, .ref p9, .int 0])), (h1, .inr (6, [.ref h2, .int 0, .int 0]))] := hD
  generalize (upd fn13 3 0) = fn18 at hP hD
  have hP : va_P D vwCl [(h0, .inr (4, [.ref p0, .ref h1, .ref h3, .ref h4, .ref h5, .ref h6, x6, x7, x8, x9, x10, x11, x12, x13, x14, x15, x16, x17, x18, x19])), (h3, .inl (cA 0, 10, .inl fn17)), (h4, .inl (cA 0, 10, .inl fn18)), (h5, .inl (cA 0, 10, .inl fn14)), (h6, .inl (cA 0, 10, .inl fn15)), (p0, .inr (7, [.int 0, .int 365, .int 0, .int 0, .ref p1, .int 0, .ref p2, .ref p3, .ref p4, .ref p5, .int 0, .ref p6, .int 0, .ref p7, .ref p8, .ref p9, .int 0])), (h1, .inr (6, [.ref h2, .int 0, .int 0]))] H := hP
  have hD : va_D A [(h0, .inr (4, [.ref p0, .ref h1, .ref h3, .ref h4, .ref h5, .ref h6, x6, x7, x8, x9, x10, x11, x12, x13, x14, x15, x16, x17, x18, x19])), (h3, .inl (cA 0, 10, .inl fn17)), (h4, .inl (cA 0, 10, .inl fn18)), (h5, .inl (cA 0, 10, .inl fn14)), (h6, .inl (cA 0, 10, .inl fn15)), (p0, .inr (7, [.int 0, .int 365, .int 0, .int 0, .ref p1, .int 0, .ref p2, .ref p3, .ref p4, .ref p5, .int 0, .ref p6, .int 0, .ref p7, .ref p8, .ref p9, .int 0])), (h1, .inr (6, [.ref h2, .int 0, .int 0]))] := hD
  refine lv_aload_n hx hb dX0_openWith_34 rfl (lv_at hl 1 rfl) ?_
  refine va_get (D := D) (ci := 4) (v := .ref h5) (C := RX0) (T := TX0) (N := 20) hx hb hts inX0 hown hK hP 0 rfl rfl 4 (by decide) (hts (.fieldLink RX0 25 "EscrowDesk$Account" "frozen" "[I") (by decide +kernel)) (fun _ h9 => h9) rfl dX0_openWith_35 ?_
  refine lv_iload_n hx hb dX0_openWith_38 rfl (lv_at hl 0 rfl) ?_
  refine lv_iconst (v := 0) hx hb dX0_openWith_39 (by decide) ?_
  refine va_iast hx hb hK hP hD hS 3 0 rfl rfl (vp_in_iff.mpr (by decide)) dX0_openWith_40 (fun H locs hP hD hS => ?_)
  have hP : va_P D vwCl [(h0, .inr (4, [.ref p0, .ref h1, .ref h3, .ref h4, .ref h5, .ref h6, x6, x7, x8, x9, x10, x11, x12, x13, x14, x15, x16, x17, x18, x19])), (h3, .inl (cA 0, 10, .inl fn17)), (h4, .inl (cA 0, 10, .inl fn18)), (h5, .inl (cA 0, 10, .inl (upd fn14 3 0))), (h6, .inl (cA 0, 10, .inl fn15)), (p0, .inr (7, [.int 0, .int 365, .int 0, .int 0, .ref p1, .int 0, .ref p2, .ref p3, .ref p4, .ref p5, .int 0, .ref p6, .int 0, .ref p7, .ref p8, .ref p9, .int 0])), (h1, .inr (6, [.ref h2, .int 0, .int 0]))] H := hP
  have hD : va_D A [(h0, .inr (4, [.ref p0, .ref h1, .ref h3, .ref h4, .ref h5, .ref h6, x6, x7, x8, x9, x10, x11, x12, x13, x14, x15, x16, x17, x18, x19])), (h3, .inl (cA 0, 10, .inl fn17)), (h4, .inl (cA 0, 10, .inl fn18)), (h5, .inl (cA 0, 10, .inl (upd fn14 3 0))), (h6, .inl (cA 0, 10, .inl fn15)), (p0, .inr (7, [.int 0, .int 365, .int 0, .int 0, .ref p1, .int 0, .ref p2, .ref p3, .ref p4, .ref p5, .int 0, .ref p6, .int 0, .ref p7, .ref p8, .ref p9, .int 0])), (h1, .inr (6, [.ref h2, .int 0, .int 0]))] := hD
  generalize (upd fn14 3 0) = fn19 at hP hD
  have hP : va_P D vwCl [(h0, .inr (4, [.ref p0, .ref h1, .ref h3, .ref h4, .ref h5, .ref h6, x6, x7, x8, x9, x10, x11, x12, x13, x14, x15, x16, x17, x18, x19])), (h3, .inl (cA 0, 10, .inl fn17)), (h4, .inl (cA 0, 10, .inl fn18)), (h5, .inl (cA 0, 10, .inl fn19)), (h6, .inl (cA 0, 10, .inl fn15)), (p0, .inr (7, [.int 0, .int 365, .int 0, .int 0, .ref p1, .int 0, .ref p2, .ref p3, .ref p4, .ref p5, .int 0, .ref p6, .int 0, .ref p7, .ref p8, .ref p9, .int 0])), (h1, .inr (6, [.ref h2, .int 0, .int 0]))] H := hP
  have hD : va_D A [(h0, .inr (4, [.ref p0, .ref h1, .ref h3, .ref h4, .ref h5, .ref h6, x6, x7, x8, x9, x10, x11, x12, x13, x14, x15, x16, x17, x18, x19])), (h3, .inl (cA 0, 10, .inl fn17)), (h4, .inl (cA 0, 10, .inl fn18)), (h5, .inl (cA 0, 10, .inl fn19)), (h6, .inl (cA 0, 10, .inl fn15)), (p0, .inr (7, [.int 0, .int 365, .int 0, .int 0, .ref p1, .int 0, .ref p2, .ref p3, .ref p4, .ref p5, .int 0, .ref p6, .int 0, .ref p7, .ref p8, .ref p9, .int 0])), (h1, .inr (6, [.ref h2, .int 0, .int 0]))] := hD
  refine lv_aload_n hx hb dX0_openWith_41 rfl (lv_at hl 1 rfl) ?_
  refine va_get (D := D) (ci := 4) (v := .ref h6) (C := RX0) (T := TX0) (N := 20) hx hb hts inX0 hown hK hP 0 rfl rfl 5 (by decide) (hts (.fieldLink RX0 28 "EscrowDesk$Account" "dueDay" "[I") (by decide +kernel)) (fun _ h9 => h9) rfl dX0_openWith_42 ?_
  refine lv_iload_n hx hb dX0_openWith_45 rfl (lv_at hl 0 rfl) ?_
  refine lv_iconst (v := (-1)) hx hb dX0_openWith_46 (by decide) ?_
  refine va_iast hx hb hK hP hD hS 4 0 rfl rfl (vp_in_iff.mpr (by decide)) dX0_openWith_47 (fun H locs hP hD hS => ?_)
  have hP : va_P D vwCl [(h0, .inr (4, [.ref p0, .ref h1, .ref h3, .ref h4, .ref h5, .ref h6, x6, x7, x8, x9, x10, x11, x12, x13, x14, x15, x16, x17, x18, x19])), (h3, .inl (cA 0, 10, .inl fn17)), (h4, .inl (cA 0, 10, .inl fn18)), (h5, .inl (cA 0, 10, .inl fn19)), (h6, .inl (cA 0, 10, .inl (upd fn15 3 (-1)))), (p0, .inr (7, [.int 0, .int 365, .int 0, .int 0, .ref p1, .int 0, .ref p2, .ref p3, .ref p4, .ref p5, .int 0, .ref p6, .int 0, .ref p7, .ref p8, .ref p9, .int 0])), (h1, .inr (6, [.ref h2, .int 0, .int 0]))] H := hP
  have hD : va_D A [(h0, .inr (4, [.ref p0, .ref h1, .ref h3, .ref h4, .ref h5, .ref h6, x6, x7, x8, x9, x10, x11, x12, x13, x14, x15, x16, x17, x18, x19])), (h3, .inl (cA 0, 10, .inl fn17)), (h4, .inl (cA 0, 10, .inl fn18)), (h5, .inl (cA 0, 10, .inl fn19)), (h6, .inl (cA 0, 10, .inl (upd fn15 3 (-1)))), (p0, .inr (7, [.int 0, .int 365, .int 0, .int 0, .ref p1, .int 0, .ref p2, .ref p3, .ref p4, .ref p5, .int 0, .ref p6, .int 0, .ref p7, .ref p8, .ref p9, .int 0])), (h1, .inr (6, [.ref h2, .int 0, .int 0]))] := hD
  generalize (upd fn15 3 (-1)) = fn20 at hP hD
  have hP : va_P D vwCl [(h0, .inr (4, [.ref p0, .ref h1, .ref h3, .ref h4, .ref h5, .ref h6, x6, x7, x8, x9, x10, x11, x12, x13, x14, x15, x16, x17, x18, x19])), (h3, .inl (cA 0, 10, .inl fn17)), (h4, .inl (cA 0, 10, .inl fn18)), (h5, .inl (cA 0, 10, .inl fn19)), (h6, .inl (cA 0, 10, .inl fn20)), (p0, .inr (7, [.int 0, .int 365, .int 0, .int 0, .ref p1, .int 0, .ref p2, .ref p3, .ref p4, .ref p5, .int 0, .ref p6, .int 0, .ref p7, .ref p8, .ref p9, .int 0])), (h1, .inr (6, [.ref h2, .int 0, .int 0]))] H := hP
  have hD : va_D A [(h0, .inr (4, [.ref p0, .ref h1, .ref h3, .ref h4, .ref h5, .ref h6, x6, x7, x8, x9, x10, x11, x12, x13, x14, x15, x16, x17, x18, x19])), (h3, .inl (cA 0, 10, .inl fn17)), (h4, .inl (cA 0, 10, .inl fn18)), (h5, .inl (cA 0, 10, .inl fn19)), (h6, .inl (cA 0, 10, .inl fn20)), (p0, .inr (7, [.int 0, .int 365, .int 0, .int 0, .ref p1, .int 0, .ref p2, .ref p3, .ref p4, .ref p5, .int 0, .ref p6, .int 0, .ref p7, .ref p8, .ref p9, .int 0])), (h1, .inr (6, [.ref h2, .int 0, .int 0]))] := hD
  refine lv_iinc (v := 4) (lv' := [(2, .int 4), (0, .ref h0), (1, .ref p0)]) hx hb dX0_openWith_48 hl (k := 0) rfl (by first | rfl | decide +kernel) (by decide) rfl (fun ls hl => ?_)
  refine lv_goto (tgt := 14) hx hb dX0_openWith_51 (by decide) ?_
  refine lv_iload_n hx hb dX0_openWith_14 rfl (lv_at hl 0 rfl) ?_
  refine lv_bipush (v := 10) hx hb dX0_openWith_15 (by decide) ?_
  refine lv_icmp_ge (tgt := 54) hx hb dX0_openWith_17 (by decide) (fun c9 => absurd c9 (by decide)) (fun c21 => ?_)
  refine lv_aload_n hx hb dX0_openWith_20 rfl (lv_at hl 1 rfl) ?_
  refine va_get (D := D) (ci := 4) (v := .ref h3) (C := RX0) (T := TX0) (N := 20) hx hb hts inX0 hown hK hP 0 rfl rfl 2 (by decide) (hts (.fieldLink RX0 18 "EscrowDesk$Account" "state" "[I") (by decide +kernel)) (fun _ h9 => h9) rfl dX0_openWith_21 ?_
  refine lv_iload_n hx hb dX0_openWith_24 rfl (lv_at hl 0 rfl) ?_
  refine lv_iconst (v := 0) hx hb dX0_openWith_25 (by decide) ?_
  refine va_iast hx hb hK hP hD hS 1 0 rfl rfl (vp_in_iff.mpr (by decide)) dX0_openWith_26 (fun H locs hP hD hS => ?_)
  have hP : va_P D vwCl [(h0, .inr (4, [.ref p0, .ref h1, .ref h3, .ref h4, .ref h5, .ref h6, x6, x7, x8, x9, x10, x11, x12, x13, x14, x15, x16, x17, x18, x19])), (h3, .inl (cA 0, 10, .inl (upd fn17 4 0))), (h4, .inl (cA 0, 10, .inl fn18)), (h5, .inl (cA 0, 10, .inl fn19)), (h6, .inl (cA 0, 10, .inl fn20)), (p0, .inr (7, [.int 0, .int 365, .int 0, .int 0, .ref p1, .int 0, .ref p2, .ref p3, .ref p4, .ref p5, .int 0, .ref p6, .int 0, .ref p7, .ref p8, .ref p9, .int 0])), (h1, .inr (6, [.ref h2, .int 0, .int 0]))] H := hP
  have hD : va_D A [(h0, .inr (4, [.ref p0, .ref h1, .ref h3, .ref h4, .ref h5, .ref h6, x6, x7, x8, x9, x10, x11, x12, x13, x14, x15, x16, x17, x18, x19])), (h3, .inl (cA 0, 10, .inl (upd fn17 4 0))), (h4, .inl (cA 0, 10, .inl fn18)), (h5, .inl (cA 0, 10, .inl fn19)), (h6, .inl (cA 0, 10, .inl fn20)), (p0, .inr (7, [.int 0, .int 365, .int 0, .int 0, .ref p1, .int 0, .ref p2, .ref p3, .ref p4, .ref p5, .int 0, .ref p6, .int 0, .ref p7, .ref p8, .ref p9, .int 0])), (h1, .inr (6, [.ref h2, .int 0, .int 0]))] := hD
  generalize (upd fn17 4 0) = fn22 at hP hD
  have hP : va_P D vwCl [(h0, .inr (4, [.ref p0, .ref h1, .ref h3, .ref h4, .ref h5, .ref h6, x6, x7, x8, x9, x10, x11, x12, x13, x14, x15, x16, x17, x18, x19])), (h3, .inl (cA 0, 10, .inl fn22)), (h4, .inl (cA 0, 10, .inl fn18)), (h5, .inl (cA 0, 10, .inl fn19)), (h6, .inl (cA 0, 10, .inl fn20)), (p0, .inr (7, [.int 0, .int 365, .int 0, .int 0, .ref p1, .int 0, .ref p2, .ref p3, .ref p4, .ref p5, .int 0, .ref p6, .int 0, .ref p7, .ref p8, .ref p9, .int 0])), (h1, .inr (6, [.ref h2, .int 0, .int 0]))] H := hP
  have hD : va_D A [(h0, .inr (4, [.ref p0, .ref h1, .ref h3, .ref h4, .ref h5, .ref h6, x6, x7, x8, x9, x10, x11, x12, x13, x14, x15, x16, x17, x18, x19])), (h3, .inl (cA 0, 10, .inl fn22)), (h4, .inl (cA 0, 10, .inl fn18)), (h5, .inl (cA 0, 10, .inl fn19)), (h6, .inl (cA 0, 10, .inl fn20)), (p0, .inr (7, [.int 0, .int 365, .int 0, .int 0, .ref p1, .int 0, .ref p2, .ref p3, .ref p4, .ref p5, .int 0, .ref p6, .int 0, .ref p7, .ref p8, .ref p9, .int 0])), (h1, .inr (6, [.ref h2, .int 0, .int 0]))] := hD
  refine lv_aload_n hx hb dX0_openWith_27 rfl (lv_at hl 1 rfl) ?_
  refine va_get (D := D) (ci := 4) (v := .ref h4) (C := RX0) (T := TX0) (N := 20) hx hb hts inX0 hown hK hP 0 rfl rfl 3 (by decide) (hts (.fieldLink RX0 22 "EscrowDesk$Account" "paid" "[I") (by decide +kernel)) (fun _ h9 => h9) rfl dX0_openWith_28 ?_
  refine lv_iload_n hx hb dX0_openWith_31 rfl (lv_at hl 0 rfl) ?_
  refine lv_iconst (v := 0) hx hb dX0_openWith_32 (by decide) ?_
  refine va_iast hx hb hK hP hD hS 2 0 rfl rfl (vp_in_iff.mpr (by decide)) dX0_openWith_33 (fun H locs hP hD hS => ?_)
  have hP : va_P D vwCl [(h0, .inr (4, [.ref p0, .ref h1, .ref h3, .ref h4, .ref h5, .ref h6, x6, x7, x8, x9, x10, x11, x12, x13, x14, x15, x16, x17, x18, x19])), (h3, .inl (cA 0, 10, .inl fn22)), (h4, .inl (cA 0, 10, .inl (upd fn18 4 0))), (h5, .inl (cA 0, 10, .inl fn19)), (h6, .inl (cA 0, 10, .inl fn20)), (p0, .inr (7, [.int 0, .int 365, .int 0, .int 0, .ref p1, .int 0, .ref p2, .ref p3, .ref p4, .ref p5, .int 0, .ref p6, .int 0, .ref p7, .ref p8, .ref p9, .int 0])), (h1, .inr (6, [.ref h2, .int 0, .int 0]))] H := hP
  have hD : va_D A [(h0, .inr (4, [.ref p0, .ref h1, .ref h3, .ref h4, .ref h5, .ref h6, x6, x7, x8, x9, x10, x11, x12, x13, x14, x15, x16, x17, x18, x19])), (h3, .inl (cA 0, 10, .inl fn22)), (h4, .inl (cA 0, 10, .inl (upd fn18 4 0))), (h5, .inl (cA 0, 10, .inl fn19)), (h6, .inl (cA 0, 10, .inl fn20)), (p0, .inr (7, [.int 0, .int 365, .int 0, .int 0, .ref p1, .int 0, .ref p2, .ref p3, .ref p4, .ref p5, .int 0, .ref p6, .int 0, .ref p7, .ref p8, .ref p9, .int 0])), (h1, .inr (6, [.ref h2, .int 0, .int 0]))] := hD
  generalize (upd fn18 4 0) = fn23 at hP hD
  have hP : va_P D vwCl [(h0, .inr (4, [.ref p0, .ref h1, .ref h3, .ref h4, .ref h5, .ref h6, x6, x7, x8, x9, x10, x11, x12, x13, x14, x15, x16, x17, x18, x19])), (h3, .inl (cA 0, 10, .inl fn22)), (h4, .inl (cA 0, 10, .inl fn23)), (h5, .inl (cA 0, 10, .inl fn19)), (h6, .inl (cA 0, 10, .inl fn20)), (p0, .inr (7, [.int 0, .int 365, .int 0, .int 0, .ref p1, .int 0, .ref p2, .ref p3, .ref p4, .ref p5, .int 0, .ref p6, .int 0, .ref p7, .ref p8, .ref p9, .int 0])), (h1, .inr (6, [.ref h2, .int 0, .int 0]))] H := hP
  have hD : va_D A [(h0, .inr (4, [.ref p0, .ref h1, .ref h3, .ref h4, .ref h5, .ref h6, x6, x7, x8, x9, x10, x11, x12, x13, x14, x15, x16, x17, x18, x19])), (h3, .inl (cA 0, 10, .inl fn22)), (h4, .inl (cA 0, 10, .inl fn23)), (h5, .inl (cA 0, 10, .inl fn19)), (h6, .inl (cA 0, 10, .inl fn20)), (p0, .inr (7, [.int 0, .int 365, .int 0, .int 0, .ref p1, .int 0, .ref p2, .ref p3, .ref p4, .ref p5, .int 0, .ref p6, .int 0, .ref p7, .ref p8, .ref p9, .int 0])), (h1, .inr (6, [.ref h2, .int 0, .int 0]))] := hD
  refine lv_aload_n hx hb dX0_openWith_34 rfl (lv_at hl 1 rfl) ?_
  refine va_get (D := D) (ci := 4) (v := .ref h5) (C := RX0) (T := TX0) (N := 20) hx hb hts inX0 hown hK hP 0 rfl rfl 4 (by decide) (hts (.fieldLink RX0 25 "EscrowDesk$Account" "frozen" "[I") (by decide +kernel)) (fun _ h9 => h9) rfl dX0_openWith_35 ?_
  refine lv_iload_n hx hb dX0_openWith_38 rfl (lv_at hl 0 rfl) ?_
  refine lv_iconst (v := 0) hx hb dX0_openWith_39 (by decide) ?_
  refine va_iast hx hb hK hP hD hS 3 0 rfl rfl (vp_in_iff.mpr (by decide)) dX0_openWith_40 (fun H locs hP hD hS => ?_)
  have hP : va_P D vwCl [(h0, .inr (4, [.ref p0, .ref h1, .ref h3, .ref h4, .ref h5, .ref h6, x6, x7, x8, x9, x10, x11, x12, x13, x14, x15, x16, x17, x18, x19])), (h3, .inl (cA 0, 10, .inl fn22)), (h4, .inl (cA 0, 10, .inl fn23)), (h5, .inl (cA 0, 10, .inl (upd fn19 4 0))), (h6, .inl (cA 0, 10, .inl fn20)), (p0, .inr (7, [.int 0, .int 365, .int 0, .int 0, .ref p1, .int 0, .ref p2, .ref p3, .ref p4, .ref p5, .int 0, .ref p6, .int 0, .ref p7, .ref p8, .ref p9, .int 0])), (h1, .inr (6, [.ref h2, .int 0, .int 0]))] H := hP
  have hD : va_D A [(h0, .inr (4, [.ref p0, .ref h1, .ref h3, .ref h4, .ref h5, .ref h6, x6, x7, x8, x9, x10, x11, x12, x13, x14, x15, x16, x17, x18, x19])), (h3, .inl (cA 0, 10, .inl fn22)), (h4, .inl (cA 0, 10, .inl fn23)), (h5, .inl (cA 0, 10, .inl (upd fn19 4 0))), (h6, .inl (cA 0, 10, .inl fn20)), (p0, .inr (7, [.int 0, .int 365, .int 0, .int 0, .ref p1, .int 0, .ref p2, .ref p3, .ref p4, .ref p5, .int 0, .ref p6, .int 0, .ref p7, .ref p8, .ref p9, .int 0])), (h1, .inr (6, [.ref h2, .int 0, .int 0]))] := hD
  generalize (upd fn19 4 0) = fn24 at hP hD
  have hP : va_P D vwCl [(h0, .inr (4, [.ref p0, .ref h1, .ref h3, .ref h4, .ref h5, .ref h6, x6, x7, x8, x9, x10, x11, x12, x13, x14, x15, x16, x17, x18, x19])), (h3, .inl (cA 0, 10, .inl fn22)), (h4, .inl (cA 0, 10, .inl fn23)), (h5, .inl (cA 0, 10, .inl fn24)), (h6, .inl (cA 0, 10, .inl fn20)), (p0, .inr (7, [.int 0, .int 365, .int 0, .int 0, .ref p1, .int 0, .ref p2, .ref p3, .ref p4, .ref p5, .int 0, .ref p6, .int 0, .ref p7, .ref p8, .ref p9, .int 0])), (h1, .inr (6, [.ref h2, .int 0, .int 0]))] H := hP
  have hD : va_D A [(h0, .inr (4, [.ref p0, .ref h1, .ref h3, .ref h4, .ref h5, .ref h6, x6, x7, x8, x9, x10, x11, x12, x13, x14, x15, x16, x17, x18, x19])), (h3, .inl (cA 0, 10, .inl fn22)), (h4, .inl (cA 0, 10, .inl fn23)), (h5, .inl (cA 0, 10, .inl fn24)), (h6, .inl (cA 0, 10, .inl fn20)), (p0, .inr (7, [.int 0, .int 365, .int 0, .int 0, .ref p1, .int 0, .ref p2, .ref p3, .ref p4, .ref p5, .int 0, .ref p6, .int 0, .ref p7, .ref p8, .ref p9, .int 0])), (h1, .inr (6, [.ref h2, .int 0, .int 0]))] := hD
  refine lv_aload_n hx hb dX0_openWith_41 rfl (lv_at hl 1 rfl) ?_
  refine va_get (D := D) (ci := 4) (v := .ref h6) (C := RX0) (T := TX0) (N := 20) hx hb hts inX0 hown hK hP 0 rfl rfl 5 (by decide) (hts (.fieldLink RX0 28 "EscrowDesk$Account" "dueDay" "[I") (by decide +kernel)) (fun _ h9 => h9) rfl dX0_openWith_42 ?_
  refine lv_iload_n hx hb dX0_openWith_45 rfl (lv_at hl 0 rfl) ?_
  refine lv_iconst (v := (-1)) hx hb dX0_openWith_46 (by decide) ?_
  refine va_iast hx hb hK hP hD hS 4 0 rfl rfl (vp_in_iff.mpr (by decide)) dX0_openWith_47 (fun H locs hP hD hS => ?_)
  have hP : va_P D vwCl [(h0, .inr (4, [.ref p0, .ref h1, .ref h3, .ref h4, .ref h5, .ref h6, x6, x7, x8, x9, x10, x11, x12, x13, x14, x15, x16, x17, x18, x19])), (h3, .inl (cA 0, 10, .inl fn22)), (h4, .inl (cA 0, 10, .inl fn23)), (h5, .inl (cA 0, 10, .inl fn24)), (h6, .inl (cA 0, 10, .inl (upd fn20 4 (-1)))), (p0, .inr (7, [.int 0, .int 365, .int 0, .int 0, .ref p1, .int 0, .ref p2, .ref p3, .ref p4, .ref p5, .int 0, .ref p6, .int 0, .ref p7, .ref p8, .ref p9, .int 0])), (h1, .inr (6, [.ref h2, .int 0, .int 0]))] H := hP
  have hD : va_D A [(h0, .inr (4, [.ref p0, .ref h1, .ref h3, .ref h4, .ref h5, .ref h6, x6, x7, x8, x9, x10, x11, x12, x13, x14, x15, x16, x17, x18, x19])), (h3, .inl (cA 0, 10, .inl fn22)), (h4, .inl (cA 0, 10, .inl fn23)), (h5, .inl (cA 0, 10, .inl fn24)), (h6, .inl (cA 0, 10, .inl (upd fn20 4 (-1)))), (p0, .inr (7, [.int 0, .int 365, .int 0, .int 0, .ref p1, .int 0, .ref p2, .ref p3, .ref p4, .ref p5, .int 0, .ref p6, .int 0, .ref p7, .ref p8, .ref p9, .int 0])), (h1, .inr (6, [.ref h2, .int 0, .int 0]))] := hD
  generalize (upd fn20 4 (-1)) = fn25 at hP hD
  have hP : va_P D vwCl [(h0, .inr (4, [.ref p0, .ref h1, .ref h3, .ref h4, .ref h5, .ref h6, x6, x7, x8, x9, x10, x11, x12, x13, x14, x15, x16, x17, x18, x19])), (h3, .inl (cA 0, 10, .inl fn22)), (h4, .inl (cA 0, 10, .inl fn23)), (h5, .inl (cA 0, 10, .inl fn24)), (h6, .inl (cA 0, 10, .inl fn25)), (p0, .inr (7, [.int 0, .int 365, .int 0, .int 0, .ref p1, .int 0, .ref p2, .ref p3, .ref p4, .ref p5, .int 0, .ref p6, .int 0, .ref p7, .ref p8, .ref p9, .int 0])), (h1, .inr (6, [.ref h2, .int 0, .int 0]))] H := hP
  have hD : va_D A [(h0, .inr (4, [.ref p0, .ref h1, .ref h3, .ref h4, .ref h5, .ref h6, x6, x7, x8, x9, x10, x11, x12, x13, x14, x15, x16, x17, x18, x19])), (h3, .inl (cA 0, 10, .inl fn22)), (h4, .inl (cA 0, 10, .inl fn23)), (h5, .inl (cA 0, 10, .inl fn24)), (h6, .inl (cA 0, 10, .inl fn25)), (p0, .inr (7, [.int 0, .int 365, .int 0, .int 0, .ref p1, .int 0, .ref p2, .ref p3, .ref p4, .ref p5, .int 0, .ref p6, .int 0, .ref p7, .ref p8, .ref p9, .int 0])), (h1, .inr (6, [.ref h2, .int 0, .int 0]))] := hD
  refine lv_iinc (v := 5) (lv' := [(2, .int 5), (0, .ref h0), (1, .ref p0)]) hx hb dX0_openWith_48 hl (k := 0) rfl (by first | rfl | decide +kernel) (by decide) rfl (fun ls hl => ?_)
  refine lv_goto (tgt := 14) hx hb dX0_openWith_51 (by decide) ?_
  refine lv_iload_n hx hb dX0_openWith_14 rfl (lv_at hl 0 rfl) ?_
  refine lv_bipush (v := 10) hx hb dX0_openWith_15 (by decide) ?_
  refine lv_icmp_ge (tgt := 54) hx hb dX0_openWith_17 (by decide) (fun c9 => absurd c9 (by decide)) (fun c26 => ?_)
  refine lv_aload_n hx hb dX0_openWith_20 rfl (lv_at hl 1 rfl) ?_
  refine va_get (D := D) (ci := 4) (v := .ref h3) (C := RX0) (T := TX0) (N := 20) hx hb hts inX0 hown hK hP 0 rfl rfl 2 (by decide) (hts (.fieldLink RX0 18 "EscrowDesk$Account" "state" "[I") (by decide +kernel)) (fun _ h9 => h9) rfl dX0_openWith_21 ?_
  refine lv_iload_n hx hb dX0_openWith_24 rfl (lv_at hl 0 rfl) ?_
  refine lv_iconst (v := 0) hx hb dX0_openWith_25 (by decide) ?_
  refine va_iast hx hb hK hP hD hS 1 0 rfl rfl (vp_in_iff.mpr (by decide)) dX0_openWith_26 (fun H locs hP hD hS => ?_)
  have hP : va_P D vwCl [(h0, .inr (4, [.ref p0, .ref h1, .ref h3, .ref h4, .ref h5, .ref h6, x6, x7, x8, x9, x10, x11, x12, x13, x14, x15, x16, x17, x18, x19])), (h3, .inl (cA 0, 10, .inl (upd fn22 5 0))), (h4, .inl (cA 0, 10, .inl fn23)), (h5, .inl (cA 0, 10, .inl fn24)), (h6, .inl (cA 0, 10, .inl fn25)), (p0, .inr (7, [.int 0, .int 365, .int 0, .int 0, .ref p1, .int 0, .ref p2, .ref p3, .ref p4, .ref p5, .int 0, .ref p6, .int 0, .ref p7, .ref p8, .ref p9, .int 0])), (h1, .inr (6, [.ref h2, .int 0, .int 0]))] H := hP
  have hD : va_D A [(h0, .inr (4, [.ref p0, .ref h1, .ref h3, .ref h4, .ref h5, .ref h6, x6, x7, x8, x9, x10, x11, x12, x13, x14, x15, x16, x17, x18, x19])), (h3, .inl (cA 0, 10, .inl (upd fn22 5 0))), (h4, .inl (cA 0, 10, .inl fn23)), (h5, .inl (cA 0, 10, .inl fn24)), (h6, .inl (cA 0, 10, .inl fn25)), (p0, .inr (7, [.int 0, .int 365, .int 0, .int 0, .ref p1, .int 0, .ref p2, .ref p3, .ref p4, .ref p5, .int 0, .ref p6, .int 0, .ref p7, .ref p8, .ref p9, .int 0])), (h1, .inr (6, [.ref h2, .int 0, .int 0]))] := hD
  generalize (upd fn22 5 0) = fn27 at hP hD
  have hP : va_P D vwCl [(h0, .inr (4, [.ref p0, .ref h1, .ref h3, .ref h4, .ref h5, .ref h6, x6, x7, x8, x9, x10, x11, x12, x13, x14, x15, x16, x17, x18, x19])), (h3, .inl (cA 0, 10, .inl fn27)), (h4, .inl (cA 0, 10, .inl fn23)), (h5, .inl (cA 0, 10, .inl fn24)), (h6, .inl (cA 0, 10, .inl fn25)), (p0, .inr (7, [.int 0, .int 365, .int 0, .int 0, .ref p1, .int 0, .ref p2, .ref p3, .ref p4, .ref p5, .int 0, .ref p6, .int 0, .ref p7, .ref p8, .ref p9, .int 0])), (h1, .inr (6, [.ref h2, .int 0, .int 0]))] H := hP
  have hD : va_D A [(h0, .inr (4, [.ref p0, .ref h1, .ref h3, .ref h4, .ref h5, .ref h6, x6, x7, x8, x9, x10, x11, x12, x13, x14, x15, x16, x17, x18, x19])), (h3, .inl (cA 0, 10, .inl fn27)), (h4, .inl (cA 0, 10, .inl fn23)), (h5, .inl (cA 0, 10, .inl fn24)), (h6, .inl (cA 0, 10, .inl fn25)), (p0, .inr (7, [.int 0, .int 365, .int 0, .int 0, .ref p1, .int 0, .ref p2, .ref p3, .ref p4, .ref p5, .int 0, .ref p6, .int 0, .ref p7, .ref p8, .ref p9, .int 0])), (h1, .inr (6, [.ref h2, .int 0, .int 0]))] := hD
  refine lv_aload_n hx hb dX0_openWith_27 rfl (lv_at hl 1 rfl) ?_
  refine va_get (D := D) (ci := 4) (v := .ref h4) (C := RX0) (T := TX0) (N := 20) hx hb hts inX0 hown hK hP 0 rfl rfl 3 (by decide) (hts (.fieldLink RX0 22 "EscrowDesk$Account" "paid" "[I") (by decide +kernel)) (fun _ h9 => h9) rfl dX0_openWith_28 ?_
  refine lv_iload_n hx hb dX0_openWith_31 rfl (lv_at hl 0 rfl) ?_
  refine lv_iconst (v := 0) hx hb dX0_openWith_32 (by decide) ?_
  refine va_iast hx hb hK hP hD hS 2 0 rfl rfl (vp_in_iff.mpr (by decide)) dX0_openWith_33 (fun H locs hP hD hS => ?_)
  have hP : va_P D vwCl [(h0, .inr (4, [.ref p0, .ref h1, .ref h3, .ref h4, .ref h5, .ref h6, x6, x7, x8, x9, x10, x11, x12, x13, x14, x15, x16, x17, x18, x19])), (h3, .inl (cA 0, 10, .inl fn27)), (h4, .inl (cA 0, 10, .inl (upd fn23 5 0))), (h5, .inl (cA 0, 10, .inl fn24)), (h6, .inl (cA 0, 10, .inl fn25)), (p0, .inr (7, [.int 0, .int 365, .int 0, .int 0, .ref p1, .int 0, .ref p2, .ref p3, .ref p4, .ref p5, .int 0, .ref p6, .int 0, .ref p7, .ref p8, .ref p9, .int 0])), (h1, .inr (6, [.ref h2, .int 0, .int 0]))] H := hP
  have hD : va_D A [(h0, .inr (4, [.ref p0, .ref h1, .ref h3, .ref h4, .ref h5, .ref h6, x6, x7, x8, x9, x10, x11, x12, x13, x14, x15, x16, x17, x18, x19])), (h3, .inl (cA 0, 10, .inl fn27)), (h4, .inl (cA 0, 10, .inl (upd fn23 5 0))), (h5, .inl (cA 0, 10, .inl fn24)), (h6, .inl (cA 0, 10, .inl fn25)), (p0, .inr (7, [.int 0, .int 365, .int 0, .int 0, .ref p1, .int 0, .ref p2, .ref p3, .ref p4, .ref p5, .int 0, .ref p6, .int 0, .ref p7, .ref p8, .ref p9, .int 0])), (h1, .inr (6, [.ref h2, .int 0, .int 0]))] := hD
  generalize (upd fn23 5 0) = fn28 at hP hD
  have hP : va_P D vwCl [(h0, .inr (4, [.ref p0, .ref h1, .ref h3, .ref h4, .ref h5, .ref h6, x6, x7, x8, x9, x10, x11, x12, x13, x14, x15, x16, x17, x18, x19])), (h3, .inl (cA 0, 10, .inl fn27)), (h4, .inl (cA 0, 10, .inl fn28)), (h5, .inl (cA 0, 10, .inl fn24)), (h6, .inl (cA 0, 10, .inl fn25)), (p0, .inr (7, [.int 0, .int 365, .int 0, .int 0, .ref p1, .int 0, .ref p2, .ref p3, .ref p4, .ref p5, .int 0, .ref p6, .int 0, .ref p7, .ref p8, .ref p9, .int 0])), (h1, .inr (6, [.ref h2, .int 0, .int 0]))] H := hP
  have hD : va_D A [(h0, .inr (4, [.ref p0, .ref h1, .ref h3, .ref h4, .ref h5, .ref h6, x6, x7, x8, x9, x10, x11, x12, x13, x14, x15, x16, x17, x18, x19])), (h3, .inl (cA 0, 10, .inl fn27)), (h4, .inl (cA 0, 10, .inl fn28)), (h5, .inl (cA 0, 10, .inl fn24)), (h6, .inl (cA 0, 10, .inl fn25)), (p0, .inr (7, [.int 0, .int 365, .int 0, .int 0, .ref p1, .int 0, .ref p2, .ref p3, .ref p4, .ref p5, .int 0, .ref p6, .int 0, .ref p7, .ref p8, .ref p9, .int 0])), (h1, .inr (6, [.ref h2, .int 0, .int 0]))] := hD
  refine lv_aload_n hx hb dX0_openWith_34 rfl (lv_at hl 1 rfl) ?_
  refine va_get (D := D) (ci := 4) (v := .ref h5) (C := RX0) (T := TX0) (N := 20) hx hb hts inX0 hown hK hP 0 rfl rfl 4 (by decide) (hts (.fieldLink RX0 25 "EscrowDesk$Account" "frozen" "[I") (by decide +kernel)) (fun _ h9 => h9) rfl dX0_openWith_35 ?_
  refine lv_iload_n hx hb dX0_openWith_38 rfl (lv_at hl 0 rfl) ?_
  refine lv_iconst (v := 0) hx hb dX0_openWith_39 (by decide) ?_
  refine va_iast hx hb hK hP hD hS 3 0 rfl rfl (vp_in_iff.mpr (by decide)) dX0_openWith_40 (fun H locs hP hD hS => ?_)
  have hP : va_P D vwCl [(h0, .inr (4, [.ref p0, .ref h1, .ref h3, .ref h4, .ref h5, .ref h6, x6, x7, x8, x9, x10, x11, x12, x13, x14, x15, x16, x17, x18, x19])), (h3, .inl (cA 0, 10, .inl fn27)), (h4, .inl (cA 0, 10, .inl fn28)), (h5, .inl (cA 0, 10, .inl (upd fn24 5 0))), (h6, .inl (cA 0, 10, .inl fn25)), (p0, .inr (7, [.int 0, .int 365, .int 0, .int 0, .ref p1, .int 0, .ref p2, .ref p3, .ref p4, .ref p5, .int 0, .ref p6, .int 0, .ref p7, .ref p8, .ref p9, .int 0])), (h1, .inr (6, [.ref h2, .int 0, .int 0]))] H := hP
  have hD : va_D A [(h0, .inr (4, [.ref p0, .ref h1, .ref h3, .ref h4, .ref h5, .ref h6, x6, x7, x8, x9, x10, x11, x12, x13, x14, x15, x16, x17, x18, x19])), (h3, .inl (cA 0, 10, .inl fn27)), (h4, .inl (cA 0, 10, .inl fn28)), (h5, .inl (cA 0, 10, .inl (upd fn24 5 0))), (h6, .inl (cA 0, 10, .inl fn25)), (p0, .inr (7, [.int 0, .int 365, .int 0, .int 0, .ref p1, .int 0, .ref p2, .ref p3, .ref p4, .ref p5, .int 0, .ref p6, .int 0, .ref p7, .ref p8, .ref p9, .int 0])), (h1, .inr (6, [.ref h2, .int 0, .int 0]))] := hD
  generalize (upd fn24 5 0) = fn29 at hP hD
  have hP : va_P D vwCl [(h0, .inr (4, [.ref p0, .ref h1, .ref h3, .ref h4, .ref h5, .ref h6, x6, x7, x8, x9, x10, x11, x12, x13, x14, x15, x16, x17, x18, x19])), (h3, .inl (cA 0, 10, .inl fn27)), (h4, .inl (cA 0, 10, .inl fn28)), (h5, .inl (cA 0, 10, .inl fn29)), (h6, .inl (cA 0, 10, .inl fn25)), (p0, .inr (7, [.int 0, .int 365, .int 0, .int 0, .ref p1, .int 0, .ref p2, .ref p3, .ref p4, .ref p5, .int 0, .ref p6, .int 0, .ref p7, .ref p8, .ref p9, .int 0])), (h1, .inr (6, [.ref h2, .int 0, .int 0]))] H := hP
  have hD : va_D A [(h0, .inr (4, [.ref p0, .ref h1, .ref h3, .ref h4, .ref h5, .ref h6, x6, x7, x8, x9, x10, x11, x12, x13, x14, x15, x16, x17, x18, x19])), (h3, .inl (cA 0, 10, .inl fn27)), (h4, .inl (cA 0, 10, .inl fn28)), (h5, .inl (cA 0, 10, .inl fn29)), (h6, .inl (cA 0, 10, .inl fn25)), (p0, .inr (7, [.int 0, .int 365, .int 0, .int 0, .ref p1, .int 0, .ref p2, .ref p3, .ref p4, .ref p5, .int 0, .ref p6, .int 0, .ref p7, .ref p8, .ref p9, .int 0])), (h1, .inr (6, [.ref h2, .int 0, .int 0]))] := hD
  refine lv_aload_n hx hb dX0_openWith_41 rfl (lv_at hl 1 rfl) ?_
  refine va_get (D := D) (ci := 4) (v := .ref h6) (C := RX0) (T := TX0) (N := 20) hx hb hts inX0 hown hK hP 0 rfl rfl 5 (by decide) (hts (.fieldLink RX0 28 "EscrowDesk$Account" "dueDay" "[I") (by decide +kernel)) (fun _ h9 => h9) rfl dX0_openWith_42 ?_
  refine lv_iload_n hx hb dX0_openWith_45 rfl (lv_at hl 0 rfl) ?_
  refine lv_iconst (v := (-1)) hx hb dX0_openWith_46 (by decide) ?_
  refine va_iast hx hb hK hP hD hS 4 0 rfl rfl (vp_in_iff.mpr (by decide)) dX0_openWith_47 (fun H locs hP hD hS => ?_)
  have hP : va_P D vwCl [(h0, .inr (4, [.ref p0, .ref h1, .ref h3, .ref h4, .ref h5, .ref h6, x6, x7, x8, x9, x10, x11, x12, x13, x14, x15, x16, x17, x18, x19])), (h3, .inl (cA 0, 10, .inl fn27)), (h4, .inl (cA 0, 10, .inl fn28)), (h5, .inl (cA 0, 10, .inl fn29)), (h6, .inl (cA 0, 10, .inl (upd fn25 5 (-1)))), (p0, .inr (7, [.int 0, .int 365, .int 0, .int 0, .ref p1, .int 0, .ref p2, .ref p3, .ref p4, .ref p5, .int 0, .ref p6, .int 0, .ref p7, .ref p8, .ref p9, .int 0])), (h1, .inr (6, [.ref h2, .int 0, .int 0]))] H := hP
  have hD : va_D A [(h0, .inr (4, [.ref p0, .ref h1, .ref h3, .ref h4, .ref h5, .ref h6, x6, x7, x8, x9, x10, x11, x12, x13, x14, x15, x16, x17, x18, x19])), (h3, .inl (cA 0, 10, .inl fn27)), (h4, .inl (cA 0, 10, .inl fn28)), (h5, .inl (cA 0, 10, .inl fn29)), (h6, .inl (cA 0, 10, .inl (upd fn25 5 (-1)))), (p0, .inr (7, [.int 0, .int 365, .int 0, .int 0, .ref p1, .int 0, .ref p2, .ref p3, .ref p4, .ref p5, .int 0, .ref p6, .int 0, .ref p7, .ref p8, .ref p9, .int 0])), (h1, .inr (6, [.ref h2, .int 0, .int 0]))] := hD
  generalize (upd fn25 5 (-1)) = fn30 at hP hD
  have hP : va_P D vwCl [(h0, .inr (4, [.ref p0, .ref h1, .ref h3, .ref h4, .ref h5, .ref h6, x6, x7, x8, x9, x10, x11, x12, x13, x14, x15, x16, x17, x18, x19])), (h3, .inl (cA 0, 10, .inl fn27)), (h4, .inl (cA 0, 10, .inl fn28)), (h5, .inl (cA 0, 10, .inl fn29)), (h6, .inl (cA 0, 10, .inl fn30)), (p0, .inr (7, [.int 0, .int 365, .int 0, .int 0, .ref p1, .int 0, .ref p2, .ref p3, .ref p4, .ref p5, .int 0, .ref p6, .int 0, .ref p7, .ref p8, .ref p9, .int 0])), (h1, .inr (6, [.ref h2, .int 0, .int 0]))] H := hP
  have hD : va_D A [(h0, .inr (4, [.ref p0, .ref h1, .ref h3, .ref h4, .ref h5, .ref h6, x6, x7, x8, x9, x10, x11, x12, x13, x14, x15, x16, x17, x18, x19])), (h3, .inl (cA 0, 10, .inl fn27)), (h4, .inl (cA 0, 10, .inl fn28)), (h5, .inl (cA 0, 10, .inl fn29)), (h6, .inl (cA 0, 10, .inl fn30)), (p0, .inr (7, [.int 0, .int 365, .int 0, .int 0, .ref p1, .int 0, .ref p2, .ref p3, .ref p4, .ref p5, .int 0, .ref p6, .int 0, .ref p7, .ref p8, .ref p9, .int 0])), (h1, .inr (6, [.ref h2, .int 0, .int 0]))] := hD
  refine lv_iinc (v := 6) (lv' := [(2, .int 6), (0, .ref h0), (1, .ref p0)]) hx hb dX0_openWith_48 hl (k := 0) rfl (by first | rfl | decide +kernel) (by decide) rfl (fun ls hl => ?_)
  refine lv_goto (tgt := 14) hx hb dX0_openWith_51 (by decide) ?_
  refine lv_iload_n hx hb dX0_openWith_14 rfl (lv_at hl 0 rfl) ?_
  refine lv_bipush (v := 10) hx hb dX0_openWith_15 (by decide) ?_
  refine lv_icmp_ge (tgt := 54) hx hb dX0_openWith_17 (by decide) (fun c9 => absurd c9 (by decide)) (fun c31 => ?_)
  refine lv_aload_n hx hb dX0_openWith_20 rfl (lv_at hl 1 rfl) ?_
  refine va_get (D := D) (ci := 4) (v := .ref h3) (C := RX0) (T := TX0) (N := 20) hx hb hts inX0 hown hK hP 0 rfl rfl 2 (by decide) (hts (.fieldLink RX0 18 "EscrowDesk$Account" "state" "[I") (by decide +kernel)) (fun _ h9 => h9) rfl dX0_openWith_21 ?_
  refine lv_iload_n hx hb dX0_openWith_24 rfl (lv_at hl 0 rfl) ?_
  refine lv_iconst (v := 0) hx hb dX0_openWith_25 (by decide) ?_
  refine va_iast hx hb hK hP hD hS 1 0 rfl rfl (vp_in_iff.mpr (by decide)) dX0_openWith_26 (fun H locs hP hD hS => ?_)
  have hP : va_P D vwCl [(h0, .inr (4, [.ref p0, .ref h1, .ref h3, .ref h4, .ref h5, .ref h6, x6, x7, x8, x9, x10, x11, x12, x13, x14, x15, x16, x17, x18, x19])), (h3, .inl (cA 0, 10, .inl (upd fn27 6 0))), (h4, .inl (cA 0, 10, .inl fn28)), (h5, .inl (cA 0, 10, .inl fn29)), (h6, .inl (cA 0, 10, .inl fn30)), (p0, .inr (7, [.int 0, .int 365, .int 0, .int 0, .ref p1, .int 0, .ref p2, .ref p3, .ref p4, .ref p5, .int 0, .ref p6, .int 0, .ref p7, .ref p8, .ref p9, .int 0])), (h1, .inr (6, [.ref h2, .int 0, .int 0]))] H := hP
  have hD : va_D A [(h0, .inr (4, [.ref p0, .ref h1, .ref h3, .ref h4, .ref h5, .ref h6, x6, x7, x8, x9, x10, x11, x12, x13, x14, x15, x16, x17, x18, x19])), (h3, .inl (cA 0, 10, .inl (upd fn27 6 0))), (h4, .inl (cA 0, 10, .inl fn28)), (h5, .inl (cA 0, 10, .inl fn29)), (h6, .inl (cA 0, 10, .inl fn30)), (p0, .inr (7, [.int 0, .int 365, .int 0, .int 0, .ref p1, .int 0, .ref p2, .ref p3, .ref p4, .ref p5, .int 0, .ref p6, .int 0, .ref p7, .ref p8, .ref p9, .int 0])), (h1, .inr (6, [.ref h2, .int 0, .int 0]))] := hD
  generalize (upd fn27 6 0) = fn32 at hP hD
  have hP : va_P D vwCl [(h0, .inr (4, [.ref p0, .ref h1, .ref h3, .ref h4, .ref h5, .ref h6, x6, x7, x8, x9, x10, x11, x12, x13, x14, x15, x16, x17, x18, x19])), (h3, .inl (cA 0, 10, .inl fn32)), (h4, .inl (cA 0, 10, .inl fn28)), (h5, .inl (cA 0, 10, .inl fn29)), (h6, .inl (cA 0, 10, .inl fn30)), (p0, .inr (7, [.int 0, .int 365, .int 0, .int 0, .ref p1, .int 0, .ref p2, .ref p3, .ref p4, .ref p5, .int 0, .ref p6, .int 0, .ref p7, .ref p8, .ref p9, .int 0])), (h1, .inr (6, [.ref h2, .int 0, .int 0]))] H := hP
  have hD : va_D A [(h0, .inr (4, [.ref p0, .ref h1, .ref h3, .ref h4, .ref h5, .ref h6, x6, x7, x8, x9, x10, x11, x12, x13, x14, x15, x16, x17, x18, x19])), (h3, .inl (cA 0, 10, .inl fn32)), (h4, .inl (cA 0, 10, .inl fn28)), (h5, .inl (cA 0, 10, .inl fn29)), (h6, .inl (cA 0, 10, .inl fn30)), (p0, .inr (7, [.int 0, .int 365, .int 0, .int 0, .ref p1, .int 0, .ref p2, .ref p3, .ref p4, .ref p5, .int 0, .ref p6, .int 0, .ref p7, .ref p8, .ref p9, .int 0])), (h1, .inr (6, [.ref h2, .int 0, .int 0]))] := hD
  refine lv_aload_n hx hb dX0_openWith_27 rfl (lv_at hl 1 rfl) ?_
  refine va_get (D := D) (ci := 4) (v := .ref h4) (C := RX0) (T := TX0) (N := 20) hx hb hts inX0 hown hK hP 0 rfl rfl 3 (by decide) (hts (.fieldLink RX0 22 "EscrowDesk$Account" "paid" "[I") (by decide +kernel)) (fun _ h9 => h9) rfl dX0_openWith_28 ?_
  refine lv_iload_n hx hb dX0_openWith_31 rfl (lv_at hl 0 rfl) ?_
  refine lv_iconst (v := 0) hx hb dX0_openWith_32 (by decide) ?_
  refine va_iast hx hb hK hP hD hS 2 0 rfl rfl (vp_in_iff.mpr (by decide)) dX0_openWith_33 (fun H locs hP hD hS => ?_)
  have hP : va_P D vwCl [(h0, .inr (4, [.ref p0, .ref h1, .ref h3, .ref h4, .ref h5, .ref h6, x6, x7, x8, x9, x10, x11, x12, x13, x14, x15, x16, x17, x18, x19])), (h3, .inl (cA 0, 10, .inl fn32)), (h4, .inl (cA 0, 10, .inl (upd fn28 6 0))), (h5, .inl (cA 0, 10, .inl fn29)), (h6, .inl (cA 0, 10, .inl fn30)), (p0, .inr (7, [.int 0, .int 365, .int 0, .int 0, .ref p1, .int 0, .ref p2, .ref p3, .ref p4, .ref p5, .int 0, .ref p6, .int 0, .ref p7, .ref p8, .ref p9, .int 0])), (h1, .inr (6, [.ref h2, .int 0, .int 0]))] H := hP
  have hD : va_D A [(h0, .inr (4, [.ref p0, .ref h1, .ref h3, .ref h4, .ref h5, .ref h6, x6, x7, x8, x9, x10, x11, x12, x13, x14, x15, x16, x17, x18, x19])), (h3, .inl (cA 0, 10, .inl fn32)), (h4, .inl (cA 0, 10, .inl (upd fn28 6 0))), (h5, .inl (cA 0, 10, .inl fn29)), (h6, .inl (cA 0, 10, .inl fn30)), (p0, .inr (7, [.int 0, .int 365, .int 0, .int 0, .ref p1, .int 0, .ref p2, .ref p3, .ref p4, .ref p5, .int 0, .ref p6, .int 0, .ref p7, .ref p8, .ref p9, .int 0])), (h1, .inr (6, [.ref h2, .int 0, .int 0]))] := hD
  generalize (upd fn28 6 0) = fn33 at hP hD
  have hP : va_P D vwCl [(h0, .inr (4, [.ref p0, .ref h1, .ref h3, .ref h4, .ref h5, .ref h6, x6, x7, x8, x9, x10, x11, x12, x13, x14, x15, x16, x17, x18, x19])), (h3, .inl (cA 0, 10, .inl fn32)), (h4, .inl (cA 0, 10, .inl fn33)), (h5, .inl (cA 0, 10, .inl fn29)), (h6, .inl (cA 0, 10, .inl fn30)), (p0, .inr (7, [.int 0, .int 365, .int 0, .int 0, .ref p1, .int 0, .ref p2, .ref p3, .ref p4, .ref p5, .int 0, .ref p6, .int 0, .ref p7, .ref p8, .ref p9, .int 0])), (h1, .inr (6, [.ref h2, .int 0, .int 0]))] H := hP
  have hD : va_D A [(h0, .inr (4, [.ref p0, .ref h1, .ref h3, .ref h4, .ref h5, .ref h6, x6, x7, x8, x9, x10, x11, x12, x13, x14, x15, x16, x17, x18, x19])), (h3, .inl (cA 0, 10, .inl fn32)), (h4, .inl (cA 0, 10, .inl fn33)), (h5, .inl (cA 0, 10, .inl fn29)), (h6, .inl (cA 0, 10, .inl fn30)), (p0, .inr (7, [.int 0, .int 365, .int 0, .int 0, .ref p1, .int 0, .ref p2, .ref p3, .ref p4, .ref p5, .int 0, .ref p6, .int 0, .ref p7, .ref p8, .ref p9, .int 0])), (h1, .inr (6, [.ref h2, .int 0, .int 0]))] := hD
  refine lv_aload_n hx hb dX0_openWith_34 rfl (lv_at hl 1 rfl) ?_
  refine va_get (D := D) (ci := 4) (v := .ref h5) (C := RX0) (T := TX0) (N := 20) hx hb hts inX0 hown hK hP 0 rfl rfl 4 (by decide) (hts (.fieldLink RX0 25 "EscrowDesk$Account" "frozen" "[I") (by decide +kernel)) (fun _ h9 => h9) rfl dX0_openWith_35 ?_
  refine lv_iload_n hx hb dX0_openWith_38 rfl (lv_at hl 0 rfl) ?_
  refine lv_iconst (v := 0) hx hb dX0_openWith_39 (by decide) ?_
  refine va_iast hx hb hK hP hD hS 3 0 rfl rfl (vp_in_iff.mpr (by decide)) dX0_openWith_40 (fun H locs hP hD hS => ?_)
  have hP : va_P D vwCl [(h0, .inr (4, [.ref p0, .ref h1, .ref h3, .ref h4, .ref h5, .ref h6, x6, x7, x8, x9, x10, x11, x12, x13, x14, x15, x16, x17, x18, x19])), (h3, .inl (cA 0, 10, .inl fn32)), (h4, .inl (cA 0, 10, .inl fn33)), (h5, .inl (cA 0, 10, .inl (upd fn29 6 0))), (h6, .inl (cA 0, 10, .inl fn30)), (p0, .inr (7, [.int 0, .int 365, .int 0, .int 0, .ref p1, .int 0, .ref p2, .ref p3, .ref p4, .ref p5, .int 0, .ref p6, .int 0, .ref p7, .ref p8, .ref p9, .int 0])), (h1, .inr (6, [.ref h2, .int 0, .int 0]))] H := hP
  have hD : va_D A [(h0, .inr (4, [.ref p0, .ref h1, .ref h3, .ref h4, .ref h5, .ref h6, x6, x7, x8, x9, x10, x11, x12, x13, x14, x15, x16, x17, x18, x19])), (h3, .inl (cA 0, 10, .inl fn32)), (h4, .inl (cA 0, 10, .inl fn33)), (h5, .inl (cA 0, 10, .inl (upd fn29 6 0))), (h6, .inl (cA 0, 10, .inl fn30)), (p0, .inr (7, [.int 0, .int 365, .int 0, .int 0, .ref p1, .int 0, .ref p2, .ref p3, .ref p4, .ref p5, .int 0, .ref p6, .int 0, .ref p7, .ref p8, .ref p9, .int 0])), (h1, .inr (6, [.ref h2, .int 0, .int 0]))] := hD
  generalize (upd fn29 6 0) = fn34 at hP hD
  have hP : va_P D vwCl [(h0, .inr (4, [.ref p0, .ref h1, .ref h3, .ref h4, .ref h5, .ref h6, x6, x7, x8, x9, x10, x11, x12, x13, x14, x15, x16, x17, x18, x19])), (h3, .inl (cA 0, 10, .inl fn32)), (h4, .inl (cA 0, 10, .inl fn33)), (h5, .inl (cA 0, 10, .inl fn34)), (h6, .inl (cA 0, 10, .inl fn30)), (p0, .inr (7, [.int 0, .int 365, .int 0, .int 0, .ref p1, .int 0, .ref p2, .ref p3, .ref p4, .ref p5, .int 0, .ref p6, .int 0, .ref p7, .ref p8, .ref p9, .int 0])), (h1, .inr (6, [.ref h2, .int 0, .int 0]))] H := hP
  have hD : va_D A [(h0, .inr (4, [.ref p0, .ref h1, .ref h3, .ref h4, .ref h5, .ref h6, x6, x7, x8, x9, x10, x11, x12, x13, x14, x15, x16, x17, x18, x19])), (h3, .inl (cA 0, 10, .inl fn32)), (h4, .inl (cA 0, 10, .inl fn33)), (h5, .inl (cA 0, 10, .inl fn34)), (h6, .inl (cA 0, 10, .inl fn30)), (p0, .inr (7, [.int 0, .int 365, .int 0, .int 0, .ref p1, .int 0, .ref p2, .ref p3, .ref p4, .ref p5, .int 0, .ref p6, .int 0, .ref p7, .ref p8, .ref p9, .int 0])), (h1, .inr (6, [.ref h2, .int 0, .int 0]))] := hD
  refine lv_aload_n hx hb dX0_openWith_41 rfl (lv_at hl 1 rfl) ?_
  refine va_get (D := D) (ci := 4) (v := .ref h6) (C := RX0) (T := TX0) (N := 20) hx hb hts inX0 hown hK hP 0 rfl rfl 5 (by decide) (hts (.fieldLink RX0 28 "EscrowDesk$Account" "dueDay" "[I") (by decide +kernel)) (fun _ h9 => h9) rfl dX0_openWith_42 ?_
  refine lv_iload_n hx hb dX0_openWith_45 rfl (lv_at hl 0 rfl) ?_
  refine lv_iconst (v := (-1)) hx hb dX0_openWith_46 (by decide) ?_
  refine va_iast hx hb hK hP hD hS 4 0 rfl rfl (vp_in_iff.mpr (by decide)) dX0_openWith_47 (fun H locs hP hD hS => ?_)
  have hP : va_P D vwCl [(h0, .inr (4, [.ref p0, .ref h1, .ref h3, .ref h4, .ref h5, .ref h6, x6, x7, x8, x9, x10, x11, x12, x13, x14, x15, x16, x17, x18, x19])), (h3, .inl (cA 0, 10, .inl fn32)), (h4, .inl (cA 0, 10, .inl fn33)), (h5, .inl (cA 0, 10, .inl fn34)), (h6, .inl (cA 0, 10, .inl (upd fn30 6 (-1)))), (p0, .inr (7, [.int 0, .int 365, .int 0, .int 0, .ref p1, .int 0, .ref p2, .ref p3, .ref p4, .ref p5, .int 0, .ref p6, .int 0, .ref p7, .ref p8, .ref p9, .int 0])), (h1, .inr (6, [.ref h2, .int 0, .int 0]))] H := hP
  have hD : va_D A [(h0, .inr (4, [.ref p0, .ref h1, .ref h3, .ref h4, .ref h5, .ref h6, x6, x7, x8, x9, x10, x11, x12, x13, x14, x15, x16, x17, x18, x19])), (h3, .inl (cA 0, 10, .inl fn32)), (h4, .inl (cA 0, 10, .inl fn33)), (h5, .inl (cA 0, 10, .inl fn34)), (h6, .inl (cA 0, 10, .inl (upd fn30 6 (-1)))), (p0, .inr (7, [.int 0, .int 365, .int 0, .int 0, .ref p1, .int 0, .ref p2, .ref p3, .ref p4, .ref p5, .int 0, .ref p6, .int 0, .ref p7, .ref p8, .ref p9, .int 0])), (h1, .inr (6, [.ref h2, .int 0, .int 0]))] := hD
  generalize (upd fn30 6 (-1)) = fn35 at hP hD
  have hP : va_P D vwCl [(h0, .inr (4, [.ref p0, .ref h1, .ref h3, .ref h4, .ref h5, .ref h6, x6, x7, x8, x9, x10, x11, x12, x13, x14, x15, x16, x17, x18, x19])), (h3, .inl (cA 0, 10, .inl fn32)), (h4, .inl (cA 0, 10, .inl fn33)), (h5, .inl (cA 0, 10, .inl fn34)), (h6, .inl (cA 0, 10, .inl fn35)), (p0, .inr (7, [.int 0, .int 365, .int 0, .int 0, .ref p1, .int 0, .ref p2, .ref p3, .ref p4, .ref p5, .int 0, .ref p6, .int 0, .ref p7, .ref p8, .ref p9, .int 0])), (h1, .inr (6, [.ref h2, .int 0, .int 0]))] H := hP
  have hD : va_D A [(h0, .inr (4, [.ref p0, .ref h1, .ref h3, .ref h4, .ref h5, .ref h6, x6, x7, x8, x9, x10, x11, x12, x13, x14, x15, x16, x17, x18, x19])), (h3, .inl (cA 0, 10, .inl fn32)), (h4, .inl (cA 0, 10, .inl fn33)), (h5, .inl (cA 0, 10, .inl fn34)), (h6, .inl (cA 0, 10, .inl fn35)), (p0, .inr (7, [.int 0, .int 365, .int 0, .int 0, .ref p1, .int 0, .ref p2, .ref p3, .ref p4, .ref p5, .int 0, .ref p6, .int 0, .ref p7, .ref p8, .ref p9, .int 0])), (h1, .inr (6, [.ref h2, .int 0, .int 0]))] := hD
  refine lv_iinc (v := 7) (lv' := [(2, .int 7), (0, .ref h0), (1, .ref p0)]) hx hb dX0_openWith_48 hl (k := 0) rfl (by first | rfl | decide +kernel) (by decide) rfl (fun ls hl => ?_)
  refine lv_goto (tgt := 14) hx hb dX0_openWith_51 (by decide) ?_
  refine lv_iload_n hx hb dX0_openWith_14 rfl (lv_at hl 0 rfl) ?_
  refine lv_bipush (v := 10) hx hb dX0_openWith_15 (by decide) ?_
  refine lv_icmp_ge (tgt := 54) hx hb dX0_openWith_17 (by decide) (fun c9 => absurd c9 (by decide)) (fun c36 => ?_)
  refine lv_aload_n hx hb dX0_openWith_20 rfl (lv_at hl 1 rfl) ?_
  refine va_get (D := D) (ci := 4) (v := .ref h3) (C := RX0) (T := TX0) (N := 20) hx hb hts inX0 hown hK hP 0 rfl rfl 2 (by decide) (hts (.fieldLink RX0 18 "EscrowDesk$Account" "state" "[I") (by decide +kernel)) (fun _ h9 => h9) rfl dX0_openWith_21 ?_
  refine lv_iload_n hx hb dX0_openWith_24 rfl (lv_at hl 0 rfl) ?_
  refine lv_iconst (v := 0) hx hb dX0_openWith_25 (by decide) ?_
  refine va_iast hx hb hK hP hD hS 1 0 rfl rfl (vp_in_iff.mpr (by decide)) dX0_openWith_26 (fun H locs hP hD hS => ?_)
  have hP : va_P D vwCl [(h0, .inr (4, [.ref p0, .ref h1, .ref h3, .ref h4, .ref h5, .ref h6, x6, x7, x8, x9, x10, x11, x12, x13, x14, x15, x16, x17, x18, x19])), (h3, .inl (cA 0, 10, .inl (upd fn32 7 0))), (h4, .inl (cA 0, 10, .inl fn33)), (h5, .inl (cA 0, 10, .inl fn34)), (h6, .inl (cA 0, 10, .inl fn35)), (p0, .inr (7, [.int 0, .int 365, .int 0, .int 0, .ref p1, .int 0, .ref p2, .ref p3, .ref p4, .ref p5, .int 0, .ref p6, .int 0, .ref p7, .ref p8, .ref p9, .int 0])), (h1, .inr (6, [.ref h2, .int 0, .int 0]))] H := hP
  have hD : va_D A [(h0, .inr (4, [.ref p0, .ref h1, .ref h3, .ref h4, .ref h5, .ref h6, x6, x7, x8, x9, x10, x11, x12, x13, x14, x15, x16, x17, x18, x19])), (h3, .inl (cA 0, 10, .inl (upd fn32 7 0))), (h4, .inl (cA 0, 10, .inl fn33)), (h5, .inl (cA 0, 10, .inl fn34)), (h6, .inl (cA 0, 10, .inl fn35)), (p0, .inr (7, [.int 0, .int 365, .int 0, .int 0, .ref p1, .int 0, .ref p2, .ref p3, .ref p4, .ref p5, .int 0, .ref p6, .int 0, .ref p7, .ref p8, .ref p9, .int 0])), (h1, .inr (6, [.ref h2, .int 0, .int 0]))] := hD
  generalize (upd fn32 7 0) = fn37 at hP hD
  have hP : va_P D vwCl [(h0, .inr (4, [.ref p0, .ref h1, .ref h3, .ref h4, .ref h5, .ref h6, x6, x7, x8, x9, x10, x11, x12, x13, x14, x15, x16, x17, x18, x19])), (h3, .inl (cA 0, 10, .inl fn37)), (h4, .inl (cA 0, 10, .inl fn33)), (h5, .inl (cA 0, 10, .inl fn34)), (h6, .inl (cA 0, 10, .inl fn35)), (p0, .inr (7, [.int 0, .int 365, .int 0, .int 0, .ref p1, .int 0, .ref p2, .ref p3, .ref p4, .ref p5, .int 0, .ref p6, .int 0, .ref p7, .ref p8, .ref p9, .int 0])), (h1, .inr (6, [.ref h2, .int 0, .int 0]))] H := hP
  have hD : va_D A [(h0, .inr (4, [.ref p0, .ref h1, .ref h3, .ref h4, .ref h5, .ref h6, x6, x7, x8, x9, x10, x11, x12, x13, x14, x15, x16, x17, x18, x19])), (h3, .inl (cA 0, 10, .inl fn37)), (h4, .inl (cA 0, 10, .inl fn33)), (h5, .inl (cA 0, 10, .inl fn34)), (h6, .inl (cA 0, 10, .inl fn35)), (p0, .inr (7, [.int 0, .int 365, .int 0, .int 0, .ref p1, .int 0, .ref p2, .ref p3, .ref p4, .ref p5, .int 0, .ref p6, .int 0, .ref p7, .ref p8, .ref p9, .int 0])), (h1, .inr (6, [.ref h2, .int 0, .int 0]))] := hD
  refine lv_aload_n hx hb dX0_openWith_27 rfl (lv_at hl 1 rfl) ?_
  refine va_get (D := D) (ci := 4) (v := .ref h4) (C := RX0) (T := TX0) (N := 20) hx hb hts inX0 hown hK hP 0 rfl rfl 3 (by decide) (hts (.fieldLink RX0 22 "EscrowDesk$Account" "paid" "[I") (by decide +kernel)) (fun _ h9 => h9) rfl dX0_openWith_28 ?_
  refine lv_iload_n hx hb dX0_openWith_31 rfl (lv_at hl 0 rfl) ?_
  refine lv_iconst (v := 0) hx hb dX0_openWith_32 (by decide) ?_
  refine va_iast hx hb hK hP hD hS 2 0 rfl rfl (vp_in_iff.mpr (by decide)) dX0_openWith_33 (fun H locs hP hD hS => ?_)
  have hP : va_P D vwCl [(h0, .inr (4, [.ref p0, .ref h1, .ref h3, .ref h4, .ref h5, .ref h6, x6, x7, x8, x9, x10, x11, x12, x13, x14, x15, x16, x17, x18, x19])), (h3, .inl (cA 0, 10, .inl fn37)), (h4, .inl (cA 0, 10, .inl (upd fn33 7 0))), (h5, .inl (cA 0, 10, .inl fn34)), (h6, .inl (cA 0, 10, .inl fn35)), (p0, .inr (7, [.int 0, .int 365, .int 0, .int 0, .ref p1, .int 0, .ref p2, .ref p3, .ref p4, .ref p5, .int 0, .ref p6, .int 0, .ref p7, .ref p8, .ref p9, .int 0])), (h1, .inr (6, [.ref h2, .int 0, .int 0]))] H := hP
  have hD : va_D A [(h0, .inr (4, [.ref p0, .ref h1, .ref h3, .ref h4, .ref h5, .ref h6, x6, x7, x8, x9, x10, x11, x12, x13, x14, x15, x16, x17, x18, x19])), (h3, .inl (cA 0, 10, .inl fn37)), (h4, .inl (cA 0, 10, .inl (upd fn33 7 0))), (h5, .inl (cA 0, 10, .inl fn34)), (h6, .inl (cA 0, 10, .inl fn35)), (p0, .inr (7, [.int 0, .int 365, .int 0, .int 0, .ref p1, .int 0, .ref p2, .ref p3, .ref p4, .ref p5, .int 0, .ref p6, .int 0, .ref p7, .ref p8, .ref p9, .int 0])), (h1, .inr (6, [.ref h2, .int 0, .int 0]))] := hD
  generalize (upd fn33 7 0) = fn38 at hP hD
  have hP : va_P D vwCl [(h0, .inr (4, [.ref p0, .ref h1, .ref h3, .ref h4, .ref h5, .ref h6, x6, x7, x8, x9, x10, x11, x12, x13, x14, x15, x16, x17, x18, x19])), (h3, .inl (cA 0, 10, .inl fn37)), (h4, .inl (cA 0, 10, .inl fn38)), (h5, .inl (cA 0, 10, .inl fn34)), (h6, .inl (cA 0, 10, .inl fn35)), (p0, .inr (7, [.int 0, .int 365, .int 0, .int 0, .ref p1, .int 0, .ref p2, .ref p3, .ref p4, .ref p5, .int 0, .ref p6, .int 0, .ref p7, .ref p8, .ref p9, .int 0])), (h1, .inr (6, [.ref h2, .int 0, .int 0]))] H := hP
  have hD : va_D A [(h0, .inr (4, [.ref p0, .ref h1, .ref h3, .ref h4, .ref h5, .ref h6, x6, x7, x8, x9, x10, x11, x12, x13, x14, x15, x16, x17, x18, x19])), (h3, .inl (cA 0, 10, .inl fn37)), (h4, .inl (cA 0, 10, .inl fn38)), (h5, .inl (cA 0, 10, .inl fn34)), (h6, .inl (cA 0, 10, .inl fn35)), (p0, .inr (7, [.int 0, .int 365, .int 0, .int 0, .ref p1, .int 0, .ref p2, .ref p3, .ref p4, .ref p5, .int 0, .ref p6, .int 0, .ref p7, .ref p8, .ref p9, .int 0])), (h1, .inr (6, [.ref h2, .int 0, .int 0]))] := hD
  refine lv_aload_n hx hb dX0_openWith_34 rfl (lv_at hl 1 rfl) ?_
  refine va_get (D := D) (ci := 4) (v := .ref h5) (C := RX0) (T := TX0) (N := 20) hx hb hts inX0 hown hK hP 0 rfl rfl 4 (by decide) (hts (.fieldLink RX0 25 "EscrowDesk$Account" "frozen" "[I") (by decide +kernel)) (fun _ h9 => h9) rfl dX0_openWith_35 ?_
  refine lv_iload_n hx hb dX0_openWith_38 rfl (lv_at hl 0 rfl) ?_
  refine lv_iconst (v := 0) hx hb dX0_openWith_39 (by decide) ?_
  refine va_iast hx hb hK hP hD hS 3 0 rfl rfl (vp_in_iff.mpr (by decide)) dX0_openWith_40 (fun H locs hP hD hS => ?_)
  have hP : va_P D vwCl [(h0, .inr (4, [.ref p0, .ref h1, .ref h3, .ref h4, .ref h5, .ref h6, x6, x7, x8, x9, x10, x11, x12, x13, x14, x15, x16, x17, x18, x19])), (h3, .inl (cA 0, 10, .inl fn37)), (h4, .inl (cA 0, 10, .inl fn38)), (h5, .inl (cA 0, 10, .inl (upd fn34 7 0))), (h6, .inl (cA 0, 10, .inl fn35)), (p0, .inr (7, [.int 0, .int 365, .int 0, .int 0, .ref p1, .int 0, .ref p2, .ref p3, .ref p4, .ref p5, .int 0, .ref p6, .int 0, .ref p7, .ref p8, .ref p9, .int 0])), (h1, .inr (6, [.ref h2, .int 0, .int 0]))] H := hP
  have hD : va_D A [(h0, .inr (4, [.ref p0, .ref h1, .ref h3, .ref h4, .ref h5, .ref h6, x6, x7, x8, x9, x10, x11, x12, x13, x14, x15, x16, x17, x18, x19])), (h3, .inl (cA 0, 10, .inl fn37)), (h4, .inl (cA 0, 10, .inl fn38)), (h5, .inl (cA 0, 10, .inl (upd fn34 7 0))), (h6, .inl (cA 0, 10, .inl fn35)), (p0, .inr (7, [.int 0, .int 365, .int 0, .int 0, .ref p1, .int 0, .ref p2, .ref p3, .ref p4, .ref p5, .int 0, .ref p6, .int 0, .ref p7, .ref p8, .ref p9, .int 0])), (h1, .inr (6, [.ref h2, .int 0, .int 0]))] := hD
  generalize (upd fn34 7 0) = fn39 at hP hD
  have hP : va_P D vwCl [(h0, .inr (4, [.ref p0, .ref h1, .ref h3, .ref h4, .ref h5, .ref h6, x6, x7, x8, x9, x10, x11, x12, x13, x14, x15, x16, x17, x18, x19])), (h3, .inl (cA 0, 10, .inl fn37)), (h4, .inl (cA 0, 10, .inl fn38)), (h5, .inl (cA 0, 10, .inl fn39)), (h6, .inl (cA 0, 10, .inl fn35)), (p0, .inr (7, [.int 0, .int 365, .int 0, .int 0, .ref p1, .int 0, .ref p2, .ref p3, .ref p4, .ref p5, .int 0, .ref p6, .int 0, .ref p7, .ref p8, .ref p9, .int 0])), (h1, .inr (6, [.ref h2, .int 0, .int 0]))] H := hP
  have hD : va_D A [(h0, .inr (4, [.ref p0, .ref h1, .ref h3, .ref h4, .ref h5, .ref h6, x6, x7, x8, x9, x10, x11, x12, x13, x14, x15, x16, x17, x18, x19])), (h3, .inl (cA 0, 10, .inl fn37)), (h4, .inl (cA 0, 10, .inl fn38)), (h5, .inl (cA 0, 10, .inl fn39)), (h6, .inl (cA 0, 10, .inl fn35)), (p0, .inr (7, [.int 0, .int 365, .int 0, .int 0, .ref p1, .int 0, .ref p2, .ref p3, .ref p4, .ref p5, .int 0, .ref p6, .int 0, .ref p7, .ref p8, .ref p9, .int 0])), (h1, .inr (6, [.ref h2, .int 0, .int 0]))] := hD
  refine lv_aload_n hx hb dX0_openWith_41 rfl (lv_at hl 1 rfl) ?_
  refine va_get (D := D) (ci := 4) (v := .ref h6) (C := RX0) (T := TX0) (N := 20) hx hb hts inX0 hown hK hP 0 rfl rfl 5 (by decide) (hts (.fieldLink RX0 28 "EscrowDesk$Account" "dueDay" "[I") (by decide +kernel)) (fun _ h9 => h9) rfl dX0_openWith_42 ?_
  refine lv_iload_n hx hb dX0_openWith_45 rfl (lv_at hl 0 rfl) ?_
  refine lv_iconst (v := (-1)) hx hb dX0_openWith_46 (by decide) ?_
  refine va_iast hx hb hK hP hD hS 4 0 rfl rfl (vp_in_iff.mpr (by decide)) dX0_openWith_47 (fun H locs hP hD hS => ?_)
  have hP : va_P D vwCl [(h0, .inr (4, [.ref p0, .ref h1, .ref h3, .ref h4, .ref h5, .ref h6, x6, x7, x8, x9, x10, x11, x12, x13, x14, x15, x16, x17, x18, x19])), (h3, .inl (cA 0, 10, .inl fn37)), (h4, .inl (cA 0, 10, .inl fn38)), (h5, .inl (cA 0, 10, .inl fn39)), (h6, .inl (cA 0, 10, .inl (upd fn35 7 (-1)))), (p0, .inr (7, [.int 0, .int 365, .int 0, .int 0, .ref p1, .int 0, .ref p2, .ref p3, .ref p4, .ref p5, .int 0, .ref p6, .int 0, .ref p7, .ref p8, .ref p9, .int 0])), (h1, .inr (6, [.ref h2, .int 0, .int 0]))] H := hP
  have hD : va_D A [(h0, .inr (4, [.ref p0, .ref h1, .ref h3, .ref h4, .ref h5, .ref h6, x6, x7, x8, x9, x10, x11, x12, x13, x14, x15, x16, x17, x18, x19])), (h3, .inl (cA 0, 10, .inl fn37)), (h4, .inl (cA 0, 10, .inl fn38)), (h5, .inl (cA 0, 10, .inl fn39)), (h6, .inl (cA 0, 10, .inl (upd fn35 7 (-1)))), (p0, .inr (7, [.int 0, .int 365, .int 0, .int 0, .ref p1, .int 0, .ref p2, .ref p3, .ref p4, .ref p5, .int 0, .ref p6, .int 0, .ref p7, .ref p8, .ref p9, .int 0])), (h1, .inr (6, [.ref h2, .int 0, .int 0]))] := hD
  generalize (upd fn35 7 (-1)) = fn40 at hP hD
  have hP : va_P D vwCl [(h0, .inr (4, [.ref p0, .ref h1, .ref h3, .ref h4, .ref h5, .ref h6, x6, x7, x8, x9, x10, x11, x12, x13, x14, x15, x16, x17, x18, x19])), (h3, .inl (cA 0, 10, .inl fn37)), (h4, .inl (cA 0, 10, .inl fn38)), (h5, .inl (cA 0, 10, .inl fn39)), (h6, .inl (cA 0, 10, .inl fn40)), (p0, .inr (7, [.int 0, .int 365, .int 0, .int 0, .ref p1, .int 0, .ref p2, .ref p3, .ref p4, .ref p5, .int 0, .ref p6, .int 0, .ref p7, .ref p8, .ref p9, .int 0])), (h1, .inr (6, [.ref h2, .int 0, .int 0]))] H := hP
  have hD : va_D A [(h0, .inr (4, [.ref p0, .ref h1, .ref h3, .ref h4, .ref h5, .ref h6, x6, x7, x8, x9, x10, x11, x12, x13, x14, x15, x16, x17, x18, x19])), (h3, .inl (cA 0, 10, .inl fn37)), (h4, .inl (cA 0, 10, .inl fn38)), (h5, .inl (cA 0, 10, .inl fn39)), (h6, .inl (cA 0, 10, .inl fn40)), (p0, .inr (7, [.int 0, .int 365, .int 0, .int 0, .ref p1, .int 0, .ref p2, .ref p3, .ref p4, .ref p5, .int 0, .ref p6, .int 0, .ref p7, .ref p8, .ref p9, .int 0])), (h1, .inr (6, [.ref h2, .int 0, .int 0]))] := hD
  refine lv_iinc (v := 8) (lv' := [(2, .int 8), (0, .ref h0), (1, .ref p0)]) hx hb dX0_openWith_48 hl (k := 0) rfl (by first | rfl | decide +kernel) (by decide) rfl (fun ls hl => ?_)
  refine lv_goto (tgt := 14) hx hb dX0_openWith_51 (by decide) ?_
  refine lv_iload_n hx hb dX0_openWith_14 rfl (lv_at hl 0 rfl) ?_
  refine lv_bipush (v := 10) hx hb dX0_openWith_15 (by decide) ?_
  refine lv_icmp_ge (tgt := 54) hx hb dX0_openWith_17 (by decide) (fun c9 => absurd c9 (by decide)) (fun c41 => ?_)
  refine lv_aload_n hx hb dX0_openWith_20 rfl (lv_at hl 1 rfl) ?_
  refine va_get (D := D) (ci := 4) (v := .ref h3) (C := RX0) (T := TX0) (N := 20) hx hb hts inX0 hown hK hP 0 rfl rfl 2 (by decide) (hts (.fieldLink RX0 18 "EscrowDesk$Account" "state" "[I") (by decide +kernel)) (fun _ h9 => h9) rfl dX0_openWith_21 ?_
  refine lv_iload_n hx hb dX0_openWith_24 rfl (lv_at hl 0 rfl) ?_
  refine lv_iconst (v := 0) hx hb dX0_openWith_25 (by decide) ?_
  refine va_iast hx hb hK hP hD hS 1 0 rfl rfl (vp_in_iff.mpr (by decide)) dX0_openWith_26 (fun H locs hP hD hS => ?_)
  have hP : va_P D vwCl [(h0, .inr (4, [.ref p0, .ref h1, .ref h3, .ref h4, .ref h5, .ref h6, x6, x7, x8, x9, x10, x11, x12, x13, x14, x15, x16, x17, x18, x19])), (h3, .inl (cA 0, 10, .inl (upd fn37 8 0))), (h4, .inl (cA 0, 10, .inl fn38)), (h5, .inl (cA 0, 10, .inl fn39)), (h6, .inl (cA 0, 10, .inl fn40)), (p0, .inr (7, [.int 0, .int 365, .int 0, .int 0, .ref p1, .int 0, .ref p2, .ref p3, .ref p4, .ref p5, .int 0, .ref p6, .int 0, .ref p7, .ref p8, .ref p9, .int 0])), (h1, .inr (6, [.ref h2, .int 0, .int 0]))] H := hP
  have hD : va_D A [(h0, .inr (4, [.ref p0, .ref h1, .ref h3, .ref h4, .ref h5, .ref h6, x6, x7, x8, x9, x10, x11, x12, x13, x14, x15, x16, x17, x18, x19])), (h3, .inl (cA 0, 10, .inl (upd fn37 8 0))), (h4, .inl (cA 0, 10, .inl fn38)), (h5, .inl (cA 0, 10, .inl fn39)), (h6, .inl (cA 0, 10, .inl fn40)), (p0, .inr (7, [.int 0, .int 365, .int 0, .int 0, .ref p1, .int 0, .ref p2, .ref p3, .ref p4, .ref p5, .int 0, .ref p6, .int 0, .ref p7, .ref p8, .ref p9, .int 0])), (h1, .inr (6, [.ref h2, .int 0, .int 0]))] := hD
  generalize (upd fn37 8 0) = fn42 at hP hD
  have hP : va_P D vwCl [(h0, .inr (4, [.ref p0, .ref h1, .ref h3, .ref h4, .ref h5, .ref h6, x6, x7, x8, x9, x10, x11, x12, x13, x14, x15, x16, x17, x18, x19])), (h3, .inl (cA 0, 10, .inl fn42)), (h4, .inl (cA 0, 10, .inl fn38)), (h5, .inl (cA 0, 10, .inl fn39)), (h6, .inl (cA 0, 10, .inl fn40)), (p0, .inr (7, [.int 0, .int 365, .int 0, .int 0, .ref p1, .int 0, .ref p2, .ref p3, .ref p4, .ref p5, .int 0, .ref p6, .int 0, .ref p7, .ref p8, .ref p9, .int 0])), (h1, .inr (6, [.ref h2, .int 0, .int 0]))] H := hP
  have hD : va_D A [(h0, .inr (4, [.ref p0, .ref h1, .ref h3, .ref h4, .ref h5, .ref h6, x6, x7, x8, x9, x10, x11, x12, x13, x14, x15, x16, x17, x18, x19])), (h3, .inl (cA 0, 10, .inl fn42)), (h4, .inl (cA 0, 10, .inl fn38)), (h5, .inl (cA 0, 10, .inl fn39)), (h6, .inl (cA 0, 10, .inl fn40)), (p0, .inr (7, [.int 0, .int 365, .int 0, .int 0, .ref p1, .int 0, .ref p2, .ref p3, .ref p4, .ref p5, .int 0, .ref p6, .int 0, .ref p7, .ref p8, .ref p9, .int 0])), (h1, .inr (6, [.ref h2, .int 0, .int 0]))] := hD
  refine lv_aload_n hx hb dX0_openWith_27 rfl (lv_at hl 1 rfl) ?_
  refine va_get (D := D) (ci := 4) (v := .ref h4) (C := RX0) (T := TX0) (N := 20) hx hb hts inX0 hown hK hP 0 rfl rfl 3 (by decide) (hts (.fieldLink RX0 22 "EscrowDesk$Account" "paid" "[I") (by decide +kernel)) (fun _ h9 => h9) rfl dX0_openWith_28 ?_
  refine lv_iload_n hx hb dX0_openWith_31 rfl (lv_at hl 0 rfl) ?_
  refine lv_iconst (v := 0) hx hb dX0_openWith_32 (by decide) ?_
  refine va_iast hx hb hK hP hD hS 2 0 rfl rfl (vp_in_iff.mpr (by decide)) dX0_openWith_33 (fun H locs hP hD hS => ?_)
  have hP : va_P D vwCl [(h0, .inr (4, [.ref p0, .ref h1, .ref h3, .ref h4, .ref h5, .ref h6, x6, x7, x8, x9, x10, x11, x12, x13, x14, x15, x16, x17, x18, x19])), (h3, .inl (cA 0, 10, .inl fn42)), (h4, .inl (cA 0, 10, .inl (upd fn38 8 0))), (h5, .inl (cA 0, 10, .inl fn39)), (h6, .inl (cA 0, 10, .inl fn40)), (p0, .inr (7, [.int 0, .int 365, .int 0, .int 0, .ref p1, .int 0, .ref p2, .ref p3, .ref p4, .ref p5, .int 0, .ref p6, .int 0, .ref p7, .ref p8, .ref p9, .int 0])), (h1, .inr (6, [.ref h2, .int 0, .int 0]))] H := hP
  have hD : va_D A [(h0, .inr (4, [.ref p0, .ref h1, .ref h3, .ref h4, .ref h5, .ref h6, x6, x7, x8, x9, x10, x11, x12, x13, x14, x15, x16, x17, x18, x19])), (h3, .inl (cA 0, 10, .inl fn42)), (h4, .inl (cA 0, 10, .inl (upd fn38 8 0))), (h5, .inl (cA 0, 10, .inl fn39)), (h6, .inl (cA 0, 10, .inl fn40)), (p0, .inr (7, [.int 0, .int 365, .int 0, .int 0, .ref p1, .int 0, .ref p2, .ref p3, .ref p4, .ref p5, .int 0, .ref p6, .int 0, .ref p7, .ref p8, .ref p9, .int 0])), (h1, .inr (6, [.ref h2, .int 0, .int 0]))] := hD
  generalize (upd fn38 8 0) = fn43 at hP hD
  have hP : va_P D vwCl [(h0, .inr (4, [.ref p0, .ref h1, .ref h3, .ref h4, .ref h5, .ref h6, x6, x7, x8, x9, x10, x11, x12, x13, x14, x15, x16, x17, x18, x19])), (h3, .inl (cA 0, 10, .inl fn42)), (h4, .inl (cA 0, 10, .inl fn43)), (h5, .inl (cA 0, 10, .inl fn39)), (h6, .inl (cA 0, 10, .inl fn40)), (p0, .inr (7, [.int 0, .int 365, .int 0, .int 0, .ref p1, .int 0, .ref p2, .ref p3, .ref p4, .ref p5, .int 0, .ref p6, .int 0, .ref p7, .ref p8, .ref p9, .int 0])), (h1, .inr (6, [.ref h2, .int 0, .int 0]))] H := hP
  have hD : va_D A [(h0, .inr (4, [.ref p0, .ref h1, .ref h3, .ref h4, .ref h5, .ref h6, x6, x7, x8, x9, x10, x11, x12, x13, x14, x15, x16, x17, x18, x19])), (h3, .inl (cA 0, 10, .inl fn42)), (h4, .inl (cA 0, 10, .inl fn43)), (h5, .inl (cA 0, 10, .inl fn39)), (h6, .inl (cA 0, 10, .inl fn40)), (p0, .inr (7, [.int 0, .int 365, .int 0, .int 0, .ref p1, .int 0, .ref p2, .ref p3, .ref p4, .ref p5, .int 0, .ref p6, .int 0, .ref p7, .ref p8, .ref p9, .int 0])), (h1, .inr (6, [.ref h2, .int 0, .int 0]))] := hD
  refine lv_aload_n hx hb dX0_openWith_34 rfl (lv_at hl 1 rfl) ?_
  refine va_get (D := D) (ci := 4) (v := .ref h5) (C := RX0) (T := TX0) (N := 20) hx hb hts inX0 hown hK hP 0 rfl rfl 4 (by decide) (hts (.fieldLink RX0 25 "EscrowDesk$Account" "frozen" "[I") (by decide +kernel)) (fun _ h9 => h9) rfl dX0_openWith_35 ?_
  refine lv_iload_n hx hb dX0_openWith_38 rfl (lv_at hl 0 rfl) ?_
  refine lv_iconst (v := 0) hx hb dX0_openWith_39 (by decide) ?_
  refine va_iast hx hb hK hP hD hS 3 0 rfl rfl (vp_in_iff.mpr (by decide)) dX0_openWith_40 (fun H locs hP hD hS => ?_)
  have hP : va_P D vwCl [(h0, .inr (4, [.ref p0, .ref h1, .ref h3, .ref h4, .ref h5, .ref h6, x6, x7, x8, x9, x10, x11, x12, x13, x14, x15, x16, x17, x18, x19])), (h3, .inl (cA 0, 10, .inl fn42)), (h4, .inl (cA 0, 10, .inl fn43)), (h5, .inl (cA 0, 10, .inl (upd fn39 8 0))), (h6, .inl (cA 0, 10, .inl fn40)), (p0, .inr (7, [.int 0, .int 365, .int 0, .int 0, .ref p1, .int 0, .ref p2, .ref p3, .ref p4, .ref p5, .int 0, .ref p6, .int 0, .ref p7, .ref p8, .ref p9, .int 0])), (h1, .inr (6, [.ref h2, .int 0, .int 0]))] H := hP
  have hD : va_D A [(h0, .inr (4, [.ref p0, .ref h1, .ref h3, .ref h4, .ref h5, .ref h6, x6, x7, x8, x9, x10, x11, x12, x13, x14, x15, x16, x17, x18, x19])), (h3, .inl (cA 0, 10, .inl fn42)), (h4, .inl (cA 0, 10, .inl fn43)), (h5, .inl (cA 0, 10, .inl (upd fn39 8 0))), (h6, .inl (cA 0, 10, .inl fn40)), (p0, .inr (7, [.int 0, .int 365, .int 0, .int 0, .ref p1, .int 0, .ref p2, .ref p3, .ref p4, .ref p5, .int 0, .ref p6, .int 0, .ref p7, .ref p8, .ref p9, .int 0])), (h1, .inr (6, [.ref h2, .int 0, .int 0]))] := hD
  generalize (upd fn39 8 0) = fn44 at hP hD
  have hP : va_P D vwCl [(h0, .inr (4, [.ref p0, .ref h1, .ref h3, .ref h4, .ref h5, .ref h6, x6, x7, x8, x9, x10, x11, x12, x13, x14, x15, x16, x17, x18, x19])), (h3, .inl (cA 0, 10, .inl fn42)), (h4, .inl (cA 0, 10, .inl fn43)), (h5, .inl (cA 0, 10, .inl fn44)), (h6, .inl (cA 0, 10, .inl fn40)), (p0, .inr (7, [.int 0, .int 365, .int 0, .int 0, .ref p1, .int 0, .ref p2, .ref p3, .ref p4, .ref p5, .int 0, .ref p6, .int 0, .ref p7, .ref p8, .ref p9, .int 0])), (h1, .inr (6, [.ref h2, .int 0, .int 0]))] H := hP
  have hD : va_D A [(h0, .inr (4, [.ref p0, .ref h1, .ref h3, .ref h4, .ref h5, .ref h6, x6, x7, x8, x9, x10, x11, x12, x13, x14, x15, x16, x17, x18, x19])), (h3, .inl (cA 0, 10, .inl fn42)), (h4, .inl (cA 0, 10, .inl fn43)), (h5, .inl (cA 0, 10, .inl fn44)), (h6, .inl (cA 0, 10, .inl fn40)), (p0, .inr (7, [.int 0, .int 365, .int 0, .int 0, .ref p1, .int 0, .ref p2, .ref p3, .ref p4, .ref p5, .int 0, .ref p6, .int 0, .ref p7, .ref p8, .ref p9, .int 0])), (h1, .inr (6, [.ref h2, .int 0, .int 0]))] := hD
  refine lv_aload_n hx hb dX0_openWith_41 rfl (lv_at hl 1 rfl) ?_
  refine va_get (D := D) (ci := 4) (v := .ref h6) (C := RX0) (T := TX0) (N := 20) hx hb hts inX0 hown hK hP 0 rfl rfl 5 (by decide) (hts (.fieldLink RX0 28 "EscrowDesk$Account" "dueDay" "[I") (by decide +kernel)) (fun _ h9 => h9) rfl dX0_openWith_42 ?_
  refine lv_iload_n hx hb dX0_openWith_45 rfl (lv_at hl 0 rfl) ?_
  refine lv_iconst (v := (-1)) hx hb dX0_openWith_46 (by decide) ?_
  refine va_iast hx hb hK hP hD hS 4 0 rfl rfl (vp_in_iff.mpr (by decide)) dX0_openWith_47 (fun H locs hP hD hS => ?_)
  have hP : va_P D vwCl [(h0, .inr (4, [.ref p0, .ref h1, .ref h3, .ref h4, .ref h5, .ref h6, x6, x7, x8, x9, x10, x11, x12, x13, x14, x15, x16, x17, x18, x19])), (h3, .inl (cA 0, 10, .inl fn42)), (h4, .inl (cA 0, 10, .inl fn43)), (h5, .inl (cA 0, 10, .inl fn44)), (h6, .inl (cA 0, 10, .inl (upd fn40 8 (-1)))), (p0, .inr (7, [.int 0, .int 365, .int 0, .int 0, .ref p1, .int 0, .ref p2, .ref p3, .ref p4, .ref p5, .int 0, .ref p6, .int 0, .ref p7, .ref p8, .ref p9, .int 0])), (h1, .inr (6, [.ref h2, .int 0, .int 0]))] H := hP
  have hD : va_D A [(h0, .inr (4, [.ref p0, .ref h1, .ref h3, .ref h4, .ref h5, .ref h6, x6, x7, x8, x9, x10, x11, x12, x13, x14, x15, x16, x17, x18, x19])), (h3, .inl (cA 0, 10, .inl fn42)), (h4, .inl (cA 0, 10, .inl fn43)), (h5, .inl (cA 0, 10, .inl fn44)), (h6, .inl (cA 0, 10, .inl (upd fn40 8 (-1)))), (p0, .inr (7, [.int 0, .int 365, .int 0, .int 0, .ref p1, .int 0, .ref p2, .ref p3, .ref p4, .ref p5, .int 0, .ref p6, .int 0, .ref p7, .ref p8, .ref p9, .int 0])), (h1, .inr (6, [.ref h2, .int 0, .int 0]))] := hD
  generalize (upd fn40 8 (-1)) = fn45 at hP hD
  have hP : va_P D vwCl [(h0, .inr (4, [.ref p0, .ref h1, .ref h3, .ref h4, .ref h5, .ref h6, x6, x7, x8, x9, x10, x11, x12, x13, x14, x15, x16, x17, x18, x19])), (h3, .inl (cA 0, 10, .inl fn42)), (h4, .inl (cA 0, 10, .inl fn43)), (h5, .inl (cA 0, 10, .inl fn44)), (h6, .inl (cA 0, 10, .inl fn45)), (p0, .inr (7, [.int 0, .int 365, .int 0, .int 0, .ref p1, .int 0, .ref p2, .ref p3, .ref p4, .ref p5, .int 0, .ref p6, .int 0, .ref p7, .ref p8, .ref p9, .int 0])), (h1, .inr (6, [.ref h2, .int 0, .int 0]))] H := hP
  have hD : va_D A [(h0, .inr (4, [.ref p0, .ref h1, .ref h3, .ref h4, .ref h5, .ref h6, x6, x7, x8, x9, x10, x11, x12, x13, x14, x15, x16, x17, x18, x19])), (h3, .inl (cA 0, 10, .inl fn42)), (h4, .inl (cA 0, 10, .inl fn43)), (h5, .inl (cA 0, 10, .inl fn44)), (h6, .inl (cA 0, 10, .inl fn45)), (p0, .inr (7, [.int 0, .int 365, .int 0, .int 0, .ref p1, .int 0, .ref p2, .ref p3, .ref p4, .ref p5, .int 0, .ref p6, .int 0, .ref p7, .ref p8, .ref p9, .int 0])), (h1, .inr (6, [.ref h2, .int 0, .int 0]))] := hD
  refine lv_iinc (v := 9) (lv' := [(2, .int 9), (0, .ref h0), (1, .ref p0)]) hx hb dX0_openWith_48 hl (k := 0) rfl (by first | rfl | decide +kernel) (by decide) rfl (fun ls hl => ?_)
  refine lv_goto (tgt := 14) hx hb dX0_openWith_51 (by decide) ?_
  refine lv_iload_n hx hb dX0_openWith_14 rfl (lv_at hl 0 rfl) ?_
  refine lv_bipush (v := 10) hx hb dX0_openWith_15 (by decide) ?_
  refine lv_icmp_ge (tgt := 54) hx hb dX0_openWith_17 (by decide) (fun c9 => absurd c9 (by decide)) (fun c46 => ?_)
  refine lv_aload_n hx hb dX0_openWith_20 rfl (lv_at hl 1 rfl) ?_
  refine va_get (D := D) (ci := 4) (v := .ref h3) (C := RX0) (T := TX0) (N := 20) hx hb hts inX0 hown hK hP 0 rfl rfl 2 (by decide) (hts (.fieldLink RX0 18 "EscrowDesk$Account" "state" "[I") (by decide +kernel)) (fun _ h9 => h9) rfl dX0_openWith_21 ?_
  refine lv_iload_n hx hb dX0_openWith_24 rfl (lv_at hl 0 rfl) ?_
  refine lv_iconst (v := 0) hx hb dX0_openWith_25 (by decide) ?_
  refine va_iast hx hb hK hP hD hS 1 0 rfl rfl (vp_in_iff.mpr (by decide)) dX0_openWith_26 (fun H locs hP hD hS => ?_)
  have hP : va_P D vwCl [(h0, .inr (4, [.ref p0, .ref h1, .ref h3, .ref h4, .ref h5, .ref h6, x6, x7, x8, x9, x10, x11, x12, x13, x14, x15, x16, x17, x18, x19])), (h3, .inl (cA 0, 10, .inl (upd fn42 9 0))), (h4, .inl (cA 0, 10, .inl fn43)), (h5, .inl (cA 0, 10, .inl fn44)), (h6, .inl (cA 0, 10, .inl fn45)), (p0, .inr (7, [.int 0, .int 365, .int 0, .int 0, .ref p1, .int 0, .ref p2, .ref p3, .ref p4, .ref p5, .int 0, .ref p6, .int 0, .ref p7, .ref p8, .ref p9, .int 0])), (h1, .inr (6, [.ref h2, .int 0, .int 0]))] H := hP
  have hD : va_D A [(h0, .inr (4, [.ref p0, .ref h1, .ref h3, .ref h4, .ref h5, .ref h6, x6, x7, x8, x9, x10, x11, x12, x13, x14, x15, x16, x17, x18, x19])), (h3, .inl (cA 0, 10, .inl (upd fn42 9 0))), (h4, .inl (cA 0, 10, .inl fn43)), (h5, .inl (cA 0, 10, .inl fn44)), (h6, .inl (cA 0, 10, .inl fn45)), (p0, .inr (7, [.int 0, .int 365, .int 0, .int 0, .ref p1, .int 0, .ref p2, .ref p3, .ref p4, .ref p5, .int 0, .ref p6, .int 0, .ref p7, .ref p8, .ref p9, .int 0])), (h1, .inr (6, [.ref h2, .int 0, .int 0]))] := hD
  generalize (upd fn42 9 0) = fn47 at hP hD
  have hP : va_P D vwCl [(h0, .inr (4, [.ref p0, .ref h1, .ref h3, .ref h4, .ref h5, .ref h6, x6, x7, x8, x9, x10, x11, x12, x13, x14, x15, x16, x17, x18, x19])), (h3, .inl (cA 0, 10, .inl fn47)), (h4, .inl (cA 0, 10, .inl fn43)), (h5, .inl (cA 0, 10, .inl fn44)), (h6, .inl (cA 0, 10, .inl fn45)), (p0, .inr (7, [.int 0, .int 365, .int 0, .int 0, .ref p1, .int 0, .ref p2, .ref p3, .ref p4, .ref p5, .int 0, .ref p6, .int 0, .ref p7, .ref p8, .ref p9, .int 0])), (h1, .inr (6, [.ref h2, .int 0, .int 0]))] H := hP
  have hD : va_D A [(h0, .inr (4, [.ref p0, .ref h1, .ref h3, .ref h4, .ref h5, .ref h6, x6, x7, x8, x9, x10, x11, x12, x13, x14, x15, x16, x17, x18, x19])), (h3, .inl (cA 0, 10, .inl fn47)), (h4, .inl (cA 0, 10, .inl fn43)), (h5, .inl (cA 0, 10, .inl fn44)), (h6, .inl (cA 0, 10, .inl fn45)), (p0, .inr (7, [.int 0, .int 365, .int 0, .int 0, .ref p1, .int 0, .ref p2, .ref p3, .ref p4, .ref p5, .int 0, .ref p6, .int 0, .ref p7, .ref p8, .ref p9, .int 0])), (h1, .inr (6, [.ref h2, .int 0, .int 0]))] := hD
  refine lv_aload_n hx hb dX0_openWith_27 rfl (lv_at hl 1 rfl) ?_
  refine va_get (D := D) (ci := 4) (v := .ref h4) (C := RX0) (T := TX0) (N := 20) hx hb hts inX0 hown hK hP 0 rfl rfl 3 (by decide) (hts (.fieldLink RX0 22 "EscrowDesk$Account" "paid" "[I") (by decide +kernel)) (fun _ h9 => h9) rfl dX0_openWith_28 ?_
  refine lv_iload_n hx hb dX0_openWith_31 rfl (lv_at hl 0 rfl) ?_
  refine lv_iconst (v := 0) hx hb dX0_openWith_32 (by decide) ?_
  refine va_iast hx hb hK hP hD hS 2 0 rfl rfl (vp_in_iff.mpr (by decide)) dX0_openWith_33 (fun H locs hP hD hS => ?_)
  have hP : va_P D vwCl [(h0, .inr (4, [.ref p0, .ref h1, .ref h3, .ref h4, .ref h5, .ref h6, x6, x7, x8, x9, x10, x11, x12, x13, x14, x15, x16, x17, x18, x19])), (h3, .inl (cA 0, 10, .inl fn47)), (h4, .inl (cA 0, 10, .inl (upd fn43 9 0))), (h5, .inl (cA 0, 10, .inl fn44)), (h6, .inl (cA 0, 10, .inl fn45)), (p0, .inr (7, [.int 0, .int 365, .int 0, .int 0, .ref p1, .int 0, .ref p2, .ref p3, .ref p4, .ref p5, .int 0, .ref p6, .int 0, .ref p7, .ref p8, .ref p9, .int 0])), (h1, .inr (6, [.ref h2, .int 0, .int 0]))] H := hP
  have hD : va_D A [(h0, .inr (4, [.ref p0, .ref h1, .ref h3, .ref h4, .ref h5, .ref h6, x6, x7, x8, x9, x10, x11, x12, x13, x14, x15, x16, x17, x18, x19])), (h3, .inl (cA 0, 10, .inl fn47)), (h4, .inl (cA 0, 10, .inl (upd fn43 9 0))), (h5, .inl (cA 0, 10, .inl fn44)), (h6, .inl (cA 0, 10, .inl fn45)), (p0, .inr (7, [.int 0, .int 365, .int 0, .int 0, .ref p1, .int 0, .ref p2, .ref p3, .ref p4, .ref p5, .int 0, .ref p6, .int 0, .ref p7, .ref p8, .ref p9, .int 0])), (h1, .inr (6, [.ref h2, .int 0, .int 0]))] := hD
  generalize (upd fn43 9 0) = fn48 at hP hD
  have hP : va_P D vwCl [(h0, .inr (4, [.ref p0, .ref h1, .ref h3, .ref h4, .ref h5, .ref h6, x6, x7, x8, x9, x10, x11, x12, x13, x14, x15, x16, x17, x18, x19])), (h3, .inl (cA 0, 10, .inl fn47)), (h4, .inl (cA 0, 10, .inl fn48)), (h5, .inl (cA 0, 10, .inl fn44)), (h6, .inl (cA 0, 10, .inl fn45)), (p0, .inr (7, [.int 0, .int 365, .int 0, .int 0, .ref p1, .int 0, .ref p2, .ref p3, .ref p4, .ref p5, .int 0, .ref p6, .int 0, .ref p7, .ref p8, .ref p9, .int 0])), (h1, .inr (6, [.ref h2, .int 0, .int 0]))] H := hP
  have hD : va_D A [(h0, .inr (4, [.ref p0, .ref h1, .ref h3, .ref h4, .ref h5, .ref h6, x6, x7, x8, x9, x10, x11, x12, x13, x14, x15, x16, x17, x18, x19])), (h3, .inl (cA 0, 10, .inl fn47)), (h4, .inl (cA 0, 10, .inl fn48)), (h5, .inl (cA 0, 10, .inl fn44)), (h6, .inl (cA 0, 10, .inl fn45)), (p0, .inr (7, [.int 0, .int 365, .int 0, .int 0, .ref p1, .int 0, .ref p2, .ref p3, .ref p4, .ref p5, .int 0, .ref p6, .int 0, .ref p7, .ref p8, .ref p9, .int 0])), (h1, .inr (6, [.ref h2, .int 0, .int 0]))] := hD
  refine lv_aload_n hx hb dX0_openWith_34 rfl (lv_at hl 1 rfl) ?_
  refine va_get (D := D) (ci := 4) (v := .ref h5) (C := RX0) (T := TX0) (N := 20) hx hb hts inX0 hown hK hP 0 rfl rfl 4 (by decide) (hts (.fieldLink RX0 25 "EscrowDesk$Account" "frozen" "[I") (by decide +kernel)) (fun _ h9 => h9) rfl dX0_openWith_35 ?_
  refine lv_iload_n hx hb dX0_openWith_38 rfl (lv_at hl 0 rfl) ?_
  refine lv_iconst (v := 0) hx hb dX0_openWith_39 (by decide) ?_
  refine va_iast hx hb hK hP hD hS 3 0 rfl rfl (vp_in_iff.mpr (by decide)) dX0_openWith_40 (fun H locs hP hD hS => ?_)
  have hP : va_P D vwCl [(h0, .inr (4, [.ref p0, .ref h1, .ref h3, .ref h4, .ref h5, .ref h6, x6, x7, x8, x9, x10, x11, x12, x13, x14, x15, x16, x17, x18, x19])), (h3, .inl (cA 0, 10, .inl fn47)), (h4, .inl (cA 0, 10, .inl fn48)), (h5, .inl (cA 0, 10, .inl (upd fn44 9 0))), (h6, .inl (cA 0, 10, .inl fn45)), (p0, .inr (7, [.int 0, .int 365, .int 0, .int 0, .ref p1, .int 0, .ref p2, .ref p3, .ref p4, .ref p5, .int 0, .ref p6, .int 0, .ref p7, .ref p8, .ref p9, .int 0])), (h1, .inr (6, [.ref h2, .int 0, .int 0]))] H := hP
  have hD : va_D A [(h0, .inr (4, [.ref p0, .ref h1, .ref h3, .ref h4, .ref h5, .ref h6, x6, x7, x8, x9, x10, x11, x12, x13, x14, x15, x16, x17, x18, x19])), (h3, .inl (cA 0, 10, .inl fn47)), (h4, .inl (cA 0, 10, .inl fn48)), (h5, .inl (cA 0, 10, .inl (upd fn44 9 0))), (h6, .inl (cA 0, 10, .inl fn45)), (p0, .inr (7, [.int 0, .int 365, .int 0, .int 0, .ref p1, .int 0, .ref p2, .ref p3, .ref p4, .ref p5, .int 0, .ref p6, .int 0, .ref p7, .ref p8, .ref p9, .int 0])), (h1, .inr (6, [.ref h2, .int 0, .int 0]))] := hD
  generalize (upd fn44 9 0) = fn49 at hP hD
  have hP : va_P D vwCl [(h0, .inr (4, [.ref p0, .ref h1, .ref h3, .ref h4, .ref h5, .ref h6, x6, x7, x8, x9, x10, x11, x12, x13, x14, x15, x16, x17, x18, x19])), (h3, .inl (cA 0, 10, .inl fn47)), (h4, .inl (cA 0, 10, .inl fn48)), (h5, .inl (cA 0, 10, .inl fn49)), (h6, .inl (cA 0, 10, .inl fn45)), (p0, .inr (7, [.int 0, .int 365, .int 0, .int 0, .ref p1, .int 0, .ref p2, .ref p3, .ref p4, .ref p5, .int 0, .ref p6, .int 0, .ref p7, .ref p8, .ref p9, .int 0])), (h1, .inr (6, [.ref h2, .int 0, .int 0]))] H := hP
  have hD : va_D A [(h0, .inr (4, [.ref p0, .ref h1, .ref h3, .ref h4, .ref h5, .ref h6, x6, x7, x8, x9, x10, x11, x12, x13, x14, x15, x16, x17, x18, x19])), (h3, .inl (cA 0, 10, .inl fn47)), (h4, .inl (cA 0, 10, .inl fn48)), (h5, .inl (cA 0, 10, .inl fn49)), (h6, .inl (cA 0, 10, .inl fn45)), (p0, .inr (7, [.int 0, .int 365, .int 0, .int 0, .ref p1, .int 0, .ref p2, .ref p3, .ref p4, .ref p5, .int 0, .ref p6, .int 0, .ref p7, .ref p8, .ref p9, .int 0])), (h1, .inr (6, [.ref h2, .int 0, .int 0]))] := hD
  refine lv_aload_n hx hb dX0_openWith_41 rfl (lv_at hl 1 rfl) ?_
  refine va_get (D := D) (ci := 4) (v := .ref h6) (C := RX0) (T := TX0) (N := 20) hx hb hts inX0 hown hK hP 0 rfl rfl 5 (by decide) (hts (.fieldLink RX0 28 "EscrowDesk$Account" "dueDay" "[I") (by decide +kernel)) (fun _ h9 => h9) rfl dX0_openWith_42 ?_
  refine lv_iload_n hx hb dX0_openWith_45 rfl (lv_at hl 0 rfl) ?_
  refine lv_iconst (v := (-1)) hx hb dX0_openWith_46 (by decide) ?_
  refine va_iast hx hb hK hP hD hS 4 0 rfl rfl (vp_in_iff.mpr (by decide)) dX0_openWith_47 (fun H locs hP hD hS => ?_)
  have hP : va_P D vwCl [(h0, .inr (4, [.ref p0, .ref h1, .ref h3, .ref h4, .ref h5, .ref h6, x6, x7, x8, x9, x10, x11, x12, x13, x14, x15, x16, x17, x18, x19])), (h3, .inl (cA 0, 10, .inl fn47)), (h4, .inl (cA 0, 10, .inl fn48)), (h5, .inl (cA 0, 10, .inl fn49)), (h6, .inl (cA 0, 10, .inl (upd fn45 9 (-1)))), (p0, .inr (7, [.int 0, .int 365, .int 0, .int 0, .ref p1, .int 0, .ref p2, .ref p3, .ref p4, .ref p5, .int 0, .ref p6, .int 0, .ref p7, .ref p8, .ref p9, .int 0])), (h1, .inr (6, [.ref h2, .int 0, .int 0]))] H := hP
  have hD : va_D A [(h0, .inr (4, [.ref p0, .ref h1, .ref h3, .ref h4, .ref h5, .ref h6, x6, x7, x8, x9, x10, x11, x12, x13, x14, x15, x16, x17, x18, x19])), (h3, .inl (cA 0, 10, .inl fn47)), (h4, .inl (cA 0, 10, .inl fn48)), (h5, .inl (cA 0, 10, .inl fn49)), (h6, .inl (cA 0, 10, .inl (upd fn45 9 (-1)))), (p0, .inr (7, [.int 0, .int 365, .int 0, .int 0, .ref p1, .int 0, .ref p2, .ref p3, .ref p4, .ref p5, .int 0, .ref p6, .int 0, .ref p7, .ref p8, .ref p9, .int 0])), (h1, .inr (6, [.ref h2, .int 0, .int 0]))] := hD
  generalize (upd fn45 9 (-1)) = fn50 at hP hD
  have hP : va_P D vwCl [(h0, .inr (4, [.ref p0, .ref h1, .ref h3, .ref h4, .ref h5, .ref h6, x6, x7, x8, x9, x10, x11, x12, x13, x14, x15, x16, x17, x18, x19])), (h3, .inl (cA 0, 10, .inl fn47)), (h4, .inl (cA 0, 10, .inl fn48)), (h5, .inl (cA 0, 10, .inl fn49)), (h6, .inl (cA 0, 10, .inl fn50)), (p0, .inr (7, [.int 0, .int 365, .int 0, .int 0, .ref p1, .int 0, .ref p2, .ref p3, .ref p4, .ref p5, .int 0, .ref p6, .int 0, .ref p7, .ref p8, .ref p9, .int 0])), (h1, .inr (6, [.ref h2, .int 0, .int 0]))] H := hP
  have hD : va_D A [(h0, .inr (4, [.ref p0, .ref h1, .ref h3, .ref h4, .ref h5, .ref h6, x6, x7, x8, x9, x10, x11, x12, x13, x14, x15, x16, x17, x18, x19])), (h3, .inl (cA 0, 10, .inl fn47)), (h4, .inl (cA 0, 10, .inl fn48)), (h5, .inl (cA 0, 10, .inl fn49)), (h6, .inl (cA 0, 10, .inl fn50)), (p0, .inr (7, [.int 0, .int 365, .int 0, .int 0, .ref p1, .int 0, .ref p2, .ref p3, .ref p4, .ref p5, .int 0, .ref p6, .int 0, .ref p7, .ref p8, .ref p9, .int 0])), (h1, .inr (6, [.ref h2, .int 0, .int 0]))] := hD
  refine lv_iinc (v := 10) (lv' := [(2, .int 10), (0, .ref h0), (1, .ref p0)]) hx hb dX0_openWith_48 hl (k := 0) rfl (by first | rfl | decide +kernel) (by decide) rfl (fun ls hl => ?_)
  refine lv_goto (tgt := 14) hx hb dX0_openWith_51 (by decide) ?_
  refine lv_iload_n hx hb dX0_openWith_14 rfl (lv_at hl 0 rfl) ?_
  refine lv_bipush (v := 10) hx hb dX0_openWith_15 (by decide) ?_
  refine lv_icmp_ge (tgt := 54) hx hb dX0_openWith_17 (by decide) (fun c51 => ?_) (fun c9 => absurd c9 (by decide))
  refine lv_aload_n hx hb dX0_openWith_54 rfl (lv_at hl 1 rfl) ?_
  refine lv_iconst (v := 0) hx hb dX0_openWith_55 (by decide) ?_
  refine va_put (D := D) (ci := 4) (v := .int 0) (ty := .int) (C := RX0) (T := TX0) (N := 20) hx hb hts inX0 tyX0 tyX0_ok nmX0 hown hK hP hD hS 0 rfl rfl 6 (by decide) (hts (.fieldLink RX0 40 "EscrowDesk$Account" "day" "I") (by decide +kernel)) (fun _ h9 => h9) rfl (by decide +kernel) rfl rfl (Nat.le_of_ble_eq_true rfl) dX0_openWith_56 (fun H locs hP hD hS => ?_)
  have hP : va_P D vwCl [(h0, .inr (4, [.ref p0, .ref h1, .ref h3, .ref h4, .ref h5, .ref h6, .int 0, x7, x8, x9, x10, x11, x12, x13, x14, x15, x16, x17, x18, x19])), (h3, .inl (cA 0, 10, .inl fn47)), (h4, .inl (cA 0, 10, .inl fn48)), (h5, .inl (cA 0, 10, .inl fn49)), (h6, .inl (cA 0, 10, .inl fn50)), (p0, .inr (7, [.int 0, .int 365, .int 0, .int 0, .ref p1, .int 0, .ref p2, .ref p3, .ref p4, .ref p5, .int 0, .ref p6, .int 0, .ref p7, .ref p8, .ref p9, .int 0])), (h1, .inr (6, [.ref h2, .int 0, .int 0]))] H := hP
  have hD : va_D A [(h0, .inr (4, [.ref p0, .ref h1, .ref h3, .ref h4, .ref h5, .ref h6, .int 0, x7, x8, x9, x10, x11, x12, x13, x14, x15, x16, x17, x18, x19])), (h3, .inl (cA 0, 10, .inl fn47)), (h4, .inl (cA 0, 10, .inl fn48)), (h5, .inl (cA 0, 10, .inl fn49)), (h6, .inl (cA 0, 10, .inl fn50)), (p0, .inr (7, [.int 0, .int 365, .int 0, .int 0, .ref p1, .int 0, .ref p2, .ref p3, .ref p4, .ref p5, .int 0, .ref p6, .int 0, .ref p7, .ref p8, .ref p9, .int 0])), (h1, .inr (6, [.ref h2, .int 0, .int 0]))] := hD
  refine lv_aload_n hx hb dX0_openWith_59 rfl (lv_at hl 1 rfl) ?_
  refine lv_iconst (v := 0) hx hb dX0_openWith_60 (by decide) ?_
  refine va_put (D := D) (ci := 4) (v := .int 0) (ty := .int) (C := RX0) (T := TX0) (N := 20) hx hb hts inX0 tyX0 tyX0_ok nmX0 hown hK hP hD hS 0 rfl rfl 7 (by decide) (hts (.fieldLink RX0 44 "EscrowDesk$Account" "deposited" "I") (by decide +kernel)) (fun _ h9 => h9) rfl (by decide +kernel) rfl rfl (Nat.le_of_ble_eq_true rfl) dX0_openWith_61 (fun H locs hP hD hS => ?_)
  have hP : va_P D vwCl [(h0, .inr (4, [.ref p0, .ref h1, .ref h3, .ref h4, .ref h5, .ref h6, .int 0, .int 0, x8, x9, x10, x11, x12, x13, x14, x15, x16, x17, x18, x19])), (h3, .inl (cA 0, 10, .inl fn47)), (h4, .inl (cA 0, 10, .inl fn48)), (h5, .inl (cA 0, 10, .inl fn49)), (h6, .inl (cA 0, 10, .inl fn50)), (p0, .inr (7, [.int 0, .int 365, .int 0, .int 0, .ref p1, .int 0, .ref p2, .ref p3, .ref p4, .ref p5, .int 0, .ref p6, .int 0, .ref p7, .ref p8, .ref p9, .int 0])), (h1, .inr (6, [.ref h2, .int 0, .int 0]))] H := hP
  have hD : va_D A [(h0, .inr (4, [.ref p0, .ref h1, .ref h3, .ref h4, .ref h5, .ref h6, .int 0, .int 0, x8, x9, x10, x11, x12, x13, x14, x15, x16, x17, x18, x19])), (h3, .inl (cA 0, 10, .inl fn47)), (h4, .inl (cA 0, 10, .inl fn48)), (h5, .inl (cA 0, 10, .inl fn49)), (h6, .inl (cA 0, 10, .inl fn50)), (p0, .inr (7, [.int 0, .int 365, .int 0, .int 0, .ref p1, .int 0, .ref p2, .ref p3, .ref p4, .ref p5, .int 0, .ref p6, .int 0, .ref p7, .ref p8, .ref p9, .int 0])), (h1, .inr (6, [.ref h2, .int 0, .int 0]))] := hD
  refine lv_aload_n hx hb dX0_openWith_64 rfl (lv_at hl 1 rfl) ?_
  refine lv_iconst (v := 0) hx hb dX0_openWith_65 (by decide) ?_
  refine va_put (D := D) (ci := 4) (v := .int 0) (ty := .int) (C := RX0) (T := TX0) (N := 20) hx hb hts inX0 tyX0 tyX0_ok nmX0 hown hK hP hD hS 0 rfl rfl 8 (by decide) (hts (.fieldLink RX0 47 "EscrowDesk$Account" "principal" "I") (by decide +kernel)) (fun _ h9 => h9) rfl (by decide +kernel) rfl rfl (Nat.le_of_ble_eq_true rfl) dX0_openWith_66 (fun H locs hP hD hS => ?_)
  have hP : va_P D vwCl [(h0, .inr (4, [.ref p0, .ref h1, .ref h3, .ref h4, .ref h5, .ref h6, .int 0, .int 0, .int 0, x9, x10, x11, x12, x13, x14, x15, x16, x17, x18, x19])), (h3, .inl (cA 0, 10, .inl fn47)), (h4, .inl (cA 0, 10, .inl fn48)), (h5, .inl (cA 0, 10, .inl fn49)), (h6, .inl (cA 0, 10, .inl fn50)), (p0, .inr (7, [.int 0, .int 365, .int 0, .int 0, .ref p1, .int 0, .ref p2, .ref p3, .ref p4, .ref p5, .int 0, .ref p6, .int 0, .ref p7, .ref p8, .ref p9, .int 0])), (h1, .inr (6, [.ref h2, .int 0, .int 0]))] H := hP
  have hD : va_D A [(h0, .inr (4, [.ref p0, .ref h1, .ref h3, .ref h4, .ref h5, .ref h6, .int 0, .int 0, .int 0, x9, x10, x11, x12, x13, x14, x15, x16, x17, x18, x19])), (h3, .inl (cA 0, 10, .inl fn47)), (h4, .inl (cA 0, 10, .inl fn48)), (h5, .inl (cA 0, 10, .inl fn49)), (h6, .inl (cA 0, 10, .inl fn50)), (p0, .inr (7, [.int 0, .int 365, .int 0, .int 0, .ref p1, .int 0, .ref p2, .ref p3, .ref p4, .ref p5, .int 0, .ref p6, .int 0, .ref p7, .ref p8, .ref p9, .int 0])), (h1, .inr (6, [.ref h2, .int 0, .int 0]))] := hD
  refine lv_aload_n hx hb dX0_openWith_69 rfl (lv_at hl 1 rfl) ?_
  refine lv_lconst (v := 0) hx hb dX0_openWith_70 (by decide) ?_
  refine va_put (D := D) (ci := 4) (v := .long 0) (ty := .long) (C := RX0) (T := TX0) (N := 20) hx hb hts inX0 tyX0 tyX0_ok nmX0 hown hK hP hD hS 0 rfl rfl 9 (by decide) (hts (.fieldLink RX0 50 "EscrowDesk$Account" "interestPot" "J") (by decide +kernel)) (fun _ h9 => h9) rfl (by decide +kernel) rfl rfl (Nat.le_of_ble_eq_true rfl) dX0_openWith_71 (fun H locs hP hD hS => ?_)
  have hP : va_P D vwCl [(h0, .inr (4, [.ref p0, .ref h1, .ref h3, .ref h4, .ref h5, .ref h6, .int 0, .int 0, .int 0, .long 0, x10, x11, x12, x13, x14, x15, x16, x17, x18, x19])), (h3, .inl (cA 0, 10, .inl fn47)), (h4, .inl (cA 0, 10, .inl fn48)), (h5, .inl (cA 0, 10, .inl fn49)), (h6, .inl (cA 0, 10, .inl fn50)), (p0, .inr (7, [.int 0, .int 365, .int 0, .int 0, .ref p1, .int 0, .ref p2, .ref p3, .ref p4, .ref p5, .int 0, .ref p6, .int 0, .ref p7, .ref p8, .ref p9, .int 0])), (h1, .inr (6, [.ref h2, .int 0, .int 0]))] H := hP
  have hD : va_D A [(h0, .inr (4, [.ref p0, .ref h1, .ref h3, .ref h4, .ref h5, .ref h6, .int 0, .int 0, .int 0, .long 0, x10, x11, x12, x13, x14, x15, x16, x17, x18, x19])), (h3, .inl (cA 0, 10, .inl fn47)), (h4, .inl (cA 0, 10, .inl fn48)), (h5, .inl (cA 0, 10, .inl fn49)), (h6, .inl (cA 0, 10, .inl fn50)), (p0, .inr (7, [.int 0, .int 365, .int 0, .int 0, .ref p1, .int 0, .ref p2, .ref p3, .ref p4, .ref p5, .int 0, .ref p6, .int 0, .ref p7, .ref p8, .ref p9, .int 0])), (h1, .inr (6, [.ref h2, .int 0, .int 0]))] := hD
  refine lv_aload_n hx hb dX0_openWith_74 rfl (lv_at hl 1 rfl) ?_
  refine lv_lconst (v := 0) hx hb dX0_openWith_75 (by decide) ?_
  refine va_put (D := D) (ci := 4) (v := .long 0) (ty := .long) (C := RX0) (T := TX0) (N := 20) hx hb hts inX0 tyX0 tyX0_ok nmX0 hown hK hP hD hS 0 rfl rfl 10 (by decide) (hts (.fieldLink RX0 54 "EscrowDesk$Account" "credited" "J") (by decide +kernel)) (fun _ h9 => h9) rfl (by decide +kernel) rfl rfl (Nat.le_of_ble_eq_true rfl) dX0_openWith_76 (fun H locs hP hD hS => ?_)
  have hP : va_P D vwCl [(h0, .inr (4, [.ref p0, .ref h1, .ref h3, .ref h4, .ref h5, .ref h6, .int 0, .int 0, .int 0, .long 0, .long 0, x11, x12, x13, x14, x15, x16, x17, x18, x19])), (h3, .inl (cA 0, 10, .inl fn47)), (h4, .inl (cA 0, 10, .inl fn48)), (h5, .inl (cA 0, 10, .inl fn49)), (h6, .inl (cA 0, 10, .inl fn50)), (p0, .inr (7, [.int 0, .int 365, .int 0, .int 0, .ref p1, .int 0, .ref p2, .ref p3, .ref p4, .ref p5, .int 0, .ref p6, .int 0, .ref p7, .ref p8, .ref p9, .int 0])), (h1, .inr (6, [.ref h2, .int 0, .int 0]))] H := hP
  have hD : va_D A [(h0, .inr (4, [.ref p0, .ref h1, .ref h3, .ref h4, .ref h5, .ref h6, .int 0, .int 0, .int 0, .long 0, .long 0, x11, x12, x13, x14, x15, x16, x17, x18, x19])), (h3, .inl (cA 0, 10, .inl fn47)), (h4, .inl (cA 0, 10, .inl fn48)), (h5, .inl (cA 0, 10, .inl fn49)), (h6, .inl (cA 0, 10, .inl fn50)), (p0, .inr (7, [.int 0, .int 365, .int 0, .int 0, .ref p1, .int 0, .ref p2, .ref p3, .ref p4, .ref p5, .int 0, .ref p6, .int 0, .ref p7, .ref p8, .ref p9, .int 0])), (h1, .inr (6, [.ref h2, .int 0, .int 0]))] := hD
  refine lv_aload_n hx hb dX0_openWith_79 rfl (lv_at hl 1 rfl) ?_
  refine lv_lconst (v := 0) hx hb dX0_openWith_80 (by decide) ?_
  refine va_put (D := D) (ci := 4) (v := .long 0) (ty := .long) (C := RX0) (T := TX0) (N := 20) hx hb hts inX0 tyX0 tyX0_ok nmX0 hown hK hP hD hS 0 rfl rfl 11 (by decide) (hts (.fieldLink RX0 57 "EscrowDesk$Account" "accruedParts" "J") (by decide +kernel)) (fun _ h9 => h9) rfl (by decide +kernel) rfl rfl (Nat.le_of_ble_eq_true rfl) dX0_openWith_81 (fun H locs hP hD hS => ?_)
  have hP : va_P D vwCl [(h0, .inr (4, [.ref p0, .ref h1, .ref h3, .ref h4, .ref h5, .ref h6, .int 0, .int 0, .int 0, .long 0, .long 0, .long 0, x12, x13, x14, x15, x16, x17, x18, x19])), (h3, .inl (cA 0, 10, .inl fn47)), (h4, .inl (cA 0, 10, .inl fn48)), (h5, .inl (cA 0, 10, .inl fn49)), (h6, .inl (cA 0, 10, .inl fn50)), (p0, .inr (7, [.int 0, .int 365, .int 0, .int 0, .ref p1, .int 0, .ref p2, .ref p3, .ref p4, .ref p5, .int 0, .ref p6, .int 0, .ref p7, .ref p8, .ref p9, .int 0])), (h1, .inr (6, [.ref h2, .int 0, .int 0]))] H := hP
  have hD : va_D A [(h0, .inr (4, [.ref p0, .ref h1, .ref h3, .ref h4, .ref h5, .ref h6, .int 0, .int 0, .int 0, .long 0, .long 0, .long 0, x12, x13, x14, x15, x16, x17, x18, x19])), (h3, .inl (cA 0, 10, .inl fn47)), (h4, .inl (cA 0, 10, .inl fn48)), (h5, .inl (cA 0, 10, .inl fn49)), (h6, .inl (cA 0, 10, .inl fn50)), (p0, .inr (7, [.int 0, .int 365, .int 0, .int 0, .ref p1, .int 0, .ref p2, .ref p3, .ref p4, .ref p5, .int 0, .ref p6, .int 0, .ref p7, .ref p8, .ref p9, .int 0])), (h1, .inr (6, [.ref h2, .int 0, .int 0]))] := hD
  refine lv_aload_n hx hb dX0_openWith_84 rfl (lv_at hl 1 rfl) ?_
  refine lv_iconst (v := 0) hx hb dX0_openWith_85 (by decide) ?_
  refine va_put (D := D) (ci := 4) (v := .int 0) (ty := .int) (C := RX0) (T := TX0) (N := 20) hx hb hts inX0 tyX0 tyX0_ok nmX0 hown hK hP hD hS 0 rfl rfl 12 (by decide) (hts (.fieldLink RX0 60 "EscrowDesk$Account" "received" "I") (by decide +kernel)) (fun _ h9 => h9) rfl (by decide +kernel) rfl rfl (Nat.le_of_ble_eq_true rfl) dX0_openWith_86 (fun H locs hP hD hS => ?_)
  have hP : va_P D vwCl [(h0, .inr (4, [.ref p0, .ref h1, .ref h3, .ref h4, .ref h5, .ref h6, .int 0, .int 0, .int 0, .long 0, .long 0, .long 0, .int 0, x13, x14, x15, x16, x17, x18, x19])), (h3, .inl (cA 0, 10, .inl fn47)), (h4, .inl (cA 0, 10, .inl fn48)), (h5, .inl (cA 0, 10, .inl fn49)), (h6, .inl (cA 0, 10, .inl fn50)), (p0, .inr (7, [.int 0, .int 365, .int 0, .int 0, .ref p1, .int 0, .ref p2, .ref p3, .ref p4, .ref p5, .int 0, .ref p6, .int 0, .ref p7, .ref p8, .ref p9, .int 0])), (h1, .inr (6, [.ref h2, .int 0, .int 0]))] H := hP
  have hD : va_D A [(h0, .inr (4, [.ref p0, .ref h1, .ref h3, .ref h4, .ref h5, .ref h6, .int 0, .int 0, .int 0, .long 0, .long 0, .long 0, .int 0, x13, x14, x15, x16, x17, x18, x19])), (h3, .inl (cA 0, 10, .inl fn47)), (h4, .inl (cA 0, 10, .inl fn48)), (h5, .inl (cA 0, 10, .inl fn49)), (h6, .inl (cA 0, 10, .inl fn50)), (p0, .inr (7, [.int 0, .int 365, .int 0, .int 0, .ref p1, .int 0, .ref p2, .ref p3, .ref p4, .ref p5, .int 0, .ref p6, .int 0, .ref p7, .ref p8, .ref p9, .int 0])), (h1, .inr (6, [.ref h2, .int 0, .int 0]))] := hD
  refine lv_aload_n hx hb dX0_openWith_89 rfl (lv_at hl 1 rfl) ?_
  refine lv_iconst (v := 0) hx hb dX0_openWith_90 (by decide) ?_
  refine va_put (D := D) (ci := 4) (v := .int 0) (ty := .int) (C := RX0) (T := TX0) (N := 20) hx hb hts inX0 tyX0 tyX0_ok nmX0 hown hK hP hD hS 0 rfl rfl 13 (by decide) (hts (.fieldLink RX0 63 "EscrowDesk$Account" "fees" "I") (by decide +kernel)) (fun _ h9 => h9) rfl (by decide +kernel) rfl rfl (Nat.le_of_ble_eq_true rfl) dX0_openWith_91 (fun H locs hP hD hS => ?_)
  have hP : va_P D vwCl [(h0, .inr (4, [.ref p0, .ref h1, .ref h3, .ref h4, .ref h5, .ref h6, .int 0, .int 0, .int 0, .long 0, .long 0, .long 0, .int 0, .int 0, x14, x15, x16, x17, x18, x19])), (h3, .inl (cA 0, 10, .inl fn47)), (h4, .inl (cA 0, 10, .inl fn48)), (h5, .inl (cA 0, 10, .inl fn49)), (h6, .inl (cA 0, 10, .inl fn50)), (p0, .inr (7, [.int 0, .int 365, .int 0, .int 0, .ref p1, .int 0, .ref p2, .ref p3, .ref p4, .ref p5, .int 0, .ref p6, .int 0, .ref p7, .ref p8, .ref p9, .int 0])), (h1, .inr (6, [.ref h2, .int 0, .int 0]))] H := hP
  have hD : va_D A [(h0, .inr (4, [.ref p0, .ref h1, .ref h3, .ref h4, .ref h5, .ref h6, .int 0, .int 0, .int 0, .long 0, .long 0, .long 0, .int 0, .int 0, x14, x15, x16, x17, x18, x19])), (h3, .inl (cA 0, 10, .inl fn47)), (h4, .inl (cA 0, 10, .inl fn48)), (h5, .inl (cA 0, 10, .inl fn49)), (h6, .inl (cA 0, 10, .inl fn50)), (p0, .inr (7, [.int 0, .int 365, .int 0, .int 0, .ref p1, .int 0, .ref p2, .ref p3, .ref p4, .ref p5, .int 0, .ref p6, .int 0, .ref p7, .ref p8, .ref p9, .int 0])), (h1, .inr (6, [.ref h2, .int 0, .int 0]))] := hD
  refine lv_aload_n hx hb dX0_openWith_94 rfl (lv_at hl 1 rfl) ?_
  refine lv_iconst (v := 0) hx hb dX0_openWith_95 (by decide) ?_
  refine va_put (D := D) (ci := 4) (v := .int 0) (ty := .int) (C := RX0) (T := TX0) (N := 20) hx hb hts inX0 tyX0 tyX0_ok nmX0 hown hK hP hD hS 0 rfl rfl 14 (by decide) (hts (.fieldLink RX0 66 "EscrowDesk$Account" "refunded" "I") (by decide +kernel)) (fun _ h9 => h9) rfl (by decide +kernel) rfl rfl (Nat.le_of_ble_eq_true rfl) dX0_openWith_96 (fun H locs hP hD hS => ?_)
  have hP : va_P D vwCl [(h0, .inr (4, [.ref p0, .ref h1, .ref h3, .ref h4, .ref h5, .ref h6, .int 0, .int 0, .int 0, .long 0, .long 0, .long 0, .int 0, .int 0, .int 0, x15, x16, x17, x18, x19])), (h3, .inl (cA 0, 10, .inl fn47)), (h4, .inl (cA 0, 10, .inl fn48)), (h5, .inl (cA 0, 10, .inl fn49)), (h6, .inl (cA 0, 10, .inl fn50)), (p0, .inr (7, [.int 0, .int 365, .int 0, .int 0, .ref p1, .int 0, .ref p2, .ref p3, .ref p4, .ref p5, .int 0, .ref p6, .int 0, .ref p7, .ref p8, .ref p9, .int 0])), (h1, .inr (6, [.ref h2, .int 0, .int 0]))] H := hP
  have hD : va_D A [(h0, .inr (4, [.ref p0, .ref h1, .ref h3, .ref h4, .ref h5, .ref h6, .int 0, .int 0, .int 0, .long 0, .long 0, .long 0, .int 0, .int 0, .int 0, x15, x16, x17, x18, x19])), (h3, .inl (cA 0, 10, .inl fn47)), (h4, .inl (cA 0, 10, .inl fn48)), (h5, .inl (cA 0, 10, .inl fn49)), (h6, .inl (cA 0, 10, .inl fn50)), (p0, .inr (7, [.int 0, .int 365, .int 0, .int 0, .ref p1, .int 0, .ref p2, .ref p3, .ref p4, .ref p5, .int 0, .ref p6, .int 0, .ref p7, .ref p8, .ref p9, .int 0])), (h1, .inr (6, [.ref h2, .int 0, .int 0]))] := hD
  refine lv_aload_n hx hb dX0_openWith_99 rfl (lv_at hl 1 rfl) ?_
  refine lv_aload_n hx hb dX0_openWith_100 rfl (lv_at hl 1 rfl) ?_
  refine va_get (D := D) (ci := 4) (v := .ref p0) (C := RX0) (T := TX0) (N := 20) hx hb hts inX0 hown hK hP 0 rfl rfl 0 (by decide) (hts (.fieldLink RX0 31 "EscrowDesk$Account" "plan" "LEscrowDesk$Plan;") (by decide +kernel)) (fun _ h9 => h9) rfl dX0_openWith_101 ?_
  refine va_getN (D := D) (ci := 7) (v := .int 0) (C := RX3) (T := TX3) (N := 17) hx hb hts inX3 hown hK hP 5 rfl rfl 0 (by decide) (hC.f (A := _) (a := RX0) (i := 69) (b := "EscrowDesk$Plan") (n := "rate") (d := "I") (x := "EscrowDesk") (by decide +kernel)) (fun _ h9 => h9) rfl dX0_openWith_104 ?_
  refine va_put (D := D) (ci := 4) (v := .int 0) (ty := .int) (C := RX0) (T := TX0) (N := 20) hx hb hts inX0 tyX0 tyX0_ok nmX0 hown hK hP hD hS 0 rfl rfl 15 (by decide) (hts (.fieldLink RX0 74 "EscrowDesk$Account" "rate" "I") (by decide +kernel)) (fun _ h9 => h9) rfl (by decide +kernel) rfl rfl (Nat.le_of_ble_eq_true rfl) dX0_openWith_107 (fun H locs hP hD hS => ?_)
  have hP : va_P D vwCl [(h0, .inr (4, [.ref p0, .ref h1, .ref h3, .ref h4, .ref h5, .ref h6, .int 0, .int 0, .int 0, .long 0, .long 0, .long 0, .int 0, .int 0, .int 0, .int 0, x16, x17, x18, x19])), (h3, .inl (cA 0, 10, .inl fn47)), (h4, .inl (cA 0, 10, .inl fn48)), (h5, .inl (cA 0, 10, .inl fn49)), (h6, .inl (cA 0, 10, .inl fn50)), (p0, .inr (7, [.int 0, .int 365, .int 0, .int 0, .ref p1, .int 0, .ref p2, .ref p3, .ref p4, .ref p5, .int 0, .ref p6, .int 0, .ref p7, .ref p8, .ref p9, .int 0])), (h1, .inr (6, [.ref h2, .int 0, .int 0]))] H := hP
  have hD : va_D A [(h0, .inr (4, [.ref p0, .ref h1, .ref h3, .ref h4, .ref h5, .ref h6, .int 0, .int 0, .int 0, .long 0, .long 0, .long 0, .int 0, .int 0, .int 0, .int 0, x16, x17, x18, x19])), (h3, .inl (cA 0, 10, .inl fn47)), (h4, .inl (cA 0, 10, .inl fn48)), (h5, .inl (cA 0, 10, .inl fn49)), (h6, .inl (cA 0, 10, .inl fn50)), (p0, .inr (7, [.int 0, .int 365, .int 0, .int 0, .ref p1, .int 0, .ref p2, .ref p3, .ref p4, .ref p5, .int 0, .ref p6, .int 0, .ref p7, .ref p8, .ref p9, .int 0])), (h1, .inr (6, [.ref h2, .int 0, .int 0]))] := hD
  refine lv_aload_n hx hb dX0_openWith_110 rfl (lv_at hl 1 rfl) ?_
  refine lv_aload_n hx hb dX0_openWith_111 rfl (lv_at hl 1 rfl) ?_
  refine va_get (D := D) (ci := 4) (v := .ref p0) (C := RX0) (T := TX0) (N := 20) hx hb hts inX0 hown hK hP 0 rfl rfl 0 (by decide) (hts (.fieldLink RX0 31 "EscrowDesk$Account" "plan" "LEscrowDesk$Plan;") (by decide +kernel)) (fun _ h9 => h9) rfl dX0_openWith_112 ?_
  refine va_getN (D := D) (ci := 7) (v := .int 365) (C := RX3) (T := TX3) (N := 17) hx hb hts inX3 hown hK hP 5 rfl rfl 1 (by decide) (hC.f (A := _) (a := RX0) (i := 75) (b := "EscrowDesk$Plan") (n := "basis") (d := "I") (x := "EscrowDesk") (by decide +kernel)) (fun _ h9 => h9) rfl dX0_openWith_115 ?_
  refine va_put (D := D) (ci := 4) (v := .int 365) (ty := .int) (C := RX0) (T := TX0) (N := 20) hx hb hts inX0 tyX0 tyX0_ok nmX0 hown hK hP hD hS 0 rfl rfl 16 (by decide) (hts (.fieldLink RX0 78 "EscrowDesk$Account" "basis" "I") (by decide +kernel)) (fun _ h9 => h9) rfl (by decide +kernel) rfl rfl (Nat.le_of_ble_eq_true rfl) dX0_openWith_118 (fun H locs hP hD hS => ?_)
  have hP : va_P D vwCl [(h0, .inr (4, [.ref p0, .ref h1, .ref h3, .ref h4, .ref h5, .ref h6, .int 0, .int 0, .int 0, .long 0, .long 0, .long 0, .int 0, .int 0, .int 0, .int 0, .int 365, x17, x18, x19])), (h3, .inl (cA 0, 10, .inl fn47)), (h4, .inl (cA 0, 10, .inl fn48)), (h5, .inl (cA 0, 10, .inl fn49)), (h6, .inl (cA 0, 10, .inl fn50)), (p0, .inr (7, [.int 0, .int 365, .int 0, .int 0, .ref p1, .int 0, .ref p2, .ref p3, .ref p4, .ref p5, .int 0, .ref p6, .int 0, .ref p7, .ref p8, .ref p9, .int 0])), (h1, .inr (6, [.ref h2, .int 0, .int 0]))] H := hP
  have hD : va_D A [(h0, .inr (4, [.ref p0, .ref h1, .ref h3, .ref h4, .ref h5, .ref h6, .int 0, .int 0, .int 0, .long 0, .long 0, .long 0, .int 0, .int 0, .int 0, .int 0, .int 365, x17, x18, x19])), (h3, .inl (cA 0, 10, .inl fn47)), (h4, .inl (cA 0, 10, .inl fn48)), (h5, .inl (cA 0, 10, .inl fn49)), (h6, .inl (cA 0, 10, .inl fn50)), (p0, .inr (7, [.int 0, .int 365, .int 0, .int 0, .ref p1, .int 0, .ref p2, .ref p3, .ref p4, .ref p5, .int 0, .ref p6, .int 0, .ref p7, .ref p8, .ref p9, .int 0])), (h1, .inr (6, [.ref h2, .int 0, .int 0]))] := hD
  refine lv_aload_n hx hb dX0_openWith_121 rfl (lv_at hl 1 rfl) ?_
  refine lv_aload_n hx hb dX0_openWith_122 rfl (lv_at hl 1 rfl) ?_
  refine va_get (D := D) (ci := 4) (v := .ref p0) (C := RX0) (T := TX0) (N := 20) hx hb hts inX0 hown hK hP 0 rfl rfl 0 (by decide) (hts (.fieldLink RX0 31 "EscrowDesk$Account" "plan" "LEscrowDesk$Plan;") (by decide +kernel)) (fun _ h9 => h9) rfl dX0_openWith_123 ?_
  refine va_getN (D := D) (ci := 7) (v := .int 0) (C := RX3) (T := TX3) (N := 17) hx hb hts inX3 hown hK hP 5 rfl rfl 3 (by decide) (hC.f (A := _) (a := RX0) (i := 79) (b := "EscrowDesk$Plan") (n := "grace") (d := "I") (x := "EscrowDesk") (by decide +kernel)) (fun _ h9 => h9) rfl dX0_openWith_126 ?_
  refine va_put (D := D) (ci := 4) (v := .int 0) (ty := .int) (C := RX0) (T := TX0) (N := 20) hx hb hts inX0 tyX0 tyX0_ok nmX0 hown hK hP hD hS 0 rfl rfl 17 (by decide) (hts (.fieldLink RX0 82 "EscrowDesk$Account" "grace" "I") (by decide +kernel)) (fun _ h9 => h9) rfl (by decide +kernel) rfl rfl (Nat.le_of_ble_eq_true rfl) dX0_openWith_129 (fun H locs hP hD hS => ?_)
  have hP : va_P D vwCl [(h0, .inr (4, [.ref p0, .ref h1, .ref h3, .ref h4, .ref h5, .ref h6, .int 0, .int 0, .int 0, .long 0, .long 0, .long 0, .int 0, .int 0, .int 0, .int 0, .int 365, .int 0, x18, x19])), (h3, .inl (cA 0, 10, .inl fn47)), (h4, .inl (cA 0, 10, .inl fn48)), (h5, .inl (cA 0, 10, .inl fn49)), (h6, .inl (cA 0, 10, .inl fn50)), (p0, .inr (7, [.int 0, .int 365, .int 0, .int 0, .ref p1, .int 0, .ref p2, .ref p3, .ref p4, .ref p5, .int 0, .ref p6, .int 0, .ref p7, .ref p8, .ref p9, .int 0])), (h1, .inr (6, [.ref h2, .int 0, .int 0]))] H := hP
  have hD : va_D A [(h0, .inr (4, [.ref p0, .ref h1, .ref h3, .ref h4, .ref h5, .ref h6, .int 0, .int 0, .int 0, .long 0, .long 0, .long 0, .int 0, .int 0, .int 0, .int 0, .int 365, .int 0, x18, x19])), (h3, .inl (cA 0, 10, .inl fn47)), (h4, .inl (cA 0, 10, .inl fn48)), (h5, .inl (cA 0, 10, .inl fn49)), (h6, .inl (cA 0, 10, .inl fn50)), (p0, .inr (7, [.int 0, .int 365, .int 0, .int 0, .ref p1, .int 0, .ref p2, .ref p3, .ref p4, .ref p5, .int 0, .ref p6, .int 0, .ref p7, .ref p8, .ref p9, .int 0])), (h1, .inr (6, [.ref h2, .int 0, .int 0]))] := hD
  refine lv_aload_n hx hb dX0_openWith_132 rfl (lv_at hl 1 rfl) ?_
  refine lv_iconst (v := 0) hx hb dX0_openWith_133 (by decide) ?_
  refine va_put (D := D) (ci := 4) (v := .int 0) (ty := .int) (C := RX0) (T := TX0) (N := 20) hx hb hts inX0 tyX0 tyX0_ok nmX0 hown hK hP hD hS 0 rfl rfl 18 (by decide) (hts (.fieldLink RX0 83 "EscrowDesk$Account" "submittedSet" "I") (by decide +kernel)) (fun _ h9 => h9) rfl (by decide +kernel) rfl rfl (Nat.le_of_ble_eq_true rfl) dX0_openWith_134 (fun H locs hP hD hS => ?_)
  have hP : va_P D vwCl [(h0, .inr (4, [.ref p0, .ref h1, .ref h3, .ref h4, .ref h5, .ref h6, .int 0, .int 0, .int 0, .long 0, .long 0, .long 0, .int 0, .int 0, .int 0, .int 0, .int 365, .int 0, .int 0, x19])), (h3, .inl (cA 0, 10, .inl fn47)), (h4, .inl (cA 0, 10, .inl fn48)), (h5, .inl (cA 0, 10, .inl fn49)), (h6, .inl (cA 0, 10, .inl fn50)), (p0, .inr (7, [.int 0, .int 365, .int 0, .int 0, .ref p1, .int 0, .ref p2, .ref p3, .ref p4, .ref p5, .int 0, .ref p6, .int 0, .ref p7, .ref p8, .ref p9, .int 0])), (h1, .inr (6, [.ref h2, .int 0, .int 0]))] H := hP
  have hD : va_D A [(h0, .inr (4, [.ref p0, .ref h1, .ref h3, .ref h4, .ref h5, .ref h6, .int 0, .int 0, .int 0, .long 0, .long 0, .long 0, .int 0, .int 0, .int 0, .int 0, .int 365, .int 0, .int 0, x19])), (h3, .inl (cA 0, 10, .inl fn47)), (h4, .inl (cA 0, 10, .inl fn48)), (h5, .inl (cA 0, 10, .inl fn49)), (h6, .inl (cA 0, 10, .inl fn50)), (p0, .inr (7, [.int 0, .int 365, .int 0, .int 0, .ref p1, .int 0, .ref p2, .ref p3, .ref p4, .ref p5, .int 0, .ref p6, .int 0, .ref p7, .ref p8, .ref p9, .int 0])), (h1, .inr (6, [.ref h2, .int 0, .int 0]))] := hD
  refine lv_aload_n hx hb dX0_openWith_137 rfl (lv_at hl 1 rfl) ?_
  refine lv_iconst (v := 0) hx hb dX0_openWith_138 (by decide) ?_
  refine va_put (D := D) (ci := 4) (v := .int 0) (ty := .int) (C := RX0) (T := TX0) (N := 20) hx hb hts inX0 tyX0 tyX0_ok nmX0 hown hK hP hD hS 0 rfl rfl 19 (by decide) (hts (.fieldLink RX0 86 "EscrowDesk$Account" "approvedSet" "I") (by decide +kernel)) (fun _ h9 => h9) rfl (by decide +kernel) rfl rfl (Nat.le_of_ble_eq_true rfl) dX0_openWith_139 (fun H locs hP hD hS => ?_)
  have hP : va_P D vwCl [(h0, .inr (4, [.ref p0, .ref h1, .ref h3, .ref h4, .ref h5, .ref h6, .int 0, .int 0, .int 0, .long 0, .long 0, .long 0, .int 0, .int 0, .int 0, .int 0, .int 365, .int 0, .int 0, .int 0])), (h3, .inl (cA 0, 10, .inl fn47)), (h4, .inl (cA 0, 10, .inl fn48)), (h5, .inl (cA 0, 10, .inl fn49)), (h6, .inl (cA 0, 10, .inl fn50)), (p0, .inr (7, [.int 0, .int 365, .int 0, .int 0, .ref p1, .int 0, .ref p2, .ref p3, .ref p4, .ref p5, .int 0, .ref p6, .int 0, .ref p7, .ref p8, .ref p9, .int 0])), (h1, .inr (6, [.ref h2, .int 0, .int 0]))] H := hP
  have hD : va_D A [(h0, .inr (4, [.ref p0, .ref h1, .ref h3, .ref h4, .ref h5, .ref h6, .int 0, .int 0, .int 0, .long 0, .long 0, .long 0, .int 0, .int 0, .int 0, .int 0, .int 365, .int 0, .int 0, .int 0])), (h3, .inl (cA 0, 10, .inl fn47)), (h4, .inl (cA 0, 10, .inl fn48)), (h5, .inl (cA 0, 10, .inl fn49)), (h6, .inl (cA 0, 10, .inl fn50)), (p0, .inr (7, [.int 0, .int 365, .int 0, .int 0, .ref p1, .int 0, .ref p2, .ref p3, .ref p4, .ref p5, .int 0, .ref p6, .int 0, .ref p7, .ref p8, .ref p9, .int 0])), (h1, .inr (6, [.ref h2, .int 0, .int 0]))] := hD
  refine lv_iconst (v := 0) hx hb dX0_openWith_142 (by decide) ?_
  refine lv_istore_n (lv' := [(2, .int 0), (0, .ref h0), (1, .ref p0)]) hx hb dX0_openWith_143 rfl hl (by decide) rfl (fun ls hl => ?_)
  refine lv_iload_n hx hb dX0_openWith_144 rfl (lv_at hl 0 rfl) ?_
  refine lv_aload_n hx hb dX0_openWith_145 rfl (lv_at hl 1 rfl) ?_
  refine va_get (D := D) (ci := 4) (v := .ref p0) (C := RX0) (T := TX0) (N := 20) hx hb hts inX0 hown hK hP 0 rfl rfl 0 (by decide) (hts (.fieldLink RX0 31 "EscrowDesk$Account" "plan" "LEscrowDesk$Plan;") (by decide +kernel)) (fun _ h9 => h9) rfl dX0_openWith_146 ?_
  refine va_getN (D := D) (ci := 7) (v := .int 0) (C := RX3) (T := TX3) (N := 17) hx hb hts inX3 hown hK hP 5 rfl rfl 5 (by decide) (hC.f (A := _) (a := RX0) (i := 89) (b := "EscrowDesk$Plan") (n := "depositCount") (d := "I") (x := "EscrowDesk") (by decide +kernel)) (fun _ h9 => h9) rfl dX0_openWith_149 ?_
  refine lv_icmp_ge (tgt := 174) hx hb dX0_openWith_152 (by decide) (fun c52 => ?_) (fun c9 => absurd c9 (by decide))
  have hP9 := hP.sub (ws' := [(h0, .inr (4, [.ref p0, .ref h1, .ref h3, .ref h4, .ref h5, .ref h6, .int 0, .int 0, .int 0, .long 0, .long 0, .long 0, .int 0, .int 0, .int 0, .int 0, .int 365, .int 0, .int 0, .int 0])), (h1, .inr (6, [.ref h2, .int 0, .int 0])), (h3, .inl (cA 0, 10, .inl fn47)), (h4, .inl (cA 0, 10, .inl fn48)), (h5, .inl (cA 0, 10, .inl fn49)), (h6, .inl (cA 0, 10, .inl fn50)), (p0, .inr (7, [.int 0, .int 365, .int 0, .int 0, .ref p1, .int 0, .ref p2, .ref p3, .ref p4, .ref p5, .int 0, .ref p6, .int 0, .ref p7, .ref p8, .ref p9, .int 0]))]) [0, 6, 1, 2, 3, 4, 5] rfl
  have hD9 := hD.sub (ws' := [(h0, .inr (4, [.ref p0, .ref h1, .ref h3, .ref h4, .ref h5, .ref h6, .int 0, .int 0, .int 0, .long 0, .long 0, .long 0, .int 0, .int 0, .int 0, .int 0, .int 365, .int 0, .int 0, .int 0])), (h1, .inr (6, [.ref h2, .int 0, .int 0])), (h3, .inl (cA 0, 10, .inl fn47)), (h4, .inl (cA 0, 10, .inl fn48)), (h5, .inl (cA 0, 10, .inl fn49)), (h6, .inl (cA 0, 10, .inl fn50)), (p0, .inr (7, [.int 0, .int 365, .int 0, .int 0, .ref p1, .int 0, .ref p2, .ref p3, .ref p4, .ref p5, .int 0, .ref p6, .int 0, .ref p7, .ref p8, .ref p9, .int 0]))]) [0, 6, 1, 2, 3, 4, 5] (by decide) rfl
  refine W.widen (k := 0) (n := 0) (Nat.le_of_ble_eq_true rfl) (Nat.le_of_ble_eq_true rfl) ?_
  exact W.vret hx hb hr (fun t ht hW => ⟨⟨(), rfl, trivial, fn47, fn48, fn49, fn50, by rw [ht]; exact hP9, hD9⟩, hS.F ht⟩) hS.2.2 dX0_openWith_174

set_option maxHeartbeats 4000000 in
set_option maxRecDepth 100000 in
/-- History(plan) -/
theorem c_X1_init (l : Launch) (D : va_G) (cA : Nat → ClassId) (sa : Nat → Nat) (h0 h1 : Nat) (sz : Nat) : Met l yX1_init wsX1_init ({ frames := 3, cells := 71, slots := 3040, locals := 61 }) (va_Pc [.ref h0, .ref h1] (Wd D cA sa [(h0, .inr (5, [.null, .int 0, .int 0]))] sz)) (va_Qv (fun _ : Unit => True) (fun (_ : Unit) t => ∃ qn1 : Nat, ∃ qn3 : Nat, ∃ qn4 : Nat, ∃ qn5 : Nat, ∃ qn6 : Nat, ∃ qn7 : Nat, ∃ qn8 : Nat, ∃ qn9 : Nat, ∃ qn11 : Nat, ∃ qn19 : Nat, ∃ qn27 : Nat, ∃ qn35 : Nat, ∃ qn43 : Nat, ∃ qn51 : Nat, ∃ qn59 : Nat, ∃ qn67 : Nat, ∃ qn75 : Nat, Wq D (va_A [(h0, .inr (5, [.null, .int 0, .int 0]))] sz) [(h0, .inr (5, [.ref qn1, .int 0, .int 0])), (qn1, .inl (cA 5, 10, .inr (.inr (.inr (.inr (va_up (va_up (va_up (va_up (va_up (va_up (va_up (va_up (va_up (va_up (fun _ => none) 0 (some qn3)) 1 (some qn11)) 2 (some qn19)) 3 (some qn27)) 4 (some qn35)) 5 (some qn43)) 6 (some qn51)) 7 (some qn59)) 8 (some qn67)) 9 (some qn75))))))), (qn3, .inr (4, [.ref h1, .ref qn4, .ref qn6, .ref qn7, .ref qn8, .ref qn9, .int 0, .int 0, .int 0, .long 0, .long 0, .long 0, .int 0, .int 0, .int 0, .int 0, .int 0, .int 0, .int 0, .int 0])), (qn4, .inr (6, [.ref qn5, .int 0, .int 0])), (qn5, .inl (cA 0, 240, .inl (fun _ => 0))), (qn6, .inl (cA 0, 10, .inl (fun _ => 0))), (qn7, .inl (cA 0, 10, .inl (fun _ => 0))), (qn8, .inl (cA 0, 10, .inl (fun _ => 0))), (qn9, .inl (cA 0, 10, .inl (fun _ => 0)))] t) (va_A [(h0, .inr (5, [.null, .int 0, .int 0]))] sz)) 71 3040 (va_A [(h0, .inr (5, [.null, .int 0, .int 0]))] sz) := by
  refine Met.ofW (cc := cX1_init) (maxL := 3) (ret := none) (by decide) rfl ?_
  intro p e s m args below meth c s₁ B hml hv
  obtain ⟨rfl, hsz, hP, hK, hD0, hC, hZ⟩ := hv
  have hx := B.exec
  have hb := B.bytes
  have hr := B.returns
  have hts := atoms_spec (ws := wsX1_init) B.pre
  have hown : s.vm.findClass RX1 = some m.cls := findClass_of_methodNamed B.named
  have hlocks := B.notSynchronized
  have hin : meth.name = "<init>" := (name_of_methodNamed B.named B.method).1
  subst hsz
  have hD := hD0.self (sz := s.heap.size)
  generalize hAe : va_A [(h0, .inr (5, [.null, .int 0, .int 0]))] s.heap.size = A at hD hZ ⊢
  have hA : ∀ q : Nat, s.heap.size ≤ q → A q := fun q h => by rw [← hAe]; exact Or.inr h
  have hS : va_S A s.heap s.heap [] := va_S.rf
  have hP : va_P D vwCl [(h0, .inr (5, [.null, .int 0, .int 0]))] s.heap := hP
  have hl := lv_entry ([.ref h0, .ref h1]) (n := 3) (Nat.le_of_ble_eq_true rfl)
  rw [lg_entry_eq]
  generalize (lg_sl ([.ref h0, .ref h1]) ++ List.replicate (3 - (lg_sl ([.ref h0, .ref h1])).length) Slot.unset).toArray = ls at hl ⊢
  have hl : lv_has ls 3 [(0, .ref h0), (1, .ref h1)] := hl
  have inX0 : ∀ w ∈ u_ws RX0 TX0 20, w ∈ wsX1_init := by decide +kernel
  have inX1 : ∀ w ∈ u_ws RX1 TX1 3, w ∈ wsX1_init := by decide +kernel
  refine lv_aload_n hx hb dX1_init_0 rfl (lv_at hl 0 rfl) ?_
  refine W.objInit hx hb hown (hts (.methodLink RX1 3 objectInit) (by decide +kernel)) (hts (.instanceMethod objectInit) (by decide +kernel)) (hts (.code objectInit ⟨#[0xb1]⟩ 1 none) (by decide +kernel)) rfl (by rw [hml]; exact hl.1) rfl dX1_init_1 (Nat.le_of_ble_eq_true rfl) (Nat.le_of_ble_eq_true rfl) ?_
  refine W.eq (g2 := F0 m 4 ls []) rfl ?_
  refine lv_aload_n hx hb dX1_init_4 rfl (lv_at hl 0 rfl) ?_
  refine lv_bipush (v := 10) hx hb dX1_init_5 (by decide) ?_
  refine va_newq (N' := 10) hx hb hown (hts (.classLink RX1 11 RX0) (by decide +kernel)) hC.2.2 hK hP hD hS hA (by decide) (by decide +kernel) (Nat.le_of_ble_eq_true rfl) (Nat.le_of_ble_eq_true rfl) (Nat.le_of_ble_eq_true rfl) dX1_init_7 (fun qn1 c9 H hK9 hP hD hS => ?_)
  obtain rfl : c9 = cA 5 := ty_one hK9 5 rfl
  have hP : va_P D vwCl [(h0, .inr (5, [.null, .int 0, .int 0])), (qn1, .inl (cA 5, 10, .inr (.inr (.inr (.inr (fun _ => none))))))] H := hP
  have hD : va_D A [(h0, .inr (5, [.null, .int 0, .int 0])), (qn1, .inl (cA 5, 10, .inr (.inr (.inr (.inr (fun _ => none))))))] := hD
  refine va_putF (D := D) (ci := 5) (v := .ref qn1) (ty := (.array (.object "EscrowDesk$Account"))) (C := RX1) (T := TX1) (N := 3) hx hb hts inX1 tyX1 tyX1_ok nmX1 hown hK hP hD hS 0 rfl rfl 0 (by decide) (hts (.fieldLink RX1 13 "EscrowDesk$History" "remembered" "[LEscrowDesk$Account;") (by decide +kernel)) (fun _ h9 => h9) rfl hin rfl (by decide +kernel) rfl rfl (Nat.le_of_ble_eq_true rfl) dX1_init_10 (fun H locs hP hD hS => ?_)
  have hP : va_P D vwCl [(h0, .inr (5, [.ref qn1, .int 0, .int 0])), (qn1, .inl (cA 5, 10, .inr (.inr (.inr (.inr (fun _ => none))))))] H := hP
  have hD : va_D A [(h0, .inr (5, [.ref qn1, .int 0, .int 0])), (qn1, .inl (cA 5, 10, .inr (.inr (.inr (.inr (fun _ => none))))))] := hD
  refine lv_iconst (v := 0) hx hb dX1_init_13 (by decide) ?_
  refine lv_istore_n (lv' := [(2, .int 0), (0, .ref h0), (1, .ref h1)]) hx hb dX1_init_14 rfl hl (by decide) rfl (fun ls hl => ?_)
  refine lv_iload_n hx hb dX1_init_15 rfl (lv_at hl 0 rfl) ?_
  refine lv_bipush (v := 10) hx hb dX1_init_16 (by decide) ?_
  refine lv_icmp_ge (tgt := 41) hx hb dX1_init_18 (by decide) (fun c9 => absurd c9 (by decide)) (fun c2 => ?_)
  refine lv_aload_n hx hb dX1_init_21 rfl (lv_at hl 1 rfl) ?_
  refine va_get (D := D) (ci := 5) (v := .ref qn1) (C := RX1) (T := TX1) (N := 3) hx hb hts inX1 hown hK hP 0 rfl rfl 0 (by decide) (hts (.fieldLink RX1 13 "EscrowDesk$History" "remembered" "[LEscrowDesk$Account;") (by decide +kernel)) (fun _ h9 => h9) rfl dX1_init_22 ?_
  refine lv_iload_n hx hb dX1_init_25 rfl (lv_at hl 0 rfl) ?_
  refine va_new (ci := 4) (fs := [.null, .null, .null, .null, .null, .null, .int 0, .int 0, .int 0, .long 0, .long 0, .long 0, .int 0, .int 0, .int 0, .int 0, .int 0, .int 0, .int 0, .int 0]) (C := RX0) (T := TX0) (N := 20) hx hb hts inX0 tyX0 tyX0_ok hown (hts (.classLink RX1 11 RX0) (by decide +kernel)) (hts (.instantiable RX0 20) (by decide +kernel)) (hts (.initialized RX0) (by decide +kernel)) hK hP hD hS hA rfl (by decide +kernel) (Nat.le_of_ble_eq_true rfl) (Nat.le_of_ble_eq_true rfl) dX1_init_26 (fun qn3 H hP hD hS => ?_)
  have hP : va_P D vwCl [(h0, .inr (5, [.ref qn1, .int 0, .int 0])), (qn1, .inl (cA 5, 10, .inr (.inr (.inr (.inr (fun _ => none)))))), (qn3, .inr (4, [.null, .null, .null, .null, .null, .null, .int 0, .int 0, .int 0, .long 0, .long 0, .long 0, .int 0, .int 0, .int 0, .int 0, .int 0, .int 0, .int 0, .int 0]))] H := hP
  have hD : va_D A [(h0, .inr (5, [.ref qn1, .int 0, .int 0])), (qn1, .inl (cA 5, 10, .inr (.inr (.inr (.inr (fun _ => none)))))), (qn3, .inr (4, [.null, .null, .null, .null, .null, .null, .int 0, .int 0, .int 0, .long 0, .long 0, .long 0, .int 0, .int 0, .int 0, .int 0, .int 0, .int 0, .int 0, .int 0]))] := hD
  refine lv_dup hx hb dX1_init_29 rfl ?_
  refine lv_aload_n hx hb dX1_init_30 rfl (lv_at hl 2 rfl) ?_
  have hPc := hP.sub (ws' := [(qn3, .inr (4, [.null, .null, .null, .null, .null, .null, .int 0, .int 0, .int 0, .long 0, .long 0, .long 0, .int 0, .int 0, .int 0, .int 0, .int 0, .int 0, .int 0, .int 0]))]) [2] rfl
  have hDc := hD.sub (ws' := [(qn3, .inr (4, [.null, .null, .null, .null, .null, .null, .int 0, .int 0, .int 0, .long 0, .long 0, .long 0, .int 0, .int 0, .int 0, .int 0, .int 0, .int 0, .int 0, .int 0]))]) [2] (by decide) rfl
  have hFc := va_free (wc := [(qn3, .inr (4, [.null, .null, .null, .null, .null, .null, .int 0, .int 0, .int 0, .long 0, .long 0, .long 0, .int 0, .int 0, .int 0, .int 0, .int 0, .int 0, .int 0, .int 0]))]) hD hS hA [2] rfl
  refine va_callv (va_runI (As := [.ref h1]) (rest := [.ref qn3, .int 0, .ref qn1]) ⟨hx, hb, hml, hown, hts⟩ (c_X0_init l D cA sa qn3 h1 H.size) (cwI 1 hts gX1_init_X0_init rfl rfl rfl (hts (.initialized RX0) (by decide +kernel)) (hts (.methodLink RX1 17 yX0_init) (by decide +kernel)) (hts (.instanceMethod yX0_init) (by decide +kernel)) rfl (by decide +kernel) ⟨(Nat.le_of_ble_eq_true rfl), (Nat.le_of_ble_eq_true rfl)⟩) ⟨Wd.blind, fun U hU hW => ⟨rfl, Wd.call hPc hDc hK hC hZ hS hFc U hU hW⟩⟩ rfl rfl hl.1 rfl (lv_room (Nat.le_of_ble_eq_true rfl)) dX1_init_31 ⟨(Nat.le_of_ble_eq_true rfl), (Nat.le_of_ble_eq_true rfl)⟩) hS (fun q _ h => hFc q h) hFc (fun u t H1 locs ht hvm hw hB hz1 hk1 hS => ?_)
  obtain ⟨qn4, qn5, qn6, qn7, qn8, qn9, hP1, hD1⟩ := hB
  rw [ht] at hP1
  obtain ⟨hP, hD⟩ := va_join (wr := [(h0, .inr (5, [.ref qn1, .int 0, .int 0])), (qn1, .inl (cA 5, 10, .inr (.inr (.inr (.inr (fun _ => none))))))]) (w1 := [(qn3, .inr (4, [.ref h1, .ref qn4, .ref qn6, .ref qn7, .ref qn8, .ref qn9, .int 0, .int 0, .int 0, .long 0, .long 0, .long 0, .int 0, .int 0, .int 0, .int 0, .int 0, .int 0, .int 0, .int 0])), (qn4, .inr (6, [.ref qn5, .int 0, .int 0])), (qn5, .inl (cA 0, 240, .inl (fun _ => 0))), (qn6, .inl (cA 0, 10, .inl (fun _ => 0))), (qn7, .inl (cA 0, 10, .inl (fun _ => 0))), (qn8, .inl (cA 0, 10, .inl (fun _ => 0))), (qn9, .inl (cA 0, 10, .inl (fun _ => 0)))]) hP hD [2] [0, 1] rfl rfl (by decide) (by decide) hk1 hFc hP1 hD1
  generalize H1 = H at hP hS ⊢
  have hP : va_P D vwCl [(h0, .inr (5, [.ref qn1, .int 0, .int 0])), (qn1, .inl (cA 5, 10, .inr (.inr (.inr (.inr (fun _ => none)))))), (qn3, .inr (4, [.ref h1, .ref qn4, .ref qn6, .ref qn7, .ref qn8, .ref qn9, .int 0, .int 0, .int 0, .long 0, .long 0, .long 0, .int 0, .int 0, .int 0, .int 0, .int 0, .int 0, .int 0, .int 0])), (qn4, .inr (6, [.ref qn5, .int 0, .int 0])), (qn5, .inl (cA 0, 240, .inl (fun _ => 0))), (qn6, .inl (cA 0, 10, .inl (fun _ => 0))), (qn7, .inl (cA 0, 10, .inl (fun _ => 0))), (qn8, .inl (cA 0, 10, .inl (fun _ => 0))), (qn9, .inl (cA 0, 10, .inl (fun _ => 0)))] H := hP
  have hD : va_D A [(h0, .inr (5, [.ref qn1, .int 0, .int 0])), (qn1, .inl (cA 5, 10, .inr (.inr (.inr (.inr (fun _ => none)))))), (qn3, .inr (4, [.ref h1, .ref qn4, .ref qn6, .ref qn7, .ref qn8, .ref qn9, .int 0, .int 0, .int 0, .long 0, .long 0, .long 0, .int 0, .int 0, .int 0, .int 0, .int 0, .int 0, .int 0, .int 0])), (qn4, .inr (6, [.ref qn5, .int 0, .int 0])), (qn5, .inl (cA 0, 240, .inl (fun _ => 0))), (qn6, .inl (cA 0, 10, .inl (fun _ => 0))), (qn7, .inl (cA 0, 10, .inl (fun _ => 0))), (qn8, .inl (cA 0, 10, .inl (fun _ => 0))), (qn9, .inl (cA 0, 10, .inl (fun _ => 0)))] := hD
  refine va_astq (r := (RX0, TX0, 20)) hx hb hK hP hD hS 1 5 2 4 rfl rfl rfl rfl (vp_in_iff.mpr (by decide)) dX1_init_34 (fun H locs hP hD hS => ?_)
  have hP : va_P D vwCl [(h0, .inr (5, [.ref qn1, .int 0, .int 0])), (qn1, .inl (cA 5, 10, .inr (.inr (.inr (.inr (va_up (fun _ => none) 0 (some qn3))))))), (qn3, .inr (4, [.ref h1, .ref qn4, .ref qn6, .ref qn7, .ref qn8, .ref qn9, .int 0, .int 0, .int 0, .long 0, .long 0, .long 0, .int 0, .int 0, .int 0, .int 0, .int 0, .int 0, .int 0, .int 0])), (qn4, .inr (6, [.ref qn5, .int 0, .int 0])), (qn5, .inl (cA 0, 240, .inl (fun _ => 0))), (qn6, .inl (cA 0, 10, .inl (fun _ => 0))), (qn7, .inl (cA 0, 10, .inl (fun _ => 0))), (qn8, .inl (cA 0, 10, .inl (fun _ => 0))), (qn9, .inl (cA 0, 10, .inl (fun _ => 0)))] H := hP
  have hD : va_D A [(h0, .inr (5, [.ref qn1, .int 0, .int 0])), (qn1, .inl (cA 5, 10, .inr (.inr (.inr (.inr (va_up (fun _ => none) 0 (some qn3))))))), (qn3, .inr (4, [.ref h1, .ref qn4, .ref qn6, .ref qn7, .ref qn8, .ref qn9, .int 0, .int 0, .int 0, .long 0, .long 0, .long 0, .int 0, .int 0, .int 0, .int 0, .int 0, .int 0, .int 0, .int 0])), (qn4, .inr (6, [.ref qn5, .int 0, .int 0])), (qn5, .inl (cA 0, 240, .inl (fun _ => 0))), (qn6, .inl (cA 0, 10, .inl (fun _ => 0))), (qn7, .inl (cA 0, 10, .inl (fun _ => 0))), (qn8, .inl (cA 0, 10, .inl (fun _ => 0))), (qn9, .inl (cA 0, 10, .inl (fun _ => 0)))] := hD
  refine lv_iinc (v := 1) (lv' := [(2, .int 1), (0, .ref h0), (1, .ref h1)]) hx hb dX1_init_35 hl (k := 0) rfl (by first | rfl | decide +kernel) (by decide) rfl (fun ls hl => ?_)
  refine lv_goto (tgt := 15) hx hb dX1_init_38 (by decide) ?_
  refine lv_iload_n hx hb dX1_init_15 rfl (lv_at hl 0 rfl) ?_
  refine lv_bipush (v := 10) hx hb dX1_init_16 (by decide) ?_
  refine lv_icmp_ge (tgt := 41) hx hb dX1_init_18 (by decide) (fun c9 => absurd c9 (by decide)) (fun c10 => ?_)
  refine lv_aload_n hx hb dX1_init_21 rfl (lv_at hl 1 rfl) ?_
  refine va_get (D := D) (ci := 5) (v := .ref qn1) (C := RX1) (T := TX1) (N := 3) hx hb hts inX1 hown hK hP 0 rfl rfl 0 (by decide) (hts (.fieldLink RX1 13 "EscrowDesk$History" "remembered" "[LEscrowDesk$Account;") (by decide +kernel)) (fun _ h9 => h9) rfl dX1_init_22 ?_
  refine lv_iload_n hx hb dX1_init_25 rfl (lv_at hl 0 rfl) ?_
  refine va_new (ci := 4) (fs := [.null, .null, .null, .null, .null, .null, .int 0, .int 0, .int 0, .long 0, .long 0, .long 0, .int 0, .int 0, .int 0, .int 0, .int 0, .int 0, .int 0, .int 0]) (C := RX0) (T := TX0) (N := 20) hx hb hts inX0 tyX0 tyX0_ok hown (hts (.classLink RX1 11 RX0) (by decide +kernel)) (hts (.instantiable RX0 20) (by decide +kernel)) (hts (.initialized RX0) (by decide +kernel)) hK hP hD hS hA rfl (by decide +kernel) (Nat.le_of_ble_eq_true rfl) (Nat.le_of_ble_eq_true rfl) dX1_init_26 (fun qn11 H hP hD hS => ?_)
  have hP : va_P D vwCl [(h0, .inr (5, [.ref qn1, .int 0, .int 0])), (qn1, .inl (cA 5, 10, .inr (.inr (.inr (.inr (va_up (fun _ => none) 0 (some qn3))))))), (qn3, .inr (4, [.ref h1, .ref qn4, .ref qn6, .ref qn7, .ref qn8, .ref qn9, .int 0, .int 0, .int 0, .long 0, .long 0, .long 0, .int 0, .int 0, .int 0, .int 0, .int 0, .int 0, .int 0, .int 0])), (qn4, .inr (6, [.ref qn5, .int 0, .int 0])), (qn5, .inl (cA 0, 240, .inl (fun _ => 0))), (qn6, .inl (cA 0, 10, .inl (fun _ => 0))), (qn7, .inl (cA 0, 10, .inl (fun _ => 0))), (qn8, .inl (cA 0, 10, .inl (fun _ => 0))), (qn9, .inl (cA 0, 10, .inl (fun _ => 0))), (qn11, .inr (4, [.null, .null, .null, .null, .null, .null, .int 0, .int 0, .int 0, .long 0, .long 0, .long 0, .int 0, .int 0, .int 0, .int 0, .int 0, .int 0, .int 0, .int 0]))] H := hP
  have hD : va_D A [(h0, .inr (5, [.ref qn1, .int 0, .int 0])), (qn1, .inl (cA 5, 10, .inr (.inr (.inr (.inr (va_up (fun _ => none) 0 (some qn3))))))), (qn3, .inr (4, [.ref h1, .ref qn4, .ref qn6, .ref qn7, .ref qn8, .ref qn9, .int 0, .int 0, .int 0, .long 0, .long 0, .long 0, .int 0, .int 0, .int 0, .int 0, .int 0, .int 0, .int 0, .int 0])), (qn4, .inr (6, [.ref qn5, .int 0, .int 0])), (qn5, .inl (cA 0, 240, .inl (fun _ => 0))), (qn6, .inl (cA 0, 10, .inl (fun _ => 0))), (qn7, .inl (cA 0, 10, .inl (fun _ => 0))), (qn8, .inl (cA 0, 10, .inl (fun _ => 0))), (qn9, .inl (cA 0, 10, .inl (fun _ => 0))), (qn11, .inr (4, [.null, .null, .null, .null, .null, .null, .int 0, .int 0, .int 0, .long 0, .long 0, .long 0, .int 0, .int 0, .int 0, .int 0, .int 0, .int 0, .int 0, .int 0]))] := hD
  refine lv_dup hx hb dX1_init_29 rfl ?_
  refine lv_aload_n hx hb dX1_init_30 rfl (lv_at hl 2 rfl) ?_
  have hPc := hP.sub (ws' := [(qn11, .inr (4, [.null, .null, .null, .null, .null, .null, .int 0, .int 0, .int 0, .long 0, .long 0, .long 0, .int 0, .int 0, .int 0, .int 0, .int 0, .int 0, .int 0, .int 0]))]) [9] rfl
  have hDc := hD.sub (ws' := [(qn11, .inr (4, [.null, .null, .null, .null, .null, .null, .int 0, .int 0, .int 0, .long 0, .long 0, .long 0, .int 0, .int 0, .int 0, .int 0, .int 0, .int 0, .int 0, .int 0]))]) [9] (by decide) rfl
  have hFc := va_free (wc := [(qn11, .inr (4, [.null, .null, .null, .null, .null, .null, .int 0, .int 0, .int 0, .long 0, .long 0, .long 0, .int 0, .int 0, .int 0, .int 0, .int 0, .int 0, .int 0, .int 0]))]) hD hS hA [9] rfl
  refine va_callv (va_runI (As := [.ref h1]) (rest := [.ref qn11, .int 1, .ref qn1]) ⟨hx, hb, hml, hown, hts⟩ (c_X0_init l D cA sa qn11 h1 H.size) (cwI 1 hts gX1_init_X0_init rfl rfl rfl (hts (.initialized RX0) (by decide +kernel)) (hts (.methodLink RX1 17 yX0_init) (by decide +kernel)) (hts (.instanceMethod yX0_init) (by decide +kernel)) rfl (by decide +kernel) ⟨(Nat.le_of_ble_eq_true rfl), (Nat.le_of_ble_eq_true rfl)⟩) ⟨Wd.blind, fun U hU hW => ⟨rfl, Wd.call hPc hDc hK hC hZ hS hFc U hU hW⟩⟩ rfl rfl hl.1 rfl (lv_room (Nat.le_of_ble_eq_true rfl)) dX1_init_31 ⟨(Nat.le_of_ble_eq_true rfl), (Nat.le_of_ble_eq_true rfl)⟩) hS (fun q _ h => hFc q h) hFc (fun u t H1 locs ht hvm hw hB hz1 hk1 hS => ?_)
  obtain ⟨qn12, qn13, qn14, qn15, qn16, qn17, hP1, hD1⟩ := hB
  rw [ht] at hP1
  obtain ⟨hP, hD⟩ := va_join (wr := [(h0, .inr (5, [.ref qn1, .int 0, .int 0])), (qn1, .inl (cA 5, 10, .inr (.inr (.inr (.inr (va_up (fun _ => none) 0 (some qn3))))))), (qn3, .inr (4, [.ref h1, .ref qn4, .ref qn6, .ref qn7, .ref qn8, .ref qn9, .int 0, .int 0, .int 0, .long 0, .long 0, .long 0, .int 0, .int 0, .int 0, .int 0, .int 0, .int 0, .int 0, .int 0])), (qn4, .inr (6, [.ref qn5, .int 0, .int 0])), (qn5, .inl (cA 0, 240, .inl (fun _ => 0))), (qn6, .inl (cA 0, 10, .inl (fun _ => 0))), (qn7, .inl (cA 0, 10, .inl (fun _ => 0))), (qn8, .inl (cA 0, 10, .inl (fun _ => 0))), (qn9, .inl (cA 0, 10, .inl (fun _ => 0)))]) (w1 := [(qn11, .inr (4, [.ref h1, .ref qn12, .ref qn14, .ref qn15, .ref qn16, .ref qn17, .int 0, .int 0, .int 0, .long 0, .long 0, .long 0, .int 0, .int 0, .int 0, .int 0, .int 0, .int 0, .int 0, .int 0])), (qn12, .inr (6, [.ref qn13, .int 0, .int 0])), (qn13, .inl (cA 0, 240, .inl (fun _ => 0))), (qn14, .inl (cA 0, 10, .inl (fun _ => 0))), (qn15, .inl (cA 0, 10, .inl (fun _ => 0))), (qn16, .inl (cA 0, 10, .inl (fun _ => 0))), (qn17, .inl (cA 0, 10, .inl (fun _ => 0)))]) hP hD [9] [0, 1, 2, 3, 4, 5, 6, 7, 8] rfl rfl (by decide) (by decide) hk1 hFc hP1 hD1
  generalize H1 = H at hP hS ⊢
  have hP : va_P D vwCl [(h0, .inr (5, [.ref qn1, .int 0, .int 0])), (qn1, .inl (cA 5, 10, .inr (.inr (.inr (.inr (va_up (fun _ => none) 0 (some qn3))))))), (qn3, .inr (4, [.ref h1, .ref qn4, .ref qn6, .ref qn7, .ref qn8, .ref qn9, .int 0, .int 0, .int 0, .long 0, .long 0, .long 0, .int 0, .int 0, .int 0, .int 0, .int 0, .int 0, .int 0, .int 0])), (qn4, .inr (6, [.ref qn5, .int 0, .int 0])), (qn5, .inl (cA 0, 240, .inl (fun _ => 0))), (qn6, .inl (cA 0, 10, .inl (fun _ => 0))), (qn7, .inl (cA 0, 10, .inl (fun _ => 0))), (qn8, .inl (cA 0, 10, .inl (fun _ => 0))), (qn9, .inl (cA 0, 10, .inl (fun _ => 0))), (qn11, .inr (4, [.ref h1, .ref qn12, .ref qn14, .ref qn15, .ref qn16, .ref qn17, .int 0, .int 0, .int 0, .long 0, .long 0, .long 0, .int 0, .int 0, .int 0, .int 0, .int 0, .int 0, .int 0, .int 0])), (qn12, .inr (6, [.ref qn13, .int 0, .int 0])), (qn13, .inl (cA 0, 240, .inl (fun _ => 0))), (qn14, .inl (cA 0, 10, .inl (fun _ => 0))), (qn15, .inl (cA 0, 10, .inl (fun _ => 0))), (qn16, .inl (cA 0, 10, .inl (fun _ => 0))), (qn17, .inl (cA 0, 10, .inl (fun _ => 0)))] H := hP
  have hD : va_D A [(h0, .inr (5, [.ref qn1, .int 0, .int 0])), (qn1, .inl (cA 5, 10, .inr (.inr (.inr (.inr (va_up (fun _ => none) 0 (some qn3))))))), (qn3, .inr (4, [.ref h1, .ref qn4, .ref qn6, .ref qn7, .ref qn8, .ref qn9, .int 0, .int 0, .int 0, .long 0, .long 0, .long 0, .int 0, .int 0, .int 0, .int 0, .int 0, .int 0, .int 0, .int 0])), (qn4, .inr (6, [.ref qn5, .int 0, .int 0])), (qn5, .inl (cA 0, 240, .inl (fun _ => 0))), (qn6, .inl (cA 0, 10, .inl (fun _ => 0))), (qn7, .inl (cA 0, 10, .inl (fun _ => 0))), (qn8, .inl (cA 0, 10, .inl (fun _ => 0))), (qn9, .inl (cA 0, 10, .inl (fun _ => 0))), (qn11, .inr (4, [.ref h1, .ref qn12, .ref qn14, .ref qn15, .ref qn16, .ref qn17, .int 0, .int 0, .int 0, .long 0, .long 0, .long 0, .int 0, .int 0, .int 0, .int 0, .int 0, .int 0, .int 0, .int 0])), (qn12, .inr (6, [.ref qn13, .int 0, .int 0])), (qn13, .inl (cA 0, 240, .inl (fun _ => 0))), (qn14, .inl (cA 0, 10, .inl (fun _ => 0))), (qn15, .inl (cA 0, 10, .inl (fun _ => 0))), (qn16, .inl (cA 0, 10, .inl (fun _ => 0))), (qn17, .inl (cA 0, 10, .inl (fun _ => 0)))] := hD
  refine va_astq (r := (RX0, TX0, 20)) hx hb hK hP hD hS 1 5 9 4 rfl rfl rfl rfl (vp_in_iff.mpr (by decide)) dX1_init_34 (fun H locs hP hD hS => ?_)
  have hP : va_P D vwCl [(h0, .inr (5, [.ref qn1, .int 0, .int 0])), (qn1, .inl (cA 5, 10, .inr (.inr (.inr (.inr (va_up (va_up (fun _ => none) 0 (some qn3)) 1 (some qn11))))))), (qn3, .inr (4, [.ref h1, .ref qn4, .ref qn6, .ref qn7, .ref qn8, .ref qn9, .int 0, .int 0, .int 0, .long 0, .long 0, .long 0, .int 0, .int 0, .int 0, .int 0, .int 0, .int 0, .int 0, .int 0])), (qn4, .inr (6, [.ref qn5, .int 0, .int 0])), (qn5, .inl (cA 0, 240, .inl (fun _ => 0))), (qn6, .inl (cA 0, 10, .inl (fun _ => 0))), (qn7, .inl (cA 0, 10, .inl (fun _ => 0))), (qn8, .inl (cA 0, 10, .inl (fun _ => 0))), (qn9, .inl (cA 0, 10, .inl (fun _ => 0))), (qn11, .inr (4, [.ref h1, .ref qn12, .ref qn14, .ref qn15, .ref qn16, .ref qn17, .int 0, .int 0, .int 0, .long 0, .long 0, .long 0, .int 0, .int 0, .int 0, .int 0, .int 0, .int 0, .int 0, .int 0])), (qn12, .inr (6, [.ref qn13, .int 0, .int 0])), (qn13, .inl (cA 0, 240, .inl (fun _ => 0))), (qn14, .inl (cA 0, 10, .inl (fun _ => 0))), (qn15, .inl (cA 0, 10, .inl (fun _ => 0))), (qn16, .inl (cA 0, 10, .inl (fun _ => 0))), (qn17, .inl (cA 0, 10, .inl (fun _ => 0)))] H := hP
  have hD : va_D A [(h0, .inr (5, [.ref qn1, .int 0, .int 0])), (qn1, .inl (cA 5, 10, .inr (.inr (.inr (.inr (va_up (va_up (fun _ => none) 0 (some qn3)) 1 (some qn11))))))), (qn3, .inr (4, [.ref h1, .ref qn4, .ref qn6, .ref qn7, .ref qn8, .ref qn9, .int 0, .int 0, .int 0, .long 0, .long 0, .long 0, .int 0, .int 0, .int 0, .int 0, .int 0, .int 0, .int 0, .int 0])), (qn4, .inr (6, [.ref qn5, .int 0, .int 0])), (qn5, .inl (cA 0, 240, .inl (fun _ => 0))), (qn6, .inl (cA 0, 10, .inl (fun _ => 0))), (qn7, .inl (cA 0, 10, .inl (fun _ => 0))), (qn8, .inl (cA 0, 10, .inl (fun _ => 0))), (qn9, .inl (cA 0, 10, .inl (fun _ => 0))), (qn11, .inr (4, [.ref h1, .ref qn12, .ref qn14, .ref qn15, .ref qn16, .ref qn17, .int 0, .int 0, .int 0, .long 0, .long 0, .long 0, .int 0, .int 0, .int 0, .int 0, .int 0, .int 0, .int 0, .int 0])), (qn12, .inr (6, [.ref qn13, .int 0, .int 0])), (qn13, .inl (cA 0, 240, .inl (fun _ => 0))), (qn14, .inl (cA 0, 10, .inl (fun _ => 0))), (qn15, .inl (cA 0, 10, .inl (fun _ => 0))), (qn16, .inl (cA 0, 10, .inl (fun _ => 0))), (qn17, .inl (cA 0, 10, .inl (fun _ => 0)))] := hD
  refine lv_iinc (v := 2) (lv' := [(2, .int 2), (0, .ref h0), (1, .ref h1)]) hx hb dX1_init_35 hl (k := 0) rfl (by first | rfl | decide +kernel) (by decide) rfl (fun ls hl => ?_)
  refine lv_goto (tgt := 15) hx hb dX1_init_38 (by decide) ?_
  have hP := hP.sub (ws' := [(h0, .inr (5, [.ref qn1, .int 0, .int 0])), (qn1, .inl (cA 5, 10, .inr (.inr (.inr (.inr (va_up (va_up (fun _ => none) 0 (some qn3)) 1 (some qn11))))))), (qn3, .inr (4, [.ref h1, .ref qn4, .ref qn6, .ref qn7, .ref qn8, .ref qn9, .int 0, .int 0, .int 0, .long 0, .long 0, .long 0, .int 0, .int 0, .int 0, .int 0, .int 0, .int 0, .int 0, .int 0])), (qn4, .inr (6, [.ref qn5, .int 0, .int 0])), (qn5, .inl (cA 0, 240, .inl (fun _ => 0))), (qn6, .inl (cA 0, 10, .inl (fun _ => 0))), (qn7, .inl (cA 0, 10, .inl (fun _ => 0))), (qn8, .inl (cA 0, 10, .inl (fun _ => 0))), (qn9, .inl (cA 0, 10, .inl (fun _ => 0)))]) [0, 1, 2, 3, 4, 5, 6, 7, 8] rfl
  have hD := hD.sub (ws' := [(h0, .inr (5, [.ref qn1, .int 0, .int 0])), (qn1, .inl (cA 5, 10, .inr (.inr (.inr (.inr (va_up (va_up (fun _ => none) 0 (some qn3)) 1 (some qn11))))))), (qn3, .inr (4, [.ref h1, .ref qn4, .ref qn6, .ref qn7, .ref qn8, .ref qn9, .int 0, .int 0, .int 0, .long 0, .long 0, .long 0, .int 0, .int 0, .int 0, .int 0, .int 0, .int 0, .int 0, .int 0])), (qn4, .inr (6, [.ref qn5, .int 0, .int 0])), (qn5, .inl (cA 0, 240, .inl (fun _ => 0))), (qn6, .inl (cA 0, 10, .inl (fun _ => 0))), (qn7, .inl (cA 0, 10, .inl (fun _ => 0))), (qn8, .inl (cA 0, 10, .inl (fun _ => 0))), (qn9, .inl (cA 0, 10, .inl (fun _ => 0)))]) [0, 1, 2, 3, 4, 5, 6, 7, 8] (by decide) rfl
  refine lv_iload_n hx hb dX1_init_15 rfl (lv_at hl 0 rfl) ?_
  refine lv_bipush (v := 10) hx hb dX1_init_16 (by decide) ?_
  refine lv_icmp_ge (tgt := 41) hx hb dX1_init_18 (by decide) (fun c9 => absurd c9 (by decide)) (fun c18 => ?_)
  refine lv_aload_n hx hb dX1_init_21 rfl (lv_at hl 1 rfl) ?_
  refine va_get (D := D) (ci := 5) (v := .ref qn1) (C := RX1) (T := TX1) (N := 3) hx hb hts inX1 hown hK hP 0 rfl rfl 0 (by decide) (hts (.fieldLink RX1 13 "EscrowDesk$History" "remembered" "[LEscrowDesk$Account;") (by decide +kernel)) (fun _ h9 => h9) rfl dX1_init_22 ?_
  refine lv_iload_n hx hb dX1_init_25 rfl (lv_at hl 0 rfl) ?_
  refine va_new (ci := 4) (fs := [.null, .null, .null, .null, .null, .null, .int 0, .int 0, .int 0, .long 0, .long 0, .long 0, .int 0, .int 0, .int 0, .int 0, .int 0, .int 0, .int 0, .int 0]) (C := RX0) (T := TX0) (N := 20) hx hb hts inX0 tyX0 tyX0_ok hown (hts (.classLink RX1 11 RX0) (by decide +kernel)) (hts (.instantiable RX0 20) (by decide +kernel)) (hts (.initialized RX0) (by decide +kernel)) hK hP hD hS hA rfl (by decide +kernel) (Nat.le_of_ble_eq_true rfl) (Nat.le_of_ble_eq_true rfl) dX1_init_26 (fun qn19 H hP hD hS => ?_)
  have hP : va_P D vwCl [(h0, .inr (5, [.ref qn1, .int 0, .int 0])), (qn1, .inl (cA 5, 10, .inr (.inr (.inr (.inr (va_up (va_up (fun _ => none) 0 (some qn3)) 1 (some qn11))))))), (qn3, .inr (4, [.ref h1, .ref qn4, .ref qn6, .ref qn7, .ref qn8, .ref qn9, .int 0, .int 0, .int 0, .long 0, .long 0, .long 0, .int 0, .int 0, .int 0, .int 0, .int 0, .int 0, .int 0, .int 0])), (qn4, .inr (6, [.ref qn5, .int 0, .int 0])), (qn5, .inl (cA 0, 240, .inl (fun _ => 0))), (qn6, .inl (cA 0, 10, .inl (fun _ => 0))), (qn7, .inl (cA 0, 10, .inl (fun _ => 0))), (qn8, .inl (cA 0, 10, .inl (fun _ => 0))), (qn9, .inl (cA 0, 10, .inl (fun _ => 0))), (qn19, .inr (4, [.null, .null, .null, .null, .null, .null, .int 0, .int 0, .int 0, .long 0, .long 0, .long 0, .int 0, .int 0, .int 0, .int 0, .int 0, .int 0, .int 0, .int 0]))] H := hP
  have hD : va_D A [(h0, .inr (5, [.ref qn1, .int 0, .int 0])), (qn1, .inl (cA 5, 10, .inr (.inr (.inr (.inr (va_up (va_up (fun _ => none) 0 (some qn3)) 1 (some qn11))))))), (qn3, .inr (4, [.ref h1, .ref qn4, .ref qn6, .ref qn7, .ref qn8, .ref qn9, .int 0, .int 0, .int 0, .long 0, .long 0, .long 0, .int 0, .int 0, .int 0, .int 0, .int 0, .int 0, .int 0, .int 0])), (qn4, .inr (6, [.ref qn5, .int 0, .int 0])), (qn5, .inl (cA 0, 240, .inl (fun _ => 0))), (qn6, .inl (cA 0, 10, .inl (fun _ => 0))), (qn7, .inl (cA 0, 10, .inl (fun _ => 0))), (qn8, .inl (cA 0, 10, .inl (fun _ => 0))), (qn9, .inl (cA 0, 10, .inl (fun _ => 0))), (qn19, .inr (4, [.null, .null, .null, .null, .null, .null, .int 0, .int 0, .int 0, .long 0, .long 0, .long 0, .int 0, .int 0, .int 0, .int 0, .int 0, .int 0, .int 0, .int 0]))] := hD
  refine lv_dup hx hb dX1_init_29 rfl ?_
  refine lv_aload_n hx hb dX1_init_30 rfl (lv_at hl 2 rfl) ?_
  have hPc := hP.sub (ws' := [(qn19, .inr (4, [.null, .null, .null, .null, .null, .null, .int 0, .int 0, .int 0, .long 0, .long 0, .long 0, .int 0, .int 0, .int 0, .int 0, .int 0, .int 0, .int 0, .int 0]))]) [9] rfl
  have hDc := hD.sub (ws' := [(qn19, .inr (4, [.null, .null, .null, .null, .null, .null, .int 0, .int 0, .int 0, .long 0, .long 0, .long 0, .int 0, .int 0, .int 0, .int 0, .int 0, .int 0, .int 0, .int 0]))]) [9] (by decide) rfl
  have hFc := va_free (wc := [(qn19, .inr (4, [.null, .null, .null, .null, .null, .null, .int 0, .int 0, .int 0, .long 0, .long 0, .long 0, .int 0, .int 0, .int 0, .int 0, .int 0, .int 0, .int 0, .int 0]))]) hD hS hA [9] rfl
  refine va_callv (va_runI (As := [.ref h1]) (rest := [.ref qn19, .int 2, .ref qn1]) ⟨hx, hb, hml, hown, hts⟩ (c_X0_init l D cA sa qn19 h1 H.size) (cwI 1 hts gX1_init_X0_init rfl rfl rfl (hts (.initialized RX0) (by decide +kernel)) (hts (.methodLink RX1 17 yX0_init) (by decide +kernel)) (hts (.instanceMethod yX0_init) (by decide +kernel)) rfl (by decide +kernel) ⟨(Nat.le_of_ble_eq_true rfl), (Nat.le_of_ble_eq_true rfl)⟩) ⟨Wd.blind, fun U hU hW => ⟨rfl, Wd.call hPc hDc hK hC hZ hS hFc U hU hW⟩⟩ rfl rfl hl.1 rfl (lv_room (Nat.le_of_ble_eq_true rfl)) dX1_init_31 ⟨(Nat.le_of_ble_eq_true rfl), (Nat.le_of_ble_eq_true rfl)⟩) hS (fun q _ h => hFc q h) hFc (fun u t H1 locs ht hvm hw hB hz1 hk1 hS => ?_)
  obtain ⟨qn20, qn21, qn22, qn23, qn24, qn25, hP1, hD1⟩ := hB
  rw [ht] at hP1
  obtain ⟨hP, hD⟩ := va_join (wr := [(h0, .inr (5, [.ref qn1, .int 0, .int 0])), (qn1, .inl (cA 5, 10, .inr (.inr (.inr (.inr (va_up (va_up (fun _ => none) 0 (some qn3)) 1 (some qn11))))))), (qn3, .inr (4, [.ref h1, .ref qn4, .ref qn6, .ref qn7, .ref qn8, .ref qn9, .int 0, .int 0, .int 0, .long 0, .long 0, .long 0, .int 0, .int 0, .int 0, .int 0, .int 0, .int 0, .int 0, .int 0])), (qn4, .inr (6, [.ref qn5, .int 0, .int 0])), (qn5, .inl (cA 0, 240, .inl (fun _ => 0))), (qn6, .inl (cA 0, 10, .inl (fun _ => 0))), (qn7, .inl (cA 0, 10, .inl (fun _ => 0))), (qn8, .inl (cA 0, 10, .inl (fun _ => 0))), (qn9, .inl (cA 0, 10, .inl (fun _ => 0)))]) (w1 := [(qn19, .inr (4, [.ref h1, .ref qn20, .ref qn22, .ref qn23, .ref qn24, .ref qn25, .int 0, .int 0, .int 0, .long 0, .long 0, .long 0, .int 0, .int 0, .int 0, .int 0, .int 0, .int 0, .int 0, .int 0])), (qn20, .inr (6, [.ref qn21, .int 0, .int 0])), (qn21, .inl (cA 0, 240, .inl (fun _ => 0))), (qn22, .inl (cA 0, 10, .inl (fun _ => 0))), (qn23, .inl (cA 0, 10, .inl (fun _ => 0))), (qn24, .inl (cA 0, 10, .inl (fun _ => 0))), (qn25, .inl (cA 0, 10, .inl (fun _ => 0)))]) hP hD [9] [0, 1, 2, 3, 4, 5, 6, 7, 8] rfl rfl (by decide) (by decide) hk1 hFc hP1 hD1
  generalize H1 = H at hP hS ⊢
  have hP : va_P D vwCl [(h0, .inr (5, [.ref qn1, .int 0, .int 0])), (qn1, .inl (cA 5, 10, .inr (.inr (.inr (.inr (va_up (va_up (fun _ => none) 0 (some qn3)) 1 (some qn11))))))), (qn3, .inr (4, [.ref h1, .ref qn4, .ref qn6, .ref qn7, .ref qn8, .ref qn9, .int 0, .int 0, .int 0, .long 0, .long 0, .long 0, .int 0, .int 0, .int 0, .int 0, .int 0, .int 0, .int 0, .int 0])), (qn4, .inr (6, [.ref qn5, .int 0, .int 0])), (qn5, .inl (cA 0, 240, .inl (fun _ => 0))), (qn6, .inl (cA 0, 10, .inl (fun _ => 0))), (qn7, .inl (cA 0, 10, .inl (fun _ => 0))), (qn8, .inl (cA 0, 10, .inl (fun _ => 0))), (qn9, .inl (cA 0, 10, .inl (fun _ => 0))), (qn19, .inr (4, [.ref h1, .ref qn20, .ref qn22, .ref qn23, .ref qn24, .ref qn25, .int 0, .int 0, .int 0, .long 0, .long 0, .long 0, .int 0, .int 0, .int 0, .int 0, .int 0, .int 0, .int 0, .int 0])), (qn20, .inr (6, [.ref qn21, .int 0, .int 0])), (qn21, .inl (cA 0, 240, .inl (fun _ => 0))), (qn22, .inl (cA 0, 10, .inl (fun _ => 0))), (qn23, .inl (cA 0, 10, .inl (fun _ => 0))), (qn24, .inl (cA 0, 10, .inl (fun _ => 0))), (qn25, .inl (cA 0, 10, .inl (fun _ => 0)))] H := hP
  have hD : va_D A [(h0, .inr (5, [.ref qn1, .int 0, .int 0])), (qn1, .inl (cA 5, 10, .inr (.inr (.inr (.inr (va_up (va_up (fun _ => none) 0 (some qn3)) 1 (some qn11))))))), (qn3, .inr (4, [.ref h1, .ref qn4, .ref qn6, .ref qn7, .ref qn8, .ref qn9, .int 0, .int 0, .int 0, .long 0, .long 0, .long 0, .int 0, .int 0, .int 0, .int 0, .int 0, .int 0, .int 0, .int 0])), (qn4, .inr (6, [.ref qn5, .int 0, .int 0])), (qn5, .inl (cA 0, 240, .inl (fun _ => 0))), (qn6, .inl (cA 0, 10, .inl (fun _ => 0))), (qn7, .inl (cA 0, 10, .inl (fun _ => 0))), (qn8, .inl (cA 0, 10, .inl (fun _ => 0))), (qn9, .inl (cA 0, 10, .inl (fun _ => 0))), (qn19, .inr (4, [.ref h1, .ref qn20, .ref qn22, .ref qn23, .ref qn24, .ref qn25, .int 0, .int 0, .int 0, .long 0, .long 0, .long 0, .int 0, .int 0, .int 0, .int 0, .int 0, .int 0, .int 0, .int 0])), (qn20, .inr (6, [.ref qn21, .int 0, .int 0])), (qn21, .inl (cA 0, 240, .inl (fun _ => 0))), (qn22, .inl (cA 0, 10, .inl (fun _ => 0))), (qn23, .inl (cA 0, 10, .inl (fun _ => 0))), (qn24, .inl (cA 0, 10, .inl (fun _ => 0))), (qn25, .inl (cA 0, 10, .inl (fun _ => 0)))] := hD
  refine va_astq (r := (RX0, TX0, 20)) hx hb hK hP hD hS 1 5 9 4 rfl rfl rfl rfl (vp_in_iff.mpr (by decide)) dX1_init_34 (fun H locs hP hD hS => ?_)
  have hP : va_P D vwCl [(h0, .inr (5, [.ref qn1, .int 0, .int 0])), (qn1, .inl (cA 5, 10, .inr (.inr (.inr (.inr (va_up (va_up (va_up (fun _ => none) 0 (some qn3)) 1 (some qn11)) 2 (some qn19))))))), (qn3, .inr (4, [.ref h1, .ref qn4, .ref qn6, .ref qn7, .ref qn8, .ref qn9, .int 0, .int 0, .int 0, .long 0, .long 0, .long 0, .int 0, .int 0, .int 0, .int 0, .int 0, .int 0, .int 0, .int 0])), (qn4, .inr (6, [.ref qn5, .int 0, .int 0])), (qn5, .inl (cA 0, 240, .inl (fun _ => 0))), (qn6, .inl (cA 0, 10, .inl (fun _ => 0))), (qn7, .inl (cA 0, 10, .inl (fun _ => 0))), (qn8, .inl (cA 0, 10, .inl (fun _ => 0))), (qn9, .inl (cA 0, 10, .inl (fun _ => 0))), (qn19, .inr (4, [.ref h1, .ref qn20, .ref qn22, .ref qn23, .ref qn24, .ref qn25, .int 0, .int 0, .int 0, .long 0, .long 0, .long 0, .int 0, .int 0, .int 0, .int 0, .int 0, .int 0, .int 0, .int 0])), (qn20, .inr (6, [.ref qn21, .int 0, .int 0])), (qn21, .inl (cA 0, 240, .inl (fun _ => 0))), (qn22, .inl (cA 0, 10, .inl (fun _ => 0))), (qn23, .inl (cA 0, 10, .inl (fun _ => 0))), (qn24, .inl (cA 0, 10, .inl (fun _ => 0))), (qn25, .inl (cA 0, 10, .inl (fun _ => 0)))] H := hP
  have hD : va_D A [(h0, .inr (5, [.ref qn1, .int 0, .int 0])), (qn1, .inl (cA 5, 10, .inr (.inr (.inr (.inr (va_up (va_up (va_up (fun _ => none) 0 (some qn3)) 1 (some qn11)) 2 (some qn19))))))), (qn3, .inr (4, [.ref h1, .ref qn4, .ref qn6, .ref qn7, .ref qn8, .ref qn9, .int 0, .int 0, .int 0, .long 0, .long 0, .long 0, .int 0, .int 0, .int 0, .int 0, .int 0, .int 0, .int 0, .int 0])), (qn4, .inr (6, [.ref qn5, .int 0, .int 0])), (qn5, .inl (cA 0, 240, .inl (fun _ => 0))), (qn6, .inl (cA 0, 10, .inl (fun _ => 0))), (qn7, .inl (cA 0, 10, .inl (fun _ => 0))), (qn8, .inl (cA 0, 10, .inl (fun _ => 0))), (qn9, .inl (cA 0, 10, .inl (fun _ => 0))), (qn19, .inr (4, [.ref h1, .ref qn20, .ref qn22, .ref qn23, .ref qn24, .ref qn25, .int 0, .int 0, .int 0, .long 0, .long 0, .long 0, .int 0, .int 0, .int 0, .int 0, .int 0, .int 0, .int 0, .int 0])), (qn20, .inr (6, [.ref qn21, .int 0, .int 0])), (qn21, .inl (cA 0, 240, .inl (fun _ => 0))), (qn22, .inl (cA 0, 10, .inl (fun _ => 0))), (qn23, .inl (cA 0, 10, .inl (fun _ => 0))), (qn24, .inl (cA 0, 10, .inl (fun _ => 0))), (qn25, .inl (cA 0, 10, .inl (fun _ => 0)))] := hD
  refine lv_iinc (v := 3) (lv' := [(2, .int 3), (0, .ref h0), (1, .ref h1)]) hx hb dX1_init_35 hl (k := 0) rfl (by first | rfl | decide +kernel) (by decide) rfl (fun ls hl => ?_)
  refine lv_goto (tgt := 15) hx hb dX1_init_38 (by decide) ?_
  have hP := hP.sub (ws' := [(h0, .inr (5, [.ref qn1, .int 0, .int 0])), (qn1, .inl (cA 5, 10, .inr (.inr (.inr (.inr (va_up (va_up (va_up (fun _ => none) 0 (some qn3)) 1 (some qn11)) 2 (some qn19))))))), (qn3, .inr (4, [.ref h1, .ref qn4, .ref qn6, .ref qn7, .ref qn8, .ref qn9, .int 0, .int 0, .int 0, .long 0, .long 0, .long 0, .int 0, .int 0, .int 0, .int 0, .int 0, .int 0, .int 0, .int 0])), (qn4, .inr (6, [.ref qn5, .int 0, .int 0])), (qn5, .inl (cA 0, 240, .inl (fun _ => 0))), (qn6, .inl (cA 0, 10, .inl (fun _ => 0))), (qn7, .inl (cA 0, 10, .inl (fun _ => 0))), (qn8, .inl (cA 0, 10, .inl (fun _ => 0))), (qn9, .inl (cA 0, 10, .inl (fun _ => 0)))]) [0, 1, 2, 3, 4, 5, 6, 7, 8] rfl
  have hD := hD.sub (ws' := [(h0, .inr (5, [.ref qn1, .int 0, .int 0])), (qn1, .inl (cA 5, 10, .inr (.inr (.inr (.inr (va_up (va_up (va_up (fun _ => none) 0 (some qn3)) 1 (some qn11)) 2 (some qn19))))))), (qn3, .inr (4, [.ref h1, .ref qn4, .ref qn6, .ref qn7, .ref qn8, .ref qn9, .int 0, .int 0, .int 0, .long 0, .long 0, .long 0, .int 0, .int 0, .int 0, .int 0, .int 0, .int 0, .int 0, .int 0])), (qn4, .inr (6, [.ref qn5, .int 0, .int 0])), (qn5, .inl (cA 0, 240, .inl (fun _ => 0))), (qn6, .inl (cA 0, 10, .inl (fun _ => 0))), (qn7, .inl (cA 0, 10, .inl (fun _ => 0))), (qn8, .inl (cA 0, 10, .inl (fun _ => 0))), (qn9, .inl (cA 0, 10, .inl (fun _ => 0)))]) [0, 1, 2, 3, 4, 5, 6, 7, 8] (by decide) rfl
  refine lv_iload_n hx hb dX1_init_15 rfl (lv_at hl 0 rfl) ?_
  refine lv_bipush (v := 10) hx hb dX1_init_16 (by decide) ?_
  refine lv_icmp_ge (tgt := 41) hx hb dX1_init_18 (by decide) (fun c9 => absurd c9 (by decide)) (fun c26 => ?_)
  refine lv_aload_n hx hb dX1_init_21 rfl (lv_at hl 1 rfl) ?_
  refine va_get (D := D) (ci := 5) (v := .ref qn1) (C := RX1) (T := TX1) (N := 3) hx hb hts inX1 hown hK hP 0 rfl rfl 0 (by decide) (hts (.fieldLink RX1 13 "EscrowDesk$History" "remembered" "[LEscrowDesk$Account;") (by decide +kernel)) (fun _ h9 => h9) rfl dX1_init_22 ?_
  refine lv_iload_n hx hb dX1_init_25 rfl (lv_at hl 0 rfl) ?_
  refine va_new (ci := 4) (fs := [.null, .null, .null, .null, .null, .null, .int 0, .int 0, .int 0, .long 0, .long 0, .long 0, .int 0, .int 0, .int 0, .int 0, .int 0, .int 0, .int 0, .int 0]) (C := RX0) (T := TX0) (N := 20) hx hb hts inX0 tyX0 tyX0_ok hown (hts (.classLink RX1 11 RX0) (by decide +kernel)) (hts (.instantiable RX0 20) (by decide +kernel)) (hts (.initialized RX0) (by decide +kernel)) hK hP hD hS hA rfl (by decide +kernel) (Nat.le_of_ble_eq_true rfl) (Nat.le_of_ble_eq_true rfl) dX1_init_26 (fun qn27 H hP hD hS => ?_)
  have hP : va_P D vwCl [(h0, .inr (5, [.ref qn1, .int 0, .int 0])), (qn1, .inl (cA 5, 10, .inr (.inr (.inr (.inr (va_up (va_up (va_up (fun _ => none) 0 (some qn3)) 1 (some qn11)) 2 (some qn19))))))), (qn3, .inr (4, [.ref h1, .ref qn4, .ref qn6, .ref qn7, .ref qn8, .ref qn9, .int 0, .int 0, .int 0, .long 0, .long 0, .long 0, .int 0, .int 0, .int 0, .int 0, .int 0, .int 0, .int 0, .int 0])), (qn4, .inr (6, [.ref qn5, .int 0, .int 0])), (qn5, .inl (cA 0, 240, .inl (fun _ => 0))), (qn6, .inl (cA 0, 10, .inl (fun _ => 0))), (qn7, .inl (cA 0, 10, .inl (fun _ => 0))), (qn8, .inl (cA 0, 10, .inl (fun _ => 0))), (qn9, .inl (cA 0, 10, .inl (fun _ => 0))), (qn27, .inr (4, [.null, .null, .null, .null, .null, .null, .int 0, .int 0, .int 0, .long 0, .long 0, .long 0, .int 0, .int 0, .int 0, .int 0, .int 0, .int 0, .int 0, .int 0]))] H := hP
  have hD : va_D A [(h0, .inr (5, [.ref qn1, .int 0, .int 0])), (qn1, .inl (cA 5, 10, .inr (.inr (.inr (.inr (va_up (va_up (va_up (fun _ => none) 0 (some qn3)) 1 (some qn11)) 2 (some qn19))))))), (qn3, .inr (4, [.ref h1, .ref qn4, .ref qn6, .ref qn7, .ref qn8, .ref qn9, .int 0, .int 0, .int 0, .long 0, .long 0, .long 0, .int 0, .int 0, .int 0, .int 0, .int 0, .int 0, .int 0, .int 0])), (qn4, .inr (6, [.ref qn5, .int 0, .int 0])), (qn5, .inl (cA 0, 240, .inl (fun _ => 0))), (qn6, .inl (cA 0, 10, .inl (fun _ => 0))), (qn7, .inl (cA 0, 10, .inl (fun _ => 0))), (qn8, .inl (cA 0, 10, .inl (fun _ => 0))), (qn9, .inl (cA 0, 10, .inl (fun _ => 0))), (qn27, .inr (4, [.null, .null, .null, .null, .null, .null, .int 0, .int 0, .int 0, .long 0, .long 0, .long 0, .int 0, .int 0, .int 0, .int 0, .int 0, .int 0, .int 0, .int 0]))] := hD
  refine lv_dup hx hb dX1_init_29 rfl ?_
  refine lv_aload_n hx hb dX1_init_30 rfl (lv_at hl 2 rfl) ?_
  have hPc := hP.sub (ws' := [(qn27, .inr (4, [.null, .null, .null, .null, .null, .null, .int 0, .int 0, .int 0, .long 0, .long 0, .long 0, .int 0, .int 0, .int 0, .int 0, .int 0, .int 0, .int 0, .int 0]))]) [9] rfl
  have hDc := hD.sub (ws' := [(qn27, .inr (4, [.null, .null, .null, .null, .null, .null, .int 0, .int 0, .int 0, .long 0, .long 0, .long 0, .int 0, .int 0, .int 0, .int 0, .int 0, .int 0, .int 0, .int 0]))]) [9] (by decide) rfl
  have hFc := va_free (wc := [(qn27, .inr (4, [.null, .null, .null, .null, .null, .null, .int 0, .int 0, .int 0, .long 0, .long 0, .long 0, .int 0, .int 0, .int 0, .int 0, .int 0, .int 0, .int 0, .int 0]))]) hD hS hA [9] rfl
  refine va_callv (va_runI (As := [.ref h1]) (rest := [.ref qn27, .int 3, .ref qn1]) ⟨hx, hb, hml, hown, hts⟩ (c_X0_init l D cA sa qn27 h1 H.size) (cwI 1 hts gX1_init_X0_init rfl rfl rfl (hts (.initialized RX0) (by decide +kernel)) (hts (.methodLink RX1 17 yX0_init) (by decide +kernel)) (hts (.instanceMethod yX0_init) (by decide +kernel)) rfl (by decide +kernel) ⟨(Nat.le_of_ble_eq_true rfl), (Nat.le_of_ble_eq_true rfl)⟩) ⟨Wd.blind, fun U hU hW => ⟨rfl, Wd.call hPc hDc hK hC hZ hS hFc U hU hW⟩⟩ rfl rfl hl.1 rfl (lv_room (Nat.le_of_ble_eq_true rfl)) dX1_init_31 ⟨(Nat.le_of_ble_eq_true rfl), (Nat.le_of_ble_eq_true rfl)⟩) hS (fun q _ h => hFc q h) hFc (fun u t H1 locs ht hvm hw hB hz1 hk1 hS => ?_)
  obtain ⟨qn28, qn29, qn30, qn31, qn32, qn33, hP1, hD1⟩ := hB
  rw [ht] at hP1
  obtain ⟨hP, hD⟩ := va_join (wr := [(h0, .inr (5, [.ref qn1, .int 0, .int 0])), (qn1, .inl (cA 5, 10, .inr (.inr (.inr (.inr (va_up (va_up (va_up (fun _ => none) 0 (some qn3)) 1 (some qn11)) 2 (some qn19))))))), (qn3, .inr (4, [.ref h1, .ref qn4, .ref qn6, .ref qn7, .ref qn8, .ref qn9, .int 0, .int 0, .int 0, .long 0, .long 0, .long 0, .int 0, .int 0, .int 0, .int 0, .int 0, .int 0, .int 0, .int 0])), (qn4, .inr (6, [.ref qn5, .int 0, .int 0])), (qn5, .inl (cA 0, 240, .inl (fun _ => 0))), (qn6, .inl (cA 0, 10, .inl (fun _ => 0))), (qn7, .inl (cA 0, 10, .inl (fun _ => 0))), (qn8, .inl (cA 0, 10, .inl (fun _ => 0))), (qn9, .inl (cA 0, 10, .inl (fun _ => 0)))]) (w1 := [(qn27, .inr (4, [.ref h1, .ref qn28, .ref qn30, .ref qn31, .ref qn32, .ref qn33, .int 0, .int 0, .int 0, .long 0, .long 0, .long 0, .int 0, .int 0, .int 0, .int 0, .int 0, .int 0, .int 0, .int 0])), (qn28, .inr (6, [.ref qn29, .int 0, .int 0])), (qn29, .inl (cA 0, 240, .inl (fun _ => 0))), (qn30, .inl (cA 0, 10, .inl (fun _ => 0))), (qn31, .inl (cA 0, 10, .inl (fun _ => 0))), (qn32, .inl (cA 0, 10, .inl (fun _ => 0))), (qn33, .inl (cA 0, 10, .inl (fun _ => 0)))]) hP hD [9] [0, 1, 2, 3, 4, 5, 6, 7, 8] rfl rfl (by decide) (by decide) hk1 hFc hP1 hD1
  generalize H1 = H at hP hS ⊢
  have hP : va_P D vwCl [(h0, .inr (5, [.ref qn1, .int 0, .int 0])), (qn1, .inl (cA 5, 10, .inr (.inr (.inr (.inr (va_up (va_up (va_up (fun _ => none) 0 (some qn3)) 1 (some qn11)) 2 (some qn19))))))), (qn3, .inr (4, [.ref h1, .ref qn4, .ref qn6, .ref qn7, .ref qn8, .ref qn9, .int 0, .int 0, .int 0, .long 0, .long 0, .long 0, .int 0, .int 0, .int 0, .int 0, .int 0, .int 0, .int 0, .int 0])), (qn4, .inr (6, [.ref qn5, .int 0, .int 0])), (qn5, .inl (cA 0, 240, .inl (fun _ => 0))), (qn6, .inl (cA 0, 10, .inl (fun _ => 0))), (qn7, .inl (cA 0, 10, .inl (fun _ => 0))), (qn8, .inl (cA 0, 10, .inl (fun _ => 0))), (qn9, .inl (cA 0, 10, .inl (fun _ => 0))), (qn27, .inr (4, [.ref h1, .ref qn28, .ref qn30, .ref qn31, .ref qn32, .ref qn33, .int 0, .int 0, .int 0, .long 0, .long 0, .long 0, .int 0, .int 0, .int 0, .int 0, .int 0, .int 0, .int 0, .int 0])), (qn28, .inr (6, [.ref qn29, .int 0, .int 0])), (qn29, .inl (cA 0, 240, .inl (fun _ => 0))), (qn30, .inl (cA 0, 10, .inl (fun _ => 0))), (qn31, .inl (cA 0, 10, .inl (fun _ => 0))), (qn32, .inl (cA 0, 10, .inl (fun _ => 0))), (qn33, .inl (cA 0, 10, .inl (fun _ => 0)))] H := hP
  have hD : va_D A [(h0, .inr (5, [.ref qn1, .int 0, .int 0])), (qn1, .inl (cA 5, 10, .inr (.inr (.inr (.inr (va_up (va_up (va_up (fun _ => none) 0 (some qn3)) 1 (some qn11)) 2 (some qn19))))))), (qn3, .inr (4, [.ref h1, .ref qn4, .ref qn6, .ref qn7, .ref qn8, .ref qn9, .int 0, .int 0, .int 0, .long 0, .long 0, .long 0, .int 0, .int 0, .int 0, .int 0, .int 0, .int 0, .int 0, .int 0])), (qn4, .inr (6, [.ref qn5, .int 0, .int 0])), (qn5, .inl (cA 0, 240, .inl (fun _ => 0))), (qn6, .inl (cA 0, 10, .inl (fun _ => 0))), (qn7, .inl (cA 0, 10, .inl (fun _ => 0))), (qn8, .inl (cA 0, 10, .inl (fun _ => 0))), (qn9, .inl (cA 0, 10, .inl (fun _ => 0))), (qn27, .inr (4, [.ref h1, .ref qn28, .ref qn30, .ref qn31, .ref qn32, .ref qn33, .int 0, .int 0, .int 0, .long 0, .long 0, .long 0, .int 0, .int 0, .int 0, .int 0, .int 0, .int 0, .int 0, .int 0])), (qn28, .inr (6, [.ref qn29, .int 0, .int 0])), (qn29, .inl (cA 0, 240, .inl (fun _ => 0))), (qn30, .inl (cA 0, 10, .inl (fun _ => 0))), (qn31, .inl (cA 0, 10, .inl (fun _ => 0))), (qn32, .inl (cA 0, 10, .inl (fun _ => 0))), (qn33, .inl (cA 0, 10, .inl (fun _ => 0)))] := hD
  refine va_astq (r := (RX0, TX0, 20)) hx hb hK hP hD hS 1 5 9 4 rfl rfl rfl rfl (vp_in_iff.mpr (by decide)) dX1_init_34 (fun H locs hP hD hS => ?_)
  have hP : va_P D vwCl [(h0, .inr (5, [.ref qn1, .int 0, .int 0])), (qn1, .inl (cA 5, 10, .inr (.inr (.inr (.inr (va_up (va_up (va_up (va_up (fun _ => none) 0 (some qn3)) 1 (some qn11)) 2 (some qn19)) 3 (some qn27))))))), (qn3, .inr (4, [.ref h1, .ref qn4, .ref qn6, .ref qn7, .ref qn8, .ref qn9, .int 0, .int 0, .int 0, .long 0, .long 0, .long 0, .int 0, .int 0, .int 0, .int 0, .int 0, .int 0, .int 0, .int 0])), (qn4, .inr (6, [.ref qn5, .int 0, .int 0])), (qn5, .inl (cA 0, 240, .inl (fun _ => 0))), (qn6, .inl (cA 0, 10, .inl (fun _ => 0))), (qn7, .inl (cA 0, 10, .inl (fun _ => 0))), (qn8, .inl (cA 0, 10, .inl (fun _ => 0))), (qn9, .inl (cA 0, 10, .inl (fun _ => 0))), (qn27, .inr (4, [.ref h1, .ref qn28, .ref qn30, .ref qn31, .ref qn32, .ref qn33, .int 0, .int 0, .int 0, .long 0, .long 0, .long 0, .int 0, .int 0, .int 0, .int 0, .int 0, .int 0, .int 0, .int 0])), (qn28, .inr (6, [.ref qn29, .int 0, .int 0])), (qn29, .inl (cA 0, 240, .inl (fun _ => 0))), (qn30, .inl (cA 0, 10, .inl (fun _ => 0))), (qn31, .inl (cA 0, 10, .inl (fun _ => 0))), (qn32, .inl (cA 0, 10, .inl (fun _ => 0))), (qn33, .inl (cA 0, 10, .inl (fun _ => 0)))] H := hP
  have hD : va_D A [(h0, .inr (5, [.ref qn1, .int 0, .int 0])), (qn1, .inl (cA 5, 10, .inr (.inr (.inr (.inr (va_up (va_up (va_up (va_up (fun _ => none) 0 (some qn3)) 1 (some qn11)) 2 (some qn19)) 3 (some qn27))))))), (qn3, .inr (4, [.ref h1, .ref qn4, .ref qn6, .ref qn7, .ref qn8, .ref qn9, .int 0, .int 0, .int 0, .long 0, .long 0, .long 0, .int 0, .int 0, .int 0, .int 0, .int 0, .int 0, .int 0, .int 0])), (qn4, .inr (6, [.ref qn5, .int 0, .int 0])), (qn5, .inl (cA 0, 240, .inl (fun _ => 0))), (qn6, .inl (cA 0, 10, .inl (fun _ => 0))), (qn7, .inl (cA 0, 10, .inl (fun _ => 0))), (qn8, .inl (cA 0, 10, .inl (fun _ => 0))), (qn9, .inl (cA 0, 10, .inl (fun _ => 0))), (qn27, .inr (4, [.ref h1, .ref qn28, .ref qn30, .ref qn31, .ref qn32, .ref qn33, .int 0, .int 0, .int 0, .long 0, .long 0, .long 0, .int 0, .int 0, .int 0, .int 0, .int 0, .int 0, .int 0, .int 0])), (qn28, .inr (6, [.ref qn29, .int 0, .int 0])), (qn29, .inl (cA 0, 240, .inl (fun _ => 0))), (qn30, .inl (cA 0, 10, .inl (fun _ => 0))), (qn31, .inl (cA 0, 10, .inl (fun _ => 0))), (qn32, .inl (cA 0, 10, .inl (fun _ => 0))), (qn33, .inl (cA 0, 10, .inl (fun _ => 0)))] := hD
  refine lv_iinc (v := 4) (lv' := [(2, .int 4), (0, .ref h0), (1, .ref h1)]) hx hb dX1_init_35 hl (k := 0) rfl (by first | rfl | decide +kernel) (by decide) rfl (fun ls hl => ?_)
  refine lv_goto (tgt := 15) hx hb dX1_init_38 (by decide) ?_
  have hP := hP.sub (ws' := [(h0, .inr (5, [.ref qn1, .int 0, .int 0])), (qn1, .inl (cA 5, 10, .inr (.inr (.inr (.inr (va_up (va_up (va_up (va_up (fun _ => none) 0 (some qn3)) 1 (some qn11)) 2 (some qn19)) 3 (some qn27))))))), (qn3, .inr (4, [.ref h1, .ref qn4, .ref qn6, .ref qn7, .ref qn8, .ref qn9, .int 0, .int 0, .int 0, .long 0, .long 0, .long 0, .int 0, .int 0, .int 0, .int 0, .int 0, .int 0, .int 0, .int 0])), (qn4, .inr (6, [.ref qn5, .int 0, .int 0])), (qn5, .inl (cA 0, 240, .inl (fun _ => 0))), (qn6, .inl (cA 0, 10, .inl (fun _ => 0))), (qn7, .inl (cA 0, 10, .inl (fun _ => 0))), (qn8, .inl (cA 0, 10, .inl (fun _ => 0))), (qn9, .inl (cA 0, 10, .inl (fun _ => 0)))]) [0, 1, 2, 3, 4, 5, 6, 7, 8] rfl
  have hD := hD.sub (ws' := [(h0, .inr (5, [.ref qn1, .int 0, .int 0])), (qn1, .inl (cA 5, 10, .inr (.inr (.inr (.inr (va_up (va_up (va_up (va_up (fun _ => none) 0 (some qn3)) 1 (some qn11)) 2 (some qn19)) 3 (some qn27))))))), (qn3, .inr (4, [.ref h1, .ref qn4, .ref qn6, .ref qn7, .ref qn8, .ref qn9, .int 0, .int 0, .int 0, .long 0, .long 0, .long 0, .int 0, .int 0, .int 0, .int 0, .int 0, .int 0, .int 0, .int 0])), (qn4, .inr (6, [.ref qn5, .int 0, .int 0])), (qn5, .inl (cA 0, 240, .inl (fun _ => 0))), (qn6, .inl (cA 0, 10, .inl (fun _ => 0))), (qn7, .inl (cA 0, 10, .inl (fun _ => 0))), (qn8, .inl (cA 0, 10, .inl (fun _ => 0))), (qn9, .inl (cA 0, 10, .inl (fun _ => 0)))]) [0, 1, 2, 3, 4, 5, 6, 7, 8] (by decide) rfl
  refine lv_iload_n hx hb dX1_init_15 rfl (lv_at hl 0 rfl) ?_
  refine lv_bipush (v := 10) hx hb dX1_init_16 (by decide) ?_
  refine lv_icmp_ge (tgt := 41) hx hb dX1_init_18 (by decide) (fun c9 => absurd c9 (by decide)) (fun c34 => ?_)
  refine lv_aload_n hx hb dX1_init_21 rfl (lv_at hl 1 rfl) ?_
  refine va_get (D := D) (ci := 5) (v := .ref qn1) (C := RX1) (T := TX1) (N := 3) hx hb hts inX1 hown hK hP 0 rfl rfl 0 (by decide) (hts (.fieldLink RX1 13 "EscrowDesk$History" "remembered" "[LEscrowDesk$Account;") (by decide +kernel)) (fun _ h9 => h9) rfl dX1_init_22 ?_
  refine lv_iload_n hx hb dX1_init_25 rfl (lv_at hl 0 rfl) ?_
  refine va_new (ci := 4) (fs := [.null, .null, .null, .null, .null, .null, .int 0, .int 0, .int 0, .long 0, .long 0, .long 0, .int 0, .int 0, .int 0, .int 0, .int 0, .int 0, .int 0, .int 0]) (C := RX0) (T := TX0) (N := 20) hx hb hts inX0 tyX0 tyX0_ok hown (hts (.classLink RX1 11 RX0) (by decide +kernel)) (hts (.instantiable RX0 20) (by decide +kernel)) (hts (.initialized RX0) (by decide +kernel)) hK hP hD hS hA rfl (by decide +kernel) (Nat.le_of_ble_eq_true rfl) (Nat.le_of_ble_eq_true rfl) dX1_init_26 (fun qn35 H hP hD hS => ?_)
  have hP : va_P D vwCl [(h0, .inr (5, [.ref qn1, .int 0, .int 0])), (qn1, .inl (cA 5, 10, .inr (.inr (.inr (.inr (va_up (va_up (va_up (va_up (fun _ => none) 0 (some qn3)) 1 (some qn11)) 2 (some qn19)) 3 (some qn27))))))), (qn3, .inr (4, [.ref h1, .ref qn4, .ref qn6, .ref qn7, .ref qn8, .ref qn9, .int 0, .int 0, .int 0, .long 0, .long 0, .long 0, .int 0, .int 0, .int 0, .int 0, .int 0, .int 0, .int 0, .int 0])), (qn4, .inr (6, [.ref qn5, .int 0, .int 0])), (qn5, .inl (cA 0, 240, .inl (fun _ => 0))), (qn6, .inl (cA 0, 10, .inl (fun _ => 0))), (qn7, .inl (cA 0, 10, .inl (fun _ => 0))), (qn8, .inl (cA 0, 10, .inl (fun _ => 0))), (qn9, .inl (cA 0, 10, .inl (fun _ => 0))), (qn35, .inr (4, [.null, .null, .null, .null, .null, .null, .int 0, .int 0, .int 0, .long 0, .long 0, .long 0, .int 0, .int 0, .int 0, .int 0, .int 0, .int 0, .int 0, .int 0]))] H := hP
  have hD : va_D A [(h0, .inr (5, [.ref qn1, .int 0, .int 0])), (qn1, .inl (cA 5, 10, .inr (.inr (.inr (.inr (va_up (va_up (va_up (va_up (fun _ => none) 0 (some qn3)) 1 (some qn11)) 2 (some qn19)) 3 (some qn27))))))), (qn3, .inr (4, [.ref h1, .ref qn4, .ref qn6, .ref qn7, .ref qn8, .ref qn9, .int 0, .int 0, .int 0, .long 0, .long 0, .long 0, .int 0, .int 0, .int 0, .int 0, .int 0, .int 0, .int 0, .int 0])), (qn4, .inr (6, [.ref qn5, .int 0, .int 0])), (qn5, .inl (cA 0, 240, .inl (fun _ => 0))), (qn6, .inl (cA 0, 10, .inl (fun _ => 0))), (qn7, .inl (cA 0, 10, .inl (fun _ => 0))), (qn8, .inl (cA 0, 10, .inl (fun _ => 0))), (qn9, .inl (cA 0, 10, .inl (fun _ => 0))), (qn35, .inr (4, [.null, .null, .null, .null, .null, .null, .int 0, .int 0, .int 0, .long 0, .long 0, .long 0, .int 0, .int 0, .int 0, .int 0, .int 0, .int 0, .int 0, .int 0]))] := hD
  refine lv_dup hx hb dX1_init_29 rfl ?_
  refine lv_aload_n hx hb dX1_init_30 rfl (lv_at hl 2 rfl) ?_
  have hPc := hP.sub (ws' := [(qn35, .inr (4, [.null, .null, .null, .null, .null, .null, .int 0, .int 0, .int 0, .long 0, .long 0, .long 0, .int 0, .int 0, .int 0, .int 0, .int 0, .int 0, .int 0, .int 0]))]) [9] rfl
  have hDc := hD.sub (ws' := [(qn35, .inr (4, [.null, .null, .null, .null, .null, .null, .int 0, .int 0, .int 0, .long 0, .long 0, .long 0, .int 0, .int 0, .int 0, .int 0, .int 0, .int 0, .int 0, .int 0]))]) [9] (by decide) rfl
  have hFc := va_free (wc := [(qn35, .inr (4, [.null, .null, .null, .null, .null, .null, .int 0, .int 0, .int 0, .long 0, .long 0, .long 0, .int 0, .int 0, .int 0, .int 0, .int 0, .int 0, .int 0, .int 0]))]) hD hS hA [9] rfl
  refine va_callv (va_runI (As := [.ref h1]) (rest := [.ref qn35, .int 4, .ref qn1]) ⟨hx, hb, hml, hown, hts⟩ (c_X0_init l D cA sa qn35 h1 H.size) (cwI 1 hts gX1_init_X0_init rfl rfl rfl (hts (.initialized RX0) (by decide +kernel)) (hts (.methodLink RX1 17 yX0_init) (by decide +kernel)) (hts (.instanceMethod yX0_init) (by decide +kernel)) rfl (by decide +kernel) ⟨(Nat.le_of_ble_eq_true rfl), (Nat.le_of_ble_eq_true rfl)⟩) ⟨Wd.blind, fun U hU hW => ⟨rfl, Wd.call hPc hDc hK hC hZ hS hFc U hU hW⟩⟩ rfl rfl hl.1 rfl (lv_room (Nat.le_of_ble_eq_true rfl)) dX1_init_31 ⟨(Nat.le_of_ble_eq_true rfl), (Nat.le_of_ble_eq_true rfl)⟩) hS (fun q _ h => hFc q h) hFc (fun u t H1 locs ht hvm hw hB hz1 hk1 hS => ?_)
  obtain ⟨qn36, qn37, qn38, qn39, qn40, qn41, hP1, hD1⟩ := hB
  rw [ht] at hP1
  obtain ⟨hP, hD⟩ := va_join (wr := [(h0, .inr (5, [.ref qn1, .int 0, .int 0])), (qn1, .inl (cA 5, 10, .inr (.inr (.inr (.inr (va_up (va_up (va_up (va_up (fun _ => none) 0 (some qn3)) 1 (some qn11)) 2 (some qn19)) 3 (some qn27))))))), (qn3, .inr (4, [.ref h1, .ref qn4, .ref qn6, .ref qn7, .ref qn8, .ref qn9, .int 0, .int 0, .int 0, .long 0, .long 0, .long 0, .int 0, .int 0, .int 0, .int 0, .int 0, .int 0, .int 0, .int 0])), (qn4, .inr (6, [.ref qn5, .int 0, .int 0])), (qn5, .inl (cA 0, 240, .inl (fun _ => 0))), (qn6, .inl (cA 0, 10, .inl (fun _ => 0))), (qn7, .inl (cA 0, 10, .inl (fun _ => 0))), (qn8, .inl (cA 0, 10, .inl (fun _ => 0))), (qn9, .inl (cA 0, 10, .inl (fun _ => 0)))]) (w1 := [(qn35, .inr (4, [.ref h1, .ref qn36, .ref qn38, .ref qn39, .ref qn40, .ref qn41, .int 0, .int 0, .int 0, .long 0, .long 0, .long 0, .int 0, .int 0, .int 0, .int 0, .int 0, .int 0, .int 0, .int 0])), (qn36, .inr (6, [.ref qn37, .int 0, .int 0])), (qn37, .inl (cA 0, 240, .inl (fun _ => 0))), (qn38, .inl (cA 0, 10, .inl (fun _ => 0))), (qn39, .inl (cA 0, 10, .inl (fun _ => 0))), (qn40, .inl (cA 0, 10, .inl (fun _ => 0))), (qn41, .inl (cA 0, 10, .inl (fun _ => 0)))]) hP hD [9] [0, 1, 2, 3, 4, 5, 6, 7, 8] rfl rfl (by decide) (by decide) hk1 hFc hP1 hD1
  generalize H1 = H at hP hS ⊢
  have hP : va_P D vwCl [(h0, .inr (5, [.ref qn1, .int 0, .int 0])), (qn1, .inl (cA 5, 10, .inr (.inr (.inr (.inr (va_up (va_up (va_up (va_up (fun _ => none) 0 (some qn3)) 1 (some qn11)) 2 (some qn19)) 3 (some qn27))))))), (qn3, .inr (4, [.ref h1, .ref qn4, .ref qn6, .ref qn7, .ref qn8, .ref qn9, .int 0, .int 0, .int 0, .long 0, .long 0, .long 0, .int 0, .int 0, .int 0, .int 0, .int 0, .int 0, .int 0, .int 0])), (qn4, .inr (6, [.ref qn5, .int 0, .int 0])), (qn5, .inl (cA 0, 240, .inl (fun _ => 0))), (qn6, .inl (cA 0, 10, .inl (fun _ => 0))), (qn7, .inl (cA 0, 10, .inl (fun _ => 0))), (qn8, .inl (cA 0, 10, .inl (fun _ => 0))), (qn9, .inl (cA 0, 10, .inl (fun _ => 0))), (qn35, .inr (4, [.ref h1, .ref qn36, .ref qn38, .ref qn39, .ref qn40, .ref qn41, .int 0, .int 0, .int 0, .long 0, .long 0, .long 0, .int 0, .int 0, .int 0, .int 0, .int 0, .int 0, .int 0, .int 0])), (qn36, .inr (6, [.ref qn37, .int 0, .int 0])), (qn37, .inl (cA 0, 240, .inl (fun _ => 0))), (qn38, .inl (cA 0, 10, .inl (fun _ => 0))), (qn39, .inl (cA 0, 10, .inl (fun _ => 0))), (qn40, .inl (cA 0, 10, .inl (fun _ => 0))), (qn41, .inl (cA 0, 10, .inl (fun _ => 0)))] H := hP
  have hD : va_D A [(h0, .inr (5, [.ref qn1, .int 0, .int 0])), (qn1, .inl (cA 5, 10, .inr (.inr (.inr (.inr (va_up (va_up (va_up (va_up (fun _ => none) 0 (some qn3)) 1 (some qn11)) 2 (some qn19)) 3 (some qn27))))))), (qn3, .inr (4, [.ref h1, .ref qn4, .ref qn6, .ref qn7, .ref qn8, .ref qn9, .int 0, .int 0, .int 0, .long 0, .long 0, .long 0, .int 0, .int 0, .int 0, .int 0, .int 0, .int 0, .int 0, .int 0])), (qn4, .inr (6, [.ref qn5, .int 0, .int 0])), (qn5, .inl (cA 0, 240, .inl (fun _ => 0))), (qn6, .inl (cA 0, 10, .inl (fun _ => 0))), (qn7, .inl (cA 0, 10, .inl (fun _ => 0))), (qn8, .inl (cA 0, 10, .inl (fun _ => 0))), (qn9, .inl (cA 0, 10, .inl (fun _ => 0))), (qn35, .inr (4, [.ref h1, .ref qn36, .ref qn38, .ref qn39, .ref qn40, .ref qn41, .int 0, .int 0, .int 0, .long 0, .long 0, .long 0, .int 0, .int 0, .int 0, .int 0, .int 0, .int 0, .int 0, .int 0])), (qn36, .inr (6, [.ref qn37, .int 0, .int 0])), (qn37, .inl (cA 0, 240, .inl (fun _ => 0))), (qn38, .inl (cA 0, 10, .inl (fun _ => 0))), (qn39, .inl (cA 0, 10, .inl (fun _ => 0))), (qn40, .inl (cA 0, 10, .inl (fun _ => 0))), (qn41, .inl (cA 0, 10, .inl (fun _ => 0)))] := hD
  refine va_astq (r := (RX0, TX0, 20)) hx hb hK hP hD hS 1 5 9 4 rfl rfl rfl rfl (vp_in_iff.mpr (by decide)) dX1_init_34 (fun H locs hP hD hS => ?_)
  have hP : va_P D vwCl [(h0, .inr (5, [.ref qn1, .int 0, .int 0])), (qn1, .inl (cA 5, 10, .inr (.inr (.inr (.inr (va_up (va_up (va_up (va_up (va_up (fun _ => none) 0 (some qn3)) 1 (some qn11)) 2 (some qn19)) 3 (some qn27)) 4 (some qn35))))))), (qn3, .inr (4, [.ref h1, .ref qn4, .ref qn6, .ref qn7, .ref qn8, .ref qn9, .int 0, .int 0, .int 0, .long 0, .long 0, .long 0, .int 0, .int 0, .int 0, .int 0, .int 0, .int 0, .int 0, .int 0])), (qn4, .inr (6, [.ref qn5, .int 0, .int 0])), (qn5, .inl (cA 0, 240, .inl (fun _ => 0))), (qn6, .inl (cA 0, 10, .inl (fun _ => 0))), (qn7, .inl (cA 0, 10, .inl (fun _ => 0))), (qn8, .inl (cA 0, 10, .inl (fun _ => 0))), (qn9, .inl (cA 0, 10, .inl (fun _ => 0))), (qn35, .inr (4, [.ref h1, .ref qn36, .ref qn38, .ref qn39, .ref qn40, .ref qn41, .int 0, .int 0, .int 0, .long 0, .long 0, .long 0, .int 0, .int 0, .int 0, .int 0, .int 0, .int 0, .int 0, .int 0])), (qn36, .inr (6, [.ref qn37, .int 0, .int 0])), (qn37, .inl (cA 0, 240, .inl (fun _ => 0))), (qn38, .inl (cA 0, 10, .inl (fun _ => 0))), (qn39, .inl (cA 0, 10, .inl (fun _ => 0))), (qn40, .inl (cA 0, 10, .inl (fun _ => 0))), (qn41, .inl (cA 0, 10, .inl (fun _ => 0)))] H := hP
  have hD : va_D A [(h0, .inr (5, [.ref qn1, .int 0, .int 0])), (qn1, .inl (cA 5, 10, .inr (.inr (.inr (.inr (va_up (va_up (va_up (va_up (va_up (fun _ => none) 0 (some qn3)) 1 (some qn11)) 2 (some qn19)) 3 (some qn27)) 4 (some qn35))))))), (qn3, .inr (4, [.ref h1, .ref qn4, .ref qn6, .ref qn7, .ref qn8, .ref qn9, .int 0, .int 0, .int 0, .long 0, .long 0, .long 0, .int 0, .int 0, .int 0, .int 0, .int 0, .int 0, .int 0, .int 0])), (qn4, .inr (6, [.ref qn5, .int 0, .int 0])), (qn5, .inl (cA 0, 240, .inl (fun _ => 0))), (qn6, .inl (cA 0, 10, .inl (fun _ => 0))), (qn7, .inl (cA 0, 10, .inl (fun _ => 0))), (qn8, .inl (cA 0, 10, .inl (fun _ => 0))), (qn9, .inl (cA 0, 10, .inl (fun _ => 0))), (qn35, .inr (4, [.ref h1, .ref qn36, .ref qn38, .ref qn39, .ref qn40, .ref qn41, .int 0, .int 0, .int 0, .long 0, .long 0, .long 0, .int 0, .int 0, .int 0, .int 0, .int 0, .int 0, .int 0, .int 0])), (qn36, .inr (6, [.ref qn37, .int 0, .int 0])), (qn37, .inl (cA 0, 240, .inl (fun _ => 0))), (qn38, .inl (cA 0, 10, .inl (fun _ => 0))), (qn39, .inl (cA 0, 10, .inl (fun _ => 0))), (qn40, .inl (cA 0, 10, .inl (fun _ => 0))), (qn41, .inl (cA 0, 10, .inl (fun _ => 0)))] := hD
  refine lv_iinc (v := 5) (lv' := [(2, .int 5), (0, .ref h0), (1, .ref h1)]) hx hb dX1_init_35 hl (k := 0) rfl (by first | rfl | decide +kernel) (by decide) rfl (fun ls hl => ?_)
  refine lv_goto (tgt := 15) hx hb dX1_init_38 (by decide) ?_
  have hP := hP.sub (ws' := [(h0, .inr (5, [.ref qn1, .int 0, .int 0])), (qn1, .inl (cA 5, 10, .inr (.inr (.inr (.inr (va_up (va_up (va_up (va_up (va_up (fun _ => none) 0 (some qn3)) 1 (some qn11)) 2 (some qn19)) 3 (some qn27)) 4 (some qn35))))))), (qn3, .inr (4, [.ref h1, .ref qn4, .ref qn6, .ref qn7, .ref qn8, .ref qn9, .int 0, .int 0, .int 0, .long 0, .long 0, .long 0, .int 0, .int 0, .int 0, .int 0, .int 0, .int 0, .int 0, .int 0])), (qn4, .inr (6, [.ref qn5, .int 0, .int 0])), (qn5, .inl (cA 0, 240, .inl (fun _ => 0))), (qn6, .inl (cA 0, 10, .inl (fun _ => 0))), (qn7, .inl (cA 0, 10, .inl (fun _ => 0))), (qn8, .inl (cA 0, 10, .inl (fun _ => 0))), (qn9, .inl (cA 0, 10, .inl (fun _ => 0)))]) [0, 1, 2, 3, 4, 5, 6, 7, 8] rfl
  have hD := hD.sub (ws' := [(h0, .inr (5, [.ref qn1, .int 0, .int 0])), (qn1, .inl (cA 5, 10, .inr (.inr (.inr (.inr (va_up (va_up (va_up (va_up (va_up (fun _ => none) 0 (some qn3)) 1 (some qn11)) 2 (some qn19)) 3 (some qn27)) 4 (some qn35))))))), (qn3, .inr (4, [.ref h1, .ref qn4, .ref qn6, .ref qn7, .ref qn8, .ref qn9, .int 0, .int 0, .int 0, .long 0, .long 0, .long 0, .int 0, .int 0, .int 0, .int 0, .int 0, .int 0, .int 0, .int 0])), (qn4, .inr (6, [.ref qn5, .int 0, .int 0])), (qn5, .inl (cA 0, 240, .inl (fun _ => 0))), (qn6, .inl (cA 0, 10, .inl (fun _ => 0))), (qn7, .inl (cA 0, 10, .inl (fun _ => 0))), (qn8, .inl (cA 0, 10, .inl (fun _ => 0))), (qn9, .inl (cA 0, 10, .inl (fun _ => 0)))]) [0, 1, 2, 3, 4, 5, 6, 7, 8] (by decide) rfl
  refine lv_iload_n hx hb dX1_init_15 rfl (lv_at hl 0 rfl) ?_
  refine lv_bipush (v := 10) hx hb dX1_init_16 (by decide) ?_
  refine lv_icmp_ge (tgt := 41) hx hb dX1_init_18 (by decide) (fun c9 => absurd c9 (by decide)) (fun c42 => ?_)
  refine lv_aload_n hx hb dX1_init_21 rfl (lv_at hl 1 rfl) ?_
  refine va_get (D := D) (ci := 5) (v := .ref qn1) (C := RX1) (T := TX1) (N := 3) hx hb hts inX1 hown hK hP 0 rfl rfl 0 (by decide) (hts (.fieldLink RX1 13 "EscrowDesk$History" "remembered" "[LEscrowDesk$Account;") (by decide +kernel)) (fun _ h9 => h9) rfl dX1_init_22 ?_
  refine lv_iload_n hx hb dX1_init_25 rfl (lv_at hl 0 rfl) ?_
  refine va_new (ci := 4) (fs := [.null, .null, .null, .null, .null, .null, .int 0, .int 0, .int 0, .long 0, .long 0, .long 0, .int 0, .int 0, .int 0, .int 0, .int 0, .int 0, .int 0, .int 0]) (C := RX0) (T := TX0) (N := 20) hx hb hts inX0 tyX0 tyX0_ok hown (hts (.classLink RX1 11 RX0) (by decide +kernel)) (hts (.instantiable RX0 20) (by decide +kernel)) (hts (.initialized RX0) (by decide +kernel)) hK hP hD hS hA rfl (by decide +kernel) (Nat.le_of_ble_eq_true rfl) (Nat.le_of_ble_eq_true rfl) dX1_init_26 (fun qn43 H hP hD hS => ?_)
  have hP : va_P D vwCl [(h0, .inr (5, [.ref qn1, .int 0, .int 0])), (qn1, .inl (cA 5, 10, .inr (.inr (.inr (.inr (va_up (va_up (va_up (va_up (va_up (fun _ => none) 0 (some qn3)) 1 (some qn11)) 2 (some qn19)) 3 (some qn27)) 4 (some qn35))))))), (qn3, .inr (4, [.ref h1, .ref qn4, .ref qn6, .ref qn7, .ref qn8, .ref qn9, .int 0, .int 0, .int 0, .long 0, .long 0, .long 0, .int 0, .int 0, .int 0, .int 0, .int 0, .int 0, .int 0, .int 0])), (qn4, .inr (6, [.ref qn5, .int 0, .int 0])), (qn5, .inl (cA 0, 240, .inl (fun _ => 0))), (qn6, .inl (cA 0, 10, .inl (fun _ => 0))), (qn7, .inl (cA 0, 10, .inl (fun _ => 0))), (qn8, .inl (cA 0, 10, .inl (fun _ => 0))), (qn9, .inl (cA 0, 10, .inl (fun _ => 0))), (qn43, .inr (4, [.null, .null, .null, .null, .null, .null, .int 0, .int 0, .int 0, .long 0, .long 0, .long 0, .int 0, .int 0, .int 0, .int 0, .int 0, .int 0, .int 0, .int 0]))] H := hP
  have hD : va_D A [(h0, .inr (5, [.ref qn1, .int 0, .int 0])), (qn1, .inl (cA 5, 10, .inr (.inr (.inr (.inr (va_up (va_up (va_up (va_up (va_up (fun _ => none) 0 (some qn3)) 1 (some qn11)) 2 (some qn19)) 3 (some qn27)) 4 (some qn35))))))), (qn3, .inr (4, [.ref h1, .ref qn4, .ref qn6, .ref qn7, .ref qn8, .ref qn9, .int 0, .int 0, .int 0, .long 0, .long 0, .long 0, .int 0, .int 0, .int 0, .int 0, .int 0, .int 0, .int 0, .int 0])), (qn4, .inr (6, [.ref qn5, .int 0, .int 0])), (qn5, .inl (cA 0, 240, .inl (fun _ => 0))), (qn6, .inl (cA 0, 10, .inl (fun _ => 0))), (qn7, .inl (cA 0, 10, .inl (fun _ => 0))), (qn8, .inl (cA 0, 10, .inl (fun _ => 0))), (qn9, .inl (cA 0, 10, .inl (fun _ => 0))), (qn43, .inr (4, [.null, .null, .null, .null, .null, .null, .int 0, .int 0, .int 0, .long 0, .long 0, .long 0, .int 0, .int 0, .int 0, .int 0, .int 0, .int 0, .int 0, .int 0]))] := hD
  refine lv_dup hx hb dX1_init_29 rfl ?_
  refine lv_aload_n hx hb dX1_init_30 rfl (lv_at hl 2 rfl) ?_
  have hPc := hP.sub (ws' := [(qn43, .inr (4, [.null, .null, .null, .null, .null, .null, .int 0, .int 0, .int 0, .long 0, .long 0, .long 0, .int 0, .int 0, .int 0, .int 0, .int 0, .int 0, .int 0, .int 0]))]) [9] rfl
  have hDc := hD.sub (ws' := [(qn43, .inr (4, [.null, .null, .null, .null, .null, .null, .int 0, .int 0, .int 0, .long 0, .long 0, .long 0, .int 0, .int 0, .int 0, .int 0, .int 0, .int 0, .int 0, .int 0]))]) [9] (by decide) rfl
  have hFc := va_free (wc := [(qn43, .inr (4, [.null, .null, .null, .null, .null, .null, .int 0, .int 0, .int 0, .long 0, .long 0, .long 0, .int 0, .int 0, .int 0, .int 0, .int 0, .int 0, .int 0, .int 0]))]) hD hS hA [9] rfl
  refine va_callv (va_runI (As := [.ref h1]) (rest := [.ref qn43, .int 5, .ref qn1]) ⟨hx, hb, hml, hown, hts⟩ (c_X0_init l D cA sa qn43 h1 H.size) (cwI 1 hts gX1_init_X0_init rfl rfl rfl (hts (.initialized RX0) (by decide +kernel)) (hts (.methodLink RX1 17 yX0_init) (by decide +kernel)) (hts (.instanceMethod yX0_init) (by decide +kernel)) rfl (by decide +kernel) ⟨(Nat.le_of_ble_eq_true rfl), (Nat.le_of_ble_eq_true rfl)⟩) ⟨Wd.blind, fun U hU hW => ⟨rfl, Wd.call hPc hDc hK hC hZ hS hFc U hU hW⟩⟩ rfl rfl hl.1 rfl (lv_room (Nat.le_of_ble_eq_true rfl)) dX1_init_31 ⟨(Nat.le_of_ble_eq_true rfl), (Nat.le_of_ble_eq_true rfl)⟩) hS (fun q _ h => hFc q h) hFc (fun u t H1 locs ht hvm hw hB hz1 hk1 hS => ?_)
  obtain ⟨qn44, qn45, qn46, qn47, qn48, qn49, hP1, hD1⟩ := hB
  rw [ht] at hP1
  obtain ⟨hP, hD⟩ := va_join (wr := [(h0, .inr (5, [.ref qn1, .int 0, .int 0])), (qn1, .inl (cA 5, 10, .inr (.inr (.inr (.inr (va_up (va_up (va_up (va_up (va_up (fun _ => none) 0 (some qn3)) 1 (some qn11)) 2 (some qn19)) 3 (some qn27)) 4 (some qn35))))))), (qn3, .inr (4, [.ref h1, .ref qn4, .ref qn6, .ref qn7, .ref qn8, .ref qn9, .int 0, .int 0, .int 0, .long 0, .long 0, .long 0, .int 0, .int 0, .int 0, .int 0, .int 0, .int 0, .int 0, .int 0])), (qn4, .inr (6, [.ref qn5, .int 0, .int 0])), (qn5, .inl (cA 0, 240, .inl (fun _ => 0))), (qn6, .inl (cA 0, 10, .inl (fun _ => 0))), (qn7, .inl (cA 0, 10, .inl (fun _ => 0))), (qn8, .inl (cA 0, 10, .inl (fun _ => 0))), (qn9, .inl (cA 0, 10, .inl (fun _ => 0)))]) (w1 := [(qn43, .inr (4, [.ref h1, .ref qn44, .ref qn46, .ref qn47, .ref qn48, .ref qn49, .int 0, .int 0, .int 0, .long 0, .long 0, .long 0, .int 0, .int 0, .int 0, .int 0, .int 0, .int 0, .int 0, .int 0])), (qn44, .inr (6, [.ref qn45, .int 0, .int 0])), (qn45, .inl (cA 0, 240, .inl (fun _ => 0))), (qn46, .inl (cA 0, 10, .inl (fun _ => 0))), (qn47, .inl (cA 0, 10, .inl (fun _ => 0))), (qn48, .inl (cA 0, 10, .inl (fun _ => 0))), (qn49, .inl (cA 0, 10, .inl (fun _ => 0)))]) hP hD [9] [0, 1, 2, 3, 4, 5, 6, 7, 8] rfl rfl (by decide) (by decide) hk1 hFc hP1 hD1
  generalize H1 = H at hP hS ⊢
  have hP : va_P D vwCl [(h0, .inr (5, [.ref qn1, .int 0, .int 0])), (qn1, .inl (cA 5, 10, .inr (.inr (.inr (.inr (va_up (va_up (va_up (va_up (va_up (fun _ => none) 0 (some qn3)) 1 (some qn11)) 2 (some qn19)) 3 (some qn27)) 4 (some qn35))))))), (qn3, .inr (4, [.ref h1, .ref qn4, .ref qn6, .ref qn7, .ref qn8, .ref qn9, .int 0, .int 0, .int 0, .long 0, .long 0, .long 0, .int 0, .int 0, .int 0, .int 0, .int 0, .int 0, .int 0, .int 0])), (qn4, .inr (6, [.ref qn5, .int 0, .int 0])), (qn5, .inl (cA 0, 240, .inl (fun _ => 0))), (qn6, .inl (cA 0, 10, .inl (fun _ => 0))), (qn7, .inl (cA 0, 10, .inl (fun _ => 0))), (qn8, .inl (cA 0, 10, .inl (fun _ => 0))), (qn9, .inl (cA 0, 10, .inl (fun _ => 0))), (qn43, .inr (4, [.ref h1, .ref qn44, .ref qn46, .ref qn47, .ref qn48, .ref qn49, .int 0, .int 0, .int 0, .long 0, .long 0, .long 0, .int 0, .int 0, .int 0, .int 0, .int 0, .int 0, .int 0, .int 0])), (qn44, .inr (6, [.ref qn45, .int 0, .int 0])), (qn45, .inl (cA 0, 240, .inl (fun _ => 0))), (qn46, .inl (cA 0, 10, .inl (fun _ => 0))), (qn47, .inl (cA 0, 10, .inl (fun _ => 0))), (qn48, .inl (cA 0, 10, .inl (fun _ => 0))), (qn49, .inl (cA 0, 10, .inl (fun _ => 0)))] H := hP
  have hD : va_D A [(h0, .inr (5, [.ref qn1, .int 0, .int 0])), (qn1, .inl (cA 5, 10, .inr (.inr (.inr (.inr (va_up (va_up (va_up (va_up (va_up (fun _ => none) 0 (some qn3)) 1 (some qn11)) 2 (some qn19)) 3 (some qn27)) 4 (some qn35))))))), (qn3, .inr (4, [.ref h1, .ref qn4, .ref qn6, .ref qn7, .ref qn8, .ref qn9, .int 0, .int 0, .int 0, .long 0, .long 0, .long 0, .int 0, .int 0, .int 0, .int 0, .int 0, .int 0, .int 0, .int 0])), (qn4, .inr (6, [.ref qn5, .int 0, .int 0])), (qn5, .inl (cA 0, 240, .inl (fun _ => 0))), (qn6, .inl (cA 0, 10, .inl (fun _ => 0))), (qn7, .inl (cA 0, 10, .inl (fun _ => 0))), (qn8, .inl (cA 0, 10, .inl (fun _ => 0))), (qn9, .inl (cA 0, 10, .inl (fun _ => 0))), (qn43, .inr (4, [.ref h1, .ref qn44, .ref qn46, .ref qn47, .ref qn48, .ref qn49, .int 0, .int 0, .int 0, .long 0, .long 0, .long 0, .int 0, .int 0, .int 0, .int 0, .int 0, .int 0, .int 0, .int 0])), (qn44, .inr (6, [.ref qn45, .int 0, .int 0])), (qn45, .inl (cA 0, 240, .inl (fun _ => 0))), (qn46, .inl (cA 0, 10, .inl (fun _ => 0))), (qn47, .inl (cA 0, 10, .inl (fun _ => 0))), (qn48, .inl (cA 0, 10, .inl (fun _ => 0))), (qn49, .inl (cA 0, 10, .inl (fun _ => 0)))] := hD
  refine va_astq (r := (RX0, TX0, 20)) hx hb hK hP hD hS 1 5 9 4 rfl rfl rfl rfl (vp_in_iff.mpr (by decide)) dX1_init_34 (fun H locs hP hD hS => ?_)
  have hP : va_P D vwCl [(h0, .inr (5, [.ref qn1, .int 0, .int 0])), (qn1, .inl (cA 5, 10, .inr (.inr (.inr (.inr (va_up (va_up (va_up (va_up (va_up (va_up (fun _ => none) 0 (some qn3)) 1 (some qn11)) 2 (some qn19)) 3 (some qn27)) 4 (some qn35)) 5 (some qn43))))))), (qn3, .inr (4, [.ref h1, .ref qn4, .ref qn6, .ref qn7, .ref qn8, .ref qn9, .int 0, .int 0, .int 0, .long 0, .long 0, .long 0, .int 0, .int 0, .int 0, .int 0, .int 0, .int 0, .int 0, .int 0])), (qn4, .inr (6, [.ref qn5, .int 0, .int 0])), (qn5, .inl (cA 0, 240, .inl (fun _ => 0))), (qn6, .inl (cA 0, 10, .inl (fun _ => 0))), (qn7, .inl (cA 0, 10, .inl (fun _ => 0))), (qn8, .inl (cA 0, 10, .inl (fun _ => 0))), (qn9, .inl (cA 0, 10, .inl (fun _ => 0))), (qn43, .inr (4, [.ref h1, .ref qn44, .ref qn46, .ref qn47, .ref qn48, .ref qn49, .int 0, .int 0, .int 0, .long 0, .long 0, .long 0, .int 0, .int 0, .int 0, .int 0, .int 0, .int 0, .int 0, .int 0])), (qn44, .inr (6, [.ref qn45, .int 0, .int 0])), (qn45, .inl (cA 0, 240, .inl (fun _ => 0))), (qn46, .inl (cA 0, 10, .inl (fun _ => 0))), (qn47, .inl (cA 0, 10, .inl (fun _ => 0))), (qn48, .inl (cA 0, 10, .inl (fun _ => 0))), (qn49, .inl (cA 0, 10, .inl (fun _ => 0)))] H := hP
  have hD : va_D A [(h0, .inr (5, [.ref qn1, .int 0, .int 0])), (qn1, .inl (cA 5, 10, .inr (.inr (.inr (.inr (va_up (va_up (va_up (va_up (va_up (va_up (fun _ => none) 0 (some qn3)) 1 (some qn11)) 2 (some qn19)) 3 (some qn27)) 4 (some qn35)) 5 (some qn43))))))), (qn3, .inr (4, [.ref h1, .ref qn4, .ref qn6, .ref qn7, .ref qn8, .ref qn9, .int 0, .int 0, .int 0, .long 0, .long 0, .long 0, .int 0, .int 0, .int 0, .int 0, .int 0, .int 0, .int 0, .int 0])), (qn4, .inr (6, [.ref qn5, .int 0, .int 0])), (qn5, .inl (cA 0, 240, .inl (fun _ => 0))), (qn6, .inl (cA 0, 10, .inl (fun _ => 0))), (qn7, .inl (cA 0, 10, .inl (fun _ => 0))), (qn8, .inl (cA 0, 10, .inl (fun _ => 0))), (qn9, .inl (cA 0, 10, .inl (fun _ => 0))), (qn43, .inr (4, [.ref h1, .ref qn44, .ref qn46, .ref qn47, .ref qn48, .ref qn49, .int 0, .int 0, .int 0, .long 0, .long 0, .long 0, .int 0, .int 0, .int 0, .int 0, .int 0, .int 0, .int 0, .int 0])), (qn44, .inr (6, [.ref qn45, .int 0, .int 0])), (qn45, .inl (cA 0, 240, .inl (fun _ => 0))), (qn46, .inl (cA 0, 10, .inl (fun _ => 0))), (qn47, .inl (cA 0, 10, .inl (fun _ => 0))), (qn48, .inl (cA 0, 10, .inl (fun _ => 0))), (qn49, .inl (cA 0, 10, .inl (fun _ => 0)))] := hD
  refine lv_iinc (v := 6) (lv' := [(2, .int 6), (0, .ref h0), (1, .ref h1)]) hx hb dX1_init_35 hl (k := 0) rfl (by first | rfl | decide +kernel) (by decide) rfl (fun ls hl => ?_)
  refine lv_goto (tgt := 15) hx hb dX1_init_38 (by decide) ?_
  have hP := hP.sub (ws' := [(h0, .inr (5, [.ref qn1, .int 0, .int 0])), (qn1, .inl (cA 5, 10, .inr (.inr (.inr (.inr (va_up (va_up (va_up (va_up (va_up (va_up (fun _ => none) 0 (some qn3)) 1 (some qn11)) 2 (some qn19)) 3 (some qn27)) 4 (some qn35)) 5 (some qn43))))))), (qn3, .inr (4, [.ref h1, .ref qn4, .ref qn6, .ref qn7, .ref qn8, .ref qn9, .int 0, .int 0, .int 0, .long 0, .long 0, .long 0, .int 0, .int 0, .int 0, .int 0, .int 0, .int 0, .int 0, .int 0])), (qn4, .inr (6, [.ref qn5, .int 0, .int 0])), (qn5, .inl (cA 0, 240, .inl (fun _ => 0))), (qn6, .inl (cA 0, 10, .inl (fun _ => 0))), (qn7, .inl (cA 0, 10, .inl (fun _ => 0))), (qn8, .inl (cA 0, 10, .inl (fun _ => 0))), (qn9, .inl (cA 0, 10, .inl (fun _ => 0)))]) [0, 1, 2, 3, 4, 5, 6, 7, 8] rfl
  have hD := hD.sub (ws' := [(h0, .inr (5, [.ref qn1, .int 0, .int 0])), (qn1, .inl (cA 5, 10, .inr (.inr (.inr (.inr (va_up (va_up (va_up (va_up (va_up (va_up (fun _ => none) 0 (some qn3)) 1 (some qn11)) 2 (some qn19)) 3 (some qn27)) 4 (some qn35)) 5 (some qn43))))))), (qn3, .inr (4, [.ref h1, .ref qn4, .ref qn6, .ref qn7, .ref qn8, .ref qn9, .int 0, .int 0, .int 0, .long 0, .long 0, .long 0, .int 0, .int 0, .int 0, .int 0, .int 0, .int 0, .int 0, .int 0])), (qn4, .inr (6, [.ref qn5, .int 0, .int 0])), (qn5, .inl (cA 0, 240, .inl (fun _ => 0))), (qn6, .inl (cA 0, 10, .inl (fun _ => 0))), (qn7, .inl (cA 0, 10, .inl (fun _ => 0))), (qn8, .inl (cA 0, 10, .inl (fun _ => 0))), (qn9, .inl (cA 0, 10, .inl (fun _ => 0)))]) [0, 1, 2, 3, 4, 5, 6, 7, 8] (by decide) rfl
  refine lv_iload_n hx hb dX1_init_15 rfl (lv_at hl 0 rfl) ?_
  refine lv_bipush (v := 10) hx hb dX1_init_16 (by decide) ?_
  refine lv_icmp_ge (tgt := 41) hx hb dX1_init_18 (by decide) (fun c9 => absurd c9 (by decide)) (fun c50 => ?_)
  refine lv_aload_n hx hb dX1_init_21 rfl (lv_at hl 1 rfl) ?_
  refine va_get (D := D) (ci := 5) (v := .ref qn1) (C := RX1) (T := TX1) (N := 3) hx hb hts inX1 hown hK hP 0 rfl rfl 0 (by decide) (hts (.fieldLink RX1 13 "EscrowDesk$History" "remembered" "[LEscrowDesk$Account;") (by decide +kernel)) (fun _ h9 => h9) rfl dX1_init_22 ?_
  refine lv_iload_n hx hb dX1_init_25 rfl (lv_at hl 0 rfl) ?_
  refine va_new (ci := 4) (fs := [.null, .null, .null, .null, .null, .null, .int 0, .int 0, .int 0, .long 0, .long 0, .long 0, .int 0, .int 0, .int 0, .int 0, .int 0, .int 0, .int 0, .int 0]) (C := RX0) (T := TX0) (N := 20) hx hb hts inX0 tyX0 tyX0_ok hown (hts (.classLink RX1 11 RX0) (by decide +kernel)) (hts (.instantiable RX0 20) (by decide +kernel)) (hts (.initialized RX0) (by decide +kernel)) hK hP hD hS hA rfl (by decide +kernel) (Nat.le_of_ble_eq_true rfl) (Nat.le_of_ble_eq_true rfl) dX1_init_26 (fun qn51 H hP hD hS => ?_)
  have hP : va_P D vwCl [(h0, .inr (5, [.ref qn1, .int 0, .int 0])), (qn1, .inl (cA 5, 10, .inr (.inr (.inr (.inr (va_up (va_up (va_up (va_up (va_up (va_up (fun _ => none) 0 (some qn3)) 1 (some qn11)) 2 (some qn19)) 3 (some qn27)) 4 (some qn35)) 5 (some qn43))))))), (qn3, .inr (4, [.ref h1, .ref qn4, .ref qn6, .ref qn7, .ref qn8, .ref qn9, .int 0, .int 0, .int 0, .long 0, .long 0, .long 0, .int 0, .int 0, .int 0, .int 0, .int 0, .int 0, .int 0, .int 0])), (qn4, .inr (6, [.ref qn5, .int 0, .int 0])), (qn5, .inl (cA 0, 240, .inl (fun _ => 0))), (qn6, .inl (cA 0, 10, .inl (fun _ => 0))), (qn7, .inl (cA 0, 10, .inl (fun _ => 0))), (qn8, .inl (cA 0, 10, .inl (fun _ => 0))), (qn9, .inl (cA 0, 10, .inl (fun _ => 0))), (qn51, .inr (4, [.null, .null, .null, .null, .null, .null, .int 0, .int 0, .int 0, .long 0, .long 0, .long 0, .int 0, .int 0, .int 0, .int 0, .int 0, .int 0, .int 0, .int 0]))] H := hP
  have hD : va_D A [(h0, .inr (5, [.ref qn1, .int 0, .int 0])), (qn1, .inl (cA 5, 10, .inr (.inr (.inr (.inr (va_up (va_up (va_up (va_up (va_up (va_up (fun _ => none) 0 (some qn3)) 1 (some qn11)) 2 (some qn19)) 3 (some qn27)) 4 (some qn35)) 5 (some qn43))))))), (qn3, .inr (4, [.ref h1, .ref qn4, .ref qn6, .ref qn7, .ref qn8, .ref qn9, .int 0, .int 0, .int 0, .long 0, .long 0, .long 0, .int 0, .int 0, .int 0, .int 0, .int 0, .int 0, .int 0, .int 0])), (qn4, .inr (6, [.ref qn5, .int 0, .int 0])), (qn5, .inl (cA 0, 240, .inl (fun _ => 0))), (qn6, .inl (cA 0, 10, .inl (fun _ => 0))), (qn7, .inl (cA 0, 10, .inl (fun _ => 0))), (qn8, .inl (cA 0, 10, .inl (fun _ => 0))), (qn9, .inl (cA 0, 10, .inl (fun _ => 0))), (qn51, .inr (4, [.null, .null, .null, .null, .null, .null, .int 0, .int 0, .int 0, .long 0, .long 0, .long 0, .int 0, .int 0, .int 0, .int 0, .int 0, .int 0, .int 0, .int 0]))] := hD
  refine lv_dup hx hb dX1_init_29 rfl ?_
  refine lv_aload_n hx hb dX1_init_30 rfl (lv_at hl 2 rfl) ?_
  have hPc := hP.sub (ws' := [(qn51, .inr (4, [.null, .null, .null, .null, .null, .null, .int 0, .int 0, .int 0, .long 0, .long 0, .long 0, .int 0, .int 0, .int 0, .int 0, .int 0, .int 0, .int 0, .int 0]))]) [9] rfl
  have hDc := hD.sub (ws' := [(qn51, .inr (4, [.null, .null, .null, .null, .null, .null, .int 0, .int 0, .int 0, .long 0, .long 0, .long 0, .int 0, .int 0, .int 0, .int 0, .int 0, .int 0, .int 0, .int 0]))]) [9] (by decide) rfl
  have hFc := va_free (wc := [(qn51, .inr (4, [.null, .null, .null, .null, .null, .null, .int 0, .int 0, .int 0, .long 0, .long 0, .long 0, .int 0, .int 0, .int 0, .int 0, .int 0, .int 0, .int 0, .int 0]))]) hD hS hA [9] rfl
  refine va_callv (va_runI (As := [.ref h1]) (rest := [.ref qn51, .int 6, .ref qn1]) ⟨hx, hb, hml, hown, hts⟩ (c_X0_init l D cA sa qn51 h1 H.size) (cwI 1 hts gX1_init_X0_init rfl rfl rfl (hts (.initialized RX0) (by decide +kernel)) (hts (.methodLink RX1 17 yX0_init) (by decide +kernel)) (hts (.instanceMethod yX0_init) (by decide +kernel)) rfl (by decide +kernel) ⟨(Nat.le_of_ble_eq_true rfl), (Nat.le_of_ble_eq_true rfl)⟩) ⟨Wd.blind, fun U hU hW => ⟨rfl, Wd.call hPc hDc hK hC hZ hS hFc U hU hW⟩⟩ rfl rfl hl.1 rfl (lv_room (Nat.le_of_ble_eq_true rfl)) dX1_init_31 ⟨(Nat.le_of_ble_eq_true rfl), (Nat.le_of_ble_eq_true rfl)⟩) hS (fun q _ h => hFc q h) hFc (fun u t H1 locs ht hvm hw hB hz1 hk1 hS => ?_)
  obtain ⟨qn52, qn53, qn54, qn55, qn56, qn57, hP1, hD1⟩ := hB
  rw [ht] at hP1
  obtain ⟨hP, hD⟩ := va_join (wr := [(h0, .inr (5, [.ref qn1, .int 0, .int 0])), (qn1, .inl (cA 5, 10, .inr (.inr (.inr (.inr (va_up (va_up (va_up (va_up (va_up (va_up (fun _ => none) 0 (some qn3)) 1 (some qn11)) 2 (some qn19)) 3 (some qn27)) 4 (some qn35)) 5 (some qn43))))))), (qn3, .inr (4, [.ref h1, .ref qn4, .ref qn6, .ref qn7, .ref qn8, .ref qn9, .int 0, .int 0, .int 0, .long 0, .long 0, .long 0, .int 0, .int 0, .int 0, .int 0, .int 0, .int 0, .int 0, .int 0])), (qn4, .inr (6, [.ref qn5, .int 0, .int 0])), (qn5, .inl (cA 0, 240, .inl (fun _ => 0))), (qn6, .inl (cA 0, 10, .inl (fun _ => 0))), (qn7, .inl (cA 0, 10, .inl (fun _ => 0))), (qn8, .inl (cA 0, 10, .inl (fun _ => 0))), (qn9, .inl (cA 0, 10, .inl (fun _ => 0)))]) (w1 := [(qn51, .inr (4, [.ref h1, .ref qn52, .ref qn54, .ref qn55, .ref qn56, .ref qn57, .int 0, .int 0, .int 0, .long 0, .long 0, .long 0, .int 0, .int 0, .int 0, .int 0, .int 0, .int 0, .int 0, .int 0])), (qn52, .inr (6, [.ref qn53, .int 0, .int 0])), (qn53, .inl (cA 0, 240, .inl (fun _ => 0))), (qn54, .inl (cA 0, 10, .inl (fun _ => 0))), (qn55, .inl (cA 0, 10, .inl (fun _ => 0))), (qn56, .inl (cA 0, 10, .inl (fun _ => 0))), (qn57, .inl (cA 0, 10, .inl (fun _ => 0)))]) hP hD [9] [0, 1, 2, 3, 4, 5, 6, 7, 8] rfl rfl (by decide) (by decide) hk1 hFc hP1 hD1
  generalize H1 = H at hP hS ⊢
  have hP : va_P D vwCl [(h0, .inr (5, [.ref qn1, .int 0, .int 0])), (qn1, .inl (cA 5, 10, .inr (.inr (.inr (.inr (va_up (va_up (va_up (va_up (va_up (va_up (fun _ => none) 0 (some qn3)) 1 (some qn11)) 2 (some qn19)) 3 (some qn27)) 4 (some qn35)) 5 (some qn43))))))), (qn3, .inr (4, [.ref h1, .ref qn4, .ref qn6, .ref qn7, .ref qn8, .ref qn9, .int 0, .int 0, .int 0, .long 0, .long 0, .long 0, .int 0, .int 0, .int 0, .int 0, .int 0, .int 0, .int 0, .int 0])), (qn4, .inr (6, [.ref qn5, .int 0, .int 0])), (qn5, .inl (cA 0, 240, .inl (fun _ => 0))), (qn6, .inl (cA 0, 10, .inl (fun _ => 0))), (qn7, .inl (cA 0, 10, .inl (fun _ => 0))), (qn8, .inl (cA 0, 10, .inl (fun _ => 0))), (qn9, .inl (cA 0, 10, .inl (fun _ => 0))), (qn51, .inr (4, [.ref h1, .ref qn52, .ref qn54, .ref qn55, .ref qn56, .ref qn57, .int 0, .int 0, .int 0, .long 0, .long 0, .long 0, .int 0, .int 0, .int 0, .int 0, .int 0, .int 0, .int 0, .int 0])), (qn52, .inr (6, [.ref qn53, .int 0, .int 0])), (qn53, .inl (cA 0, 240, .inl (fun _ => 0))), (qn54, .inl (cA 0, 10, .inl (fun _ => 0))), (qn55, .inl (cA 0, 10, .inl (fun _ => 0))), (qn56, .inl (cA 0, 10, .inl (fun _ => 0))), (qn57, .inl (cA 0, 10, .inl (fun _ => 0)))] H := hP
  have hD : va_D A [(h0, .inr (5, [.ref qn1, .int 0, .int 0])), (qn1, .inl (cA 5, 10, .inr (.inr (.inr (.inr (va_up (va_up (va_up (va_up (va_up (va_up (fun _ => none) 0 (some qn3)) 1 (some qn11)) 2 (some qn19)) 3 (some qn27)) 4 (some qn35)) 5 (some qn43))))))), (qn3, .inr (4, [.ref h1, .ref qn4, .ref qn6, .ref qn7, .ref qn8, .ref qn9, .int 0, .int 0, .int 0, .long 0, .long 0, .long 0, .int 0, .int 0, .int 0, .int 0, .int 0, .int 0, .int 0, .int 0])), (qn4, .inr (6, [.ref qn5, .int 0, .int 0])), (qn5, .inl (cA 0, 240, .inl (fun _ => 0))), (qn6, .inl (cA 0, 10, .inl (fun _ => 0))), (qn7, .inl (cA 0, 10, .inl (fun _ => 0))), (qn8, .inl (cA 0, 10, .inl (fun _ => 0))), (qn9, .inl (cA 0, 10, .inl (fun _ => 0))), (qn51, .inr (4, [.ref h1, .ref qn52, .ref qn54, .ref qn55, .ref qn56, .ref qn57, .int 0, .int 0, .int 0, .long 0, .long 0, .long 0, .int 0, .int 0, .int 0, .int 0, .int 0, .int 0, .int 0, .int 0])), (qn52, .inr (6, [.ref qn53, .int 0, .int 0])), (qn53, .inl (cA 0, 240, .inl (fun _ => 0))), (qn54, .inl (cA 0, 10, .inl (fun _ => 0))), (qn55, .inl (cA 0, 10, .inl (fun _ => 0))), (qn56, .inl (cA 0, 10, .inl (fun _ => 0))), (qn57, .inl (cA 0, 10, .inl (fun _ => 0)))] := hD
  refine va_astq (r := (RX0, TX0, 20)) hx hb hK hP hD hS 1 5 9 4 rfl rfl rfl rfl (vp_in_iff.mpr (by decide)) dX1_init_34 (fun H locs hP hD hS => ?_)
  have hP : va_P D vwCl [(h0, .inr (5, [.ref qn1, .int 0, .int 0])), (qn1, .inl (cA 5, 10, .inr (.inr (.inr (.inr (va_up (va_up (va_up (va_up (va_up (va_up (va_up (fun _ => none) 0 (some qn3)) 1 (some qn11)) 2 (some qn19)) 3 (some qn27)) 4 (some qn35)) 5 (some qn43)) 6 (some qn51))))))), (qn3, .inr (4, [.ref h1, .ref qn4, .ref qn6, .ref qn7, .ref qn8, .ref qn9, .int 0, .int 0, .int 0, .long 0, .long 0, .long 0, .int 0, .int 0, .int 0, .int 0, .int 0, .int 0, .int 0, .int 0])), (qn4, .inr (6, [.ref qn5, .int 0, .int 0])), (qn5, .inl (cA 0, 240, .inl (fun _ => 0))), (qn6, .inl (cA 0, 10, .inl (fun _ => 0))), (qn7, .inl (cA 0, 10, .inl (fun _ => 0))), (qn8, .inl (cA 0, 10, .inl (fun _ => 0))), (qn9, .inl (cA 0, 10, .inl (fun _ => 0))), (qn51, .inr (4, [.ref h1, .ref qn52, .ref qn54, .ref qn55, .ref qn56, .ref qn57, .int 0, .int 0, .int 0, .long 0, .long 0, .long 0, .int 0, .int 0, .int 0, .int 0, .int 0, .int 0, .int 0, .int 0])), (qn52, .inr (6, [.ref qn53, .int 0, .int 0])), (qn53, .inl (cA 0, 240, .inl (fun _ => 0))), (qn54, .inl (cA 0, 10, .inl (fun _ => 0))), (qn55, .inl (cA 0, 10, .inl (fun _ => 0))), (qn56, .inl (cA 0, 10, .inl (fun _ => 0))), (qn57, .inl (cA 0, 10, .inl (fun _ => 0)))] H := hP
  have hD : va_D A [(h0, .inr (5, [.ref qn1, .int 0, .int 0])), (qn1, .inl (cA 5, 10, .inr (.inr (.inr (.inr (va_up (va_up (va_up (va_up (va_up (va_up (va_up (fun _ => none) 0 (some qn3)) 1 (some qn11)) 2 (some qn19)) 3 (some qn27)) 4 (some qn35)) 5 (some qn43)) 6 (some qn51))))))), (qn3, .inr (4, [.ref h1, .ref qn4, .ref qn6, .ref qn7, .ref qn8, .ref qn9, .int 0, .int 0, .int 0, .long 0, .long 0, .long 0, .int 0, .int 0, .int 0, .int 0, .int 0, .int 0, .int 0, .int 0])), (qn4, .inr (6, [.ref qn5, .int 0, .int 0])), (qn5, .inl (cA 0, 240, .inl (fun _ => 0))), (qn6, .inl (cA 0, 10, .inl (fun _ => 0))), (qn7, .inl (cA 0, 10, .inl (fun _ => 0))), (qn8, .inl (cA 0, 10, .inl (fun _ => 0))), (qn9, .inl (cA 0, 10, .inl (fun _ => 0))), (qn51, .inr (4, [.ref h1, .ref qn52, .ref qn54, .ref qn55, .ref qn56, .ref qn57, .int 0, .int 0, .int 0, .long 0, .long 0, .long 0, .int 0, .int 0, .int 0, .int 0, .int 0, .int 0, .int 0, .int 0])), (qn52, .inr (6, [.ref qn53, .int 0, .int 0])), (qn53, .inl (cA 0, 240, .inl (fun _ => 0))), (qn54, .inl (cA 0, 10, .inl (fun _ => 0))), (qn55, .inl (cA 0, 10, .inl (fun _ => 0))), (qn56, .inl (cA 0, 10, .inl (fun _ => 0))), (qn57, .inl (cA 0, 10, .inl (fun _ => 0)))] := hD
  refine lv_iinc (v := 7) (lv' := [(2, .int 7), (0, .ref h0), (1, .ref h1)]) hx hb dX1_init_35 hl (k := 0) rfl (by first | rfl | decide +kernel) (by decide) rfl (fun ls hl => ?_)
  refine lv_goto (tgt := 15) hx hb dX1_init_38 (by decide) ?_
  have hP := hP.sub (ws' := [(h0, .inr (5, [.ref qn1, .int 0, .int 0])), (qn1, .inl (cA 5, 10, .inr (.inr (.inr (.inr (va_up (va_up (va_up (va_up (va_up (va_up (va_up (fun _ => none) 0 (some qn3)) 1 (some qn11)) 2 (some qn19)) 3 (some qn27)) 4 (some qn35)) 5 (some qn43)) 6 (some qn51))))))), (qn3, .inr (4, [.ref h1, .ref qn4, .ref qn6, .ref qn7, .ref qn8, .ref qn9, .int 0, .int 0, .int 0, .long 0, .long 0, .long 0, .int 0, .int 0, .int 0, .int 0, .int 0, .int 0, .int 0, .int 0])), (qn4, .inr (6, [.ref qn5, .int 0, .int 0])), (qn5, .inl (cA 0, 240, .inl (fun _ => 0))), (qn6, .inl (cA 0, 10, .inl (fun _ => 0))), (qn7, .inl (cA 0, 10, .inl (fun _ => 0))), (qn8, .inl (cA 0, 10, .inl (fun _ => 0))), (qn9, .inl (cA 0, 10, .inl (fun _ => 0)))]) [0, 1, 2, 3, 4, 5, 6, 7, 8] rfl
  have hD := hD.sub (ws' := [(h0, .inr (5, [.ref qn1, .int 0, .int 0])), (qn1, .inl (cA 5, 10, .inr (.inr (.inr (.inr (va_up (va_up (va_up (va_up (va_up (va_up (va_up (fun _ => none) 0 (some qn3)) 1 (some qn11)) 2 (some qn19)) 3 (some qn27)) 4 (some qn35)) 5 (some qn43)) 6 (some qn51))))))), (qn3, .inr (4, [.ref h1, .ref qn4, .ref qn6, .ref qn7, .ref qn8, .ref qn9, .int 0, .int 0, .int 0, .long 0, .long 0, .long 0, .int 0, .int 0, .int 0, .int 0, .int 0, .int 0, .int 0, .int 0])), (qn4, .inr (6, [.ref qn5, .int 0, .int 0])), (qn5, .inl (cA 0, 240, .inl (fun _ => 0))), (qn6, .inl (cA 0, 10, .inl (fun _ => 0))), (qn7, .inl (cA 0, 10, .inl (fun _ => 0))), (qn8, .inl (cA 0, 10, .inl (fun _ => 0))), (qn9, .inl (cA 0, 10, .inl (fun _ => 0)))]) [0, 1, 2, 3, 4, 5, 6, 7, 8] (by decide) rfl
  refine lv_iload_n hx hb dX1_init_15 rfl (lv_at hl 0 rfl) ?_
  refine lv_bipush (v := 10) hx hb dX1_init_16 (by decide) ?_
  refine lv_icmp_ge (tgt := 41) hx hb dX1_init_18 (by decide) (fun c9 => absurd c9 (by decide)) (fun c58 => ?_)
  refine lv_aload_n hx hb dX1_init_21 rfl (lv_at hl 1 rfl) ?_
  refine va_get (D := D) (ci := 5) (v := .ref qn1) (C := RX1) (T := TX1) (N := 3) hx hb hts inX1 hown hK hP 0 rfl rfl 0 (by decide) (hts (.fieldLink RX1 13 "EscrowDesk$History" "remembered" "[LEscrowDesk$Account;") (by decide +kernel)) (fun _ h9 => h9) rfl dX1_init_22 ?_
  refine lv_iload_n hx hb dX1_init_25 rfl (lv_at hl 0 rfl) ?_
  refine va_new (ci := 4) (fs := [.null, .null, .null, .null, .null, .null, .int 0, .int 0, .int 0, .long 0, .long 0, .long 0, .int 0, .int 0, .int 0, .int 0, .int 0, .int 0, .int 0, .int 0]) (C := RX0) (T := TX0) (N := 20) hx hb hts inX0 tyX0 tyX0_ok hown (hts (.classLink RX1 11 RX0) (by decide +kernel)) (hts (.instantiable RX0 20) (by decide +kernel)) (hts (.initialized RX0) (by decide +kernel)) hK hP hD hS hA rfl (by decide +kernel) (Nat.le_of_ble_eq_true rfl) (Nat.le_of_ble_eq_true rfl) dX1_init_26 (fun qn59 H hP hD hS => ?_)
  have hP : va_P D vwCl [(h0, .inr (5, [.ref qn1, .int 0, .int 0])), (qn1, .inl (cA 5, 10, .inr (.inr (.inr (.inr (va_up (va_up (va_up (va_up (va_up (va_up (va_up (fun _ => none) 0 (some qn3)) 1 (some qn11)) 2 (some qn19)) 3 (some qn27)) 4 (some qn35)) 5 (some qn43)) 6 (some qn51))))))), (qn3, .inr (4, [.ref h1, .ref qn4, .ref qn6, .ref qn7, .ref qn8, .ref qn9, .int 0, .int 0, .int 0, .long 0, .long 0, .long 0, .int 0, .int 0, .int 0, .int 0, .int 0, .int 0, .int 0, .int 0])), (qn4, .inr (6, [.ref qn5, .int 0, .int 0])), (qn5, .inl (cA 0, 240, .inl (fun _ => 0))), (qn6, .inl (cA 0, 10, .inl (fun _ => 0))), (qn7, .inl (cA 0, 10, .inl (fun _ => 0))), (qn8, .inl (cA 0, 10, .inl (fun _ => 0))), (qn9, .inl (cA 0, 10, .inl (fun _ => 0))), (qn59, .inr (4, [.null, .null, .null, .null, .null, .null, .int 0, .int 0, .int 0, .long 0, .long 0, .long 0, .int 0, .int 0, .int 0, .int 0, .int 0, .int 0, .int 0, .int 0]))] H := hP
  have hD : va_D A [(h0, .inr (5, [.ref qn1, .int 0, .int 0])), (qn1, .inl (cA 5, 10, .inr (.inr (.inr (.inr (va_up (va_up (va_up (va_up (va_up (va_up (va_up (fun _ => none) 0 (some qn3)) 1 (some qn11)) 2 (some qn19)) 3 (some qn27)) 4 (some qn35)) 5 (some qn43)) 6 (some qn51))))))), (qn3, .inr (4, [.ref h1, .ref qn4, .ref qn6, .ref qn7, .ref qn8, .ref qn9, .int 0, .int 0, .int 0, .long 0, .long 0, .long 0, .int 0, .int 0, .int 0, .int 0, .int 0, .int 0, .int 0, .int 0])), (qn4, .inr (6, [.ref qn5, .int 0, .int 0])), (qn5, .inl (cA 0, 240, .inl (fun _ => 0))), (qn6, .inl (cA 0, 10, .inl (fun _ => 0))), (qn7, .inl (cA 0, 10, .inl (fun _ => 0))), (qn8, .inl (cA 0, 10, .inl (fun _ => 0))), (qn9, .inl (cA 0, 10, .inl (fun _ => 0))), (qn59, .inr (4, [.null, .null, .null, .null, .null, .null, .int 0, .int 0, .int 0, .long 0, .long 0, .long 0, .int 0, .int 0, .int 0, .int 0, .int 0, .int 0, .int 0, .int 0]))] := hD
  refine lv_dup hx hb dX1_init_29 rfl ?_
  refine lv_aload_n hx hb dX1_init_30 rfl (lv_at hl 2 rfl) ?_
  have hPc := hP.sub (ws' := [(qn59, .inr (4, [.null, .null, .null, .null, .null, .null, .int 0, .int 0, .int 0, .long 0, .long 0, .long 0, .int 0, .int 0, .int 0, .int 0, .int 0, .int 0, .int 0, .int 0]))]) [9] rfl
  have hDc := hD.sub (ws' := [(qn59, .inr (4, [.null, .null, .null, .null, .null, .null, .int 0, .int 0, .int 0, .long 0, .long 0, .long 0, .int 0, .int 0, .int 0, .int 0, .int 0, .int 0, .int 0, .int 0]))]) [9] (by decide) rfl
  have hFc := va_free (wc := [(qn59, .inr (4, [.null, .null, .null, .null, .null, .null, .int 0, .int 0, .int 0, .long 0, .long 0, .long 0, .int 0, .int 0, .int 0, .int 0, .int 0, .int 0, .int 0, .int 0]))]) hD hS hA [9] rfl
  refine va_callv (va_runI (As := [.ref h1]) (rest := [.ref qn59, .int 7, .ref qn1]) ⟨hx, hb, hml, hown, hts⟩ (c_X0_init l D cA sa qn59 h1 H.size) (cwI 1 hts gX1_init_X0_init rfl rfl rfl (hts (.initialized RX0) (by decide +kernel)) (hts (.methodLink RX1 17 yX0_init) (by decide +kernel)) (hts (.instanceMethod yX0_init) (by decide +kernel)) rfl (by decide +kernel) ⟨(Nat.le_of_ble_eq_true rfl), (Nat.le_of_ble_eq_true rfl)⟩) ⟨Wd.blind, fun U hU hW => ⟨rfl, Wd.call hPc hDc hK hC hZ hS hFc U hU hW⟩⟩ rfl rfl hl.1 rfl (lv_room (Nat.le_of_ble_eq_true rfl)) dX1_init_31 ⟨(Nat.le_of_ble_eq_true rfl), (Nat.le_of_ble_eq_true rfl)⟩) hS (fun q _ h => hFc q h) hFc (fun u t H1 locs ht hvm hw hB hz1 hk1 hS => ?_)
  obtain ⟨qn60, qn61, qn62, qn63, qn64, qn65, hP1, hD1⟩ := hB
  rw [ht] at hP1
  obtain ⟨hP, hD⟩ := va_join (wr := [(h0, .inr (5, [.ref qn1, .int 0, .int 0])), (qn1, .inl (cA 5, 10, .inr (.inr (.inr (.inr (va_up (va_up (va_up (va_up (va_up (va_up (va_up (fun _ => none) 0 (some qn3)) 1 (some qn11)) 2 (some qn19)) 3 (some qn27)) 4 (some qn35)) 5 (some qn43)) 6 (some qn51))))))), (qn3, .inr (4, [.ref h1, .ref qn4, .ref qn6, .ref qn7, .ref qn8, .ref qn9, .int 0, .int 0, .int 0, .long 0, .long 0, .long 0, .int 0, .int 0, .int 0, .int 0, .int 0, .int 0, .int 0, .int 0])), (qn4, .inr (6, [.ref qn5, .int 0, .int 0])), (qn5, .inl (cA 0, 240, .inl (fun _ => 0))), (qn6, .inl (cA 0, 10, .inl (fun _ => 0))), (qn7, .inl (cA 0, 10, .inl (fun _ => 0))), (qn8, .inl (cA 0, 10, .inl (fun _ => 0))), (qn9, .inl (cA 0, 10, .inl (fun _ => 0)))]) (w1 := [(qn59, .inr (4, [.ref h1, .ref qn60, .ref qn62, .ref qn63, .ref qn64, .ref qn65, .int 0, .int 0, .int 0, .long 0, .long 0, .long 0, .int 0, .int 0, .int 0, .int 0, .int 0, .int 0, .int 0, .int 0])), (qn60, .inr (6, [.ref qn61, .int 0, .int 0])), (qn61, .inl (cA 0, 240, .inl (fun _ => 0))), (qn62, .inl (cA 0, 10, .inl (fun _ => 0))), (qn63, .inl (cA 0, 10, .inl (fun _ => 0))), (qn64, .inl (cA 0, 10, .inl (fun _ => 0))), (qn65, .inl (cA 0, 10, .inl (fun _ => 0)))]) hP hD [9] [0, 1, 2, 3, 4, 5, 6, 7, 8] rfl rfl (by decide) (by decide) hk1 hFc hP1 hD1
  generalize H1 = H at hP hS ⊢
  have hP : va_P D vwCl [(h0, .inr (5, [.ref qn1, .int 0, .int 0])), (qn1, .inl (cA 5, 10, .inr (.inr (.inr (.inr (va_up (va_up (va_up (va_up (va_up (va_up (va_up (fun _ => none) 0 (some qn3)) 1 (some qn11)) 2 (some qn19)) 3 (some qn27)) 4 (some qn35)) 5 (some qn43)) 6 (some qn51))))))), (qn3, .inr (4, [.ref h1, .ref qn4, .ref qn6, .ref qn7, .ref qn8, .ref qn9, .int 0, .int 0, .int 0, .long 0, .long 0, .long 0, .int 0, .int 0, .int 0, .int 0, .int 0, .int 0, .int 0, .int 0])), (qn4, .inr (6, [.ref qn5, .int 0, .int 0])), (qn5, .inl (cA 0, 240, .inl (fun _ => 0))), (qn6, .inl (cA 0, 10, .inl (fun _ => 0))), (qn7, .inl (cA 0, 10, .inl (fun _ => 0))), (qn8, .inl (cA 0, 10, .inl (fun _ => 0))), (qn9, .inl (cA 0, 10, .inl (fun _ => 0))), (qn59, .inr (4, [.ref h1, .ref qn60, .ref qn62, .ref qn63, .ref qn64, .ref qn65, .int 0, .int 0, .int 0, .long 0, .long 0, .long 0, .int 0, .int 0, .int 0, .int 0, .int 0, .int 0, .int 0, .int 0])), (qn60, .inr (6, [.ref qn61, .int 0, .int 0])), (qn61, .inl (cA 0, 240, .inl (fun _ => 0))), (qn62, .inl (cA 0, 10, .inl (fun _ => 0))), (qn63, .inl (cA 0, 10, .inl (fun _ => 0))), (qn64, .inl (cA 0, 10, .inl (fun _ => 0))), (qn65, .inl (cA 0, 10, .inl (fun _ => 0)))] H := hP
  have hD : va_D A [(h0, .inr (5, [.ref qn1, .int 0, .int 0])), (qn1, .inl (cA 5, 10, .inr (.inr (.inr (.inr (va_up (va_up (va_up (va_up (va_up (va_up (va_up (fun _ => none) 0 (some qn3)) 1 (some qn11)) 2 (some qn19)) 3 (some qn27)) 4 (some qn35)) 5 (some qn43)) 6 (some qn51))))))), (qn3, .inr (4, [.ref h1, .ref qn4, .ref qn6, .ref qn7, .ref qn8, .ref qn9, .int 0, .int 0, .int 0, .long 0, .long 0, .long 0, .int 0, .int 0, .int 0, .int 0, .int 0, .int 0, .int 0, .int 0])), (qn4, .inr (6, [.ref qn5, .int 0, .int 0])), (qn5, .inl (cA 0, 240, .inl (fun _ => 0))), (qn6, .inl (cA 0, 10, .inl (fun _ => 0))), (qn7, .inl (cA 0, 10, .inl (fun _ => 0))), (qn8, .inl (cA 0, 10, .inl (fun _ => 0))), (qn9, .inl (cA 0, 10, .inl (fun _ => 0))), (qn59, .inr (4, [.ref h1, .ref qn60, .ref qn62, .ref qn63, .ref qn64, .ref qn65, .int 0, .int 0, .int 0, .long 0, .long 0, .long 0, .int 0, .int 0, .int 0, .int 0, .int 0, .int 0, .int 0, .int 0])), (qn60, .inr (6, [.ref qn61, .int 0, .int 0])), (qn61, .inl (cA 0, 240, .inl (fun _ => 0))), (qn62, .inl (cA 0, 10, .inl (fun _ => 0))), (qn63, .inl (cA 0, 10, .inl (fun _ => 0))), (qn64, .inl (cA 0, 10, .inl (fun _ => 0))), (qn65, .inl (cA 0, 10, .inl (fun _ => 0)))] := hD
  refine va_astq (r := (RX0, TX0, 20)) hx hb hK hP hD hS 1 5 9 4 rfl rfl rfl rfl (vp_in_iff.mpr (by decide)) dX1_init_34 (fun H locs hP hD hS => ?_)
  have hP : va_P D vwCl [(h0, .inr (5, [.ref qn1, .int 0, .int 0])), (qn1, .inl (cA 5, 10, .inr (.inr (.inr (.inr (va_up (va_up (va_up (va_up (va_up (va_up (va_up (va_up (fun _ => none) 0 (some qn3)) 1 (some qn11)) 2 (some qn19)) 3 (some qn27)) 4 (some qn35)) 5 (some qn43)) 6 (some qn51)) 7 (some qn59))))))), (qn3, .inr (4, [.ref h1, .ref qn4, .ref qn6, .ref qn7, .ref qn8, .ref qn9, .int 0, .int 0, .int 0, .long 0, .long 0, .long 0, .int 0, .int 0, .int 0, .int 0, .int 0, .int 0, .int 0, .int 0])), (qn4, .inr (6, [.ref qn5, .int 0, .int 0])), (qn5, .inl (cA 0, 240, .inl (fun _ => 0))), (qn6, .inl (cA 0, 10, .inl (fun _ => 0))), (qn7, .inl (cA 0, 10, .inl (fun _ => 0))), (qn8, .inl (cA 0, 10, .inl (fun _ => 0))), (qn9, .inl (cA 0, 10, .inl (fun _ => 0))), (qn59, .inr (4, [.ref h1, .ref qn60, .ref qn62, .ref qn63, .ref qn64, .ref qn65, .int 0, .int 0, .int 0, .long 0, .long 0, .long 0, .int 0, .int 0, .int 0, .int 0, .int 0, .int 0, .int 0, .int 0])), (qn60, .inr (6, [.ref qn61, .int 0, .int 0])), (qn61, .inl (cA 0, 240, .inl (fun _ => 0))), (qn62, .inl (cA 0, 10, .inl (fun _ => 0))), (qn63, .inl (cA 0, 10, .inl (fun _ => 0))), (qn64, .inl (cA 0, 10, .inl (fun _ => 0))), (qn65, .inl (cA 0, 10, .inl (fun _ => 0)))] H := hP
  have hD : va_D A [(h0, .inr (5, [.ref qn1, .int 0, .int 0])), (qn1, .inl (cA 5, 10, .inr (.inr (.inr (.inr (va_up (va_up (va_up (va_up (va_up (va_up (va_up (va_up (fun _ => none) 0 (some qn3)) 1 (some qn11)) 2 (some qn19)) 3 (some qn27)) 4 (some qn35)) 5 (some qn43)) 6 (some qn51)) 7 (some qn59))))))), (qn3, .inr (4, [.ref h1, .ref qn4, .ref qn6, .ref qn7, .ref qn8, .ref qn9, .int 0, .int 0, .int 0, .long 0, .long 0, .long 0, .int 0, .int 0, .int 0, .int 0, .int 0, .int 0, .int 0, .int 0])), (qn4, .inr (6, [.ref qn5, .int 0, .int 0])), (qn5, .inl (cA 0, 240, .inl (fun _ => 0))), (qn6, .inl (cA 0, 10, .inl (fun _ => 0))), (qn7, .inl (cA 0, 10, .inl (fun _ => 0))), (qn8, .inl (cA 0, 10, .inl (fun _ => 0))), (qn9, .inl (cA 0, 10, .inl (fun _ => 0))), (qn59, .inr (4, [.ref h1, .ref qn60, .ref qn62, .ref qn63, .ref qn64, .ref qn65, .int 0, .int 0, .int 0, .long 0, .long 0, .long 0, .int 0, .int 0, .int 0, .int 0, .int 0, .int 0, .int 0, .int 0])), (qn60, .inr (6, [.ref qn61, .int 0, .int 0])), (qn61, .inl (cA 0, 240, .inl (fun _ => 0))), (qn62, .inl (cA 0, 10, .inl (fun _ => 0))), (qn63, .inl (cA 0, 10, .inl (fun _ => 0))), (qn64, .inl (cA 0, 10, .inl (fun _ => 0))), (qn65, .inl (cA 0, 10, .inl (fun _ => 0)))] := hD
  refine lv_iinc (v := 8) (lv' := [(2, .int 8), (0, .ref h0), (1, .ref h1)]) hx hb dX1_init_35 hl (k := 0) rfl (by first | rfl | decide +kernel) (by decide) rfl (fun ls hl => ?_)
  refine lv_goto (tgt := 15) hx hb dX1_init_38 (by decide) ?_
  have hP := hP.sub (ws' := [(h0, .inr (5, [.ref qn1, .int 0, .int 0])), (qn1, .inl (cA 5, 10, .inr (.inr (.inr (.inr (va_up (va_up (va_up (va_up (va_up (va_up (va_up (va_up (fun _ => none) 0 (some qn3)) 1 (some qn11)) 2 (some qn19)) 3 (some qn27)) 4 (some qn35)) 5 (some qn43)) 6 (some qn51)) 7 (some qn59))))))), (qn3, .inr (4, [.ref h1, .ref qn4, .ref qn6, .ref qn7, .ref qn8, .ref qn9, .int 0, .int 0, .int 0, .long 0, .long 0, .long 0, .int 0, .int 0, .int 0, .int 0, .int 0, .int 0, .int 0, .int 0])), (qn4, .inr (6, [.ref qn5, .int 0, .int 0])), (qn5, .inl (cA 0, 240, .inl (fun _ => 0))), (qn6, .inl (cA 0, 10, .inl (fun _ => 0))), (qn7, .inl (cA 0, 10, .inl (fun _ => 0))), (qn8, .inl (cA 0, 10, .inl (fun _ => 0))), (qn9, .inl (cA 0, 10, .inl (fun _ => 0)))]) [0, 1, 2, 3, 4, 5, 6, 7, 8] rfl
  have hD := hD.sub (ws' := [(h0, .inr (5, [.ref qn1, .int 0, .int 0])), (qn1, .inl (cA 5, 10, .inr (.inr (.inr (.inr (va_up (va_up (va_up (va_up (va_up (va_up (va_up (va_up (fun _ => none) 0 (some qn3)) 1 (some qn11)) 2 (some qn19)) 3 (some qn27)) 4 (some qn35)) 5 (some qn43)) 6 (some qn51)) 7 (some qn59))))))), (qn3, .inr (4, [.ref h1, .ref qn4, .ref qn6, .ref qn7, .ref qn8, .ref qn9, .int 0, .int 0, .int 0, .long 0, .long 0, .long 0, .int 0, .int 0, .int 0, .int 0, .int 0, .int 0, .int 0, .int 0])), (qn4, .inr (6, [.ref qn5, .int 0, .int 0])), (qn5, .inl (cA 0, 240, .inl (fun _ => 0))), (qn6, .inl (cA 0, 10, .inl (fun _ => 0))), (qn7, .inl (cA 0, 10, .inl (fun _ => 0))), (qn8, .inl (cA 0, 10, .inl (fun _ => 0))), (qn9, .inl (cA 0, 10, .inl (fun _ => 0)))]) [0, 1, 2, 3, 4, 5, 6, 7, 8] (by decide) rfl
  refine lv_iload_n hx hb dX1_init_15 rfl (lv_at hl 0 rfl) ?_
  refine lv_bipush (v := 10) hx hb dX1_init_16 (by decide) ?_
  refine lv_icmp_ge (tgt := 41) hx hb dX1_init_18 (by decide) (fun c9 => absurd c9 (by decide)) (fun c66 => ?_)
  refine lv_aload_n hx hb dX1_init_21 rfl (lv_at hl 1 rfl) ?_
  refine va_get (D := D) (ci := 5) (v := .ref qn1) (C := RX1) (T := TX1) (N := 3) hx hb hts inX1 hown hK hP 0 rfl rfl 0 (by decide) (hts (.fieldLink RX1 13 "EscrowDesk$History" "remembered" "[LEscrowDesk$Account;") (by decide +kernel)) (fun _ h9 => h9) rfl dX1_init_22 ?_
  refine lv_iload_n hx hb dX1_init_25 rfl (lv_at hl 0 rfl) ?_
  refine va_new (ci := 4) (fs := [.null, .null, .null, .null, .null, .null, .int 0, .int 0, .int 0, .long 0, .long 0, .long 0, .int 0, .int 0, .int 0, .int 0, .int 0, .int 0, .int 0, .int 0]) (C := RX0) (T := TX0) (N := 20) hx hb hts inX0 tyX0 tyX0_ok hown (hts (.classLink RX1 11 RX0) (by decide +kernel)) (hts (.instantiable RX0 20) (by decide +kernel)) (hts (.initialized RX0) (by decide +kernel)) hK hP hD hS hA rfl (by decide +kernel) (Nat.le_of_ble_eq_true rfl) (Nat.le_of_ble_eq_true rfl) dX1_init_26 (fun qn67 H hP hD hS => ?_)
  have hP : va_P D vwCl [(h0, .inr (5, [.ref qn1, .int 0, .int 0])), (qn1, .inl (cA 5, 10, .inr (.inr (.inr (.inr (va_up (va_up (va_up (va_up (va_up (va_up (va_up (va_up (fun _ => none) 0 (some qn3)) 1 (some qn11)) 2 (some qn19)) 3 (some qn27)) 4 (some qn35)) 5 (some qn43)) 6 (some qn51)) 7 (some qn59))))))), (qn3, .inr (4, [.ref h1, .ref qn4, .ref qn6, .ref qn7, .ref qn8, .ref qn9, .int 0, .int 0, .int 0, .long 0, .long 0, .long 0, .int 0, .int 0, .int 0, .int 0, .int 0, .int 0, .int 0, .int 0])), (qn4, .inr (6, [.ref qn5, .int 0, .int 0])), (qn5, .inl (cA 0, 240, .inl (fun _ => 0))), (qn6, .inl (cA 0, 10, .inl (fun _ => 0))), (qn7, .inl (cA 0, 10, .inl (fun _ => 0))), (qn8, .inl (cA 0, 10, .inl (fun _ => 0))), (qn9, .inl (cA 0, 10, .inl (fun _ => 0))), (qn67, .inr (4, [.null, .null, .null, .null, .null, .null, .int 0, .int 0, .int 0, .long 0, .long 0, .long 0, .int 0, .int 0, .int 0, .int 0, .int 0, .int 0, .int 0, .int 0]))] H := hP
  have hD : va_D A [(h0, .inr (5, [.ref qn1, .int 0, .int 0])), (qn1, .inl (cA 5, 10, .inr (.inr (.inr (.inr (va_up (va_up (va_up (va_up (va_up (va_up (va_up (va_up (fun _ => none) 0 (some qn3)) 1 (some qn11)) 2 (some qn19)) 3 (some qn27)) 4 (some qn35)) 5 (some qn43)) 6 (some qn51)) 7 (some qn59))))))), (qn3, .inr (4, [.ref h1, .ref qn4, .ref qn6, .ref qn7, .ref qn8, .ref qn9, .int 0, .int 0, .int 0, .long 0, .long 0, .long 0, .int 0, .int 0, .int 0, .int 0, .int 0, .int 0, .int 0, .int 0])), (qn4, .inr (6, [.ref qn5, .int 0, .int 0])), (qn5, .inl (cA 0, 240, .inl (fun _ => 0))), (qn6, .inl (cA 0, 10, .inl (fun _ => 0))), (qn7, .inl (cA 0, 10, .inl (fun _ => 0))), (qn8, .inl (cA 0, 10, .inl (fun _ => 0))), (qn9, .inl (cA 0, 10, .inl (fun _ => 0))), (qn67, .inr (4, [.null, .null, .null, .null, .null, .null, .int 0, .int 0, .int 0, .long 0, .long 0, .long 0, .int 0, .int 0, .int 0, .int 0, .int 0, .int 0, .int 0, .int 0]))] := hD
  refine lv_dup hx hb dX1_init_29 rfl ?_
  refine lv_aload_n hx hb dX1_init_30 rfl (lv_at hl 2 rfl) ?_
  have hPc := hP.sub (ws' := [(qn67, .inr (4, [.null, .null, .null, .null, .null, .null, .int 0, .int 0, .int 0, .long 0, .long 0, .long 0, .int 0, .int 0, .int 0, .int 0, .int 0, .int 0, .int 0, .int 0]))]) [9] rfl
  have hDc := hD.sub (ws' := [(qn67, .inr (4, [.null, .null, .null, .null, .null, .null, .int 0, .int 0, .int 0, .long 0, .long 0, .long 0, .int 0, .int 0, .int 0, .int 0, .int 0, .int 0, .int 0, .int 0]))]) [9] (by decide) rfl
  have hFc := va_free (wc := [(qn67, .inr (4, [.null, .null, .null, .null, .null, .null, .int 0, .int 0, .int 0, .long 0, .long 0, .long 0, .int 0, .int 0, .int 0, .int 0, .int 0, .int 0, .int 0, .int 0]))]) hD hS hA [9] rfl
  refine va_callv (va_runI (As := [.ref h1]) (rest := [.ref qn67, .int 8, .ref qn1]) ⟨hx, hb, hml, hown, hts⟩ (c_X0_init l D cA sa qn67 h1 H.size) (cwI 1 hts gX1_init_X0_init rfl rfl rfl (hts (.initialized RX0) (by decide +kernel)) (hts (.methodLink RX1 17 yX0_init) (by decide +kernel)) (hts (.instanceMethod yX0_init) (by decide +kernel)) rfl (by decide +kernel) ⟨(Nat.le_of_ble_eq_true rfl), (Nat.le_of_ble_eq_true rfl)⟩) ⟨Wd.blind, fun U hU hW => ⟨rfl, Wd.call hPc hDc hK hC hZ hS hFc U hU hW⟩⟩ rfl rfl hl.1 rfl (lv_room (Nat.le_of_ble_eq_true rfl)) dX1_init_31 ⟨(Nat.le_of_ble_eq_true rfl), (Nat.le_of_ble_eq_true rfl)⟩) hS (fun q _ h => hFc q h) hFc (fun u t H1 locs ht hvm hw hB hz1 hk1 hS => ?_)
  obtain ⟨qn68, qn69, qn70, qn71, qn72, qn73, hP1, hD1⟩ := hB
  rw [ht] at hP1
  obtain ⟨hP, hD⟩ := va_join (wr := [(h0, .inr (5, [.ref qn1, .int 0, .int 0])), (qn1, .inl (cA 5, 10, .inr (.inr (.inr (.inr (va_up (va_up (va_up (va_up (va_up (va_up (va_up (va_up (fun _ => none) 0 (some qn3)) 1 (some qn11)) 2 (some qn19)) 3 (some qn27)) 4 (some qn35)) 5 (some qn43)) 6 (some qn51)) 7 (some qn59))))))), (qn3, .inr (4, [.ref h1, .ref qn4, .ref qn6, .ref qn7, .ref qn8, .ref qn9, .int 0, .int 0, .int 0, .long 0, .long 0, .long 0, .int 0, .int 0, .int 0, .int 0, .int 0, .int 0, .int 0, .int 0])), (qn4, .inr (6, [.ref qn5, .int 0, .int 0])), (qn5, .inl (cA 0, 240, .inl (fun _ => 0))), (qn6, .inl (cA 0, 10, .inl (fun _ => 0))), (qn7, .inl (cA 0, 10, .inl (fun _ => 0))), (qn8, .inl (cA 0, 10, .inl (fun _ => 0))), (qn9, .inl (cA 0, 10, .inl (fun _ => 0)))]) (w1 := [(qn67, .inr (4, [.ref h1, .ref qn68, .ref qn70, .ref qn71, .ref qn72, .ref qn73, .int 0, .int 0, .int 0, .long 0, .long 0, .long 0, .int 0, .int 0, .int 0, .int 0, .int 0, .int 0, .int 0, .int 0])), (qn68, .inr (6, [.ref qn69, .int 0, .int 0])), (qn69, .inl (cA 0, 240, .inl (fun _ => 0))), (qn70, .inl (cA 0, 10, .inl (fun _ => 0))), (qn71, .inl (cA 0, 10, .inl (fun _ => 0))), (qn72, .inl (cA 0, 10, .inl (fun _ => 0))), (qn73, .inl (cA 0, 10, .inl (fun _ => 0)))]) hP hD [9] [0, 1, 2, 3, 4, 5, 6, 7, 8] rfl rfl (by decide) (by decide) hk1 hFc hP1 hD1
  generalize H1 = H at hP hS ⊢
  have hP : va_P D vwCl [(h0, .inr (5, [.ref qn1, .int 0, .int 0])), (qn1, .inl (cA 5, 10, .inr (.inr (.inr (.inr (va_up (va_up (va_up (va_up (va_up (va_up (va_up (va_up (fun _ => none) 0 (some qn3)) 1 (some qn11)) 2 (some qn19)) 3 (some qn27)) 4 (some qn35)) 5 (some qn43)) 6 (some qn51)) 7 (some qn59))))))), (qn3, .inr (4, [.ref h1, .ref qn4, .ref qn6, .ref qn7, .ref qn8, .ref qn9, .int 0, .int 0, .int 0, .long 0, .long 0, .long 0, .int 0, .int 0, .int 0, .int 0, .int 0, .int 0, .int 0, .int 0])), (qn4, .inr (6, [.ref qn5, .int 0, .int 0])), (qn5, .inl (cA 0, 240, .inl (fun _ => 0))), (qn6, .inl (cA 0, 10, .inl (fun _ => 0))), (qn7, .inl (cA 0, 10, .inl (fun _ => 0))), (qn8, .inl (cA 0, 10, .inl (fun _ => 0))), (qn9, .inl (cA 0, 10, .inl (fun _ => 0))), (qn67, .inr (4, [.ref h1, .ref qn68, .ref qn70, .ref qn71, .ref qn72, .ref qn73, .int 0, .int 0, .int 0, .long 0, .long 0, .long 0, .int 0, .int 0, .int 0, .int 0, .int 0, .int 0, .int 0, .int 0])), (qn68, .inr (6, [.ref qn69, .int 0, .int 0])), (qn69, .inl (cA 0, 240, .inl (fun _ => 0))), (qn70, .inl (cA 0, 10, .inl (fun _ => 0))), (qn71, .inl (cA 0, 10, .inl (fun _ => 0))), (qn72, .inl (cA 0, 10, .inl (fun _ => 0))), (qn73, .inl (cA 0, 10, .inl (fun _ => 0)))] H := hP
  have hD : va_D A [(h0, .inr (5, [.ref qn1, .int 0, .int 0])), (qn1, .inl (cA 5, 10, .inr (.inr (.inr (.inr (va_up (va_up (va_up (va_up (va_up (va_up (va_up (va_up (fun _ => none) 0 (some qn3)) 1 (some qn11)) 2 (some qn19)) 3 (some qn27)) 4 (some qn35)) 5 (some qn43)) 6 (some qn51)) 7 (some qn59))))))), (qn3, .inr (4, [.ref h1, .ref qn4, .ref qn6, .ref qn7, .ref qn8, .ref qn9, .int 0, .int 0, .int 0, .long 0, .long 0, .long 0, .int 0, .int 0, .int 0, .int 0, .int 0, .int 0, .int 0, .int 0])), (qn4, .inr (6, [.ref qn5, .int 0, .int 0])), (qn5, .inl (cA 0, 240, .inl (fun _ => 0))), (qn6, .inl (cA 0, 10, .inl (fun _ => 0))), (qn7, .inl (cA 0, 10, .inl (fun _ => 0))), (qn8, .inl (cA 0, 10, .inl (fun _ => 0))), (qn9, .inl (cA 0, 10, .inl (fun _ => 0))), (qn67, .inr (4, [.ref h1, .ref qn68, .ref qn70, .ref qn71, .ref qn72, .ref qn73, .int 0, .int 0, .int 0, .long 0, .long 0, .long 0, .int 0, .int 0, .int 0, .int 0, .int 0, .int 0, .int 0, .int 0])), (qn68, .inr (6, [.ref qn69, .int 0, .int 0])), (qn69, .inl (cA 0, 240, .inl (fun _ => 0))), (qn70, .inl (cA 0, 10, .inl (fun _ => 0))), (qn71, .inl (cA 0, 10, .inl (fun _ => 0))), (qn72, .inl (cA 0, 10, .inl (fun _ => 0))), (qn73, .inl (cA 0, 10, .inl (fun _ => 0)))] := hD
  refine va_astq (r := (RX0, TX0, 20)) hx hb hK hP hD hS 1 5 9 4 rfl rfl rfl rfl (vp_in_iff.mpr (by decide)) dX1_init_34 (fun H locs hP hD hS => ?_)
  have hP : va_P D vwCl [(h0, .inr (5, [.ref qn1, .int 0, .int 0])), (qn1, .inl (cA 5, 10, .inr (.inr (.inr (.inr (va_up (va_up (va_up (va_up (va_up (va_up (va_up (va_up (va_up (fun _ => none) 0 (some qn3)) 1 (some qn11)) 2 (some qn19)) 3 (some qn27)) 4 (some qn35)) 5 (some qn43)) 6 (some qn51)) 7 (some qn59)) 8 (some qn67))))))), (qn3, .inr (4, [.ref h1, .ref qn4, .ref qn6, .ref qn7, .ref qn8, .ref qn9, .int 0, .int 0, .int 0, .long 0, .long 0, .long 0, .int 0, .int 0, .int 0, .int 0, .int 0, .int 0, .int 0, .int 0])), (qn4, .inr (6, [.ref qn5, .int 0, .int 0])), (qn5, .inl (cA 0, 240, .inl (fun _ => 0))), (qn6, .inl (cA 0, 10, .inl (fun _ => 0))), (qn7, .inl (cA 0, 10, .inl (fun _ => 0))), (qn8, .inl (cA 0, 10, .inl (fun _ => 0))), (qn9, .inl (cA 0, 10, .inl (fun _ => 0))), (qn67, .inr (4, [.ref h1, .ref qn68, .ref qn70, .ref qn71, .ref qn72, .ref qn73, .int 0, .int 0, .int 0, .long 0, .long 0, .long 0, .int 0, .int 0, .int 0, .int 0, .int 0, .int 0, .int 0, .int 0])), (qn68, .inr (6, [.ref qn69, .int 0, .int 0])), (qn69, .inl (cA 0, 240, .inl (fun _ => 0))), (qn70, .inl (cA 0, 10, .inl (fun _ => 0))), (qn71, .inl (cA 0, 10, .inl (fun _ => 0))), (qn72, .inl (cA 0, 10, .inl (fun _ => 0))), (qn73, .inl (cA 0, 10, .inl (fun _ => 0)))] H := hP
  have hD : va_D A [(h0, .inr (5, [.ref qn1, .int 0, .int 0])), (qn1, .inl (cA 5, 10, .inr (.inr (.inr (.inr (va_up (va_up (va_up (va_up (va_up (va_up (va_up (va_up (va_up (fun _ => none) 0 (some qn3)) 1 (some qn11)) 2 (some qn19)) 3 (some qn27)) 4 (some qn35)) 5 (some qn43)) 6 (some qn51)) 7 (some qn59)) 8 (some qn67))))))), (qn3, .inr (4, [.ref h1, .ref qn4, .ref qn6, .ref qn7, .ref qn8, .ref qn9, .int 0, .int 0, .int 0, .long 0, .long 0, .long 0, .int 0, .int 0, .int 0, .int 0, .int 0, .int 0, .int 0, .int 0])), (qn4, .inr (6, [.ref qn5, .int 0, .int 0])), (qn5, .inl (cA 0, 240, .inl (fun _ => 0))), (qn6, .inl (cA 0, 10, .inl (fun _ => 0))), (qn7, .inl (cA 0, 10, .inl (fun _ => 0))), (qn8, .inl (cA 0, 10, .inl (fun _ => 0))), (qn9, .inl (cA 0, 10, .inl (fun _ => 0))), (qn67, .inr (4, [.ref h1, .ref qn68, .ref qn70, .ref qn71, .ref qn72, .ref qn73, .int 0, .int 0, .int 0, .long 0, .long 0, .long 0, .int 0, .int 0, .int 0, .int 0, .int 0, .int 0, .int 0, .int 0])), (qn68, .inr (6, [.ref qn69, .int 0, .int 0])), (qn69, .inl (cA 0, 240, .inl (fun _ => 0))), (qn70, .inl (cA 0, 10, .inl (fun _ => 0))), (qn71, .inl (cA 0, 10, .inl (fun _ => 0))), (qn72, .inl (cA 0, 10, .inl (fun _ => 0))), (qn73, .inl (cA 0, 10, .inl (fun _ => 0)))] := hD
  refine lv_iinc (v := 9) (lv' := [(2, .int 9), (0, .ref h0), (1, .ref h1)]) hx hb dX1_init_35 hl (k := 0) rfl (by first | rfl | decide +kernel) (by decide) rfl (fun ls hl => ?_)
  refine lv_goto (tgt := 15) hx hb dX1_init_38 (by decide) ?_
  have hP := hP.sub (ws' := [(h0, .inr (5, [.ref qn1, .int 0, .int 0])), (qn1, .inl (cA 5, 10, .inr (.inr (.inr (.inr (va_up (va_up (va_up (va_up (va_up (va_up (va_up (va_up (va_up (fun _ => none) 0 (some qn3)) 1 (some qn11)) 2 (some qn19)) 3 (some qn27)) 4 (some qn35)) 5 (some qn43)) 6 (some qn51)) 7 (some qn59)) 8 (some qn67))))))), (qn3, .inr (4, [.ref h1, .ref qn4, .ref qn6, .ref qn7, .ref qn8, .ref qn9, .int 0, .int 0, .int 0, .long 0, .long 0, .long 0, .int 0, .int 0, .int 0, .int 0, .int 0, .int 0, .int 0, .int 0])), (qn4, .inr (6, [.ref qn5, .int 0, .int 0])), (qn5, .inl (cA 0, 240, .inl (fun _ => 0))), (qn6, .inl (cA 0, 10, .inl (fun _ => 0))), (qn7, .inl (cA 0, 10, .inl (fun _ => 0))), (qn8, .inl (cA 0, 10, .inl (fun _ => 0))), (qn9, .inl (cA 0, 10, .inl (fun _ => 0)))]) [0, 1, 2, 3, 4, 5, 6, 7, 8] rfl
  have hD := hD.sub (ws' := [(h0, .inr (5, [.ref qn1, .int 0, .int 0])), (qn1, .inl (cA 5, 10, .inr (.inr (.inr (.inr (va_up (va_up (va_up (va_up (va_up (va_up (va_up (va_up (va_up (fun _ => none) 0 (some qn3)) 1 (some qn11)) 2 (some qn19)) 3 (some qn27)) 4 (some qn35)) 5 (some qn43)) 6 (some qn51)) 7 (some qn59)) 8 (some qn67))))))), (qn3, .inr (4, [.ref h1, .ref qn4, .ref qn6, .ref qn7, .ref qn8, .ref qn9, .int 0, .int 0, .int 0, .long 0, .long 0, .long 0, .int 0, .int 0, .int 0, .int 0, .int 0, .int 0, .int 0, .int 0])), (qn4, .inr (6, [.ref qn5, .int 0, .int 0])), (qn5, .inl (cA 0, 240, .inl (fun _ => 0))), (qn6, .inl (cA 0, 10, .inl (fun _ => 0))), (qn7, .inl (cA 0, 10, .inl (fun _ => 0))), (qn8, .inl (cA 0, 10, .inl (fun _ => 0))), (qn9, .inl (cA 0, 10, .inl (fun _ => 0)))]) [0, 1, 2, 3, 4, 5, 6, 7, 8] (by decide) rfl
  refine lv_iload_n hx hb dX1_init_15 rfl (lv_at hl 0 rfl) ?_
  refine lv_bipush (v := 10) hx hb dX1_init_16 (by decide) ?_
  refine lv_icmp_ge (tgt := 41) hx hb dX1_init_18 (by decide) (fun c9 => absurd c9 (by decide)) (fun c74 => ?_)
  refine lv_aload_n hx hb dX1_init_21 rfl (lv_at hl 1 rfl) ?_
  refine va_get (D := D) (ci := 5) (v := .ref qn1) (C := RX1) (T := TX1) (N := 3) hx hb hts inX1 hown hK hP 0 rfl rfl 0 (by decide) (hts (.fieldLink RX1 13 "EscrowDesk$History" "remembered" "[LEscrowDesk$Account;") (by decide +kernel)) (fun _ h9 => h9) rfl dX1_init_22 ?_
  refine lv_iload_n hx hb dX1_init_25 rfl (lv_at hl 0 rfl) ?_
  refine va_new (ci := 4) (fs := [.null, .null, .null, .null, .null, .null, .int 0, .int 0, .int 0, .long 0, .long 0, .long 0, .int 0, .int 0, .int 0, .int 0, .int 0, .int 0, .int 0, .int 0]) (C := RX0) (T := TX0) (N := 20) hx hb hts inX0 tyX0 tyX0_ok hown (hts (.classLink RX1 11 RX0) (by decide +kernel)) (hts (.instantiable RX0 20) (by decide +kernel)) (hts (.initialized RX0) (by decide +kernel)) hK hP hD hS hA rfl (by decide +kernel) (Nat.le_of_ble_eq_true rfl) (Nat.le_of_ble_eq_true rfl) dX1_init_26 (fun qn75 H hP hD hS => ?_)
  have hP : va_P D vwCl [(h0, .inr (5, [.ref qn1, .int 0, .int 0])), (qn1, .inl (cA 5, 10, .inr (.inr (.inr (.inr (va_up (va_up (va_up (va_up (va_up (va_up (va_up (va_up (va_up (fun _ => none) 0 (some qn3)) 1 (some qn11)) 2 (some qn19)) 3 (some qn27)) 4 (some qn35)) 5 (some qn43)) 6 (some qn51)) 7 (some qn59)) 8 (some qn67))))))), (qn3, .inr (4, [.ref h1, .ref qn4, .ref qn6, .ref qn7, .ref qn8, .ref qn9, .int 0, .int 0, .int 0, .long 0, .long 0, .long 0, .int 0, .int 0, .int 0, .int 0, .int 0, .int 0, .int 0, .int 0])), (qn4, .inr (6, [.ref qn5, .int 0, .int 0])), (qn5, .inl (cA 0, 240, .inl (fun _ => 0))), (qn6, .inl (cA 0, 10, .inl (fun _ => 0))), (qn7, .inl (cA 0, 10, .inl (fun _ => 0))), (qn8, .inl (cA 0, 10, .inl (fun _ => 0))), (qn9, .inl (cA 0, 10, .inl (fun _ => 0))), (qn75, .inr (4, [.null, .null, .null, .null, .null, .null, .int 0, .int 0, .int 0, .long 0, .long 0, .long 0, .int 0, .int 0, .int 0, .int 0, .int 0, .int 0, .int 0, .int 0]))] H := hP
  have hD : va_D A [(h0, .inr (5, [.ref qn1, .int 0, .int 0])), (qn1, .inl (cA 5, 10, .inr (.inr (.inr (.inr (va_up (va_up (va_up (va_up (va_up (va_up (va_up (va_up (va_up (fun _ => none) 0 (some qn3)) 1 (some qn11)) 2 (some qn19)) 3 (some qn27)) 4 (some qn35)) 5 (some qn43)) 6 (some qn51)) 7 (some qn59)) 8 (some qn67))))))), (qn3, .inr (4, [.ref h1, .ref qn4, .ref qn6, .ref qn7, .ref qn8, .ref qn9, .int 0, .int 0, .int 0, .long 0, .long 0, .long 0, .int 0, .int 0, .int 0, .int 0, .int 0, .int 0, .int 0, .int 0])), (qn4, .inr (6, [.ref qn5, .int 0, .int 0])), (qn5, .inl (cA 0, 240, .inl (fun _ => 0))), (qn6, .inl (cA 0, 10, .inl (fun _ => 0))), (qn7, .inl (cA 0, 10, .inl (fun _ => 0))), (qn8, .inl (cA 0, 10, .inl (fun _ => 0))), (qn9, .inl (cA 0, 10, .inl (fun _ => 0))), (qn75, .inr (4, [.null, .null, .null, .null, .null, .null, .int 0, .int 0, .int 0, .long 0, .long 0, .long 0, .int 0, .int 0, .int 0, .int 0, .int 0, .int 0, .int 0, .int 0]))] := hD
  refine lv_dup hx hb dX1_init_29 rfl ?_
  refine lv_aload_n hx hb dX1_init_30 rfl (lv_at hl 2 rfl) ?_
  have hPc := hP.sub (ws' := [(qn75, .inr (4, [.null, .null, .null, .null, .null, .null, .int 0, .int 0, .int 0, .long 0, .long 0, .long 0, .int 0, .int 0, .int 0, .int 0, .int 0, .int 0, .int 0, .int 0]))]) [9] rfl
  have hDc := hD.sub (ws' := [(qn75, .inr (4, [.null, .null, .null, .null, .null, .null, .int 0, .int 0, .int 0, .long 0, .long 0, .long 0, .int 0, .int 0, .int 0, .int 0, .int 0, .int 0, .int 0, .int 0]))]) [9] (by decide) rfl
  have hFc := va_free (wc := [(qn75, .inr (4, [.null, .null, .null, .null, .null, .null, .int 0, .int 0, .int 0, .long 0, .long 0, .long 0, .int 0, .int 0, .int 0, .int 0, .int 0, .int 0, .int 0, .int 0]))]) hD hS hA [9] rfl
  refine va_callv (va_runI (As := [.ref h1]) (rest := [.ref qn75, .int 9, .ref qn1]) ⟨hx, hb, hml, hown, hts⟩ (c_X0_init l D cA sa qn75 h1 H.size) (cwI 1 hts gX1_init_X0_init rfl rfl rfl (hts (.initialized RX0) (by decide +kernel)) (hts (.methodLink RX1 17 yX0_init) (by decide +kernel)) (hts (.instanceMethod yX0_init) (by decide +kernel)) rfl (by decide +kernel) ⟨(Nat.le_of_ble_eq_true rfl), (Nat.le_of_ble_eq_true rfl)⟩) ⟨Wd.blind, fun U hU hW => ⟨rfl, Wd.call hPc hDc hK hC hZ hS hFc U hU hW⟩⟩ rfl rfl hl.1 rfl (lv_room (Nat.le_of_ble_eq_true rfl)) dX1_init_31 ⟨(Nat.le_of_ble_eq_true rfl), (Nat.le_of_ble_eq_true rfl)⟩) hS (fun q _ h => hFc q h) hFc (fun u t H1 locs ht hvm hw hB hz1 hk1 hS => ?_)
  obtain ⟨qn76, qn77, qn78, qn79, qn80, qn81, hP1, hD1⟩ := hB
  rw [ht] at hP1
  obtain ⟨hP, hD⟩ := va_join (wr := [(h0, .inr (5, [.ref qn1, .int 0, .int 0])), (qn1, .inl (cA 5, 10, .inr (.inr (.inr (.inr (va_up (va_up (va_up (va_up (va_up (va_up (va_up (va_up (va_up (fun _ => none) 0 (some qn3)) 1 (some qn11)) 2 (some qn19)) 3 (some qn27)) 4 (some qn35)) 5 (some qn43)) 6 (some qn51)) 7 (some qn59)) 8 (some qn67))))))), (qn3, .inr (4, [.ref h1, .ref qn4, .ref qn6, .ref qn7, .ref qn8, .ref qn9, .int 0, .int 0, .int 0, .long 0, .long 0, .long 0, .int 0, .int 0, .int 0, .int 0, .int 0, .int 0, .int 0, .int 0])), (qn4, .inr (6, [.ref qn5, .int 0, .int 0])), (qn5, .inl (cA 0, 240, .inl (fun _ => 0))), (qn6, .inl (cA 0, 10, .inl (fun _ => 0))), (qn7, .inl (cA 0, 10, .inl (fun _ => 0))), (qn8, .inl (cA 0, 10, .inl (fun _ => 0))), (qn9, .inl (cA 0, 10, .inl (fun _ => 0)))]) (w1 := [(qn75, .inr (4, [.ref h1, .ref qn76, .ref qn78, .ref qn79, .ref qn80, .ref qn81, .int 0, .int 0, .int 0, .long 0, .long 0, .long 0, .int 0, .int 0, .int 0, .int 0, .int 0, .int 0, .int 0, .int 0])), (qn76, .inr (6, [.ref qn77, .int 0, .int 0])), (qn77, .inl (cA 0, 240, .inl (fun _ => 0))), (qn78, .inl (cA 0, 10, .inl (fun _ => 0))), (qn79, .inl (cA 0, 10, .inl (fun _ => 0))), (qn80, .inl (cA 0, 10, .inl (fun _ => 0))), (qn81, .inl (cA 0, 10, .inl (fun _ => 0)))]) hP hD [9] [0, 1, 2, 3, 4, 5, 6, 7, 8] rfl rfl (by decide) (by decide) hk1 hFc hP1 hD1
  generalize H1 = H at hP hS ⊢
  have hP : va_P D vwCl [(h0, .inr (5, [.ref qn1, .int 0, .int 0])), (qn1, .inl (cA 5, 10, .inr (.inr (.inr (.inr (va_up (va_up (va_up (va_up (va_up (va_up (va_up (va_up (va_up (fun _ => none) 0 (some qn3)) 1 (some qn11)) 2 (some qn19)) 3 (some qn27)) 4 (some qn35)) 5 (some qn43)) 6 (some qn51)) 7 (some qn59)) 8 (some qn67))))))), (qn3, .inr (4, [.ref h1, .ref qn4, .ref qn6, .ref qn7, .ref qn8, .ref qn9, .int 0, .int 0, .int 0, .long 0, .long 0, .long 0, .int 0, .int 0, .int 0, .int 0, .int 0, .int 0, .int 0, .int 0])), (qn4, .inr (6, [.ref qn5, .int 0, .int 0])), (qn5, .inl (cA 0, 240, .inl (fun _ => 0))), (qn6, .inl (cA 0, 10, .inl (fun _ => 0))), (qn7, .inl (cA 0, 10, .inl (fun _ => 0))), (qn8, .inl (cA 0, 10, .inl (fun _ => 0))), (qn9, .inl (cA 0, 10, .inl (fun _ => 0))), (qn75, .inr (4, [.ref h1, .ref qn76, .ref qn78, .ref qn79, .ref qn80, .ref qn81, .int 0, .int 0, .int 0, .long 0, .long 0, .long 0, .int 0, .int 0, .int 0, .int 0, .int 0, .int 0, .int 0, .int 0])), (qn76, .inr (6, [.ref qn77, .int 0, .int 0])), (qn77, .inl (cA 0, 240, .inl (fun _ => 0))), (qn78, .inl (cA 0, 10, .inl (fun _ => 0))), (qn79, .inl (cA 0, 10, .inl (fun _ => 0))), (qn80, .inl (cA 0, 10, .inl (fun _ => 0))), (qn81, .inl (cA 0, 10, .inl (fun _ => 0)))] H := hP
  have hD : va_D A [(h0, .inr (5, [.ref qn1, .int 0, .int 0])), (qn1, .inl (cA 5, 10, .inr (.inr (.inr (.inr (va_up (va_up (va_up (va_up (va_up (va_up (va_up (va_up (va_up (fun _ => none) 0 (some qn3)) 1 (some qn11)) 2 (some qn19)) 3 (some qn27)) 4 (some qn35)) 5 (some qn43)) 6 (some qn51)) 7 (some qn59)) 8 (some qn67))))))), (qn3, .inr (4, [.ref h1, .ref qn4, .ref qn6, .ref qn7, .ref qn8, .ref qn9, .int 0, .int 0, .int 0, .long 0, .long 0, .long 0, .int 0, .int 0, .int 0, .int 0, .int 0, .int 0, .int 0, .int 0])), (qn4, .inr (6, [.ref qn5, .int 0, .int 0])), (qn5, .inl (cA 0, 240, .inl (fun _ => 0))), (qn6, .inl (cA 0, 10, .inl (fun _ => 0))), (qn7, .inl (cA 0, 10, .inl (fun _ => 0))), (qn8, .inl (cA 0, 10, .inl (fun _ => 0))), (qn9, .inl (cA 0, 10, .inl (fun _ => 0))), (qn75, .inr (4, [.ref h1, .ref qn76, .ref qn78, .ref qn79, .ref qn80, .ref qn81, .int 0, .int 0, .int 0, .long 0, .long 0, .long 0, .int 0, .int 0, .int 0, .int 0, .int 0, .int 0, .int 0, .int 0])), (qn76, .inr (6, [.ref qn77, .int 0, .int 0])), (qn77, .inl (cA 0, 240, .inl (fun _ => 0))), (qn78, .inl (cA 0, 10, .inl (fun _ => 0))), (qn79, .inl (cA 0, 10, .inl (fun _ => 0))), (qn80, .inl (cA 0, 10, .inl (fun _ => 0))), (qn81, .inl (cA 0, 10, .inl (fun _ => 0)))] := hD
  refine va_astq (r := (RX0, TX0, 20)) hx hb hK hP hD hS 1 5 9 4 rfl rfl rfl rfl (vp_in_iff.mpr (by decide)) dX1_init_34 (fun H locs hP hD hS => ?_)
  have hP : va_P D vwCl [(h0, .inr (5, [.ref qn1, .int 0, .int 0])), (qn1, .inl (cA 5, 10, .inr (.inr (.inr (.inr (va_up (va_up (va_up (va_up (va_up (va_up (va_up (va_up (va_up (va_up (fun _ => none) 0 (some qn3)) 1 (some qn11)) 2 (some qn19)) 3 (some qn27)) 4 (some qn35)) 5 (some qn43)) 6 (some qn51)) 7 (some qn59)) 8 (some qn67)) 9 (some qn75))))))), (qn3, .inr (4, [.ref h1, .ref qn4, .ref qn6, .ref qn7, .ref qn8, .ref qn9, .int 0, .int 0, .int 0, .long 0, .long 0, .long 0, .int 0, .int 0, .int 0, .int 0, .int 0, .int 0, .int 0, .int 0])), (qn4, .inr (6, [.ref qn5, .int 0, .int 0])), (qn5, .inl (cA 0, 240, .inl (fun _ => 0))), (qn6, .inl (cA 0, 10, .inl (fun _ => 0))), (qn7, .inl (cA 0, 10, .inl (fun _ => 0))), (qn8, .inl (cA 0, 10, .inl (fun _ => 0))), (qn9, .inl (cA 0, 10, .inl (fun _ => 0))), (qn75, .inr (4, [.ref h1, .ref qn76, .ref qn78, .ref qn79, .ref qn80, .ref qn81, .int 0, .int 0, .int 0, .long 0, .long 0, .long 0, .int 0, .int 0, .int 0, .int 0, .int 0, .int 0, .int 0, .int 0])), (qn76, .inr (6, [.ref qn77, .int 0, .int 0])), (qn77, .inl (cA 0, 240, .inl (fun _ => 0))), (qn78, .inl (cA 0, 10, .inl (fun _ => 0))), (qn79, .inl (cA 0, 10, .inl (fun _ => 0))), (qn80, .inl (cA 0, 10, .inl (fun _ => 0))), (qn81, .inl (cA 0, 10, .inl (fun _ => 0)))] H := hP
  have hD : va_D A [(h0, .inr (5, [.ref qn1, .int 0, .int 0])), (qn1, .inl (cA 5, 10, .inr (.inr (.inr (.inr (va_up (va_up (va_up (va_up (va_up (va_up (va_up (va_up (va_up (va_up (fun _ => none) 0 (some qn3)) 1 (some qn11)) 2 (some qn19)) 3 (some qn27)) 4 (some qn35)) 5 (some qn43)) 6 (some qn51)) 7 (some qn59)) 8 (some qn67)) 9 (some qn75))))))), (qn3, .inr (4, [.ref h1, .ref qn4, .ref qn6, .ref qn7, .ref qn8, .ref qn9, .int 0, .int 0, .int 0, .long 0, .long 0, .long 0, .int 0, .int 0, .int 0, .int 0, .int 0, .int 0, .int 0, .int 0])), (qn4, .inr (6, [.ref qn5, .int 0, .int 0])), (qn5, .inl (cA 0, 240, .inl (fun _ => 0))), (qn6, .inl (cA 0, 10, .inl (fun _ => 0))), (qn7, .inl (cA 0, 10, .inl (fun _ => 0))), (qn8, .inl (cA 0, 10, .inl (fun _ => 0))), (qn9, .inl (cA 0, 10, .inl (fun _ => 0))), (qn75, .inr (4, [.ref h1, .ref qn76, .ref qn78, .ref qn79, .ref qn80, .ref qn81, .int 0, .int 0, .int 0, .long 0, .long 0, .long 0, .int 0, .int 0, .int 0, .int 0, .int 0, .int 0, .int 0, .int 0])), (qn76, .inr (6, [.ref qn77, .int 0, .int 0])), (qn77, .inl (cA 0, 240, .inl (fun _ => 0))), (qn78, .inl (cA 0, 10, .inl (fun _ => 0))), (qn79, .inl (cA 0, 10, .inl (fun _ => 0))), (qn80, .inl (cA 0, 10, .inl (fun _ => 0))), (qn81, .inl (cA 0, 10, .inl (fun _ => 0)))] := hD
  refine lv_iinc (v := 10) (lv' := [(2, .int 10), (0, .ref h0), (1, .ref h1)]) hx hb dX1_init_35 hl (k := 0) rfl (by first | rfl | decide +kernel) (by decide) rfl (fun ls hl => ?_)
  refine lv_goto (tgt := 15) hx hb dX1_init_38 (by decide) ?_
  have hP := hP.sub (ws' := [(h0, .inr (5, [.ref qn1, .int 0, .int 0])), (qn1, .inl (cA 5, 10, .inr (.inr (.inr (.inr (va_up (va_up (va_up (va_up (va_up (va_up (va_up (va_up (va_up (va_up (fun _ => none) 0 (some qn3)) 1 (some qn11)) 2 (some qn19)) 3 (some qn27)) 4 (some qn35)) 5 (some qn43)) 6 (some qn51)) 7 (some qn59)) 8 (some qn67)) 9 (some qn75))))))), (qn3, .inr (4, [.ref h1, .ref qn4, .ref qn6, .ref qn7, .ref qn8, .ref qn9, .int 0, .int 0, .int 0, .long 0, .long 0, .long 0, .int 0, .int 0, .int 0, .int 0, .int 0, .int 0, .int 0, .int 0])), (qn4, .inr (6, [.ref qn5, .int 0, .int 0])), (qn5, .inl (cA 0, 240, .inl (fun _ => 0))), (qn6, .inl (cA 0, 10, .inl (fun _ => 0))), (qn7, .inl (cA 0, 10, .inl (fun _ => 0))), (qn8, .inl (cA 0, 10, .inl (fun _ => 0))), (qn9, .inl (cA 0, 10, .inl (fun _ => 0)))]) [0, 1, 2, 3, 4, 5, 6, 7, 8] rfl
  have hD := hD.sub (ws' := [(h0, .inr (5, [.ref qn1, .int 0, .int 0])), (qn1, .inl (cA 5, 10, .inr (.inr (.inr (.inr (va_up (va_up (va_up (va_up (va_up (va_up (va_up (va_up (va_up (va_up (fun _ => none) 0 (some qn3)) 1 (some qn11)) 2 (some qn19)) 3 (some qn27)) 4 (some qn35)) 5 (some qn43)) 6 (some qn51)) 7 (some qn59)) 8 (some qn67)) 9 (some qn75))))))), (qn3, .inr (4, [.ref h1, .ref qn4, .ref qn6, .ref qn7, .ref qn8, .ref qn9, .int 0, .int 0, .int 0, .long 0, .long 0, .long 0, .int 0, .int 0, .int 0, .int 0, .int 0, .int 0, .int 0, .int 0])), (qn4, .inr (6, [.ref qn5, .int 0, .int 0])), (qn5, .inl (cA 0, 240, .inl (fun _ => 0))), (qn6, .inl (cA 0, 10, .inl (fun _ => 0))), (qn7, .inl (cA 0, 10, .inl (fun _ => 0))), (qn8, .inl (cA 0, 10, .inl (fun _ => 0))), (qn9, .inl (cA 0, 10, .inl (fun _ => 0)))]) [0, 1, 2, 3, 4, 5, 6, 7, 8] (by decide) rfl
  refine lv_iload_n hx hb dX1_init_15 rfl (lv_at hl 0 rfl) ?_
  refine lv_bipush (v := 10) hx hb dX1_init_16 (by decide) ?_
  refine lv_icmp_ge (tgt := 41) hx hb dX1_init_18 (by decide) (fun c82 => ?_) (fun c9 => absurd c9 (by decide))
  have hP9 := hP.sub (ws' := [(h0, .inr (5, [.ref qn1, .int 0, .int 0])), (qn1, .inl (cA 5, 10, .inr (.inr (.inr (.inr (va_up (va_up (va_up (va_up (va_up (va_up (va_up (va_up (va_up (va_up (fun _ => none) 0 (some qn3)) 1 (some qn11)) 2 (some qn19)) 3 (some qn27)) 4 (some qn35)) 5 (some qn43)) 6 (some qn51)) 7 (some qn59)) 8 (some qn67)) 9 (some qn75))))))), (qn3, .inr (4, [.ref h1, .ref qn4, .ref qn6, .ref qn7, .ref qn8, .ref qn9, .int 0, .int 0, .int 0, .long 0, .long 0, .long 0, .int 0, .int 0, .int 0, .int 0, .int 0, .int 0, .int 0, .int 0])), (qn4, .inr (6, [.ref qn5, .int 0, .int 0])), (qn5, .inl (cA 0, 240, .inl (fun _ => 0))), (qn6, .inl (cA 0, 10, .inl (fun _ => 0))), (qn7, .inl (cA 0, 10, .inl (fun _ => 0))), (qn8, .inl (cA 0, 10, .inl (fun _ => 0))), (qn9, .inl (cA 0, 10, .inl (fun _ => 0)))]) [0, 1, 2, 3, 4, 5, 6, 7, 8] rfl
  have hD9 := hD.sub (ws' := [(h0, .inr (5, [.ref qn1, .int 0, .int 0])), (qn1, .inl (cA 5, 10, .inr (.inr (.inr (.inr (va_up (va_up (va_up (va_up (va_up (va_up (va_up (va_up (va_up (va_up (fun _ => none) 0 (some qn3)) 1 (some qn11)) 2 (some qn19)) 3 (some qn27)) 4 (some qn35)) 5 (some qn43)) 6 (some qn51)) 7 (some qn59)) 8 (some qn67)) 9 (some qn75))))))), (qn3, .inr (4, [.ref h1, .ref qn4, .ref qn6, .ref qn7, .ref qn8, .ref qn9, .int 0, .int 0, .int 0, .long 0, .long 0, .long 0, .int 0, .int 0, .int 0, .int 0, .int 0, .int 0, .int 0, .int 0])), (qn4, .inr (6, [.ref qn5, .int 0, .int 0])), (qn5, .inl (cA 0, 240, .inl (fun _ => 0))), (qn6, .inl (cA 0, 10, .inl (fun _ => 0))), (qn7, .inl (cA 0, 10, .inl (fun _ => 0))), (qn8, .inl (cA 0, 10, .inl (fun _ => 0))), (qn9, .inl (cA 0, 10, .inl (fun _ => 0)))]) [0, 1, 2, 3, 4, 5, 6, 7, 8] (by decide) rfl
  refine W.widen (k := 71) (n := 3040) (Nat.le_of_ble_eq_true rfl) (Nat.le_of_ble_eq_true rfl) ?_
  exact W.vret hx hb hr (fun t ht hW => ⟨⟨(), rfl, trivial, qn1, qn3, qn4, qn5, qn6, qn7, qn8, qn9, qn11, qn19, qn27, qn35, qn43, qn51, qn59, qn67, qn75, by rw [ht]; exact hP9, hD9⟩, hS.F ht⟩) hS.2.2 dX1_init_41

set_option maxHeartbeats 4000000 in
set_option maxRecDepth 100000 in
/-- EscrowDesk() -/
theorem c_X9_init (l : Launch) (D : va_G) (cA : Nat → ClassId) (sa : Nat → Nat) (h0 : Nat) (sz : Nat) : Met l yX9_init wsX9_init ({ frames := 4, cells := 114, slots := 8047, locals := 83 }) (va_Pc [.ref h0] (Wd D cA sa [(h0, .inr (10, [.null, .int 0, .null, .null, .null, .null, .null, .null, .null]))] sz)) (va_Qv (fun _ : Unit => True) (fun (_ : Unit) t => ∃ qn1 : Nat, ∃ qn2 : Nat, ∃ qn3 : Nat, ∃ qn4 : Nat, ∃ qn5 : Nat, ∃ qn6 : Nat, ∃ qn7 : Nat, ∃ qn8 : Nat, ∃ qn9 : Nat, ∃ qn10 : Nat, ∃ qn11 : Nat, ∃ qn12 : Nat, ∃ qn13 : Nat, ∃ qn14 : Nat, ∃ qn15 : Nat, ∃ qn16 : Nat, ∃ qn17 : Nat, ∃ qn18 : Nat, ∃ qn19 : Nat, ∃ qn20 : Nat, ∃ qn21 : Nat, ∃ qn22 : Nat, ∃ qn23 : Nat, ∃ qn24 : Nat, ∃ qn25 : Nat, ∃ qn26 : Nat, ∃ qn27 : Nat, ∃ qn28 : Nat, ∃ qn29 : Nat, ∃ qn30 : Nat, ∃ qn31 : Nat, ∃ qn32 : Nat, ∃ qn33 : Nat, ∃ qn34 : Nat, ∃ qn35 : Nat, ∃ qn36 : Nat, ∃ qn37 : Nat, ∃ qn38 : Nat, ∃ qn39 : Nat, ∃ qn40 : Nat, ∃ qn41 : Nat, ∃ qn42 : Nat, ∃ qn43 : Nat, ∃ qn44 : Nat, ∃ qn45 : Nat, ∃ qn46 : Nat, ∃ qn47 : Nat, ∃ qn48 : Nat, ∃ qn49 : Nat, ∃ qn50 : Nat, ∃ qn51 : Nat, ∃ qn52 : Nat, ∃ qn53 : Nat, ∃ qn54 : Nat, ∃ qn55 : Nat, ∃ qn56 : Nat, ∃ qn57 : Nat, ∃ qn58 : Nat, ∃ qn59 : Nat, ∃ qn60 : Nat, ∃ fn61 : Nat → Int32, ∃ fn62 : Nat → Int32, ∃ fn63 : Nat → Int32, ∃ fn64 : Nat → Int32, Wq D (va_A [(h0, .inr (10, [.null, .int 0, .null, .null, .null, .null, .null, .null, .null]))] sz) [(h0, .inr (10, [.ref qn1, .int 0, .ref qn2, .ref qn12, .ref qn22, .ref qn27, .ref qn34, .ref qn41, .ref qn59])), (qn1, .inl (cA 2, 700, .inl (fun _ => 0))), (qn2, .inr (7, [.int 0, .int 365, .int 0, .int 0, .ref qn3, .int 0, .ref qn4, .ref qn5, .ref qn6, .ref qn7, .int 0, .ref qn8, .int 0, .ref qn9, .ref qn10, .ref qn11, .int 0])), (qn12, .inr (7, [.int 0, .int 365, .int 0, .int 0, .ref qn13, .int 0, .ref qn14, .ref qn15, .ref qn16, .ref qn17, .int 0, .ref qn18, .int 0, .ref qn19, .ref qn20, .ref qn21, .int 0])), (qn22, .inr (8, [.ref qn23, .ref qn12, .int 0, .int 0, .int 0, .long 0, .int 0, .int 0, .int (-1)])), (qn23, .inr (9, [.ref qn24, .ref qn25, .ref qn26, .int 0])), (qn24, .inl (cA 0, 701, .inl (fun _ => 0))), (qn25, .inl (cA 0, 701, .inl (fun _ => 0))), (qn26, .inl (cA 1, 701, .inr (.inl (fun _ => 0)))), (qn27, .inr (4, [.ref qn2, .ref qn28, .ref qn30, .ref qn31, .ref qn32, .ref qn33, .int 0, .int 0, .int 0, .long 0, .long 0, .long 0, .int 0, .int 0, .int 0, .int 0, .int 365, .int 0, .int 0, .int 0])), (qn28, .inr (6, [.ref qn29, .int 0, .int 0])), (qn29, .inl (cA 0, 240, .inl (fun _ => 0))), (qn30, .inl (cA 0, 10, .inl fn61)), (qn31, .inl (cA 0, 10, .inl fn62)), (qn32, .inl (cA 0, 10, .inl fn63)), (qn33, .inl (cA 0, 10, .inl fn64)), (qn34, .inr (4, [.ref qn2, .ref qn35, .ref qn37, .ref qn38, .ref qn39, .ref qn40, .int 0, .int 0, .int 0, .long 0, .long 0, .long 0, .int 0, .int 0, .int 0, .int 0, .int 0, .int 0, .int 0, .int 0])), (qn35, .inr (6, [.ref qn36, .int 0, .int 0])), (qn36, .inl (cA 0, 240, .inl (fun _ => 0))), (qn37, .inl (cA 0, 10, .inl (fun _ => 0))), (qn38, .inl (cA 0, 10, .inl (fun _ => 0))), (qn39, .inl (cA 0, 10, .inl (fun _ => 0))), (qn40, .inl (cA 0, 10, .inl (fun _ => 0))), (qn41, .inr (5, [.ref qn42, .int 0, .int 0])), (qn42, .inl (cA 5, 10, .inr (.inr (.inr (.inr (va_up (va_up (va_up (va_up (va_up (va_up (va_up (va_up (va_up (va_up (fun _ => none) 0 (some qn43)) 1 (some qn50)) 2 (some qn51)) 3 (some qn52)) 4 (some qn53)) 5 (some qn54)) 6 (some qn55)) 7 (some qn56)) 8 (some qn57)) 9 (some qn58))))))), (qn43, .inr (4, [.ref qn2, .ref qn44, .ref qn46, .ref qn47, .ref qn48, .ref qn49, .int 0, .int 0, .int 0, .long 0, .long 0, .long 0, .int 0, .int 0, .int 0, .int 0, .int 0, .int 0, .int 0, .int 0])), (qn44, .inr (6, [.ref qn45, .int 0, .int 0])), (qn45, .inl (cA 0, 240, .inl (fun _ => 0))), (qn46, .inl (cA 0, 10, .inl (fun _ => 0))), (qn47, .inl (cA 0, 10, .inl (fun _ => 0))), (qn48, .inl (cA 0, 10, .inl (fun _ => 0))), (qn49, .inl (cA 0, 10, .inl (fun _ => 0))), (qn59, .inr (1, [.ref qn60, .int 0, .int 0, .int 0]))] t) (va_A [(h0, .inr (10, [.null, .int 0, .null, .null, .null, .null, .null, .null, .null]))] sz)) 114 8047 (va_A [(h0, .inr (10, [.null, .int 0, .null, .null, .null, .null, .null, .null, .null]))] sz) := by
  refine Met.ofW (cc := cX9_init) (maxL := 1) (ret := none) (by decide) rfl ?_
  intro p e s m args below meth c s₁ B hml hv
  obtain ⟨rfl, hsz, hP, hK, hD0, hC, hZ⟩ := hv
  have hx := B.exec
  have hb := B.bytes
  have hr := B.returns
  have hts := atoms_spec (ws := wsX9_init) B.pre
  have hown : s.vm.findClass RX9 = some m.cls := findClass_of_methodNamed B.named
  have hlocks := B.notSynchronized
  have hin : meth.name = "<init>" := (name_of_methodNamed B.named B.method).1
  subst hsz
  have hD := hD0.self (sz := s.heap.size)
  generalize hAe : va_A [(h0, .inr (10, [.null, .int 0, .null, .null, .null, .null, .null, .null, .null]))] s.heap.size = A at hD hZ ⊢
  have hA : ∀ q : Nat, s.heap.size ≤ q → A q := fun q h => by rw [← hAe]; exact Or.inr h
  have hS : va_S A s.heap s.heap [] := va_S.rf
  have hP : va_P D vwCl [(h0, .inr (10, [.null, .int 0, .null, .null, .null, .null, .null, .null, .null]))] s.heap := hP
  have hl := lv_entry ([.ref h0]) (n := 1) (Nat.le_of_ble_eq_true rfl)
  rw [lg_entry_eq]
  generalize (lg_sl ([.ref h0]) ++ List.replicate (1 - (lg_sl ([.ref h0])).length) Slot.unset).toArray = ls at hl ⊢
  have hl : lv_has ls 1 [(0, .ref h0)] := hl
  have inJ4 : ∀ w ∈ u_ws RJ4 TJ4 4, w ∈ wsX9_init := by decide +kernel
  have inX0 : ∀ w ∈ u_ws RX0 TX0 20, w ∈ wsX9_init := by decide +kernel
  have inX1 : ∀ w ∈ u_ws RX1 TX1 3, w ∈ wsX9_init := by decide +kernel
  have inX3 : ∀ w ∈ u_ws RX3 TX3 17, w ∈ wsX9_init := by decide +kernel
  have inX4 : ∀ w ∈ u_ws RX4 TX4 9, w ∈ wsX9_init := by decide +kernel
  have inX9 : ∀ w ∈ u_ws RX9 TX9 9, w ∈ wsX9_init := by decide +kernel
  refine lv_aload_n hx hb dX9_init_0 rfl (lv_at hl 0 rfl) ?_
  refine W.objInit hx hb hown (hts (.methodLink RX9 1 objectInit) (by decide +kernel)) (hts (.instanceMethod objectInit) (by decide +kernel)) (hts (.code objectInit ⟨#[0xb1]⟩ 1 none) (by decide +kernel)) rfl (by rw [hml]; exact hl.1) rfl dX9_init_1 (Nat.le_of_ble_eq_true rfl) (Nat.le_of_ble_eq_true rfl) ?_
  refine W.eq (g2 := F0 m 4 ls []) rfl ?_
  refine lv_aload_n hx hb dX9_init_4 rfl (lv_at hl 0 rfl) ?_
  refine lv_sipush (v := 700) hx hb dX9_init_5 (by decide) ?_
  refine va_newa (atype := .char) (ty := .char) (N' := 700) (a0 := (700, .inl (fun _ => 0))) hx hb (hts (.arrayClass .char) (by decide +kernel)) rfl hK hP hD hS hA (fun _ => rfl) (by decide) (by decide +kernel) (Nat.le_of_ble_eq_true rfl) (Nat.le_of_ble_eq_true rfl) (Nat.le_of_ble_eq_true rfl) dX9_init_8 (fun qn1 c9 H hK9 hP hD hS => ?_)
  obtain rfl : c9 = cA 2 := ty_one hK9 2 rfl
  have hP : va_P D vwCl [(h0, .inr (10, [.null, .int 0, .null, .null, .null, .null, .null, .null, .null])), (qn1, .inl (cA 2, 700, .inl (fun _ => 0)))] H := hP
  have hD : va_D A [(h0, .inr (10, [.null, .int 0, .null, .null, .null, .null, .null, .null, .null])), (qn1, .inl (cA 2, 700, .inl (fun _ => 0)))] := hD
  refine va_putF (D := D) (ci := 10) (v := .ref qn1) (ty := (.array .char)) (C := RX9) (T := TX9) (N := 9) hx hb hts inX9 tyX9 tyX9_ok nmX9 hown hK hP hD hS 0 rfl rfl 0 (by decide) (hts (.fieldLink RX9 9 "EscrowDesk" "buffer" "[C") (by decide +kernel)) (fun _ h9 => h9) rfl hin rfl (by decide +kernel) rfl rfl (Nat.le_of_ble_eq_true rfl) dX9_init_10 (fun H locs hP hD hS => ?_)
  have hP : va_P D vwCl [(h0, .inr (10, [.ref qn1, .int 0, .null, .null, .null, .null, .null, .null, .null])), (qn1, .inl (cA 2, 700, .inl (fun _ => 0)))] H := hP
  have hD : va_D A [(h0, .inr (10, [.ref qn1, .int 0, .null, .null, .null, .null, .null, .null, .null])), (qn1, .inl (cA 2, 700, .inl (fun _ => 0)))] := hD
  refine lv_aload_n hx hb dX9_init_13 rfl (lv_at hl 0 rfl) ?_
  refine va_new (ci := 7) (fs := [.int 0, .int 0, .int 0, .int 0, .null, .int 0, .null, .null, .null, .null, .int 0, .null, .int 0, .null, .null, .null, .int 0]) (C := RX3) (T := TX3) (N := 17) hx hb hts inX3 tyX3 tyX3_ok hown (hts (.classLink RX9 13 RX3) (by decide +kernel)) (hts (.instantiable RX3 17) (by decide +kernel)) (hts (.initialized RX3) (by decide +kernel)) hK hP hD hS hA rfl (by decide +kernel) (Nat.le_of_ble_eq_true rfl) (Nat.le_of_ble_eq_true rfl) dX9_init_14 (fun qn2 H hP hD hS => ?_)
  have hP : va_P D vwCl [(h0, .inr (10, [.ref qn1, .int 0, .null, .null, .null, .null, .null, .null, .null])), (qn1, .inl (cA 2, 700, .inl (fun _ => 0))), (qn2, .inr (7, [.int 0, .int 0, .int 0, .int 0, .null, .int 0, .null, .null, .null, .null, .int 0, .null, .int 0, .null, .null, .null, .int 0]))] H := hP
  have hD : va_D A [(h0, .inr (10, [.ref qn1, .int 0, .null, .null, .null, .null, .null, .null, .null])), (qn1, .inl (cA 2, 700, .inl (fun _ => 0))), (qn2, .inr (7, [.int 0, .int 0, .int 0, .int 0, .null, .int 0, .null, .null, .null, .null, .int 0, .null, .int 0, .null, .null, .null, .int 0]))] := hD
  refine lv_dup hx hb dX9_init_17 rfl ?_
  have hPc := hP.sub (ws' := [(qn2, .inr (7, [.int 0, .int 0, .int 0, .int 0, .null, .int 0, .null, .null, .null, .null, .int 0, .null, .int 0, .null, .null, .null, .int 0]))]) [2] rfl
  have hDc := hD.sub (ws' := [(qn2, .inr (7, [.int 0, .int 0, .int 0, .int 0, .null, .int 0, .null, .null, .null, .null, .int 0, .null, .int 0, .null, .null, .null, .int 0]))]) [2] (by decide) rfl
  have hFc := va_free (wc := [(qn2, .inr (7, [.int 0, .int 0, .int 0, .int 0, .null, .int 0, .null, .null, .null, .null, .int 0, .null, .int 0, .null, .null, .null, .int 0]))]) hD hS hA [2] rfl
  refine va_callv (va_runIN (As := []) (rest := [.ref qn2, .ref h0]) ⟨hx, hb, hml, hown, hts⟩ (c_X3_init l D cA sa qn2 H.size) ⟨va_cnB (host := "EscrowDesk") 0 hts gX9_init_X3_init_n15 rfl rfl rfl (hC.m (by decide +kernel)) (hts (.initialized RX3) (by decide +kernel)) (by decide +kernel) ⟨(Nat.le_of_ble_eq_true rfl), (Nat.le_of_ble_eq_true rfl)⟩, rfl, hts (.instanceMethod yX3_init) (by decide +kernel)⟩ ⟨Wd.blind, fun U hU hW => ⟨rfl, Wd.call hPc hDc hK hC hZ hS hFc U hU hW⟩⟩ rfl rfl hl.1 rfl (lv_room (Nat.le_of_ble_eq_true rfl)) dX9_init_18 ⟨(Nat.le_of_ble_eq_true rfl), (Nat.le_of_ble_eq_true rfl)⟩) hS (fun q _ h => hFc q h) hFc (fun u t H1 locs ht hvm hw hB hz1 hk1 hS => ?_)
  obtain ⟨qn3, qn4, qn5, qn6, qn7, qn8, qn9, qn10, qn11, hP1, hD1⟩ := hB
  rw [ht] at hP1
  obtain ⟨hP, hD⟩ := va_join (wr := [(h0, .inr (10, [.ref qn1, .int 0, .null, .null, .null, .null, .null, .null, .null])), (qn1, .inl (cA 2, 700, .inl (fun _ => 0)))]) (w1 := [(qn2, .inr (7, [.int 0, .int 365, .int 0, .int 0, .ref qn3, .int 0, .ref qn4, .ref qn5, .ref qn6, .ref qn7, .int 0, .ref qn8, .int 0, .ref qn9, .ref qn10, .ref qn11, .int 0])), (qn3, .inl (cA 0, 6, .inl (fun _ => 0))), (qn4, .inl (cA 1, 10, .inr (.inl (fun _ => 0)))), (qn5, .inl (cA 0, 10, .inl (fun _ => 0))), (qn6, .inl (cA 0, 10, .inl (fun _ => 0))), (qn7, .inl (cA 0, 10, .inl (fun _ => 0))), (qn8, .inl (cA 1, 8, .inr (.inl (fun _ => 0)))), (qn9, .inl (cA 0, 350, .inl (fun _ => 0))), (qn10, .inl (cA 0, 350, .inl (fun _ => 0))), (qn11, .inl (cA 0, 10, .inl (fun _ => 0)))]) hP hD [2] [0, 1] rfl rfl (by decide) (by decide) hk1 hFc hP1 hD1
  generalize H1 = H at hP hS ⊢
  have hP : va_P D vwCl [(h0, .inr (10, [.ref qn1, .int 0, .null, .null, .null, .null, .null, .null, .null])), (qn1, .inl (cA 2, 700, .inl (fun _ => 0))), (qn2, .inr (7, [.int 0, .int 365, .int 0, .int 0, .ref qn3, .int 0, .ref qn4, .ref qn5, .ref qn6, .ref qn7, .int 0, .ref qn8, .int 0, .ref qn9, .ref qn10, .ref qn11, .int 0])), (qn3, .inl (cA 0, 6, .inl (fun _ => 0))), (qn4, .inl (cA 1, 10, .inr (.inl (fun _ => 0)))), (qn5, .inl (cA 0, 10, .inl (fun _ => 0))), (qn6, .inl (cA 0, 10, .inl (fun _ => 0))), (qn7, .inl (cA 0, 10, .inl (fun _ => 0))), (qn8, .inl (cA 1, 8, .inr (.inl (fun _ => 0)))), (qn9, .inl (cA 0, 350, .inl (fun _ => 0))), (qn10, .inl (cA 0, 350, .inl (fun _ => 0))), (qn11, .inl (cA 0, 10, .inl (fun _ => 0)))] H := hP
  have hD : va_D A [(h0, .inr (10, [.ref qn1, .int 0, .null, .null, .null, .null, .null, .null, .null])), (qn1, .inl (cA 2, 700, .inl (fun _ => 0))), (qn2, .inr (7, [.int 0, .int 365, .int 0, .int 0, .ref qn3, .int 0, .ref qn4, .ref qn5, .ref qn6, .ref qn7, .int 0, .ref qn8, .int 0, .ref qn9, .ref qn10, .ref qn11, .int 0])), (qn3, .inl (cA 0, 6, .inl (fun _ => 0))), (qn4, .inl (cA 1, 10, .inr (.inl (fun _ => 0)))), (qn5, .inl (cA 0, 10, .inl (fun _ => 0))), (qn6, .inl (cA 0, 10, .inl (fun _ => 0))), (qn7, .inl (cA 0, 10, .inl (fun _ => 0))), (qn8, .inl (cA 1, 8, .inr (.inl (fun _ => 0)))), (qn9, .inl (cA 0, 350, .inl (fun _ => 0))), (qn10, .inl (cA 0, 350, .inl (fun _ => 0))), (qn11, .inl (cA 0, 10, .inl (fun _ => 0)))] := hD
  refine va_put (D := D) (ci := 10) (v := .ref qn2) (ty := (.object "EscrowDesk$Plan")) (C := RX9) (T := TX9) (N := 9) hx hb hts inX9 tyX9 tyX9_ok nmX9 hown hK hP hD hS 0 rfl rfl 2 (by decide) (hts (.fieldLink RX9 16 "EscrowDesk" "plan" "LEscrowDesk$Plan;") (by decide +kernel)) (fun _ h9 => h9) rfl (by decide +kernel) rfl rfl (Nat.le_of_ble_eq_true rfl) dX9_init_21 (fun H locs hP hD hS => ?_)
  have hP : va_P D vwCl [(h0, .inr (10, [.ref qn1, .int 0, .ref qn2, .null, .null, .null, .null, .null, .null])), (qn1, .inl (cA 2, 700, .inl (fun _ => 0))), (qn2, .inr (7, [.int 0, .int 365, .int 0, .int 0, .ref qn3, .int 0, .ref qn4, .ref qn5, .ref qn6, .ref qn7, .int 0, .ref qn8, .int 0, .ref qn9, .ref qn10, .ref qn11, .int 0])), (qn3, .inl (cA 0, 6, .inl (fun _ => 0))), (qn4, .inl (cA 1, 10, .inr (.inl (fun _ => 0)))), (qn5, .inl (cA 0, 10, .inl (fun _ => 0))), (qn6, .inl (cA 0, 10, .inl (fun _ => 0))), (qn7, .inl (cA 0, 10, .inl (fun _ => 0))), (qn8, .inl (cA 1, 8, .inr (.inl (fun _ => 0)))), (qn9, .inl (cA 0, 350, .inl (fun _ => 0))), (qn10, .inl (cA 0, 350, .inl (fun _ => 0))), (qn11, .inl (cA 0, 10, .inl (fun _ => 0)))] H := hP
  have hD : va_D A [(h0, .inr (10, [.ref qn1, .int 0, .ref qn2, .null, .null, .null, .null, .null, .null])), (qn1, .inl (cA 2, 700, .inl (fun _ => 0))), (qn2, .inr (7, [.int 0, .int 365, .int 0, .int 0, .ref qn3, .int 0, .ref qn4, .ref qn5, .ref qn6, .ref qn7, .int 0, .ref qn8, .int 0, .ref qn9, .ref qn10, .ref qn11, .int 0])), (qn3, .inl (cA 0, 6, .inl (fun _ => 0))), (qn4, .inl (cA 1, 10, .inr (.inl (fun _ => 0)))), (qn5, .inl (cA 0, 10, .inl (fun _ => 0))), (qn6, .inl (cA 0, 10, .inl (fun _ => 0))), (qn7, .inl (cA 0, 10, .inl (fun _ => 0))), (qn8, .inl (cA 1, 8, .inr (.inl (fun _ => 0)))), (qn9, .inl (cA 0, 350, .inl (fun _ => 0))), (qn10, .inl (cA 0, 350, .inl (fun _ => 0))), (qn11, .inl (cA 0, 10, .inl (fun _ => 0)))] := hD
  refine lv_aload_n hx hb dX9_init_24 rfl (lv_at hl 0 rfl) ?_
  refine va_new (ci := 7) (fs := [.int 0, .int 0, .int 0, .int 0, .null, .int 0, .null, .null, .null, .null, .int 0, .null, .int 0, .null, .null, .null, .int 0]) (C := RX3) (T := TX3) (N := 17) hx hb hts inX3 tyX3 tyX3_ok hown (hts (.classLink RX9 13 RX3) (by decide +kernel)) (hts (.instantiable RX3 17) (by decide +kernel)) (hts (.initialized RX3) (by decide +kernel)) hK hP hD hS hA rfl (by decide +kernel) (Nat.le_of_ble_eq_true rfl) (Nat.le_of_ble_eq_true rfl) dX9_init_25 (fun qn12 H hP hD hS => ?_)
  have hP : va_P D vwCl [(h0, .inr (10, [.ref qn1, .int 0, .ref qn2, .null, .null, .null, .null, .null, .null])), (qn1, .inl (cA 2, 700, .inl (fun _ => 0))), (qn2, .inr (7, [.int 0, .int 365, .int 0, .int 0, .ref qn3, .int 0, .ref qn4, .ref qn5, .ref qn6, .ref qn7, .int 0, .ref qn8, .int 0, .ref qn9, .ref qn10, .ref qn11, .int 0])), (qn3, .inl (cA 0, 6, .inl (fun _ => 0))), (qn4, .inl (cA 1, 10, .inr (.inl (fun _ => 0)))), (qn5, .inl (cA 0, 10, .inl (fun _ => 0))), (qn6, .inl (cA 0, 10, .inl (fun _ => 0))), (qn7, .inl (cA 0, 10, .inl (fun _ => 0))), (qn8, .inl (cA 1, 8, .inr (.inl (fun _ => 0)))), (qn9, .inl (cA 0, 350, .inl (fun _ => 0))), (qn10, .inl (cA 0, 350, .inl (fun _ => 0))), (qn11, .inl (cA 0, 10, .inl (fun _ => 0))), (qn12, .inr (7, [.int 0, .int 0, .int 0, .int 0, .null, .int 0, .null, .null, .null, .null, .int 0, .null, .int 0, .null, .null, .null, .int 0]))] H := hP
  have hD : va_D A [(h0, .inr (10, [.ref qn1, .int 0, .ref qn2, .null, .null, .null, .null, .null, .null])), (qn1, .inl (cA 2, 700, .inl (fun _ => 0))), (qn2, .inr (7, [.int 0, .int 365, .int 0, .int 0, .ref qn3, .int 0, .ref qn4, .ref qn5, .ref qn6, .ref qn7, .int 0, .ref qn8, .int 0, .ref qn9, .ref qn10, .ref qn11, .int 0])), (qn3, .inl (cA 0, 6, .inl (fun _ => 0))), (qn4, .inl (cA 1, 10, .inr (.inl (fun _ => 0)))), (qn5, .inl (cA 0, 10, .inl (fun _ => 0))), (qn6, .inl (cA 0, 10, .inl (fun _ => 0))), (qn7, .inl (cA 0, 10, .inl (fun _ => 0))), (qn8, .inl (cA 1, 8, .inr (.inl (fun _ => 0)))), (qn9, .inl (cA 0, 350, .inl (fun _ => 0))), (qn10, .inl (cA 0, 350, .inl (fun _ => 0))), (qn11, .inl (cA 0, 10, .inl (fun _ => 0))), (qn12, .inr (7, [.int 0, .int 0, .int 0, .int 0, .null, .int 0, .null, .null, .null, .null, .int 0, .null, .int 0, .null, .null, .null, .int 0]))] := hD
  refine lv_dup hx hb dX9_init_28 rfl ?_
  have hPc := hP.sub (ws' := [(qn12, .inr (7, [.int 0, .int 0, .int 0, .int 0, .null, .int 0, .null, .null, .null, .null, .int 0, .null, .int 0, .null, .null, .null, .int 0]))]) [12] rfl
  have hDc := hD.sub (ws' := [(qn12, .inr (7, [.int 0, .int 0, .int 0, .int 0, .null, .int 0, .null, .null, .null, .null, .int 0, .null, .int 0, .null, .null, .null, .int 0]))]) [12] (by decide) rfl
  have hFc := va_free (wc := [(qn12, .inr (7, [.int 0, .int 0, .int 0, .int 0, .null, .int 0, .null, .null, .null, .null, .int 0, .null, .int 0, .null, .null, .null, .int 0]))]) hD hS hA [12] rfl
  refine va_callv (va_runIN (As := []) (rest := [.ref qn12, .ref h0]) ⟨hx, hb, hml, hown, hts⟩ (c_X3_init l D cA sa qn12 H.size) ⟨va_cnB (host := "EscrowDesk") 0 hts gX9_init_X3_init_n15 rfl rfl rfl (hC.m (by decide +kernel)) (hts (.initialized RX3) (by decide +kernel)) (by decide +kernel) ⟨(Nat.le_of_ble_eq_true rfl), (Nat.le_of_ble_eq_true rfl)⟩, rfl, hts (.instanceMethod yX3_init) (by decide +kernel)⟩ ⟨Wd.blind, fun U hU hW => ⟨rfl, Wd.call hPc hDc hK hC hZ hS hFc U hU hW⟩⟩ rfl rfl hl.1 rfl (lv_room (Nat.le_of_ble_eq_true rfl)) dX9_init_29 ⟨(Nat.le_of_ble_eq_true rfl), (Nat.le_of_ble_eq_true rfl)⟩) hS (fun q _ h => hFc q h) hFc (fun u t H1 locs ht hvm hw hB hz1 hk1 hS => ?_)
  obtain ⟨qn13, qn14, qn15, qn16, qn17, qn18, qn19, qn20, qn21, hP1, hD1⟩ := hB
  rw [ht] at hP1
  obtain ⟨hP, hD⟩ := va_join (wr := [(h0, .inr (10, [.ref qn1, .int 0, .ref qn2, .null, .null, .null, .null, .null, .null])), (qn1, .inl (cA 2, 700, .inl (fun _ => 0))), (qn2, .inr (7, [.int 0, .int 365, .int 0, .int 0, .ref qn3, .int 0, .ref qn4, .ref qn5, .ref qn6, .ref qn7, .int 0, .ref qn8, .int 0, .ref qn9, .ref qn10, .ref qn11, .int 0])), (qn3, .inl (cA 0, 6, .inl (fun _ => 0))), (qn4, .inl (cA 1, 10, .inr (.inl (fun _ => 0)))), (qn5, .inl (cA 0, 10, .inl (fun _ => 0))), (qn6, .inl (cA 0, 10, .inl (fun _ => 0))), (qn7, .inl (cA 0, 10, .inl (fun _ => 0))), (qn8, .inl (cA 1, 8, .inr (.inl (fun _ => 0)))), (qn9, .inl (cA 0, 350, .inl (fun _ => 0))), (qn10, .inl (cA 0, 350, .inl (fun _ => 0))), (qn11, .inl (cA 0, 10, .inl (fun _ => 0)))]) (w1 := [(qn12, .inr (7, [.int 0, .int 365, .int 0, .int 0, .ref qn13, .int 0, .ref qn14, .ref qn15, .ref qn16, .ref qn17, .int 0, .ref qn18, .int 0, .ref qn19, .ref qn20, .ref qn21, .int 0])), (qn13, .inl (cA 0, 6, .inl (fun _ => 0))), (qn14, .inl (cA 1, 10, .inr (.inl (fun _ => 0)))), (qn15, .inl (cA 0, 10, .inl (fun _ => 0))), (qn16, .inl (cA 0, 10, .inl (fun _ => 0))), (qn17, .inl (cA 0, 10, .inl (fun _ => 0))), (qn18, .inl (cA 1, 8, .inr (.inl (fun _ => 0)))), (qn19, .inl (cA 0, 350, .inl (fun _ => 0))), (qn20, .inl (cA 0, 350, .inl (fun _ => 0))), (qn21, .inl (cA 0, 10, .inl (fun _ => 0)))]) hP hD [12] [0, 1, 2, 3, 4, 5, 6, 7, 8, 9, 10, 11] rfl rfl (by decide) (by decide) hk1 hFc hP1 hD1
  generalize H1 = H at hP hS ⊢
  have hP : va_P D vwCl [(h0, .inr (10, [.ref qn1, .int 0, .ref qn2, .null, .null, .null, .null, .null, .null])), (qn1, .inl (cA 2, 700, .inl (fun _ => 0))), (qn2, .inr (7, [.int 0, .int 365, .int 0, .int 0, .ref qn3, .int 0, .ref qn4, .ref qn5, .ref qn6, .ref qn7, .int 0, .ref qn8, .int 0, .ref qn9, .ref qn10, .ref qn11, .int 0])), (qn3, .inl (cA 0, 6, .inl (fun _ => 0))), (qn4, .inl (cA 1, 10, .inr (.inl (fun _ => 0)))), (qn5, .inl (cA 0, 10, .inl (fun _ => 0))), (qn6, .inl (cA 0, 10, .inl (fun _ => 0))), (qn7, .inl (cA 0, 10, .inl (fun _ => 0))), (qn8, .inl (cA 1, 8, .inr (.inl (fun _ => 0)))), (qn9, .inl (cA 0, 350, .inl (fun _ => 0))), (qn10, .inl (cA 0, 350, .inl (fun _ => 0))), (qn11, .inl (cA 0, 10, .inl (fun _ => 0))), (qn12, .inr (7, [.int 0, .int 365, .int 0, .int 0, .ref qn13, .int 0, .ref qn14, .ref qn15, .ref qn16, .ref qn17, .int 0, .ref qn18, .int 0, .ref qn19, .ref qn20, .ref qn21, .int 0])), (qn13, .inl (cA 0, 6, .inl (fun _ => 0))), (qn14, .inl (cA 1, 10, .inr (.inl (fun _ => 0)))), (qn15, .inl (cA 0, 10, .inl (fun _ => 0))), (qn16, .inl (cA 0, 10, .inl (fun _ => 0))), (qn17, .inl (cA 0, 10, .inl (fun _ => 0))), (qn18, .inl (cA 1, 8, .inr (.inl (fun _ => 0)))), (qn19, .inl (cA 0, 350, .inl (fun _ => 0))), (qn20, .inl (cA 0, 350, .inl (fun _ => 0))), (qn21, .inl (cA 0, 10, .inl (fun _ => 0)))] H := hP
  have hD : va_D A [(h0, .inr (10, [.ref qn1, .int 0, .ref qn2, .null, .null, .null, .null, .null, .null])), (qn1, .inl (cA 2, 700, .inl (fun _ => 0))), (qn2, .inr (7, [.int 0, .int 365, .int 0, .int 0, .ref qn3, .int 0, .ref qn4, .ref qn5, .ref qn6, .ref qn7, .int 0, .ref qn8, .int 0, .ref qn9, .ref qn10, .ref qn11, .int 0])), (qn3, .inl (cA 0, 6, .inl (fun _ => 0))), (qn4, .inl (cA 1, 10, .inr (.inl (fun _ => 0)))), (qn5, .inl (cA 0, 10, .inl (fun _ => 0))), (qn6, .inl (cA 0, 10, .inl (fun _ => 0))), (qn7, .inl (cA 0, 10, .inl (fun _ => 0))), (qn8, .inl (cA 1, 8, .inr (.inl (fun _ => 0)))), (qn9, .inl (cA 0, 350, .inl (fun _ => 0))), (qn10, .inl (cA 0, 350, .inl (fun _ => 0))), (qn11, .inl (cA 0, 10, .inl (fun _ => 0))), (qn12, .inr (7, [.int 0, .int 365, .int 0, .int 0, .ref qn13, .int 0, .ref qn14, .ref qn15, .ref qn16, .ref qn17, .int 0, .ref qn18, .int 0, .ref qn19, .ref qn20, .ref qn21, .int 0])), (qn13, .inl (cA 0, 6, .inl (fun _ => 0))), (qn14, .inl (cA 1, 10, .inr (.inl (fun _ => 0)))), (qn15, .inl (cA 0, 10, .inl (fun _ => 0))), (qn16, .inl (cA 0, 10, .inl (fun _ => 0))), (qn17, .inl (cA 0, 10, .inl (fun _ => 0))), (qn18, .inl (cA 1, 8, .inr (.inl (fun _ => 0)))), (qn19, .inl (cA 0, 350, .inl (fun _ => 0))), (qn20, .inl (cA 0, 350, .inl (fun _ => 0))), (qn21, .inl (cA 0, 10, .inl (fun _ => 0)))] := hD
  refine va_put (D := D) (ci := 10) (v := .ref qn12) (ty := (.object "EscrowDesk$Plan")) (C := RX9) (T := TX9) (N := 9) hx hb hts inX9 tyX9 tyX9_ok nmX9 hown hK hP hD hS 0 rfl rfl 3 (by decide) (hts (.fieldLink RX9 20 "EscrowDesk" "sparePlan" "LEscrowDesk$Plan;") (by decide +kernel)) (fun _ h9 => h9) rfl (by decide +kernel) rfl rfl (Nat.le_of_ble_eq_true rfl) dX9_init_32 (fun H locs hP hD hS => ?_)
  have hP : va_P D vwCl [(h0, .inr (10, [.ref qn1, .int 0, .ref qn2, .ref qn12, .null, .null, .null, .null, .null])), (qn1, .inl (cA 2, 700, .inl (fun _ => 0))), (qn2, .inr (7, [.int 0, .int 365, .int 0, .int 0, .ref qn3, .int 0, .ref qn4, .ref qn5, .ref qn6, .ref qn7, .int 0, .ref qn8, .int 0, .ref qn9, .ref qn10, .ref qn11, .int 0])), (qn3, .inl (cA 0, 6, .inl (fun _ => 0))), (qn4, .inl (cA 1, 10, .inr (.inl (fun _ => 0)))), (qn5, .inl (cA 0, 10, .inl (fun _ => 0))), (qn6, .inl (cA 0, 10, .inl (fun _ => 0))), (qn7, .inl (cA 0, 10, .inl (fun _ => 0))), (qn8, .inl (cA 1, 8, .inr (.inl (fun _ => 0)))), (qn9, .inl (cA 0, 350, .inl (fun _ => 0))), (qn10, .inl (cA 0, 350, .inl (fun _ => 0))), (qn11, .inl (cA 0, 10, .inl (fun _ => 0))), (qn12, .inr (7, [.int 0, .int 365, .int 0, .int 0, .ref qn13, .int 0, .ref qn14, .ref qn15, .ref qn16, .ref qn17, .int 0, .ref qn18, .int 0, .ref qn19, .ref qn20, .ref qn21, .int 0])), (qn13, .inl (cA 0, 6, .inl (fun _ => 0))), (qn14, .inl (cA 1, 10, .inr (.inl (fun _ => 0)))), (qn15, .inl (cA 0, 10, .inl (fun _ => 0))), (qn16, .inl (cA 0, 10, .inl (fun _ => 0))), (qn17, .inl (cA 0, 10, .inl (fun _ => 0))), (qn18, .inl (cA 1, 8, .inr (.inl (fun _ => 0)))), (qn19, .inl (cA 0, 350, .inl (fun _ => 0))), (qn20, .inl (cA 0, 350, .inl (fun _ => 0))), (qn21, .inl (cA 0, 10, .inl (fun _ => 0)))] H := hP
  have hD : va_D A [(h0, .inr (10, [.ref qn1, .int 0, .ref qn2, .ref qn12, .null, .null, .null, .null, .null])), (qn1, .inl (cA 2, 700, .inl (fun _ => 0))), (qn2, .inr (7, [.int 0, .int 365, .int 0, .int 0, .ref qn3, .int 0, .ref qn4, .ref qn5, .ref qn6, .ref qn7, .int 0, .ref qn8, .int 0, .ref qn9, .ref qn10, .ref qn11, .int 0])), (qn3, .inl (cA 0, 6, .inl (fun _ => 0))), (qn4, .inl (cA 1, 10, .inr (.inl (fun _ => 0)))), (qn5, .inl (cA 0, 10, .inl (fun _ => 0))), (qn6, .inl (cA 0, 10, .inl (fun _ => 0))), (qn7, .inl (cA 0, 10, .inl (fun _ => 0))), (qn8, .inl (cA 1, 8, .inr (.inl (fun _ => 0)))), (qn9, .inl (cA 0, 350, .inl (fun _ => 0))), (qn10, .inl (cA 0, 350, .inl (fun _ => 0))), (qn11, .inl (cA 0, 10, .inl (fun _ => 0))), (qn12, .inr (7, [.int 0, .int 365, .int 0, .int 0, .ref qn13, .int 0, .ref qn14, .ref qn15, .ref qn16, .ref qn17, .int 0, .ref qn18, .int 0, .ref qn19, .ref qn20, .ref qn21, .int 0])), (qn13, .inl (cA 0, 6, .inl (fun _ => 0))), (qn14, .inl (cA 1, 10, .inr (.inl (fun _ => 0)))), (qn15, .inl (cA 0, 10, .inl (fun _ => 0))), (qn16, .inl (cA 0, 10, .inl (fun _ => 0))), (qn17, .inl (cA 0, 10, .inl (fun _ => 0))), (qn18, .inl (cA 1, 8, .inr (.inl (fun _ => 0)))), (qn19, .inl (cA 0, 350, .inl (fun _ => 0))), (qn20, .inl (cA 0, 350, .inl (fun _ => 0))), (qn21, .inl (cA 0, 10, .inl (fun _ => 0)))] := hD
  refine lv_aload_n hx hb dX9_init_35 rfl (lv_at hl 0 rfl) ?_
  refine va_new (ci := 8) (fs := [.null, .null, .int 0, .int 0, .int 0, .long 0, .int 0, .int 0, .int 0]) (C := RX4) (T := TX4) (N := 9) hx hb hts inX4 tyX4 tyX4_ok hown (hts (.classLink RX9 23 RX4) (by decide +kernel)) (hts (.instantiable RX4 9) (by decide +kernel)) (hts (.initialized RX4) (by decide +kernel)) hK hP hD hS hA rfl (by decide +kernel) (Nat.le_of_ble_eq_true rfl) (Nat.le_of_ble_eq_true rfl) dX9_init_36 (fun qn22 H hP hD hS => ?_)
  have hP : va_P D vwCl [(h0, .inr (10, [.ref qn1, .int 0, .ref qn2, .ref qn12, .null, .null, .null, .null, .null])), (qn1, .inl (cA 2, 700, .inl (fun _ => 0))), (qn2, .inr (7, [.int 0, .int 365, .int 0, .int 0, .ref qn3, .int 0, .ref qn4, .ref qn5, .ref qn6, .ref qn7, .int 0, .ref qn8, .int 0, .ref qn9, .ref qn10, .ref qn11, .int 0])), (qn3, .inl (cA 0, 6, .inl (fun _ => 0))), (qn4, .inl (cA 1, 10, .inr (.inl (fun _ => 0)))), (qn5, .inl (cA 0, 10, .inl (fun _ => 0))), (qn6, .inl (cA 0, 10, .inl (fun _ => 0))), (qn7, .inl (cA 0, 10, .inl (fun _ => 0))), (qn8, .inl (cA 1, 8, .inr (.inl (fun _ => 0)))), (qn9, .inl (cA 0, 350, .inl (fun _ => 0))), (qn10, .inl (cA 0, 350, .inl (fun _ => 0))), (qn11, .inl (cA 0, 10, .inl (fun _ => 0))), (qn12, .inr (7, [.int 0, .int 365, .int 0, .int 0, .ref qn13, .int 0, .ref qn14, .ref qn15, .ref qn16, .ref qn17, .int 0, .ref qn18, .int 0, .ref qn19, .ref qn20, .ref qn21, .int 0])), (qn13, .inl (cA 0, 6, .inl (fun _ => 0))), (qn14, .inl (cA 1, 10, .inr (.inl (fun _ => 0)))), (qn15, .inl (cA 0, 10, .inl (fun _ => 0))), (qn16, .inl (cA 0, 10, .inl (fun _ => 0))), (qn17, .inl (cA 0, 10, .inl (fun _ => 0))), (qn18, .inl (cA 1, 8, .inr (.inl (fun _ => 0)))), (qn19, .inl (cA 0, 350, .inl (fun _ => 0))), (qn20, .inl (cA 0, 350, .inl (fun _ => 0))), (qn21, .inl (cA 0, 10, .inl (fun _ => 0))), (qn22, .inr (8, [.null, .null, .int 0, .int 0, .int 0, .long 0, .int 0, .int 0, .int 0]))] H := hP
  have hD : va_D A [(h0, .inr (10, [.ref qn1, .int 0, .ref qn2, .ref qn12, .null, .null, .null, .null, .null])), (qn1, .inl (cA 2, 700, .inl (fun _ => 0))), (qn2, .inr (7, [.int 0, .int 365, .int 0, .int 0, .ref qn3, .int 0, .ref qn4, .ref qn5, .ref qn6, .ref qn7, .int 0, .ref qn8, .int 0, .ref qn9, .ref qn10, .ref qn11, .int 0])), (qn3, .inl (cA 0, 6, .inl (fun _ => 0))), (qn4, .inl (cA 1, 10, .inr (.inl (fun _ => 0)))), (qn5, .inl (cA 0, 10, .inl (fun _ => 0))), (qn6, .inl (cA 0, 10, .inl (fun _ => 0))), (qn7, .inl (cA 0, 10, .inl (fun _ => 0))), (qn8, .inl (cA 1, 8, .inr (.inl (fun _ => 0)))), (qn9, .inl (cA 0, 350, .inl (fun _ => 0))), (qn10, .inl (cA 0, 350, .inl (fun _ => 0))), (qn11, .inl (cA 0, 10, .inl (fun _ => 0))), (qn12, .inr (7, [.int 0, .int 365, .int 0, .int 0, .ref qn13, .int 0, .ref qn14, .ref qn15, .ref qn16, .ref qn17, .int 0, .ref qn18, .int 0, .ref qn19, .ref qn20, .ref qn21, .int 0])), (qn13, .inl (cA 0, 6, .inl (fun _ => 0))), (qn14, .inl (cA 1, 10, .inr (.inl (fun _ => 0)))), (qn15, .inl (cA 0, 10, .inl (fun _ => 0))), (qn16, .inl (cA 0, 10, .inl (fun _ => 0))), (qn17, .inl (cA 0, 10, .inl (fun _ => 0))), (qn18, .inl (cA 1, 8, .inr (.inl (fun _ => 0)))), (qn19, .inl (cA 0, 350, .inl (fun _ => 0))), (qn20, .inl (cA 0, 350, .inl (fun _ => 0))), (qn21, .inl (cA 0, 10, .inl (fun _ => 0))), (qn22, .inr (8, [.null, .null, .int 0, .int 0, .int 0, .long 0, .int 0, .int 0, .int 0]))] := hD
  refine lv_dup hx hb dX9_init_39 rfl ?_
  refine lv_aload_n hx hb dX9_init_40 rfl (lv_at hl 0 rfl) ?_
  refine va_get (D := D) (ci := 10) (v := .ref qn12) (C := RX9) (T := TX9) (N := 9) hx hb hts inX9 hown hK hP 0 rfl rfl 3 (by decide) (hts (.fieldLink RX9 20 "EscrowDesk" "sparePlan" "LEscrowDesk$Plan;") (by decide +kernel)) (fun _ h9 => h9) rfl dX9_init_41 ?_
  have hPc := hP.sub (ws' := [(qn22, .inr (8, [.null, .null, .int 0, .int 0, .int 0, .long 0, .int 0, .int 0, .int 0]))]) [22] rfl
  have hDc := hD.sub (ws' := [(qn22, .inr (8, [.null, .null, .int 0, .int 0, .int 0, .long 0, .int 0, .int 0, .int 0]))]) [22] (by decide) rfl
  have hFc := va_free (wc := [(qn22, .inr (8, [.null, .null, .int 0, .int 0, .int 0, .long 0, .int 0, .int 0, .int 0]))]) hD hS hA [22] rfl
  refine va_callv (va_runI (As := [.ref qn12]) (rest := [.ref qn22, .ref h0]) ⟨hx, hb, hml, hown, hts⟩ (c_X4_init l D cA sa qn22 qn12 H.size) (cwI 1 hts gX9_init_X4_init rfl rfl rfl (hts (.initialized RX4) (by decide +kernel)) (hts (.methodLink RX9 25 yX4_init) (by decide +kernel)) (hts (.instanceMethod yX4_init) (by decide +kernel)) rfl (by decide +kernel) ⟨(Nat.le_of_ble_eq_true rfl), (Nat.le_of_ble_eq_true rfl)⟩) ⟨Wd.blind, fun U hU hW => ⟨rfl, Wd.call hPc hDc hK hC hZ hS hFc U hU hW⟩⟩ rfl rfl hl.1 rfl (lv_room (Nat.le_of_ble_eq_true rfl)) dX9_init_44 ⟨(Nat.le_of_ble_eq_true rfl), (Nat.le_of_ble_eq_true rfl)⟩) hS (fun q _ h => hFc q h) hFc (fun u t H1 locs ht hvm hw hB hz1 hk1 hS => ?_)
  obtain ⟨qn23, qn24, qn25, qn26, hP1, hD1⟩ := hB
  rw [ht] at hP1
  obtain ⟨hP, hD⟩ := va_join (wr := [(h0, .inr (10, [.ref qn1, .int 0, .ref qn2, .ref qn12, .null, .null, .null, .null, .null])), (qn1, .inl (cA 2, 700, .inl (fun _ => 0))), (qn2, .inr (7, [.int 0, .int 365, .int 0, .int 0, .ref qn3, .int 0, .ref qn4, .ref qn5, .ref qn6, .ref qn7, .int 0, .ref qn8, .int 0, .ref qn9, .ref qn10, .ref qn11, .int 0])), (qn3, .inl (cA 0, 6, .inl (fun _ => 0))), (qn4, .inl (cA 1, 10, .inr (.inl (fun _ => 0)))), (qn5, .inl (cA 0, 10, .inl (fun _ => 0))), (qn6, .inl (cA 0, 10, .inl (fun _ => 0))), (qn7, .inl (cA 0, 10, .inl (fun _ => 0))), (qn8, .inl (cA 1, 8, .inr (.inl (fun _ => 0)))), (qn9, .inl (cA 0, 350, .inl (fun _ => 0))), (qn10, .inl (cA 0, 350, .inl (fun _ => 0))), (qn11, .inl (cA 0, 10, .inl (fun _ => 0))), (qn12, .inr (7, [.int 0, .int 365, .int 0, .int 0, .ref qn13, .int 0, .ref qn14, .ref qn15, .ref qn16, .ref qn17, .int 0, .ref qn18, .int 0, .ref qn19, .ref qn20, .ref qn21, .int 0])), (qn13, .inl (cA 0, 6, .inl (fun _ => 0))), (qn14, .inl (cA 1, 10, .inr (.inl (fun _ => 0)))), (qn15, .inl (cA 0, 10, .inl (fun _ => 0))), (qn16, .inl (cA 0, 10, .inl (fun _ => 0))), (qn17, .inl (cA 0, 10, .inl (fun _ => 0))), (qn18, .inl (cA 1, 8, .inr (.inl (fun _ => 0)))), (qn19, .inl (cA 0, 350, .inl (fun _ => 0))), (qn20, .inl (cA 0, 350, .inl (fun _ => 0))), (qn21, .inl (cA 0, 10, .inl (fun _ => 0)))]) (w1 := [(qn22, .inr (8, [.ref qn23, .ref qn12, .int 0, .int 0, .int 0, .long 0, .int 0, .int 0, .int (-1)])), (qn23, .inr (9, [.ref qn24, .ref qn25, .ref qn26, .int 0])), (qn24, .inl (cA 0, 701, .inl (fun _ => 0))), (qn25, .inl (cA 0, 701, .inl (fun _ => 0))), (qn26, .inl (cA 1, 701, .inr (.inl (fun _ => 0))))]) hP hD [22] [0, 1, 2, 3, 4, 5, 6, 7, 8, 9, 10, 11, 12, 13, 14, 15, 16, 17, 18, 19, 20, 21] rfl rfl (by decide) (by decide) hk1 hFc hP1 hD1
  generalize H1 = H at hP hS ⊢
  have hP : va_P D vwCl [(h0, .inr (10, [.ref qn1, .int 0, .ref qn2, .ref qn12, .null, .null, .null, .null, .null])), (qn1, .inl (cA 2, 700, .inl (fun _ => 0))), (qn2, .inr (7, [.int 0, .int 365, .int 0, .int 0, .ref qn3, .int 0, .ref qn4, .ref qn5, .ref qn6, .ref qn7, .int 0, .ref qn8, .int 0, .ref qn9, .ref qn10, .ref qn11, .int 0])), (qn3, .inl (cA 0, 6, .inl (fun _ => 0))), (qn4, .inl (cA 1, 10, .inr (.inl (fun _ => 0)))), (qn5, .inl (cA 0, 10, .inl (fun _ => 0))), (qn6, .inl (cA 0, 10, .inl (fun _ => 0))), (qn7, .inl (cA 0, 10, .inl (fun _ => 0))), (qn8, .inl (cA 1, 8, .inr (.inl (fun _ => 0)))), (qn9, .inl (cA 0, 350, .inl (fun _ => 0))), (qn10, .inl (cA 0, 350, .inl (fun _ => 0))), (qn11, .inl (cA 0, 10, .inl (fun _ => 0))), (qn12, .inr (7, [.int 0, .int 365, .int 0, .int 0, .ref qn13, .int 0, .ref qn14, .ref qn15, .ref qn16, .ref qn17, .int 0, .ref qn18, .int 0, .ref qn19, .ref qn20, .ref qn21, .int 0])), (qn13, .inl (cA 0, 6, .inl (fun _ => 0))), (qn14, .inl (cA 1, 10, .inr (.inl (fun _ => 0)))), (qn15, .inl (cA 0, 10, .inl (fun _ => 0))), (qn16, .inl (cA 0, 10, .inl (fun _ => 0))), (qn17, .inl (cA 0, 10, .inl (fun _ => 0))), (qn18, .inl (cA 1, 8, .inr (.inl (fun _ => 0)))), (qn19, .inl (cA 0, 350, .inl (fun _ => 0))), (qn20, .inl (cA 0, 350, .inl (fun _ => 0))), (qn21, .inl (cA 0, 10, .inl (fun _ => 0))), (qn22, .inr (8, [.ref qn23, .ref qn12, .int 0, .int 0, .int 0, .long 0, .int 0, .int 0, .int (-1)])), (qn23, .inr (9, [.ref qn24, .ref qn25, .ref qn26, .int 0])), (qn24, .inl (cA 0, 701, .inl (fun _ => 0))), (qn25, .inl (cA 0, 701, .inl (fun _ => 0))), (qn26, .inl (cA 1, 701, .inr (.inl (fun _ => 0))))] H := hP
  have hD : va_D A [(h0, .inr (10, [.ref qn1, .int 0, .ref qn2, .ref qn12, .null, .null, .null, .null, .null])), (qn1, .inl (cA 2, 700, .inl (fun _ => 0))), (qn2, .inr (7, [.int 0, .int 365, .int 0, .int 0, .ref qn3, .int 0, .ref qn4, .ref qn5, .ref qn6, .ref qn7, .int 0, .ref qn8, .int 0, .ref qn9, .ref qn10, .ref qn11, .int 0])), (qn3, .inl (cA 0, 6, .inl (fun _ => 0))), (qn4, .inl (cA 1, 10, .inr (.inl (fun _ => 0)))), (qn5, .inl (cA 0, 10, .inl (fun _ => 0))), (qn6, .inl (cA 0, 10, .inl (fun _ => 0))), (qn7, .inl (cA 0, 10, .inl (fun _ => 0))), (qn8, .inl (cA 1, 8, .inr (.inl (fun _ => 0)))), (qn9, .inl (cA 0, 350, .inl (fun _ => 0))), (qn10, .inl (cA 0, 350, .inl (fun _ => 0))), (qn11, .inl (cA 0, 10, .inl (fun _ => 0))), (qn12, .inr (7, [.int 0, .int 365, .int 0, .int 0, .ref qn13, .int 0, .ref qn14, .ref qn15, .ref qn16, .ref qn17, .int 0, .ref qn18, .int 0, .ref qn19, .ref qn20, .ref qn21, .int 0])), (qn13, .inl (cA 0, 6, .inl (fun _ => 0))), (qn14, .inl (cA 1, 10, .inr (.inl (fun _ => 0)))), (qn15, .inl (cA 0, 10, .inl (fun _ => 0))), (qn16, .inl (cA 0, 10, .inl (fun _ => 0))), (qn17, .inl (cA 0, 10, .inl (fun _ => 0))), (qn18, .inl (cA 1, 8, .inr (.inl (fun _ => 0)))), (qn19, .inl (cA 0, 350, .inl (fun _ => 0))), (qn20, .inl (cA 0, 350, .inl (fun _ => 0))), (qn21, .inl (cA 0, 10, .inl (fun _ => 0))), (qn22, .inr (8, [.ref qn23, .ref qn12, .int 0, .int 0, .int 0, .long 0, .int 0, .int 0, .int (-1)])), (qn23, .inr (9, [.ref qn24, .ref qn25, .ref qn26, .int 0])), (qn24, .inl (cA 0, 701, .inl (fun _ => 0))), (qn25, .inl (cA 0, 701, .inl (fun _ => 0))), (qn26, .inl (cA 1, 701, .inr (.inl (fun _ => 0))))] := hD
  refine va_putF (D := D) (ci := 10) (v := .ref qn22) (ty := (.object "EscrowDesk$Reader")) (C := RX9) (T := TX9) (N := 9) hx hb hts inX9 tyX9 tyX9_ok nmX9 hown hK hP hD hS 0 rfl rfl 4 (by decide) (hts (.fieldLink RX9 28 "EscrowDesk" "reader" "LEscrowDesk$Reader;") (by decide +kernel)) (fun _ h9 => h9) rfl hin rfl (by decide +kernel) rfl rfl (Nat.le_of_ble_eq_true rfl) dX9_init_47 (fun H locs hP hD hS => ?_)
  have hP : va_P D vwCl [(h0, .inr (10, [.ref qn1, .int 0, .ref qn2, .ref qn12, .ref qn22, .null, .null, .null, .null])), (qn1, .inl (cA 2, 700, .inl (fun _ => 0))), (qn2, .inr (7, [.int 0, .int 365, .int 0, .int 0, .ref qn3, .int 0, .ref qn4, .ref qn5, .ref qn6, .ref qn7, .int 0, .ref qn8, .int 0, .ref qn9, .ref qn10, .ref qn11, .int 0])), (qn3, .inl (cA 0, 6, .inl (fun _ => 0))), (qn4, .inl (cA 1, 10, .inr (.inl (fun _ => 0)))), (qn5, .inl (cA 0, 10, .inl (fun _ => 0))), (qn6, .inl (cA 0, 10, .inl (fun _ => 0))), (qn7, .inl (cA 0, 10, .inl (fun _ => 0))), (qn8, .inl (cA 1, 8, .inr (.inl (fun _ => 0)))), (qn9, .inl (cA 0, 350, .inl (fun _ => 0))), (qn10, .inl (cA 0, 350, .inl (fun _ => 0))), (qn11, .inl (cA 0, 10, .inl (fun _ => 0))), (qn12, .inr (7, [.int 0, .int 365, .int 0, .int 0, .ref qn13, .int 0, .ref qn14, .ref qn15, .ref qn16, .ref qn17, .int 0, .ref qn18, .int 0, .ref qn19, .ref qn20, .ref qn21, .int 0])), (qn13, .inl (cA 0, 6, .inl (fun _ => 0))), (qn14, .inl (cA 1, 10, .inr (.inl (fun _ => 0)))), (qn15, .inl (cA 0, 10, .inl (fun _ => 0))), (qn16, .inl (cA 0, 10, .inl (fun _ => 0))), (qn17, .inl (cA 0, 10, .inl (fun _ => 0))), (qn18, .inl (cA 1, 8, .inr (.inl (fun _ => 0)))), (qn19, .inl (cA 0, 350, .inl (fun _ => 0))), (qn20, .inl (cA 0, 350, .inl (fun _ => 0))), (qn21, .inl (cA 0, 10, .inl (fun _ => 0))), (qn22, .inr (8, [.ref qn23, .ref qn12, .int 0, .int 0, .int 0, .long 0, .int 0, .int 0, .int (-1)])), (qn23, .inr (9, [.ref qn24, .ref qn25, .ref qn26, .int 0])), (qn24, .inl (cA 0, 701, .inl (fun _ => 0))), (qn25, .inl (cA 0, 701, .inl (fun _ => 0))), (qn26, .inl (cA 1, 701, .inr (.inl (fun _ => 0))))] H := hP
  have hD : va_D A [(h0, .inr (10, [.ref qn1, .int 0, .ref qn2, .ref qn12, .ref qn22, .null, .null, .null, .null])), (qn1, .inl (cA 2, 700, .inl (fun _ => 0))), (qn2, .inr (7, [.int 0, .int 365, .int 0, .int 0, .ref qn3, .int 0, .ref qn4, .ref qn5, .ref qn6, .ref qn7, .int 0, .ref qn8, .int 0, .ref qn9, .ref qn10, .ref qn11, .int 0])), (qn3, .inl (cA 0, 6, .inl (fun _ => 0))), (qn4, .inl (cA 1, 10, .inr (.inl (fun _ => 0)))), (qn5, .inl (cA 0, 10, .inl (fun _ => 0))), (qn6, .inl (cA 0, 10, .inl (fun _ => 0))), (qn7, .inl (cA 0, 10, .inl (fun _ => 0))), (qn8, .inl (cA 1, 8, .inr (.inl (fun _ => 0)))), (qn9, .inl (cA 0, 350, .inl (fun _ => 0))), (qn10, .inl (cA 0, 350, .inl (fun _ => 0))), (qn11, .inl (cA 0, 10, .inl (fun _ => 0))), (qn12, .inr (7, [.int 0, .int 365, .int 0, .int 0, .ref qn13, .int 0, .ref qn14, .ref qn15, .ref qn16, .ref qn17, .int 0, .ref qn18, .int 0, .ref qn19, .ref qn20, .ref qn21, .int 0])), (qn13, .inl (cA 0, 6, .inl (fun _ => 0))), (qn14, .inl (cA 1, 10, .inr (.inl (fun _ => 0)))), (qn15, .inl (cA 0, 10, .inl (fun _ => 0))), (qn16, .inl (cA 0, 10, .inl (fun _ => 0))), (qn17, .inl (cA 0, 10, .inl (fun _ => 0))), (qn18, .inl (cA 1, 8, .inr (.inl (fun _ => 0)))), (qn19, .inl (cA 0, 350, .inl (fun _ => 0))), (qn20, .inl (cA 0, 350, .inl (fun _ => 0))), (qn21, .inl (cA 0, 10, .inl (fun _ => 0))), (qn22, .inr (8, [.ref qn23, .ref qn12, .int 0, .int 0, .int 0, .long 0, .int 0, .int 0, .int (-1)])), (qn23, .inr (9, [.ref qn24, .ref qn25, .ref qn26, .int 0])), (qn24, .inl (cA 0, 701, .inl (fun _ => 0))), (qn25, .inl (cA 0, 701, .inl (fun _ => 0))), (qn26, .inl (cA 1, 701, .inr (.inl (fun _ => 0))))] := hD
  refine lv_aload_n hx hb dX9_init_50 rfl (lv_at hl 0 rfl) ?_
  refine va_new (ci := 4) (fs := [.null, .null, .null, .null, .null, .null, .int 0, .int 0, .int 0, .long 0, .long 0, .long 0, .int 0, .int 0, .int 0, .int 0, .int 0, .int 0, .int 0, .int 0]) (C := RX0) (T := TX0) (N := 20) hx hb hts inX0 tyX0 tyX0_ok hown (hts (.classLink RX9 32 RX0) (by decide +kernel)) (hts (.instantiable RX0 20) (by decide +kernel)) (hts (.initialized RX0) (by decide +kernel)) hK hP hD hS hA rfl (by decide +kernel) (Nat.le_of_ble_eq_true rfl) (Nat.le_of_ble_eq_true rfl) dX9_init_51 (fun qn27 H hP hD hS => ?_)
  have hP : va_P D vwCl [(h0, .inr (10, [.ref qn1, .int 0, .ref qn2, .ref qn12, .ref qn22, .null, .null, .null, .null])), (qn1, .inl (cA 2, 700, .inl (fun _ => 0))), (qn2, .inr (7, [.int 0, .int 365, .int 0, .int 0, .ref qn3, .int 0, .ref qn4, .ref qn5, .ref qn6, .ref qn7, .int 0, .ref qn8, .int 0, .ref qn9, .ref qn10, .ref qn11, .int 0])), (qn3, .inl (cA 0, 6, .inl (fun _ => 0))), (qn4, .inl (cA 1, 10, .inr (.inl (fun _ => 0)))), (qn5, .inl (cA 0, 10, .inl (fun _ => 0))), (qn6, .inl (cA 0, 10, .inl (fun _ => 0))), (qn7, .inl (cA 0, 10, .inl (fun _ => 0))), (qn8, .inl (cA 1, 8, .inr (.inl (fun _ => 0)))), (qn9, .inl (cA 0, 350, .inl (fun _ => 0))), (qn10, .inl (cA 0, 350, .inl (fun _ => 0))), (qn11, .inl (cA 0, 10, .inl (fun _ => 0))), (qn12, .inr (7, [.int 0, .int 365, .int 0, .int 0, .ref qn13, .int 0, .ref qn14, .ref qn15, .ref qn16, .ref qn17, .int 0, .ref qn18, .int 0, .ref qn19, .ref qn20, .ref qn21, .int 0])), (qn13, .inl (cA 0, 6, .inl (fun _ => 0))), (qn14, .inl (cA 1, 10, .inr (.inl (fun _ => 0)))), (qn15, .inl (cA 0, 10, .inl (fun _ => 0))), (qn16, .inl (cA 0, 10, .inl (fun _ => 0))), (qn17, .inl (cA 0, 10, .inl (fun _ => 0))), (qn18, .inl (cA 1, 8, .inr (.inl (fun _ => 0)))), (qn19, .inl (cA 0, 350, .inl (fun _ => 0))), (qn20, .inl (cA 0, 350, .inl (fun _ => 0))), (qn21, .inl (cA 0, 10, .inl (fun _ => 0))), (qn22, .inr (8, [.ref qn23, .ref qn12, .int 0, .int 0, .int 0, .long 0, .int 0, .int 0, .int (-1)])), (qn23, .inr (9, [.ref qn24, .ref qn25, .ref qn26, .int 0])), (qn24, .inl (cA 0, 701, .inl (fun _ => 0))), (qn25, .inl (cA 0, 701, .inl (fun _ => 0))), (qn26, .inl (cA 1, 701, .inr (.inl (fun _ => 0)))), (qn27, .inr (4, [.null, .null, .null, .null, .null, .null, .int 0, .int 0, .int 0, .long 0, .long 0, .long 0, .int 0, .int 0, .int 0, .int 0, .int 0, .int 0, .int 0, .int 0]))] H := hP
  have hD : va_D A [(h0, .inr (10, [.ref qn1, .int 0, .ref qn2, .ref qn12, .ref qn22, .null, .null, .null, .null])), (qn1, .inl (cA 2, 700, .inl (fun _ => 0))), (qn2, .inr (7, [.int 0, .int 365, .int 0, .int 0, .ref qn3, .int 0, .ref qn4, .ref qn5, .ref qn6, .ref qn7, .int 0, .ref qn8, .int 0, .ref qn9, .ref qn10, .ref qn11, .int 0])), (qn3, .inl (cA 0, 6, .inl (fun _ => 0))), (qn4, .inl (cA 1, 10, .inr (.inl (fun _ => 0)))), (qn5, .inl (cA 0, 10, .inl (fun _ => 0))), (qn6, .inl (cA 0, 10, .inl (fun _ => 0))), (qn7, .inl (cA 0, 10, .inl (fun _ => 0))), (qn8, .inl (cA 1, 8, .inr (.inl (fun _ => 0)))), (qn9, .inl (cA 0, 350, .inl (fun _ => 0))), (qn10, .inl (cA 0, 350, .inl (fun _ => 0))), (qn11, .inl (cA 0, 10, .inl (fun _ => 0))), (qn12, .inr (7, [.int 0, .int 365, .int 0, .int 0, .ref qn13, .int 0, .ref qn14, .ref qn15, .ref qn16, .ref qn17, .int 0, .ref qn18, .int 0, .ref qn19, .ref qn20, .ref qn21, .int 0])), (qn13, .inl (cA 0, 6, .inl (fun _ => 0))), (qn14, .inl (cA 1, 10, .inr (.inl (fun _ => 0)))), (qn15, .inl (cA 0, 10, .inl (fun _ => 0))), (qn16, .inl (cA 0, 10, .inl (fun _ => 0))), (qn17, .inl (cA 0, 10, .inl (fun _ => 0))), (qn18, .inl (cA 1, 8, .inr (.inl (fun _ => 0)))), (qn19, .inl (cA 0, 350, .inl (fun _ => 0))), (qn20, .inl (cA 0, 350, .inl (fun _ => 0))), (qn21, .inl (cA 0, 10, .inl (fun _ => 0))), (qn22, .inr (8, [.ref qn23, .ref qn12, .int 0, .int 0, .int 0, .long 0, .int 0, .int 0, .int (-1)])), (qn23, .inr (9, [.ref qn24, .ref qn25, .ref qn26, .int 0])), (qn24, .inl (cA 0, 701, .inl (fun _ => 0))), (qn25, .inl (cA 0, 701, .inl (fun _ => 0))), (qn26, .inl (cA 1, 701, .inr (.inl (fun _ => 0)))), (qn27, .inr (4, [.null, .null, .null, .null, .null, .null, .int 0, .int 0, .int 0, .long 0, .long 0, .long 0, .int 0, .int 0, .int 0, .int 0, .int 0, .int 0, .int 0, .int 0]))] := hD
  refine lv_dup hx hb dX9_init_54 rfl ?_
  refine lv_aload_n hx hb dX9_init_55 rfl (lv_at hl 0 rfl) ?_
  refine va_get (D := D) (ci := 10) (v := .ref qn2) (C := RX9) (T := TX9) (N := 9) hx hb hts inX9 hown hK hP 0 rfl rfl 2 (by decide) (hts (.fieldLink RX9 16 "EscrowDesk" "plan" "LEscrowDesk$Plan;") (by decide +kernel)) (fun _ h9 => h9) rfl dX9_init_56 ?_
  have hPc := hP.sub (ws' := [(qn27, .inr (4, [.null, .null, .null, .null, .null, .null, .int 0, .int 0, .int 0, .long 0, .long 0, .long 0, .int 0, .int 0, .int 0, .int 0, .int 0, .int 0, .int 0, .int 0]))]) [27] rfl
  have hDc := hD.sub (ws' := [(qn27, .inr (4, [.null, .null, .null, .null, .null, .null, .int 0, .int 0, .int 0, .long 0, .long 0, .long 0, .int 0, .int 0, .int 0, .int 0, .int 0, .int 0, .int 0, .int 0]))]) [27] (by decide) rfl
  have hFc := va_free (wc := [(qn27, .inr (4, [.null, .null, .null, .null, .null, .null, .int 0, .int 0, .int 0, .long 0, .long 0, .long 0, .int 0, .int 0, .int 0, .int 0, .int 0, .int 0, .int 0, .int 0]))]) hD hS hA [27] rfl
  refine va_callv (va_runI (As := [.ref qn2]) (rest := [.ref qn27, .ref h0]) ⟨hx, hb, hml, hown, hts⟩ (c_X0_init l D cA sa qn27 qn2 H.size) (cwI 1 hts gX9_init_X0_init rfl rfl rfl (hts (.initialized RX0) (by decide +kernel)) (hts (.methodLink RX9 34 yX0_init) (by decide +kernel)) (hts (.instanceMethod yX0_init) (by decide +kernel)) rfl (by decide +kernel) ⟨(Nat.le_of_ble_eq_true rfl), (Nat.le_of_ble_eq_true rfl)⟩) ⟨Wd.blind, fun U hU hW => ⟨rfl, Wd.call hPc hDc hK hC hZ hS hFc U hU hW⟩⟩ rfl rfl hl.1 rfl (lv_room (Nat.le_of_ble_eq_true rfl)) dX9_init_59 ⟨(Nat.le_of_ble_eq_true rfl), (Nat.le_of_ble_eq_true rfl)⟩) hS (fun q _ h => hFc q h) hFc (fun u t H1 locs ht hvm hw hB hz1 hk1 hS => ?_)
  obtain ⟨qn28, qn29, qn30, qn31, qn32, qn33, hP1, hD1⟩ := hB
  rw [ht] at hP1
  obtain ⟨hP, hD⟩ := va_join (wr := [(h0, .inr (10, [.ref qn1, .int 0, .ref qn2, .ref qn12, .ref qn22, .null, .null, .null, .null])), (qn1, .inl (cA 2, 700, .inl (fun _ => 0))), (qn2, .inr (7, [.int 0, .int 365, .int 0, .int 0, .ref qn3, .int 0, .ref qn4, .ref qn5, .ref qn6, .ref qn7, .int 0, .ref qn8, .int 0, .ref qn9, .ref qn10, .ref qn11, .int 0])), (qn3, .inl (cA 0, 6, .inl (fun _ => 0))), (qn4, .inl (cA 1, 10, .inr (.inl (fun _ => 0)))), (qn5, .inl (cA 0, 10, .inl (fun _ => 0))), (qn6, .inl (cA 0, 10, .inl (fun _ => 0))), (qn7, .inl (cA 0, 10, .inl (fun _ => 0))), (qn8, .inl (cA 1, 8, .inr (.inl (fun _ => 0)))), (qn9, .inl (cA 0, 350, .inl (fun _ => 0))), (qn10, .inl (cA 0, 350, .inl (fun _ => 0))), (qn11, .inl (cA 0, 10, .inl (fun _ => 0))), (qn12, .inr (7, [.int 0, .int 365, .int 0, .int 0, .ref qn13, .int 0, .ref qn14, .ref qn15, .ref qn16, .ref qn17, .int 0, .ref qn18, .int 0, .ref qn19, .ref qn20, .ref qn21, .int 0])), (qn13, .inl (cA 0, 6, .inl (fun _ => 0))), (qn14, .inl (cA 1, 10, .inr (.inl (fun _ => 0)))), (qn15, .inl (cA 0, 10, .inl (fun _ => 0))), (qn16, .inl (cA 0, 10, .inl (fun _ => 0))), (qn17, .inl (cA 0, 10, .inl (fun _ => 0))), (qn18, .inl (cA 1, 8, .inr (.inl (fun _ => 0)))), (qn19, .inl (cA 0, 350, .inl (fun _ => 0))), (qn20, .inl (cA 0, 350, .inl (fun _ => 0))), (qn21, .inl (cA 0, 10, .inl (fun _ => 0))), (qn22, .inr (8, [.ref qn23, .ref qn12, .int 0, .int 0, .int 0, .long 0, .int 0, .int 0, .int (-1)])), (qn23, .inr (9, [.ref qn24, .ref qn25, .ref qn26, .int 0])), (qn24, .inl (cA 0, 701, .inl (fun _ => 0))), (qn25, .inl (cA 0, 701, .inl (fun _ => 0))), (qn26, .inl (cA 1, 701, .inr (.inl (fun _ => 0))))]) (w1 := [(qn27, .inr (4, [.ref qn2, .ref qn28, .ref qn30, .ref qn31, .ref qn32, .ref qn33, .int 0, .int 0, .int 0, .long 0, .long 0, .long 0, .int 0, .int 0, .int 0, .int 0, .int 0, .int 0, .int 0, .int 0])), (qn28, .inr (6, [.ref qn29, .int 0, .int 0])), (qn29, .inl (cA 0, 240, .inl (fun _ => 0))), (qn30, .inl (cA 0, 10, .inl (fun _ => 0))), (qn31, .inl (cA 0, 10, .inl (fun _ => 0))), (qn32, .inl (cA 0, 10, .inl (fun _ => 0))), (qn33, .inl (cA 0, 10, .inl (fun _ => 0)))]) hP hD [27] [0, 1, 2, 3, 4, 5, 6, 7, 8, 9, 10, 11, 12, 13, 14, 15, 16, 17, 18, 19, 20, 21, 22, 23, 24, 25, 26] rfl rfl (by decide) (by decide) hk1 hFc hP1 hD1
  generalize H1 = H at hP hS ⊢
  have hP : va_P D vwCl [(h0, .inr (10, [.ref qn1, .int 0, .ref qn2, .ref qn12, .ref qn22, .null, .null, .null, .null])), (qn1, .inl (cA 2, 700, .inl (fun _ => 0))), (qn2, .inr (7, [.int 0, .int 365, .int 0, .int 0, .ref qn3, .int 0, .ref qn4, .ref qn5, .ref qn6, .ref qn7, .int 0, .ref qn8, .int 0, .ref qn9, .ref qn10, .ref qn11, .int 0])), (qn3, .inl (cA 0, 6, .inl (fun _ => 0))), (qn4, .inl (cA 1, 10, .inr (.inl (fun _ => 0)))), (qn5, .inl (cA 0, 10, .inl (fun _ => 0))), (qn6, .inl (cA 0, 10, .inl (fun _ => 0))), (qn7, .inl (cA 0, 10, .inl (fun _ => 0))), (qn8, .inl (cA 1, 8, .inr (.inl (fun _ => 0)))), (qn9, .inl (cA 0, 350, .inl (fun _ => 0))), (qn10, .inl (cA 0, 350, .inl (fun _ => 0))), (qn11, .inl (cA 0, 10, .inl (fun _ => 0))), (qn12, .inr (7, [.int 0, .int 365, .int 0, .int 0, .ref qn13, .int 0, .ref qn14, .ref qn15, .ref qn16, .ref qn17, .int 0, .ref qn18, .int 0, .ref qn19, .ref qn20, .ref qn21, .int 0])), (qn13, .inl (cA 0, 6, .inl (fun _ => 0))), (qn14, .inl (cA 1, 10, .inr (.inl (fun _ => 0)))), (qn15, .inl (cA 0, 10, .inl (fun _ => 0))), (qn16, .inl (cA 0, 10, .inl (fun _ => 0))), (qn17, .inl (cA 0, 10, .inl (fun _ => 0))), (qn18, .inl (cA 1, 8, .inr (.inl (fun _ => 0)))), (qn19, .inl (cA 0, 350, .inl (fun _ => 0))), (qn20, .inl (cA 0, 350, .inl (fun _ => 0))), (qn21, .inl (cA 0, 10, .inl (fun _ => 0))), (qn22, .inr (8, [.ref qn23, .ref qn12, .int 0, .int 0, .int 0, .long 0, .int 0, .int 0, .int (-1)])), (qn23, .inr (9, [.ref qn24, .ref qn25, .ref qn26, .int 0])), (qn24, .inl (cA 0, 701, .inl (fun _ => 0))), (qn25, .inl (cA 0, 701, .inl (fun _ => 0))), (qn26, .inl (cA 1, 701, .inr (.inl (fun _ => 0)))), (qn27, .inr (4, [.ref qn2, .ref qn28, .ref qn30, .ref qn31, .ref qn32, .ref qn33, .int 0, .int 0, .int 0, .long 0, .long 0, .long 0, .int 0, .int 0, .int 0, .int 0, .int 0, .int 0, .int 0, .int 0])), (qn28, .inr (6, [.ref qn29, .int 0, .int 0])), (qn29, .inl (cA 0, 240, .inl (fun _ => 0))), (qn30, .inl (cA 0, 10, .inl (fun _ => 0))), (qn31, .inl (cA 0, 10, .inl (fun _ => 0))), (qn32, .inl (cA 0, 10, .inl (fun _ => 0))), (qn33, .inl (cA 0, 10, .inl (fun _ => 0)))] H := hP
  have hD : va_D A [(h0, .inr (10, [.ref qn1, .int 0, .ref qn2, .ref qn12, .ref qn22, .null, .null, .null, .null])), (qn1, .inl (cA 2, 700, .inl (fun _ => 0))), (qn2, .inr (7, [.int 0, .int 365, .int 0, .int 0, .ref qn3, .int 0, .ref qn4, .ref qn5, .ref qn6, .ref qn7, .int 0, .ref qn8, .int 0, .ref qn9, .ref qn10, .ref qn11, .int 0])), (qn3, .inl (cA 0, 6, .inl (fun _ => 0))), (qn4, .inl (cA 1, 10, .inr (.inl (fun _ => 0)))), (qn5, .inl (cA 0, 10, .inl (fun _ => 0))), (qn6, .inl (cA 0, 10, .inl (fun _ => 0))), (qn7, .inl (cA 0, 10, .inl (fun _ => 0))), (qn8, .inl (cA 1, 8, .inr (.inl (fun _ => 0)))), (qn9, .inl (cA 0, 350, .inl (fun _ => 0))), (qn10, .inl (cA 0, 350, .inl (fun _ => 0))), (qn11, .inl (cA 0, 10, .inl (fun _ => 0))), (qn12, .inr (7, [.int 0, .int 365, .int 0, .int 0, .ref qn13, .int 0, .ref qn14, .ref qn15, .ref qn16, .ref qn17, .int 0, .ref qn18, .int 0, .ref qn19, .ref qn20, .ref qn21, .int 0])), (qn13, .inl (cA 0, 6, .inl (fun _ => 0))), (qn14, .inl (cA 1, 10, .inr (.inl (fun _ => 0)))), (qn15, .inl (cA 0, 10, .inl (fun _ => 0))), (qn16, .inl (cA 0, 10, .inl (fun _ => 0))), (qn17, .inl (cA 0, 10, .inl (fun _ => 0))), (qn18, .inl (cA 1, 8, .inr (.inl (fun _ => 0)))), (qn19, .inl (cA 0, 350, .inl (fun _ => 0))), (qn20, .inl (cA 0, 350, .inl (fun _ => 0))), (qn21, .inl (cA 0, 10, .inl (fun _ => 0))), (qn22, .inr (8, [.ref qn23, .ref qn12, .int 0, .int 0, .int 0, .long 0, .int 0, .int 0, .int (-1)])), (qn23, .inr (9, [.ref qn24, .ref qn25, .ref qn26, .int 0])), (qn24, .inl (cA 0, 701, .inl (fun _ => 0))), (qn25, .inl (cA 0, 701, .inl (fun _ => 0))), (qn26, .inl (cA 1, 701, .inr (.inl (fun _ => 0)))), (qn27, .inr (4, [.ref qn2, .ref qn28, .ref qn30, .ref qn31, .ref qn32, .ref qn33, .int 0, .int 0, .int 0, .long 0, .long 0, .long 0, .int 0, .int 0, .int 0, .int 0, .int 0, .int 0, .int 0, .int 0])), (qn28, .inr (6, [.ref qn29, .int 0, .int 0])), (qn29, .inl (cA 0, 240, .inl (fun _ => 0))), (qn30, .inl (cA 0, 10, .inl (fun _ => 0))), (qn31, .inl (cA 0, 10, .inl (fun _ => 0))), (qn32, .inl (cA 0, 10, .inl (fun _ => 0))), (qn33, .inl (cA 0, 10, .inl (fun _ => 0)))] := hD
  refine va_putF (D := D) (ci := 10) (v := .ref qn27) (ty := (.object "EscrowDesk$Account")) (C := RX9) (T := TX9) (N := 9) hx hb hts inX9 tyX9 tyX9_ok nmX9 hown hK hP hD hS 0 rfl rfl 5 (by decide) (hts (.fieldLink RX9 35 "EscrowDesk" "account" "LEscrowDesk$Account;") (by decide +kernel)) (fun _ h9 => h9) rfl hin rfl (by decide +kernel) rfl rfl (Nat.le_of_ble_eq_true rfl) dX9_init_62 (fun H locs hP hD hS => ?_)
  have hP : va_P D vwCl [(h0, .inr (10, [.ref qn1, .int 0, .ref qn2, .ref qn12, .ref qn22, .ref qn27, .null, .null, .null])), (qn1, .inl (cA 2, 700, .inl (fun _ => 0))), (qn2, .inr (7, [.int 0, .int 365, .int 0, .int 0, .ref qn3, .int 0, .ref qn4, .ref qn5, .ref qn6, .ref qn7, .int 0, .ref qn8, .int 0, .ref qn9, .ref qn10, .ref qn11, .int 0])), (qn3, .inl (cA 0, 6, .inl (fun _ => 0))), (qn4, .inl (cA 1, 10, .inr (.inl (fun _ => 0)))), (qn5, .inl (cA 0, 10, .inl (fun _ => 0))), (qn6, .inl (cA 0, 10, .inl (fun _ => 0))), (qn7, .inl (cA 0, 10, .inl (fun _ => 0))), (qn8, .inl (cA 1, 8, .inr (.inl (fun _ => 0)))), (qn9, .inl (cA 0, 350, .inl (fun _ => 0))), (qn10, .inl (cA 0, 350, .inl (fun _ => 0))), (qn11, .inl (cA 0, 10, .inl (fun _ => 0))), (qn12, .inr (7, [.int 0, .int 365, .int 0, .int 0, .ref qn13, .int 0, .ref qn14, .ref qn15, .ref qn16, .ref qn17, .int 0, .ref qn18, .int 0, .ref qn19, .ref qn20, .ref qn21, .int 0])), (qn13, .inl (cA 0, 6, .inl (fun _ => 0))), (qn14, .inl (cA 1, 10, .inr (.inl (fun _ => 0)))), (qn15, .inl (cA 0, 10, .inl (fun _ => 0))), (qn16, .inl (cA 0, 10, .inl (fun _ => 0))), (qn17, .inl (cA 0, 10, .inl (fun _ => 0))), (qn18, .inl (cA 1, 8, .inr (.inl (fun _ => 0)))), (qn19, .inl (cA 0, 350, .inl (fun _ => 0))), (qn20, .inl (cA 0, 350, .inl (fun _ => 0))), (qn21, .inl (cA 0, 10, .inl (fun _ => 0))), (qn22, .inr (8, [.ref qn23, .ref qn12, .int 0, .int 0, .int 0, .long 0, .int 0, .int 0, .int (-1)])), (qn23, .inr (9, [.ref qn24, .ref qn25, .ref qn26, .int 0])), (qn24, .inl (cA 0, 701, .inl (fun _ => 0))), (qn25, .inl (cA 0, 701, .inl (fun _ => 0))), (qn26, .inl (cA 1, 701, .inr (.inl (fun _ => 0)))), (qn27, .inr (4, [.ref qn2, .ref qn28, .ref qn30, .ref qn31, .ref qn32, .ref qn33, .int 0, .int 0, .int 0, .long 0, .long 0, .long 0, .int 0, .int 0, .int 0, .int 0, .int 0, .int 0, .int 0, .int 0])), (qn28, .inr (6, [.ref qn29, .int 0, .int 0])), (qn29, .inl (cA 0, 240, .inl (fun _ => 0))), (qn30, .inl (cA 0, 10, .inl (fun _ => 0))), (qn31, .inl (cA 0, 10, .inl (fun _ => 0))), (qn32, .inl (cA 0, 10, .inl (fun _ => 0))), (qn33, .inl (cA 0, 10, .inl (fun _ => 0)))] H := hP
  have hD : va_D A [(h0, .inr (10, [.ref qn1, .int 0, .ref qn2, .ref qn12, .ref qn22, .ref qn27, .null, .null, .null])), (qn1, .inl (cA 2, 700, .inl (fun _ => 0))), (qn2, .inr (7, [.int 0, .int 365, .int 0, .int 0, .ref qn3, .int 0, .ref qn4, .ref qn5, .ref qn6, .ref qn7, .int 0, .ref qn8, .int 0, .ref qn9, .ref qn10, .ref qn11, .int 0])), (qn3, .inl (cA 0, 6, .inl (fun _ => 0))), (qn4, .inl (cA 1, 10, .inr (.inl (fun _ => 0)))), (qn5, .inl (cA 0, 10, .inl (fun _ => 0))), (qn6, .inl (cA 0, 10, .inl (fun _ => 0))), (qn7, .inl (cA 0, 10, .inl (fun _ => 0))), (qn8, .inl (cA 1, 8, .inr (.inl (fun _ => 0)))), (qn9, .inl (cA 0, 350, .inl (fun _ => 0))), (qn10, .inl (cA 0, 350, .inl (fun _ => 0))), (qn11, .inl (cA 0, 10, .inl (fun _ => 0))), (qn12, .inr (7, [.int 0, .int 365, .int 0, .int 0, .ref qn13, .int 0, .ref qn14, .ref qn15, .ref qn16, .ref qn17, .int 0, .ref qn18, .int 0, .ref qn19, .ref qn20, .ref qn21, .int 0])), (qn13, .inl (cA 0, 6, .inl (fun _ => 0))), (qn14, .inl (cA 1, 10, .inr (.inl (fun _ => 0)))), (qn15, .inl (cA 0, 10, .inl (fun _ => 0))), (qn16, .inl (cA 0, 10, .inl (fun _ => 0))), (qn17, .inl (cA 0, 10, .inl (fun _ => 0))), (qn18, .inl (cA 1, 8, .inr (.inl (fun _ => 0)))), (qn19, .inl (cA 0, 350, .inl (fun _ => 0))), (qn20, .inl (cA 0, 350, .inl (fun _ => 0))), (qn21, .inl (cA 0, 10, .inl (fun _ => 0))), (qn22, .inr (8, [.ref qn23, .ref qn12, .int 0, .int 0, .int 0, .long 0, .int 0, .int 0, .int (-1)])), (qn23, .inr (9, [.ref qn24, .ref qn25, .ref qn26, .int 0])), (qn24, .inl (cA 0, 701, .inl (fun _ => 0))), (qn25, .inl (cA 0, 701, .inl (fun _ => 0))), (qn26, .inl (cA 1, 701, .inr (.inl (fun _ => 0)))), (qn27, .inr (4, [.ref qn2, .ref qn28, .ref qn30, .ref qn31, .ref qn32, .ref qn33, .int 0, .int 0, .int 0, .long 0, .long 0, .long 0, .int 0, .int 0, .int 0, .int 0, .int 0, .int 0, .int 0, .int 0])), (qn28, .inr (6, [.ref qn29, .int 0, .int 0])), (qn29, .inl (cA 0, 240, .inl (fun _ => 0))), (qn30, .inl (cA 0, 10, .inl (fun _ => 0))), (qn31, .inl (cA 0, 10, .inl (fun _ => 0))), (qn32, .inl (cA 0, 10, .inl (fun _ => 0))), (qn33, .inl (cA 0, 10, .inl (fun _ => 0)))] := hD
  refine lv_aload_n hx hb dX9_init_65 rfl (lv_at hl 0 rfl) ?_
  refine va_new (ci := 4) (fs := [.null, .null, .null, .null, .null, .null, .int 0, .int 0, .int 0, .long 0, .long 0, .long 0, .int 0, .int 0, .int 0, .int 0, .int 0, .int 0, .int 0, .int 0]) (C := RX0) (T := TX0) (N := 20) hx hb hts inX0 tyX0 tyX0_ok hown (hts (.classLink RX9 32 RX0) (by decide +kernel)) (hts (.instantiable RX0 20) (by decide +kernel)) (hts (.initialized RX0) (by decide +kernel)) hK hP hD hS hA rfl (by decide +kernel) (Nat.le_of_ble_eq_true rfl) (Nat.le_of_ble_eq_true rfl) dX9_init_66 (fun qn34 H hP hD hS => ?_)
  have hP : va_P D vwCl [(h0, .inr (10, [.ref qn1, .int 0, .ref qn2, .ref qn12, .ref qn22, .ref qn27, .null, .null, .null])), (qn1, .inl (cA 2, 700, .inl (fun _ => 0))), (qn2, .inr (7, [.int 0, .int 365, .int 0, .int 0, .ref qn3, .int 0, .ref qn4, .ref qn5, .ref qn6, .ref qn7, .int 0, .ref qn8, .int 0, .ref qn9, .ref qn10, .ref qn11, .int 0])), (qn3, .inl (cA 0, 6, .inl (fun _ => 0))), (qn4, .inl (cA 1, 10, .inr (.inl (fun _ => 0)))), (qn5, .inl (cA 0, 10, .inl (fun _ => 0))), (qn6, .inl (cA 0, 10, .inl (fun _ => 0))), (qn7, .inl (cA 0, 10, .inl (fun _ => 0))), (qn8, .inl (cA 1, 8, .inr (.inl (fun _ => 0)))), (qn9, .inl (cA 0, 350, .inl (fun _ => 0))), (qn10, .inl (cA 0, 350, .inl (fun _ => 0))), (qn11, .inl (cA 0, 10, .inl (fun _ => 0))), (qn12, .inr (7, [.int 0, .int 365, .int 0, .int 0, .ref qn13, .int 0, .ref qn14, .ref qn15, .ref qn16, .ref qn17, .int 0, .ref qn18, .int 0, .ref qn19, .ref qn20, .ref qn21, .int 0])), (qn13, .inl (cA 0, 6, .inl (fun _ => 0))), (qn14, .inl (cA 1, 10, .inr (.inl (fun _ => 0)))), (qn15, .inl (cA 0, 10, .inl (fun _ => 0))), (qn16, .inl (cA 0, 10, .inl (fun _ => 0))), (qn17, .inl (cA 0, 10, .inl (fun _ => 0))), (qn18, .inl (cA 1, 8, .inr (.inl (fun _ => 0)))), (qn19, .inl (cA 0, 350, .inl (fun _ => 0))), (qn20, .inl (cA 0, 350, .inl (fun _ => 0))), (qn21, .inl (cA 0, 10, .inl (fun _ => 0))), (qn22, .inr (8, [.ref qn23, .ref qn12, .int 0, .int 0, .int 0, .long 0, .int 0, .int 0, .int (-1)])), (qn23, .inr (9, [.ref qn24, .ref qn25, .ref qn26, .int 0])), (qn24, .inl (cA 0, 701, .inl (fun _ => 0))), (qn25, .inl (cA 0, 701, .inl (fun _ => 0))), (qn26, .inl (cA 1, 701, .inr (.inl (fun _ => 0)))), (qn27, .inr (4, [.ref qn2, .ref qn28, .ref qn30, .ref qn31, .ref qn32, .ref qn33, .int 0, .int 0, .int 0, .long 0, .long 0, .long 0, .int 0, .int 0, .int 0, .int 0, .int 0, .int 0, .int 0, .int 0])), (qn28, .inr (6, [.ref qn29, .int 0, .int 0])), (qn29, .inl (cA 0, 240, .inl (fun _ => 0))), (qn30, .inl (cA 0, 10, .inl (fun _ => 0))), (qn31, .inl (cA 0, 10, .inl (fun _ => 0))), (qn32, .inl (cA 0, 10, .inl (fun _ => 0))), (qn33, .inl (cA 0, 10, .inl (fun _ => 0))), (qn34, .inr (4, [.null, .null, .null, .null, .null, .null, .int 0, .int 0, .int 0, .long 0, .long 0, .long 0, .int 0, .int 0, .int 0, .int 0, .int 0, .int 0, .int 0, .int 0]))] H := hP
  have hD : va_D A [(h0, .inr (10, [.ref qn1, .int 0, .ref qn2, .ref qn12, .ref qn22, .ref qn27, .null, .null, .null])), (qn1, .inl (cA 2, 700, .inl (fun _ => 0))), (qn2, .inr (7, [.int 0, .int 365, .int 0, .int 0, .ref qn3, .int 0, .ref qn4, .ref qn5, .ref qn6, .ref qn7, .int 0, .ref qn8, .int 0, .ref qn9, .ref qn10, .ref qn11, .int 0])), (qn3, .inl (cA 0, 6, .inl (fun _ => 0))), (qn4, .inl (cA 1, 10, .inr (.inl (fun _ => 0)))), (qn5, .inl (cA 0, 10, .inl (fun _ => 0))), (qn6, .inl (cA 0, 10, .inl (fun _ => 0))), (qn7, .inl (cA 0, 10, .inl (fun _ => 0))), (qn8, .inl (cA 1, 8, .inr (.inl (fun _ => 0)))), (qn9, .inl (cA 0, 350, .inl (fun _ => 0))), (qn10, .inl (cA 0, 350, .inl (fun _ => 0))), (qn11, .inl (cA 0, 10, .inl (fun _ => 0))), (qn12, .inr (7, [.int 0, .int 365, .int 0, .int 0, .ref qn13, .int 0, .ref qn14, .ref qn15, .ref qn16, .ref qn17, .int 0, .ref qn18, .int 0, .ref qn19, .ref qn20, .ref qn21, .int 0])), (qn13, .inl (cA 0, 6, .inl (fun _ => 0))), (qn14, .inl (cA 1, 10, .inr (.inl (fun _ => 0)))), (qn15, .inl (cA 0, 10, .inl (fun _ => 0))), (qn16, .inl (cA 0, 10, .inl (fun _ => 0))), (qn17, .inl (cA 0, 10, .inl (fun _ => 0))), (qn18, .inl (cA 1, 8, .inr (.inl (fun _ => 0)))), (qn19, .inl (cA 0, 350, .inl (fun _ => 0))), (qn20, .inl (cA 0, 350, .inl (fun _ => 0))), (qn21, .inl (cA 0, 10, .inl (fun _ => 0))), (qn22, .inr (8, [.ref qn23, .ref qn12, .int 0, .int 0, .int 0, .long 0, .int 0, .int 0, .int (-1)])), (qn23, .inr (9, [.ref qn24, .ref qn25, .ref qn26, .int 0])), (qn24, .inl (cA 0, 701, .inl (fun _ => 0))), (qn25, .inl (cA 0, 701, .inl (fun _ => 0))), (qn26, .inl (cA 1, 701, .inr (.inl (fun _ => 0)))), (qn27, .inr (4, [.ref qn2, .ref qn28, .ref qn30, .ref qn31, .ref qn32, .ref qn33, .int 0, .int 0, .int 0, .long 0, .long 0, .long 0, .int 0, .int 0, .int 0, .int 0, .int 0, .int 0, .int 0, .int 0])), (qn28, .inr (6, [.ref qn29, .int 0, .int 0])), (qn29, .inl (cA 0, 240, .inl (fun _ => 0))), (qn30, .inl (cA 0, 10, .inl (fun _ => 0))), (qn31, .inl (cA 0, 10, .inl (fun _ => 0))), (qn32, .inl (cA 0, 10, .inl (fun _ => 0))), (qn33, .inl (cA 0, 10, .inl (fun _ => 0))), (qn34, .inr (4, [.null, .null, .null, .null, .null, .null, .int 0, .int 0, .int 0, .long 0, .long 0, .long 0, .int 0, .int 0, .int 0, .int 0, .int 0, .int 0, .int 0, .int 0]))] := hD
  refine lv_dup hx hb dX9_init_69 rfl ?_
  refine lv_aload_n hx hb dX9_init_70 rfl (lv_at hl 0 rfl) ?_
  refine va_get (D := D) (ci := 10) (v := .ref qn2) (C := RX9) (T := TX9) (N := 9) hx hb hts inX9 hown hK hP 0 rfl rfl 2 (by decide) (hts (.fieldLink RX9 16 "EscrowDesk" "plan" "LEscrowDesk$Plan;") (by decide +kernel)) (fun _ h9 => h9) rfl dX9_init_71 ?_
  have hPc := hP.sub (ws' := [(qn34, .inr (4, [.null, .null, .null, .null, .null, .null, .int 0, .int 0, .int 0, .long 0, .long 0, .long 0, .int 0, .int 0, .int 0, .int 0, .int 0, .int 0, .int 0, .int 0]))]) [34] rfl
  have hDc := hD.sub (ws' := [(qn34, .inr (4, [.null, .null, .null, .null, .null, .null, .int 0, .int 0, .int 0, .long 0, .long 0, .long 0, .int 0, .int 0, .int 0, .int 0, .int 0, .int 0, .int 0, .int 0]))]) [34] (by decide) rfl
  have hFc := va_free (wc := [(qn34, .inr (4, [.null, .null, .null, .null, .null, .null, .int 0, .int 0, .int 0, .long 0, .long 0, .long 0, .int 0, .int 0, .int 0, .int 0, .int 0, .int 0, .int 0, .int 0]))]) hD hS hA [34] rfl
  refine va_callv (va_runI (As := [.ref qn2]) (rest := [.ref qn34, .ref h0]) ⟨hx, hb, hml, hown, hts⟩ (c_X0_init l D cA sa qn34 qn2 H.size) (cwI 1 hts gX9_init_X0_init rfl rfl rfl (hts (.initialized RX0) (by decide +kernel)) (hts (.methodLink RX9 34 yX0_init) (by decide +kernel)) (hts (.instanceMethod yX0_init) (by decide +kernel)) rfl (by decide +kernel) ⟨(Nat.le_of_ble_eq_true rfl), (Nat.le_of_ble_eq_true rfl)⟩) ⟨Wd.blind, fun U hU hW => ⟨rfl, Wd.call hPc hDc hK hC hZ hS hFc U hU hW⟩⟩ rfl rfl hl.1 rfl (lv_room (Nat.le_of_ble_eq_true rfl)) dX9_init_74 ⟨(Nat.le_of_ble_eq_true rfl), (Nat.le_of_ble_eq_true rfl)⟩) hS (fun q _ h => hFc q h) hFc (fun u t H1 locs ht hvm hw hB hz1 hk1 hS => ?_)
  obtain ⟨qn35, qn36, qn37, qn38, qn39, qn40, hP1, hD1⟩ := hB
  rw [ht] at hP1
  obtain ⟨hP, hD⟩ := va_join (wr := [(h0, .inr (10, [.ref qn1, .int 0, .ref qn2, .ref qn12, .ref qn22, .ref qn27, .null, .null, .null])), (qn1, .inl (cA 2, 700, .inl (fun _ => 0))), (qn2, .inr (7, [.int 0, .int 365, .int 0, .int 0, .ref qn3, .int 0, .ref qn4, .ref qn5, .ref qn6, .ref qn7, .int 0, .ref qn8, .int 0, .ref qn9, .ref qn10, .ref qn11, .int 0])), (qn3, .inl (cA 0, 6, .inl (fun _ => 0))), (qn4, .inl (cA 1, 10, .inr (.inl (fun _ => 0)))), (qn5, .inl (cA 0, 10, .inl (fun _ => 0))), (qn6, .inl (cA 0, 10, .inl (fun _ => 0))), (qn7, .inl (cA 0, 10, .inl (fun _ => 0))), (qn8, .inl (cA 1, 8, .inr (.inl (fun _ => 0)))), (qn9, .inl (cA 0, 350, .inl (fun _ => 0))), (qn10, .inl (cA 0, 350, .inl (fun _ => 0))), (qn11, .inl (cA 0, 10, .inl (fun _ => 0))), (qn12, .inr (7, [.int 0, .int 365, .int 0, .int 0, .ref qn13, .int 0, .ref qn14, .ref qn15, .ref qn16, .ref qn17, .int 0, .ref qn18, .int 0, .ref qn19, .ref qn20, .ref qn21, .int 0])), (qn13, .inl (cA 0, 6, .inl (fun _ => 0))), (qn14, .inl (cA 1, 10, .inr (.inl (fun _ => 0)))), (qn15, .inl (cA 0, 10, .inl (fun _ => 0))), (qn16, .inl (cA 0, 10, .inl (fun _ => 0))), (qn17, .inl (cA 0, 10, .inl (fun _ => 0))), (qn18, .inl (cA 1, 8, .inr (.inl (fun _ => 0)))), (qn19, .inl (cA 0, 350, .inl (fun _ => 0))), (qn20, .inl (cA 0, 350, .inl (fun _ => 0))), (qn21, .inl (cA 0, 10, .inl (fun _ => 0))), (qn22, .inr (8, [.ref qn23, .ref qn12, .int 0, .int 0, .int 0, .long 0, .int 0, .int 0, .int (-1)])), (qn23, .inr (9, [.ref qn24, .ref qn25, .ref qn26, .int 0])), (qn24, .inl (cA 0, 701, .inl (fun _ => 0))), (qn25, .inl (cA 0, 701, .inl (fun _ => 0))), (qn26, .inl (cA 1, 701, .inr (.inl (fun _ => 0)))), (qn27, .inr (4, [.ref qn2, .ref qn28, .ref qn30, .ref qn31, .ref qn32, .ref qn33, .int 0, .int 0, .int 0, .long 0, .long 0, .long 0, .int 0, .int 0, .int 0, .int 0, .int 0, .int 0, .int 0, .int 0])), (qn28, .inr (6, [.ref qn29, .int 0, .int 0])), (qn29, .inl (cA 0, 240, .inl (fun _ => 0))), (qn30, .inl (cA 0, 10, .inl (fun _ => 0))), (qn31, .inl (cA 0, 10, .inl (fun _ => 0))), (qn32, .inl (cA 0, 10, .inl (fun _ => 0))), (qn33, .inl (cA 0, 10, .inl (fun _ => 0)))]) (w1 := [(qn34, .inr (4, [.ref qn2, .ref qn35, .ref qn37, .ref qn38, .ref qn39, .ref qn40, .int 0, .int 0, .int 0, .long 0, .long 0, .long 0, .int 0, .int 0, .int 0, .int 0, .int 0, .int 0, .int 0, .int 0])), (qn35, .inr (6, [.ref qn36, .int 0, .int 0])), (qn36, .inl (cA 0, 240, .inl (fun _ => 0))), (qn37, .inl (cA 0, 10, .inl (fun _ => 0))), (qn38, .inl (cA 0, 10, .inl (fun _ => 0))), (qn39, .inl (cA 0, 10, .inl (fun _ => 0))), (qn40, .inl (cA 0, 10, .inl (fun _ => 0)))]) hP hD [34] [0, 1, 2, 3, 4, 5, 6, 7, 8, 9, 10, 11, 12, 13, 14, 15, 16, 17, 18, 19, 20, 21, 22, 23, 24, 25, 26, 27, 28, 29, 30, 31, 32, 33] rfl rfl (by decide) (by decide) hk1 hFc hP1 hD1
  generalize H1 = H at hP hS ⊢
  have hP : va_P D vwCl [(h0, .inr (10, [.ref qn1, .int 0, .ref qn2, .ref qn12, .ref qn22, .ref qn27, .null, .null, .null])), (qn1, .inl (cA 2, 700, .inl (fun _ => 0))), (qn2, .inr (7, [.int 0, .int 365, .int 0, .int 0, .ref qn3, .int 0, .ref qn4, .ref qn5, .ref qn6, .ref qn7, .int 0, .ref qn8, .int 0, .ref qn9, .ref qn10, .ref qn11, .int 0])), (qn3, .inl (cA 0, 6, .inl (fun _ => 0))), (qn4, .inl (cA 1, 10, .inr (.inl (fun _ => 0)))), (qn5, .inl (cA 0, 10, .inl (fun _ => 0))), (qn6, .inl (cA 0, 10, .inl (fun _ => 0))), (qn7, .inl (cA 0, 10, .inl (fun _ => 0))), (qn8, .inl (cA 1, 8, .inr (.inl (fun _ => 0)))), (qn9, .inl (cA 0, 350, .inl (fun _ => 0))), (qn10, .inl (cA 0, 350, .inl (fun _ => 0))), (qn11, .inl (cA 0, 10, .inl (fun _ => 0))), (qn12, .inr (7, [.int 0, .int 365, .int 0, .int 0, .ref qn13, .int 0, .ref qn14, .ref qn15, .ref qn16, .ref qn17, .int 0, .ref qn18, .int 0, .ref qn19, .ref qn20, .ref qn21, .int 0])), (qn13, .inl (cA 0, 6, .inl (fun _ => 0))), (qn14, .inl (cA 1, 10, .inr (.inl (fun _ => 0)))), (qn15, .inl (cA 0, 10, .inl (fun _ => 0))), (qn16, .inl (cA 0, 10, .inl (fun _ => 0))), (qn17, .inl (cA 0, 10, .inl (fun _ => 0))), (qn18, .inl (cA 1, 8, .inr (.inl (fun _ => 0)))), (qn19, .inl (cA 0, 350, .inl (fun _ => 0))), (qn20, .inl (cA 0, 350, .inl (fun _ => 0))), (qn21, .inl (cA 0, 10, .inl (fun _ => 0))), (qn22, .inr (8, [.ref qn23, .ref qn12, .int 0, .int 0, .int 0, .long 0, .int 0, .int 0, .int (-1)])), (qn23, .inr (9, [.ref qn24, .ref qn25, .ref qn26, .int 0])), (qn24, .inl (cA 0, 701, .inl (fun _ => 0))), (qn25, .inl (cA 0, 701, .inl (fun _ => 0))), (qn26, .inl (cA 1, 701, .inr (.inl (fun _ => 0)))), (qn27, .inr (4, [.ref qn2, .ref qn28, .ref qn30, .ref qn31, .ref qn32, .ref qn33, .int 0, .int 0, .int 0, .long 0, .long 0, .long 0, .int 0, .int 0, .int 0, .int 0, .int 0, .int 0, .int 0, .int 0])), (qn28, .inr (6, [.ref qn29, .int 0, .int 0])), (qn29, .inl (cA 0, 240, .inl (fun _ => 0))), (qn30, .inl (cA 0, 10, .inl (fun _ => 0))), (qn31, .inl (cA 0, 10, .inl (fun _ => 0))), (qn32, .inl (cA 0, 10, .inl (fun _ => 0))), (qn33, .inl (cA 0, 10, .inl (fun _ => 0))), (qn34, .inr (4, [.ref qn2, .ref qn35, .ref qn37, .ref qn38, .ref qn39, .ref qn40, .int 0, .int 0, .int 0, .long 0, .long 0, .long 0, .int 0, .int 0, .int 0, .int 0, .int 0, .int 0, .int 0, .int 0])), (qn35, .inr (6, [.ref qn36, .int 0, .int 0])), (qn36, .inl (cA 0, 240, .inl (fun _ => 0))), (qn37, .inl (cA 0, 10, .inl (fun _ => 0))), (qn38, .inl (cA 0, 10, .inl (fun _ => 0))), (qn39, .inl (cA 0, 10, .inl (fun _ => 0))), (qn40, .inl (cA 0, 10, .inl (fun _ => 0)))] H := hP
  have hD : va_D A [(h0, .inr (10, [.ref qn1, .int 0, .ref qn2, .ref qn12, .ref qn22, .ref qn27, .null, .null, .null])), (qn1, .inl (cA 2, 700, .inl (fun _ => 0))), (qn2, .inr (7, [.int 0, .int 365, .int 0, .int 0, .ref qn3, .int 0, .ref qn4, .ref qn5, .ref qn6, .ref qn7, .int 0, .ref qn8, .int 0, .ref qn9, .ref qn10, .ref qn11, .int 0])), (qn3, .inl (cA 0, 6, .inl (fun _ => 0))), (qn4, .inl (cA 1, 10, .inr (.inl (fun _ => 0)))), (qn5, .inl (cA 0, 10, .inl (fun _ => 0))), (qn6, .inl (cA 0, 10, .inl (fun _ => 0))), (qn7, .inl (cA 0, 10, .inl (fun _ => 0))), (qn8, .inl (cA 1, 8, .inr (.inl (fun _ => 0)))), (qn9, .inl (cA 0, 350, .inl (fun _ => 0))), (qn10, .inl (cA 0, 350, .inl (fun _ => 0))), (qn11, .inl (cA 0, 10, .inl (fun _ => 0))), (qn12, .inr (7, [.int 0, .int 365, .int 0, .int 0, .ref qn13, .int 0, .ref qn14, .ref qn15, .ref qn16, .ref qn17, .int 0, .ref qn18, .int 0, .ref qn19, .ref qn20, .ref qn21, .int 0])), (qn13, .inl (cA 0, 6, .inl (fun _ => 0))), (qn14, .inl (cA 1, 10, .inr (.inl (fun _ => 0)))), (qn15, .inl (cA 0, 10, .inl (fun _ => 0))), (qn16, .inl (cA 0, 10, .inl (fun _ => 0))), (qn17, .inl (cA 0, 10, .inl (fun _ => 0))), (qn18, .inl (cA 1, 8, .inr (.inl (fun _ => 0)))), (qn19, .inl (cA 0, 350, .inl (fun _ => 0))), (qn20, .inl (cA 0, 350, .inl (fun _ => 0))), (qn21, .inl (cA 0, 10, .inl (fun _ => 0))), (qn22, .inr (8, [.ref qn23, .ref qn12, .int 0, .int 0, .int 0, .long 0, .int 0, .int 0, .int (-1)])), (qn23, .inr (9, [.ref qn24, .ref qn25, .ref qn26, .int 0])), (qn24, .inl (cA 0, 701, .inl (fun _ => 0))), (qn25, .inl (cA 0, 701, .inl (fun _ => 0))), (qn26, .inl (cA 1, 701, .inr (.inl (fun _ => 0)))), (qn27, .inr (4, [.ref qn2, .ref qn28, .ref qn30, .ref qn31, .ref qn32, .ref qn33, .int 0, .int 0, .int 0, .long 0, .long 0, .long 0, .int 0, .int 0, .int 0, .int 0, .int 0, .int 0, .int 0, .int 0])), (qn28, .inr (6, [.ref qn29, .int 0, .int 0])), (qn29, .inl (cA 0, 240, .inl (fun _ => 0))), (qn30, .inl (cA 0, 10, .inl (fun _ => 0))), (qn31, .inl (cA 0, 10, .inl (fun _ => 0))), (qn32, .inl (cA 0, 10, .inl (fun _ => 0))), (qn33, .inl (cA 0, 10, .inl (fun _ => 0))), (qn34, .inr (4, [.ref qn2, .ref qn35, .ref qn37, .ref qn38, .ref qn39, .ref qn40, .int 0, .int 0, .int 0, .long 0, .long 0, .long 0, .int 0, .int 0, .int 0, .int 0, .int 0, .int 0, .int 0, .int 0])), (qn35, .inr (6, [.ref qn36, .int 0, .int 0])), (qn36, .inl (cA 0, 240, .inl (fun _ => 0))), (qn37, .inl (cA 0, 10, .inl (fun _ => 0))), (qn38, .inl (cA 0, 10, .inl (fun _ => 0))), (qn39, .inl (cA 0, 10, .inl (fun _ => 0))), (qn40, .inl (cA 0, 10, .inl (fun _ => 0)))] := hD
  refine va_putF (D := D) (ci := 10) (v := .ref qn34) (ty := (.object "EscrowDesk$Account")) (C := RX9) (T := TX9) (N := 9) hx hb hts inX9 tyX9 tyX9_ok nmX9 hown hK hP hD hS 0 rfl rfl 6 (by decide) (hts (.fieldLink RX9 39 "EscrowDesk" "trial" "LEscrowDesk$Account;") (by decide +kernel)) (fun _ h9 => h9) rfl hin rfl (by decide +kernel) rfl rfl (Nat.le_of_ble_eq_true rfl) dX9_init_77 (fun H locs hP hD hS => ?_)
  have hP : va_P D vwCl [(h0, .inr (10, [.ref qn1, .int 0, .ref qn2, .ref qn12, .ref qn22, .ref qn27, .ref qn34, .null, .null])), (qn1, .inl (cA 2, 700, .inl (fun _ => 0))), (qn2, .inr (7, [.int 0, .int 365, .int 0, .int 0, .ref qn3, .int 0, .ref qn4, .ref qn5, .ref qn6, .ref qn7, .int 0, .ref qn8, .int 0, .ref qn9, .ref qn10, .ref qn11, .int 0])), (qn3, .inl (cA 0, 6, .inl (fun _ => 0))), (qn4, .inl (cA 1, 10, .inr (.inl (fun _ => 0)))), (qn5, .inl (cA 0, 10, .inl (fun _ => 0))), (qn6, .inl (cA 0, 10, .inl (fun _ => 0))), (qn7, .inl (cA 0, 10, .inl (fun _ => 0))), (qn8, .inl (cA 1, 8, .inr (.inl (fun _ => 0)))), (qn9, .inl (cA 0, 350, .inl (fun _ => 0))), (qn10, .inl (cA 0, 350, .inl (fun _ => 0))), (qn11, .inl (cA 0, 10, .inl (fun _ => 0))), (qn12, .inr (7, [.int 0, .int 365, .int 0, .int 0, .ref qn13, .int 0, .ref qn14, .ref qn15, .ref qn16, .ref qn17, .int 0, .ref qn18, .int 0, .ref qn19, .ref qn20, .ref qn21, .int 0])), (qn13, .inl (cA 0, 6, .inl (fun _ => 0))), (qn14, .inl (cA 1, 10, .inr (.inl (fun _ => 0)))), (qn15, .inl (cA 0, 10, .inl (fun _ => 0))), (qn16, .inl (cA 0, 10, .inl (fun _ => 0))), (qn17, .inl (cA 0, 10, .inl (fun _ => 0))), (qn18, .inl (cA 1, 8, .inr (.inl (fun _ => 0)))), (qn19, .inl (cA 0, 350, .inl (fun _ => 0))), (qn20, .inl (cA 0, 350, .inl (fun _ => 0))), (qn21, .inl (cA 0, 10, .inl (fun _ => 0))), (qn22, .inr (8, [.ref qn23, .ref qn12, .int 0, .int 0, .int 0, .long 0, .int 0, .int 0, .int (-1)])), (qn23, .inr (9, [.ref qn24, .ref qn25, .ref qn26, .int 0])), (qn24, .inl (cA 0, 701, .inl (fun _ => 0))), (qn25, .inl (cA 0, 701, .inl (fun _ => 0))), (qn26, .inl (cA 1, 701, .inr (.inl (fun _ => 0)))), (qn27, .inr (4, [.ref qn2, .ref qn28, .ref qn30, .ref qn31, .ref qn32, .ref qn33, .int 0, .int 0, .int 0, .long 0, .long 0, .long 0, .int 0, .int 0, .int 0, .int 0, .int 0, .int 0, .int 0, .int 0])), (qn28, .inr (6, [.ref qn29, .int 0, .int 0])), (qn29, .inl (cA 0, 240, .inl (fun _ => 0))), (qn30, .inl (cA 0, 10, .inl (fun _ => 0))), (qn31, .inl (cA 0, 10, .inl (fun _ => 0))), (qn32, .inl (cA 0, 10, .inl (fun _ => 0))), (qn33, .inl (cA 0, 10, .inl (fun _ => 0))), (qn34, .inr (4, [.ref qn2, .ref qn35, .ref qn37, .ref qn38, .ref qn39, .ref qn40, .int 0, .int 0, .int 0, .long 0, .long 0, .long 0, .int 0, .int 0, .int 0, .int 0, .int 0, .int 0, .int 0, .int 0])), (qn35, .inr (6, [.ref qn36, .int 0, .int 0])), (qn36, .inl (cA 0, 240, .inl (fun _ => 0))), (qn37, .inl (cA 0, 10, .inl (fun _ => 0))), (qn38, .inl (cA 0, 10, .inl (fun _ => 0))), (qn39, .inl (cA 0, 10, .inl (fun _ => 0))), (qn40, .inl (cA 0, 10, .inl (fun _ => 0)))] H := hP
  have hD : va_D A [(h0, .inr (10, [.ref qn1, .int 0, .ref qn2, .ref qn12, .ref qn22, .ref qn27, .ref qn34, .null, .null])), (qn1, .inl (cA 2, 700, .inl (fun _ => 0))), (qn2, .inr (7, [.int 0, .int 365, .int 0, .int 0, .ref qn3, .int 0, .ref qn4, .ref qn5, .ref qn6, .ref qn7, .int 0, .ref qn8, .int 0, .ref qn9, .ref qn10, .ref qn11, .int 0])), (qn3, .inl (cA 0, 6, .inl (fun _ => 0))), (qn4, .inl (cA 1, 10, .inr (.inl (fun _ => 0)))), (qn5, .inl (cA 0, 10, .inl (fun _ => 0))), (qn6, .inl (cA 0, 10, .inl (fun _ => 0))), (qn7, .inl (cA 0, 10, .inl (fun _ => 0))), (qn8, .inl (cA 1, 8, .inr (.inl (fun _ => 0)))), (qn9, .inl (cA 0, 350, .inl (fun _ => 0))), (qn10, .inl (cA 0, 350, .inl (fun _ => 0))), (qn11, .inl (cA 0, 10, .inl (fun _ => 0))), (qn12, .inr (7, [.int 0, .int 365, .int 0, .int 0, .ref qn13, .int 0, .ref qn14, .ref qn15, .ref qn16, .ref qn17, .int 0, .ref qn18, .int 0, .ref qn19, .ref qn20, .ref qn21, .int 0])), (qn13, .inl (cA 0, 6, .inl (fun _ => 0))), (qn14, .inl (cA 1, 10, .inr (.inl (fun _ => 0)))), (qn15, .inl (cA 0, 10, .inl (fun _ => 0))), (qn16, .inl (cA 0, 10, .inl (fun _ => 0))), (qn17, .inl (cA 0, 10, .inl (fun _ => 0))), (qn18, .inl (cA 1, 8, .inr (.inl (fun _ => 0)))), (qn19, .inl (cA 0, 350, .inl (fun _ => 0))), (qn20, .inl (cA 0, 350, .inl (fun _ => 0))), (qn21, .inl (cA 0, 10, .inl (fun _ => 0))), (qn22, .inr (8, [.ref qn23, .ref qn12, .int 0, .int 0, .int 0, .long 0, .int 0, .int 0, .int (-1)])), (qn23, .inr (9, [.ref qn24, .ref qn25, .ref qn26, .int 0])), (qn24, .inl (cA 0, 701, .inl (fun _ => 0))), (qn25, .inl (cA 0, 701, .inl (fun _ => 0))), (qn26, .inl (cA 1, 701, .inr (.inl (fun _ => 0)))), (qn27, .inr (4, [.ref qn2, .ref qn28, .ref qn30, .ref qn31, .ref qn32, .ref qn33, .int 0, .int 0, .int 0, .long 0, .long 0, .long 0, .int 0, .int 0, .int 0, .int 0, .int 0, .int 0, .int 0, .int 0])), (qn28, .inr (6, [.ref qn29, .int 0, .int 0])), (qn29, .inl (cA 0, 240, .inl (fun _ => 0))), (qn30, .inl (cA 0, 10, .inl (fun _ => 0))), (qn31, .inl (cA 0, 10, .inl (fun _ => 0))), (qn32, .inl (cA 0, 10, .inl (fun _ => 0))), (qn33, .inl (cA 0, 10, .inl (fun _ => 0))), (qn34, .inr (4, [.ref qn2, .ref qn35, .ref qn37, .ref qn38, .ref qn39, .ref qn40, .int 0, .int 0, .int 0, .long 0, .long 0, .long 0, .int 0, .int 0, .int 0, .int 0, .int 0, .int 0, .int 0, .int 0])), (qn35, .inr (6, [.ref qn36, .int 0, .int 0])), (qn36, .inl (cA 0, 240, .inl (fun _ => 0))), (qn37, .inl (cA 0, 10, .inl (fun _ => 0))), (qn38, .inl (cA 0, 10, .inl (fun _ => 0))), (qn39, .inl (cA 0, 10, .inl (fun _ => 0))), (qn40, .inl (cA 0, 10, .inl (fun _ => 0)))] := hD
  refine lv_aload_n hx hb dX9_init_80 rfl (lv_at hl 0 rfl) ?_
  refine va_new (ci := 5) (fs := [.null, .int 0, .int 0]) (C := RX1) (T := TX1) (N := 3) hx hb hts inX1 tyX1 tyX1_ok hown (hts (.classLink RX9 42 RX1) (by decide +kernel)) (hts (.instantiable RX1 3) (by decide +kernel)) (hts (.initialized RX1) (by decide +kernel)) hK hP hD hS hA rfl (by decide +kernel) (Nat.le_of_ble_eq_true rfl) (Nat.le_of_ble_eq_true rfl) dX9_init_81 (fun qn41 H hP hD hS => ?_)
  have hP : va_P D vwCl [(h0, .inr (10, [.ref qn1, .int 0, .ref qn2, .ref qn12, .ref qn22, .ref qn27, .ref qn34, .null, .null])), (qn1, .inl (cA 2, 700, .inl (fun _ => 0))), (qn2, .inr (7, [.int 0, .int 365, .int 0, .int 0, .ref qn3, .int 0, .ref qn4, .ref qn5, .ref qn6, .ref qn7, .int 0, .ref qn8, .int 0, .ref qn9, .ref qn10, .ref qn11, .int 0])), (qn3, .inl (cA 0, 6, .inl (fun _ => 0))), (qn4, .inl (cA 1, 10, .inr (.inl (fun _ => 0)))), (qn5, .inl (cA 0, 10, .inl (fun _ => 0))), (qn6, .inl (cA 0, 10, .inl (fun _ => 0))), (qn7, .inl (cA 0, 10, .inl (fun _ => 0))), (qn8, .inl (cA 1, 8, .inr (.inl (fun _ => 0)))), (qn9, .inl (cA 0, 350, .inl (fun _ => 0))), (qn10, .inl (cA 0, 350, .inl (fun _ => 0))), (qn11, .inl (cA 0, 10, .inl (fun _ => 0))), (qn12, .inr (7, [.int 0, .int 365, .int 0, .int 0, .ref qn13, .int 0, .ref qn14, .ref qn15, .ref qn16, .ref qn17, .int 0, .ref qn18, .int 0, .ref qn19, .ref qn20, .ref qn21, .int 0])), (qn13, .inl (cA 0, 6, .inl (fun _ => 0))), (qn14, .inl (cA 1, 10, .inr (.inl (fun _ => 0)))), (qn15, .inl (cA 0, 10, .inl (fun _ => 0))), (qn16, .inl (cA 0, 10, .inl (fun _ => 0))), (qn17, .inl (cA 0, 10, .inl (fun _ => 0))), (qn18, .inl (cA 1, 8, .inr (.inl (fun _ => 0)))), (qn19, .inl (cA 0, 350, .inl (fun _ => 0))), (qn20, .inl (cA 0, 350, .inl (fun _ => 0))), (qn21, .inl (cA 0, 10, .inl (fun _ => 0))), (qn22, .inr (8, [.ref qn23, .ref qn12, .int 0, .int 0, .int 0, .long 0, .int 0, .int 0, .int (-1)])), (qn23, .inr (9, [.ref qn24, .ref qn25, .ref qn26, .int 0])), (qn24, .inl (cA 0, 701, .inl (fun _ => 0))), (qn25, .inl (cA 0, 701, .inl (fun _ => 0))), (qn26, .inl (cA 1, 701, .inr (.inl (fun _ => 0)))), (qn27, .inr (4, [.ref qn2, .ref qn28, .ref qn30, .ref qn31, .ref qn32, .ref qn33, .int 0, .int 0, .int 0, .long 0, .long 0, .long 0, .int 0, .int 0, .int 0, .int 0, .int 0, .int 0, .int 0, .int 0])), (qn28, .inr (6, [.ref qn29, .int 0, .int 0])), (qn29, .inl (cA 0, 240, .inl (fun _ => 0))), (qn30, .inl (cA 0, 10, .inl (fun _ => 0))), (qn31, .inl (cA 0, 10, .inl (fun _ => 0))), (qn32, .inl (cA 0, 10, .inl (fun _ => 0))), (qn33, .inl (cA 0, 10, .inl (fun _ => 0))), (qn34, .inr (4, [.ref qn2, .ref qn35, .ref qn37, .ref qn38, .ref qn39, .ref qn40, .int 0, .int 0, .int 0, .long 0, .long 0, .long 0, .int 0, .int 0, .int 0, .int 0, .int 0, .int 0, .int 0, .int 0])), (qn35, .inr (6, [.ref qn36, .int 0, .int 0])), (qn36, .inl (cA 0, 240, .inl (fun _ => 0))), (qn37, .inl (cA 0, 10, .inl (fun _ => 0))), (qn38, .inl (cA 0, 10, .inl (fun _ => 0))), (qn39, .inl (cA 0, 10, .inl (fun _ => 0))), (qn40, .inl (cA 0, 10, .inl (fun _ => 0))), (qn41, .inr (5, [.null, .int 0, .int 0]))] H := hP
  have hD : va_D A [(h0, .inr (10, [.ref qn1, .int 0, .ref qn2, .ref qn12, .ref qn22, .ref qn27, .ref qn34, .null, .null])), (qn1, .inl (cA 2, 700, .inl (fun _ => 0))), (qn2, .inr (7, [.int 0, .int 365, .int 0, .int 0, .ref qn3, .int 0, .ref qn4, .ref qn5, .ref qn6, .ref qn7, .int 0, .ref qn8, .int 0, .ref qn9, .ref qn10, .ref qn11, .int 0])), (qn3, .inl (cA 0, 6, .inl (fun _ => 0))), (qn4, .inl (cA 1, 10, .inr (.inl (fun _ => 0)))), (qn5, .inl (cA 0, 10, .inl (fun _ => 0))), (qn6, .inl (cA 0, 10, .inl (fun _ => 0))), (qn7, .inl (cA 0, 10, .inl (fun _ => 0))), (qn8, .inl (cA 1, 8, .inr (.inl (fun _ => 0)))), (qn9, .inl (cA 0, 350, .inl (fun _ => 0))), (qn10, .inl (cA 0, 350, .inl (fun _ => 0))), (qn11, .inl (cA 0, 10, .inl (fun _ => 0))), (qn12, .inr (7, [.int 0, .int 365, .int 0, .int 0, .ref qn13, .int 0, .ref qn14, .ref qn15, .ref qn16, .ref qn17, .int 0, .ref qn18, .int 0, .ref qn19, .ref qn20, .ref qn21, .int 0])), (qn13, .inl (cA 0, 6, .inl (fun _ => 0))), (qn14, .inl (cA 1, 10, .inr (.inl (fun _ => 0)))), (qn15, .inl (cA 0, 10, .inl (fun _ => 0))), (qn16, .inl (cA 0, 10, .inl (fun _ => 0))), (qn17, .inl (cA 0, 10, .inl (fun _ => 0))), (qn18, .inl (cA 1, 8, .inr (.inl (fun _ => 0)))), (qn19, .inl (cA 0, 350, .inl (fun _ => 0))), (qn20, .inl (cA 0, 350, .inl (fun _ => 0))), (qn21, .inl (cA 0, 10, .inl (fun _ => 0))), (qn22, .inr (8, [.ref qn23, .ref qn12, .int 0, .int 0, .int 0, .long 0, .int 0, .int 0, .int (-1)])), (qn23, .inr (9, [.ref qn24, .ref qn25, .ref qn26, .int 0])), (qn24, .inl (cA 0, 701, .inl (fun _ => 0))), (qn25, .inl (cA 0, 701, .inl (fun _ => 0))), (qn26, .inl (cA 1, 701, .inr (.inl (fun _ => 0)))), (qn27, .inr (4, [.ref qn2, .ref qn28, .ref qn30, .ref qn31, .ref qn32, .ref qn33, .int 0, .int 0, .int 0, .long 0, .long 0, .long 0, .int 0, .int 0, .int 0, .int 0, .int 0, .int 0, .int 0, .int 0])), (qn28, .inr (6, [.ref qn29, .int 0, .int 0])), (qn29, .inl (cA 0, 240, .inl (fun _ => 0))), (qn30, .inl (cA 0, 10, .inl (fun _ => 0))), (qn31, .inl (cA 0, 10, .inl (fun _ => 0))), (qn32, .inl (cA 0, 10, .inl (fun _ => 0))), (qn33, .inl (cA 0, 10, .inl (fun _ => 0))), (qn34, .inr (4, [.ref qn2, .ref qn35, .ref qn37, .ref qn38, .ref qn39, .ref qn40, .int 0, .int 0, .int 0, .long 0, .long 0, .long 0, .int 0, .int 0, .int 0, .int 0, .int 0, .int 0, .int 0, .int 0])), (qn35, .inr (6, [.ref qn36, .int 0, .int 0])), (qn36, .inl (cA 0, 240, .inl (fun _ => 0))), (qn37, .inl (cA 0, 10, .inl (fun _ => 0))), (qn38, .inl (cA 0, 10, .inl (fun _ => 0))), (qn39, .inl (cA 0, 10, .inl (fun _ => 0))), (qn40, .inl (cA 0, 10, .inl (fun _ => 0))), (qn41, .inr (5, [.null, .int 0, .int 0]))] := hD
  refine lv_dup hx hb dX9_init_84 rfl ?_
  refine lv_aload_n hx hb dX9_init_85 rfl (lv_at hl 0 rfl) ?_
  refine va_get (D := D) (ci := 10) (v := .ref qn2) (C := RX9) (T := TX9) (N := 9) hx hb hts inX9 hown hK hP 0 rfl rfl 2 (by decide) (hts (.fieldLink RX9 16 "EscrowDesk" "plan" "LEscrowDesk$Plan;") (by decide +kernel)) (fun _ h9 => h9) rfl dX9_init_86 ?_
  have hPc := hP.sub (ws' := [(qn41, .inr (5, [.null, .int 0, .int 0]))]) [41] rfl
  have hDc := hD.sub (ws' := [(qn41, .inr (5, [.null, .int 0, .int 0]))]) [41] (by decide) rfl
  have hFc := va_free (wc := [(qn41, .inr (5, [.null, .int 0, .int 0]))]) hD hS hA [41] rfl
  refine va_callv (va_runI (As := [.ref qn2]) (rest := [.ref qn41, .ref h0]) ⟨hx, hb, hml, hown, hts⟩ (c_X1_init l D cA sa qn41 qn2 H.size) (cwI 1 hts gX9_init_X1_init rfl rfl rfl (hts (.initialized RX1) (by decide +kernel)) (hts (.methodLink RX9 44 yX1_init) (by decide +kernel)) (hts (.instanceMethod yX1_init) (by decide +kernel)) rfl (by decide +kernel) ⟨(Nat.le_of_ble_eq_true rfl), (Nat.le_of_ble_eq_true rfl)⟩) ⟨Wd.blind, fun U hU hW => ⟨rfl, Wd.call hPc hDc hK hC hZ hS hFc U hU hW⟩⟩ rfl rfl hl.1 rfl (lv_room (Nat.le_of_ble_eq_true rfl)) dX9_init_89 ⟨(Nat.le_of_ble_eq_true rfl), (Nat.le_of_ble_eq_true rfl)⟩) hS (fun q _ h => hFc q h) hFc (fun u t H1 locs ht hvm hw hB hz1 hk1 hS => ?_)
  obtain ⟨qn42, qn43, qn44, qn45, qn46, qn47, qn48, qn49, qn50, qn51, qn52, qn53, qn54, qn55, qn56, qn57, qn58, hP1, hD1⟩ := hB
  rw [ht] at hP1
  obtain ⟨hP, hD⟩ := va_join (wr := [(h0, .inr (10, [.ref qn1, .int 0, .ref qn2, .ref qn12, .ref qn22, .ref qn27, .ref qn34, .null, .null])), (qn1, .inl (cA 2, 700, .inl (fun _ => 0))), (qn2, .inr (7, [.int 0, .int 365, .int 0, .int 0, .ref qn3, .int 0, .ref qn4, .ref qn5, .ref qn6, .ref qn7, .int 0, .ref qn8, .int 0, .ref qn9, .ref qn10, .ref qn11, .int 0])), (qn3, .inl (cA 0, 6, .inl (fun _ => 0))), (qn4, .inl (cA 1, 10, .inr (.inl (fun _ => 0)))), (qn5, .inl (cA 0, 10, .inl (fun _ => 0))), (qn6, .inl (cA 0, 10, .inl (fun _ => 0))), (qn7, .inl (cA 0, 10, .inl (fun _ => 0))), (qn8, .inl (cA 1, 8, .inr (.inl (fun _ => 0)))), (qn9, .inl (cA 0, 350, .inl (fun _ => 0))), (qn10, .inl (cA 0, 350, .inl (fun _ => 0))), (qn11, .inl (cA 0, 10, .inl (fun _ => 0))), (qn12, .inr (7, [.int 0, .int 365, .int 0, .int 0, .ref qn13, .int 0, .ref qn14, .ref qn15, .ref qn16, .ref qn17, .int 0, .ref qn18, .int 0, .ref qn19, .ref qn20, .ref qn21, .int 0])), (qn13, .inl (cA 0, 6, .inl (fun _ => 0))), (qn14, .inl (cA 1, 10, .inr (.inl (fun _ => 0)))), (qn15, .inl (cA 0, 10, .inl (fun _ => 0))), (qn16, .inl (cA 0, 10, .inl (fun _ => 0))), (qn17, .inl (cA 0, 10, .inl (fun _ => 0))), (qn18, .inl (cA 1, 8, .inr (.inl (fun _ => 0)))), (qn19, .inl (cA 0, 350, .inl (fun _ => 0))), (qn20, .inl (cA 0, 350, .inl (fun _ => 0))), (qn21, .inl (cA 0, 10, .inl (fun _ => 0))), (qn22, .inr (8, [.ref qn23, .ref qn12, .int 0, .int 0, .int 0, .long 0, .int 0, .int 0, .int (-1)])), (qn23, .inr (9, [.ref qn24, .ref qn25, .ref qn26, .int 0])), (qn24, .inl (cA 0, 701, .inl (fun _ => 0))), (qn25, .inl (cA 0, 701, .inl (fun _ => 0))), (qn26, .inl (cA 1, 701, .inr (.inl (fun _ => 0)))), (qn27, .inr (4, [.ref qn2, .ref qn28, .ref qn30, .ref qn31, .ref qn32, .ref qn33, .int 0, .int 0, .int 0, .long 0, .long 0, .long 0, .int 0, .int 0, .int 0, .int 0, .int 0, .int 0, .int 0, .int 0])), (qn28, .inr (6, [.ref qn29, .int 0, .int 0])), (qn29, .inl (cA 0, 240, .inl (fun _ => 0))), (qn30, .inl (cA 0, 10, .inl (fun _ => 0))), (qn31, .inl (cA 0, 10, .inl (fun _ => 0))), (qn32, .inl (cA 0, 10, .inl (fun _ => 0))), (qn33, .inl (cA 0, 10, .inl (fun _ => 0))), (qn34, .inr (4, [.ref qn2, .ref qn35, .ref qn37, .ref qn38, .ref qn39, .ref qn40, .int 0, .int 0, .int 0, .long 0, .long 0, .long 0, .int 0, .int 0, .int 0, .int 0, .int 0, .int 0, .int 0, .int 0])), (qn35, .inr (6, [.ref qn36, .int 0, .int 0])), (qn36, .inl (cA 0, 240, .inl (fun _ => 0))), (qn37, .inl (cA 0, 10, .inl (fun _ => 0))), (qn38, .inl (cA 0, 10, .inl (fun _ => 0))), (qn39, .inl (cA 0, 10, .inl (fun _ => 0))), (qn40, .inl (cA 0, 10, .inl (fun _ => 0)))]) (w1 := [(qn41, .inr (5, [.ref qn42, .int 0, .int 0])), (qn42, .inl (cA 5, 10, .inr (.inr (.inr (.inr (va_up (va_up (va_up (va_up (va_up (va_up (va_up (va_up (va_up (va_up (fun _ => none) 0 (some qn43)) 1 (some qn50)) 2 (some qn51)) 3 (some qn52)) 4 (some qn53)) 5 (some qn54)) 6 (some qn55)) 7 (some qn56)) 8 (some qn57)) 9 (some qn58))))))), (qn43, .inr (4, [.ref qn2, .ref qn44, .ref qn46, .ref qn47, .ref qn48, .ref qn49, .int 0, .int 0, .int 0, .long 0, .long 0, .long 0, .int 0, .int 0, .int 0, .int 0, .int 0, .int 0, .int 0, .int 0])), (qn44, .inr (6, [.ref qn45, .int 0, .int 0])), (qn45, .inl (cA 0, 240, .inl (fun _ => 0))), (qn46, .inl (cA 0, 10, .inl (fun _ => 0))), (qn47, .inl (cA 0, 10, .inl (fun _ => 0))), (qn48, .inl (cA 0, 10, .inl (fun _ => 0))), (qn49, .inl (cA 0, 10, .inl (fun _ => 0)))]) hP hD [41] [0, 1, 2, 3, 4, 5, 6, 7, 8, 9, 10, 11, 12, 13, 14, 15, 16, 17, 18, 19, 20, 21, 22, 23, 24, 25, 26, 27, 28, 29, 30, 31, 32, 33, 34, 35, 36, 37, 38, 39, 40] rfl rfl (by decide) (by decide) hk1 hFc hP1 hD1
  generalize H1 = H at hP hS ⊢
  have hP : va_P D vwCl [(h0, .inr (10, [.ref qn1, .int 0, .ref qn2, .ref qn12, .ref qn22, .ref qn27, .ref qn34, .null, .null])), (qn1, .inl (cA 2, 700, .inl (fun _ => 0))), (qn2, .inr (7, [.int 0, .int 365, .int 0, .int 0, .ref qn3, .int 0, .ref qn4, .ref qn5, .ref qn6, .ref qn7, .int 0, .ref qn8, .int 0, .ref qn9, .ref qn10, .ref qn11, .int 0])), (qn3, .inl (cA 0, 6, .inl (fun _ => 0))), (qn4, .inl (cA 1, 10, .inr (.inl (fun _ => 0)))), (qn5, .inl (cA 0, 10, .inl (fun _ => 0))), (qn6, .inl (cA 0, 10, .inl (fun _ => 0))), (qn7, .inl (cA 0, 10, .inl (fun _ => 0))), (qn8, .inl (cA 1, 8, .inr (.inl (fun _ => 0)))), (qn9, .inl (cA 0, 350, .inl (fun _ => 0))), (qn10, .inl (cA 0, 350, .inl (fun _ => 0))), (qn11, .inl (cA 0, 10, .inl (fun _ => 0))), (qn12, .inr (7, [.int 0, .int 365, .int 0, .int 0, .ref qn13, .int 0, .ref qn14, .ref qn15, .ref qn16, .ref qn17, .int 0, .ref qn18, .int 0, .ref qn19, .ref qn20, .ref qn21, .int 0])), (qn13, .inl (cA 0, 6, .inl (fun _ => 0))), (qn14, .inl (cA 1, 10, .inr (.inl (fun _ => 0)))), (qn15, .inl (cA 0, 10, .inl (fun _ => 0))), (qn16, .inl (cA 0, 10, .inl (fun _ => 0))), (qn17, .inl (cA 0, 10, .inl (fun _ => 0))), (qn18, .inl (cA 1, 8, .inr (.inl (fun _ => 0)))), (qn19, .inl (cA 0, 350, .inl (fun _ => 0))), (qn20, .inl (cA 0, 350, .inl (fun _ => 0))), (qn21, .inl (cA 0, 10, .inl (fun _ => 0))), (qn22, .inr (8, [.ref qn23, .ref qn12, .int 0, .int 0, .int 0, .long 0, .int 0, .int 0, .int (-1)])), (qn23, .inr (9, [.ref qn24, .ref qn25, .ref qn26, .int 0])), (qn24, .inl (cA 0, 701, .inl (fun _ => 0))), (qn25, .inl (cA 0, 701, .inl (fun _ => 0))), (qn26, .inl (cA 1, 701, .inr (.inl (fun _ => 0)))), (qn27, .inr (4, [.ref qn2, .ref qn28, .ref qn30, .ref qn31, .ref qn32, .ref qn33, .int 0, .int 0, .int 0, .long 0, .long 0, .long 0, .int 0, .int 0, .int 0, .int 0, .int 0, .int 0, .int 0, .int 0])), (qn28, .inr (6, [.ref qn29, .int 0, .int 0])), (qn29, .inl (cA 0, 240, .inl (fun _ => 0))), (qn30, .inl (cA 0, 10, .inl (fun _ => 0))), (qn31, .inl (cA 0, 10, .inl (fun _ => 0))), (qn32, .inl (cA 0, 10, .inl (fun _ => 0))), (qn33, .inl (cA 0, 10, .inl (fun _ => 0))), (qn34, .inr (4, [.ref qn2, .ref qn35, .ref qn37, .ref qn38, .ref qn39, .ref qn40, .int 0, .int 0, .int 0, .long 0, .long 0, .long 0, .int 0, .int 0, .int 0, .int 0, .int 0, .int 0, .int 0, .int 0])), (qn35, .inr (6, [.ref qn36, .int 0, .int 0])), (qn36, .inl (cA 0, 240, .inl (fun _ => 0))), (qn37, .inl (cA 0, 10, .inl (fun _ => 0))), (qn38, .inl (cA 0, 10, .inl (fun _ => 0))), (qn39, .inl (cA 0, 10, .inl (fun _ => 0))), (qn40, .inl (cA 0, 10, .inl (fun _ => 0))), (qn41, .inr (5, [.ref qn42, .int 0, .int 0])), (qn42, .inl (cA 5, 10, .inr (.inr (.inr (.inr (va_up (va_up (va_up (va_up (va_up (va_up (va_up (va_up (va_up (va_up (fun _ => none) 0 (some qn43)) 1 (some qn50)) 2 (some qn51)) 3 (some qn52)) 4 (some qn53)) 5 (some qn54)) 6 (some qn55)) 7 (some qn56)) 8 (some qn57)) 9 (some qn58))))))), (qn43, .inr (4, [.ref qn2, .ref qn44, .ref qn46, .ref qn47, .ref qn48, .ref qn49, .int 0, .int 0, .int 0, .long 0, .long 0, .long 0, .int 0, .int 0, .int 0, .int 0, .int 0, .int 0, .int 0, .int 0])), (qn44, .inr (6, [.ref qn45, .int 0, .int 0])), (qn45, .inl (cA 0, 240, .inl (fun _ => 0))), (qn46, .inl (cA 0, 10, .inl (fun _ => 0))), (qn47, .inl (cA 0, 10, .inl (fun _ => 0))), (qn48, .inl (cA 0, 10, .inl (fun _ => 0))), (qn49, .inl (cA 0, 10, .inl (fun _ => 0)))] H := hP
  have hD : va_D A [(h0, .inr (10, [.ref qn1, .int 0, .ref qn2, .ref qn12, .ref qn22, .ref qn27, .ref qn34, .null, .null])), (qn1, .inl (cA 2, 700, .inl (fun _ => 0))), (qn2, .inr (7, [.int 0, .int 365, .int 0, .int 0, .ref qn3, .int 0, .ref qn4, .ref qn5, .ref qn6, .ref qn7, .int 0, .ref qn8, .int 0, .ref qn9, .ref qn10, .ref qn11, .int 0])), (qn3, .inl (cA 0, 6, .inl (fun _ => 0))), (qn4, .inl (cA 1, 10, .inr (.inl (fun _ => 0)))), (qn5, .inl (cA 0, 10, .inl (fun _ => 0))), (qn6, .inl (cA 0, 10, .inl (fun _ => 0))), (qn7, .inl (cA 0, 10, .inl (fun _ => 0))), (qn8, .inl (cA 1, 8, .inr (.inl (fun _ => 0)))), (qn9, .inl (cA 0, 350, .inl (fun _ => 0))), (qn10, .inl (cA 0, 350, .inl (fun _ => 0))), (qn11, .inl (cA 0, 10, .inl (fun _ => 0))), (qn12, .inr (7, [.int 0, .int 365, .int 0, .int 0, .ref qn13, .int 0, .ref qn14, .ref qn15, .ref qn16, .ref qn17, .int 0, .ref qn18, .int 0, .ref qn19, .ref qn20, .ref qn21, .int 0])), (qn13, .inl (cA 0, 6, .inl (fun _ => 0))), (qn14, .inl (cA 1, 10, .inr (.inl (fun _ => 0)))), (qn15, .inl (cA 0, 10, .inl (fun _ => 0))), (qn16, .inl (cA 0, 10, .inl (fun _ => 0))), (qn17, .inl (cA 0, 10, .inl (fun _ => 0))), (qn18, .inl (cA 1, 8, .inr (.inl (fun _ => 0)))), (qn19, .inl (cA 0, 350, .inl (fun _ => 0))), (qn20, .inl (cA 0, 350, .inl (fun _ => 0))), (qn21, .inl (cA 0, 10, .inl (fun _ => 0))), (qn22, .inr (8, [.ref qn23, .ref qn12, .int 0, .int 0, .int 0, .long 0, .int 0, .int 0, .int (-1)])), (qn23, .inr (9, [.ref qn24, .ref qn25, .ref qn26, .int 0])), (qn24, .inl (cA 0, 701, .inl (fun _ => 0))), (qn25, .inl (cA 0, 701, .inl (fun _ => 0))), (qn26, .inl (cA 1, 701, .inr (.inl (fun _ => 0)))), (qn27, .inr (4, [.ref qn2, .ref qn28, .ref qn30, .ref qn31, .ref qn32, .ref qn33, .int 0, .int 0, .int 0, .long 0, .long 0, .long 0, .int 0, .int 0, .int 0, .int 0, .int 0, .int 0, .int 0, .int 0])), (qn28, .inr (6, [.ref qn29, .int 0, .int 0])), (qn29, .inl (cA 0, 240, .inl (fun _ => 0))), (qn30, .inl (cA 0, 10, .inl (fun _ => 0))), (qn31, .inl (cA 0, 10, .inl (fun _ => 0))), (qn32, .inl (cA 0, 10, .inl (fun _ => 0))), (qn33, .inl (cA 0, 10, .inl (fun _ => 0))), (qn34, .inr (4, [.ref qn2, .ref qn35, .ref qn37, .ref qn38, .ref qn39, .ref qn40, .int 0, .int 0, .int 0, .long 0, .long 0, .long 0, .int 0, .int 0, .int 0, .int 0, .int 0, .int 0, .int 0, .int 0])), (qn35, .inr (6, [.ref qn36, .int 0, .int 0])), (qn36, .inl (cA 0, 240, .inl (fun _ => 0))), (qn37, .inl (cA 0, 10, .inl (fun _ => 0))), (qn38, .inl (cA 0, 10, .inl (fun _ => 0))), (qn39, .inl (cA 0, 10, .inl (fun _ => 0))), (qn40, .inl (cA 0, 10, .inl (fun _ => 0))), (qn41, .inr (5, [.ref qn42, .int 0, .int 0])), (qn42, .inl (cA 5, 10, .inr (.inr (.inr (.inr (va_up (va_up (va_up (va_up (va_up (va_up (va_up (va_up (va_up (va_up (fun _ => none) 0 (some qn43)) 1 (some qn50)) 2 (some qn51)) 3 (some qn52)) 4 (some qn53)) 5 (some qn54)) 6 (some qn55)) 7 (some qn56)) 8 (some qn57)) 9 (some qn58))))))), (qn43, .inr (4, [.ref qn2, .ref qn44, .ref qn46, .ref qn47, .ref qn48, .ref qn49, .int 0, .int 0, .int 0, .long 0, .long 0, .long 0, .int 0, .int 0, .int 0, .int 0, .int 0, .int 0, .int 0, .int 0])), (qn44, .inr (6, [.ref qn45, .int 0, .int 0])), (qn45, .inl (cA 0, 240, .inl (fun _ => 0))), (qn46, .inl (cA 0, 10, .inl (fun _ => 0))), (qn47, .inl (cA 0, 10, .inl (fun _ => 0))), (qn48, .inl (cA 0, 10, .inl (fun _ => 0))), (qn49, .inl (cA 0, 10, .inl (fun _ => 0)))] := hD
  refine va_putF (D := D) (ci := 10) (v := .ref qn41) (ty := (.object "EscrowDesk$History")) (C := RX9) (T := TX9) (N := 9) hx hb hts inX9 tyX9 tyX9_ok nmX9 hown hK hP hD hS 0 rfl rfl 7 (by decide) (hts (.fieldLink RX9 45 "EscrowDesk" "history" "LEscrowDesk$History;") (by decide +kernel)) (fun _ h9 => h9) rfl hin rfl (by decide +kernel) rfl rfl (Nat.le_of_ble_eq_true rfl) dX9_init_92 (fun H locs hP hD hS => ?_)
  have hP : va_P D vwCl [(h0, .inr (10, [.ref qn1, .int 0, .ref qn2, .ref qn12, .ref qn22, .ref qn27, .ref qn34, .ref qn41, .null])), (qn1, .inl (cA 2, 700, .inl (fun _ => 0))), (qn2, .inr (7, [.int 0, .int 365, .int 0, .int 0, .ref qn3, .int 0, .ref qn4, .ref qn5, .ref qn6, .ref qn7, .int 0, .ref qn8, .int 0, .ref qn9, .ref qn10, .ref qn11, .int 0])), (qn3, .inl (cA 0, 6, .inl (fun _ => 0))), (qn4, .inl (cA 1, 10, .inr (.inl (fun _ => 0)))), (qn5, .inl (cA 0, 10, .inl (fun _ => 0))), (qn6, .inl (cA 0, 10, .inl (fun _ => 0))), (qn7, .inl (cA 0, 10, .inl (fun _ => 0))), (qn8, .inl (cA 1, 8, .inr (.inl (fun _ => 0)))), (qn9, .inl (cA 0, 350, .inl (fun _ => 0))), (qn10, .inl (cA 0, 350, .inl (fun _ => 0))), (qn11, .inl (cA 0, 10, .inl (fun _ => 0))), (qn12, .inr (7, [.int 0, .int 365, .int 0, .int 0, .ref qn13, .int 0, .ref qn14, .ref qn15, .ref qn16, .ref qn17, .int 0, .ref qn18, .int 0, .ref qn19, .ref qn20, .ref qn21, .int 0])), (qn13, .inl (cA 0, 6, .inl (fun _ => 0))), (qn14, .inl (cA 1, 10, .inr (.inl (fun _ => 0)))), (qn15, .inl (cA 0, 10, .inl (fun _ => 0))), (qn16, .inl (cA 0, 10, .inl (fun _ => 0))), (qn17, .inl (cA 0, 10, .inl (fun _ => 0))), (qn18, .inl (cA 1, 8, .inr (.inl (fun _ => 0)))), (qn19, .inl (cA 0, 350, .inl (fun _ => 0))), (qn20, .inl (cA 0, 350, .inl (fun _ => 0))), (qn21, .inl (cA 0, 10, .inl (fun _ => 0))), (qn22, .inr (8, [.ref qn23, .ref qn12, .int 0, .int 0, .int 0, .long 0, .int 0, .int 0, .int (-1)])), (qn23, .inr (9, [.ref qn24, .ref qn25, .ref qn26, .int 0])), (qn24, .inl (cA 0, 701, .inl (fun _ => 0))), (qn25, .inl (cA 0, 701, .inl (fun _ => 0))), (qn26, .inl (cA 1, 701, .inr (.inl (fun _ => 0)))), (qn27, .inr (4, [.ref qn2, .ref qn28, .ref qn30, .ref qn31, .ref qn32, .ref qn33, .int 0, .int 0, .int 0, .long 0, .long 0, .long 0, .int 0, .int 0, .int 0, .int 0, .int 0, .int 0, .int 0, .int 0])), (qn28, .inr (6, [.ref qn29, .int 0, .int 0])), (qn29, .inl (cA 0, 240, .inl (fun _ => 0))), (qn30, .inl (cA 0, 10, .inl (fun _ => 0))), (qn31, .inl (cA 0, 10, .inl (fun _ => 0))), (qn32, .inl (cA 0, 10, .inl (fun _ => 0))), (qn33, .inl (cA 0, 10, .inl (fun _ => 0))), (qn34, .inr (4, [.ref qn2, .ref qn35, .ref qn37, .ref qn38, .ref qn39, .ref qn40, .int 0, .int 0, .int 0, .long 0, .long 0, .long 0, .int 0, .int 0, .int 0, .int 0, .int 0, .int 0, .int 0, .int 0])), (qn35, .inr (6, [.ref qn36, .int 0, .int 0])), (qn36, .inl (cA 0, 240, .inl (fun _ => 0))), (qn37, .inl (cA 0, 10, .inl (fun _ => 0))), (qn38, .inl (cA 0, 10, .inl (fun _ => 0))), (qn39, .inl (cA 0, 10, .inl (fun _ => 0))), (qn40, .inl (cA 0, 10, .inl (fun _ => 0))), (qn41, .inr (5, [.ref qn42, .int 0, .int 0])), (qn42, .inl (cA 5, 10, .inr (.inr (.inr (.inr (va_up (va_up (va_up (va_up (va_up (va_up (va_up (va_up (va_up (va_up (fun _ => none) 0 (some qn43)) 1 (some qn50)) 2 (some qn51)) 3 (some qn52)) 4 (some qn53)) 5 (some qn54)) 6 (some qn55)) 7 (some qn56)) 8 (some qn57)) 9 (some qn58))))))), (qn43, .inr (4, [.ref qn2, .ref qn44, .ref qn46, .ref qn47, .ref qn48, .ref qn49, .int 0, .int 0, .int 0, .long 0, .long 0, .long 0, .int 0, .int 0, .int 0, .int 0, .int 0, .int 0, .int 0, .int 0])), (qn44, .inr (6, [.ref qn45, .int 0, .int 0])), (qn45, .inl (cA 0, 240, .inl (fun _ => 0))), (qn46, .inl (cA 0, 10, .inl (fun _ => 0))), (qn47, .inl (cA 0, 10, .inl (fun _ => 0))), (qn48, .inl (cA 0, 10, .inl (fun _ => 0))), (qn49, .inl (cA 0, 10, .inl (fun _ => 0)))] H := hP
  have hD : va_D A [(h0, .inr (10, [.ref qn1, .int 0, .ref qn2, .ref qn12, .ref qn22, .ref qn27, .ref qn34, .ref qn41, .null])), (qn1, .inl (cA 2, 700, .inl (fun _ => 0))), (qn2, .inr (7, [.int 0, .int 365, .int 0, .int 0, .ref qn3, .int 0, .ref qn4, .ref qn5, .ref qn6, .ref qn7, .int 0, .ref qn8, .int 0, .ref qn9, .ref qn10, .ref qn11, .int 0])), (qn3, .inl (cA 0, 6, .inl (fun _ => 0))), (qn4, .inl (cA 1, 10, .inr (.inl (fun _ => 0)))), (qn5, .inl (cA 0, 10, .inl (fun _ => 0))), (qn6, .inl (cA 0, 10, .inl (fun _ => 0))), (qn7, .inl (cA 0, 10, .inl (fun _ => 0))), (qn8, .inl (cA 1, 8, .inr (.inl (fun _ => 0)))), (qn9, .inl (cA 0, 350, .inl (fun _ => 0))), (qn10, .inl (cA 0, 350, .inl (fun _ => 0))), (qn11, .inl (cA 0, 10, .inl (fun _ => 0))), (qn12, .inr (7, [.int 0, .int 365, .int 0, .int 0, .ref qn13, .int 0, .ref qn14, .ref qn15, .ref qn16, .ref qn17, .int 0, .ref qn18, .int 0, .ref qn19, .ref qn20, .ref qn21, .int 0])), (qn13, .inl (cA 0, 6, .inl (fun _ => 0))), (qn14, .inl (cA 1, 10, .inr (.inl (fun _ => 0)))), (qn15, .inl (cA 0, 10, .inl (fun _ => 0))), (qn16, .inl (cA 0, 10, .inl (fun _ => 0))), (qn17, .inl (cA 0, 10, .inl (fun _ => 0))), (qn18, .inl (cA 1, 8, .inr (.inl (fun _ => 0)))), (qn19, .inl (cA 0, 350, .inl (fun _ => 0))), (qn20, .inl (cA 0, 350, .inl (fun _ => 0))), (qn21, .inl (cA 0, 10, .inl (fun _ => 0))), (qn22, .inr (8, [.ref qn23, .ref qn12, .int 0, .int 0, .int 0, .long 0, .int 0, .int 0, .int (-1)])), (qn23, .inr (9, [.ref qn24, .ref qn25, .ref qn26, .int 0])), (qn24, .inl (cA 0, 701, .inl (fun _ => 0))), (qn25, .inl (cA 0, 701, .inl (fun _ => 0))), (qn26, .inl (cA 1, 701, .inr (.inl (fun _ => 0)))), (qn27, .inr (4, [.ref qn2, .ref qn28, .ref qn30, .ref qn31, .ref qn32, .ref qn33, .int 0, .int 0, .int 0, .long 0, .long 0, .long 0, .int 0, .int 0, .int 0, .int 0, .int 0, .int 0, .int 0, .int 0])), (qn28, .inr (6, [.ref qn29, .int 0, .int 0])), (qn29, .inl (cA 0, 240, .inl (fun _ => 0))), (qn30, .inl (cA 0, 10, .inl (fun _ => 0))), (qn31, .inl (cA 0, 10, .inl (fun _ => 0))), (qn32, .inl (cA 0, 10, .inl (fun _ => 0))), (qn33, .inl (cA 0, 10, .inl (fun _ => 0))), (qn34, .inr (4, [.ref qn2, .ref qn35, .ref qn37, .ref qn38, .ref qn39, .ref qn40, .int 0, .int 0, .int 0, .long 0, .long 0, .long 0, .int 0, .int 0, .int 0, .int 0, .int 0, .int 0, .int 0, .int 0])), (qn35, .inr (6, [.ref qn36, .int 0, .int 0])), (qn36, .inl (cA 0, 240, .inl (fun _ => 0))), (qn37, .inl (cA 0, 10, .inl (fun _ => 0))), (qn38, .inl (cA 0, 10, .inl (fun _ => 0))), (qn39, .inl (cA 0, 10, .inl (fun _ => 0))), (qn40, .inl (cA 0, 10, .inl (fun _ => 0))), (qn41, .inr (5, [.ref qn42, .int 0, .int 0])), (qn42, .inl (cA 5, 10, .inr (.inr (.inr (.inr (va_up (va_up (va_up (va_up (va_up (va_up (va_up (va_up (va_up (va_up (fun _ => none) 0 (some qn43)) 1 (some qn50)) 2 (some qn51)) 3 (some qn52)) 4 (some qn53)) 5 (some qn54)) 6 (some qn55)) 7 (some qn56)) 8 (some qn57)) 9 (some qn58))))))), (qn43, .inr (4, [.ref qn2, .ref qn44, .ref qn46, .ref qn47, .ref qn48, .ref qn49, .int 0, .int 0, .int 0, .long 0, .long 0, .long 0, .int 0, .int 0, .int 0, .int 0, .int 0, .int 0, .int 0, .int 0])), (qn44, .inr (6, [.ref qn45, .int 0, .int 0])), (qn45, .inl (cA 0, 240, .inl (fun _ => 0))), (qn46, .inl (cA 0, 10, .inl (fun _ => 0))), (qn47, .inl (cA 0, 10, .inl (fun _ => 0))), (qn48, .inl (cA 0, 10, .inl (fun _ => 0))), (qn49, .inl (cA 0, 10, .inl (fun _ => 0)))] := hD
  refine lv_aload_n hx hb dX9_init_95 rfl (lv_at hl 0 rfl) ?_
  refine va_new (ci := 1) (fs := [.null, .int 0, .int 0, .int 0]) (C := RJ4) (T := TJ4) (N := 4) hx hb hts inJ4 tyJ4 tyJ4_ok hown (hts (.classLink RX9 49 RJ4) (by decide +kernel)) (hts (.instantiable RJ4 4) (by decide +kernel)) (hts (.initialized RJ4) (by decide +kernel)) hK hP hD hS hA rfl (by decide +kernel) (Nat.le_of_ble_eq_true rfl) (Nat.le_of_ble_eq_true rfl) dX9_init_96 (fun qn59 H hP hD hS => ?_)
  have hP : va_P D vwCl [(h0, .inr (10, [.ref qn1, .int 0, .ref qn2, .ref qn12, .ref qn22, .ref qn27, .ref qn34, .ref qn41, .null])), (qn1, .inl (cA 2, 700, .inl (fun _ => 0))), (qn2, .inr (7, [.int 0, .int 365, .int 0, .int 0, .ref qn3, .int 0, .ref qn4, .ref qn5, .ref qn6, .ref qn7, .int 0, .ref qn8, .int 0, .ref qn9, .ref qn10, .ref qn11, .int 0])), (qn3, .inl (cA 0, 6, .inl (fun _ => 0))), (qn4, .inl (cA 1, 10, .inr (.inl (fun _ => 0)))), (qn5, .inl (cA 0, 10, .inl (fun _ => 0))), (qn6, .inl (cA 0, 10, .inl (fun _ => 0))), (qn7, .inl (cA 0, 10, .inl (fun _ => 0))), (qn8, .inl (cA 1, 8, .inr (.inl (fun _ => 0)))), (qn9, .inl (cA 0, 350, .inl (fun _ => 0))), (qn10, .inl (cA 0, 350, .inl (fun _ => 0))), (qn11, .inl (cA 0, 10, .inl (fun _ => 0))), (qn12, .inr (7, [.int 0, .int 365, .int 0, .int 0, .ref qn13, .int 0, .ref qn14, .ref qn15, .ref qn16, .ref qn17, .int 0, .ref qn18, .int 0, .ref qn19, .ref qn20, .ref qn21, .int 0])), (qn13, .inl (cA 0, 6, .inl (fun _ => 0))), (qn14, .inl (cA 1, 10, .inr (.inl (fun _ => 0)))), (qn15, .inl (cA 0, 10, .inl (fun _ => 0))), (qn16, .inl (cA 0, 10, .inl (fun _ => 0))), (qn17, .inl (cA 0, 10, .inl (fun _ => 0))), (qn18, .inl (cA 1, 8, .inr (.inl (fun _ => 0)))), (qn19, .inl (cA 0, 350, .inl (fun _ => 0))), (qn20, .inl (cA 0, 350, .inl (fun _ => 0))), (qn21, .inl (cA 0, 10, .inl (fun _ => 0))), (qn22, .inr (8, [.ref qn23, .ref qn12, .int 0, .int 0, .int 0, .long 0, .int 0, .int 0, .int (-1)])), (qn23, .inr (9, [.ref qn24, .ref qn25, .ref qn26, .int 0])), (qn24, .inl (cA 0, 701, .inl (fun _ => 0))), (qn25, .inl (cA 0, 701, .inl (fun _ => 0))), (qn26, .inl (cA 1, 701, .inr (.inl (fun _ => 0)))), (qn27, .inr (4, [.ref qn2, .ref qn28, .ref qn30, .ref qn31, .ref qn32, .ref qn33, .int 0, .int 0, .int 0, .long 0, .long 0, .long 0, .int 0, .int 0, .int 0, .int 0, .int 0, .int 0, .int 0, .int 0])), (qn28, .inr (6, [.ref qn29, .int 0, .int 0])), (qn29, .inl (cA 0, 240, .inl (fun _ => 0))), (qn30, .inl (cA 0, 10, .inl (fun _ => 0))), (qn31, .inl (cA 0, 10, .inl (fun _ => 0))), (qn32, .inl (cA 0, 10, .inl (fun _ => 0))), (qn33, .inl (cA 0, 10, .inl (fun _ => 0))), (qn34, .inr (4, [.ref qn2, .ref qn35, .ref qn37, .ref qn38, .ref qn39, .ref qn40, .int 0, .int 0, .int 0, .long 0, .long 0, .long 0, .int 0, .int 0, .int 0, .int 0, .int 0, .int 0, .int 0, .int 0])), (qn35, .inr (6, [.ref qn36, .int 0, .int 0])), (qn36, .inl (cA 0, 240, .inl (fun _ => 0))), (qn37, .inl (cA 0, 10, .inl (fun _ => 0))), (qn38, .inl (cA 0, 10, .inl (fun _ => 0))), (qn39, .inl (cA 0, 10, .inl (fun _ => 0))), (qn40, .inl (cA 0, 10, .inl (fun _ => 0))), (qn41, .inr (5, [.ref qn42, .int 0, .int 0])), (qn42, .inl (cA 5, 10, .inr (.inr (.inr (.inr (va_up (va_up (va_up (va_up (va_up (va_up (va_up (va_up (va_up (va_up (fun _ => none) 0 (some qn43)) 1 (some qn50)) 2 (some qn51)) 3 (some qn52)) 4 (some qn53)) 5 (some qn54)) 6 (some qn55)) 7 (some qn56)) 8 (some qn57)) 9 (some qn58))))))), (qn43, .inr (4, [.ref qn2, .ref qn44, .ref qn46, .ref qn47, .ref qn48, .ref qn49, .int 0, .int 0, .int 0, .long 0, .long 0, .long 0, .int 0, .int 0, .int 0, .int 0, .int 0, .int 0, .int 0, .int 0])), (qn44, .inr (6, [.ref qn45, .int 0, .int 0])), (qn45, .inl (cA 0, 240, .inl (fun _ => 0))), (qn46, .inl (cA 0, 10, .inl (fun _ => 0))), (qn47, .inl (cA 0, 10, .inl (fun _ => 0))), (qn48, .inl (cA 0, 10, .inl (fun _ => 0))), (qn49, .inl (cA 0, 10, .inl (fun _ => 0))), (qn59, .inr (1, [.null, .int 0, .int 0, .int 0]))] H := hP
  have hD : va_D A [(h0, .inr (10, [.ref qn1, .int 0, .ref qn2, .ref qn12, .ref qn22, .ref qn27, .ref qn34, .ref qn41, .null])), (qn1, .inl (cA 2, 700, .inl (fun _ => 0))), (qn2, .inr (7, [.int 0, .int 365, .int 0, .int 0, .ref qn3, .int 0, .ref qn4, .ref qn5, .ref qn6, .ref qn7, .int 0, .ref qn8, .int 0, .ref qn9, .ref qn10, .ref qn11, .int 0])), (qn3, .inl (cA 0, 6, .inl (fun _ => 0))), (qn4, .inl (cA 1, 10, .inr (.inl (fun _ => 0)))), (qn5, .inl (cA 0, 10, .inl (fun _ => 0))), (qn6, .inl (cA 0, 10, .inl (fun _ => 0))), (qn7, .inl (cA 0, 10, .inl (fun _ => 0))), (qn8, .inl (cA 1, 8, .inr (.inl (fun _ => 0)))), (qn9, .inl (cA 0, 350, .inl (fun _ => 0))), (qn10, .inl (cA 0, 350, .inl (fun _ => 0))), (qn11, .inl (cA 0, 10, .inl (fun _ => 0))), (qn12, .inr (7, [.int 0, .int 365, .int 0, .int 0, .ref qn13, .int 0, .ref qn14, .ref qn15, .ref qn16, .ref qn17, .int 0, .ref qn18, .int 0, .ref qn19, .ref qn20, .ref qn21, .int 0])), (qn13, .inl (cA 0, 6, .inl (fun _ => 0))), (qn14, .inl (cA 1, 10, .inr (.inl (fun _ => 0)))), (qn15, .inl (cA 0, 10, .inl (fun _ => 0))), (qn16, .inl (cA 0, 10, .inl (fun _ => 0))), (qn17, .inl (cA 0, 10, .inl (fun _ => 0))), (qn18, .inl (cA 1, 8, .inr (.inl (fun _ => 0)))), (qn19, .inl (cA 0, 350, .inl (fun _ => 0))), (qn20, .inl (cA 0, 350, .inl (fun _ => 0))), (qn21, .inl (cA 0, 10, .inl (fun _ => 0))), (qn22, .inr (8, [.ref qn23, .ref qn12, .int 0, .int 0, .int 0, .long 0, .int 0, .int 0, .int (-1)])), (qn23, .inr (9, [.ref qn24, .ref qn25, .ref qn26, .int 0])), (qn24, .inl (cA 0, 701, .inl (fun _ => 0))), (qn25, .inl (cA 0, 701, .inl (fun _ => 0))), (qn26, .inl (cA 1, 701, .inr (.inl (fun _ => 0)))), (qn27, .inr (4, [.ref qn2, .ref qn28, .ref qn30, .ref qn31, .ref qn32, .ref qn33, .int 0, .int 0, .int 0, .long 0, .long 0, .long 0, .int 0, .int 0, .int 0, .int 0, .int 0, .int 0, .int 0, .int 0])), (qn28, .inr (6, [.ref qn29, .int 0, .int 0])), (qn29, .inl (cA 0, 240, .inl (fun _ => 0))), (qn30, .inl (cA 0, 10, .inl (fun _ => 0))), (qn31, .inl (cA 0, 10, .inl (fun _ => 0))), (qn32, .inl (cA 0, 10, .inl (fun _ => 0))), (qn33, .inl (cA 0, 10, .inl (fun _ => 0))), (qn34, .inr (4, [.ref qn2, .ref qn35, .ref qn37, .ref qn38, .ref qn39, .ref qn40, .int 0, .int 0, .int 0, .long 0, .long 0, .long 0, .int 0, .int 0, .int 0, .int 0, .int 0, .int 0, .int 0, .int 0])), (qn35, .inr (6, [.ref qn36, .int 0, .int 0])), (qn36, .inl (cA 0, 240, .inl (fun _ => 0))), (qn37, .inl (cA 0, 10, .inl (fun _ => 0))), (qn38, .inl (cA 0, 10, .inl (fun _ => 0))), (qn39, .inl (cA 0, 10, .inl (fun _ => 0))), (qn40, .inl (cA 0, 10, .inl (fun _ => 0))), (qn41, .inr (5, [.ref qn42, .int 0, .int 0])), (qn42, .inl (cA 5, 10, .inr (.inr (.inr (.inr (va_up (va_up (va_up (va_up (va_up (va_up (va_up (va_up (va_up (va_up (fun _ => none) 0 (some qn43)) 1 (some qn50)) 2 (some qn51)) 3 (some qn52)) 4 (some qn53)) 5 (some qn54)) 6 (some qn55)) 7 (some qn56)) 8 (some qn57)) 9 (some qn58))))))), (qn43, .inr (4, [.ref qn2, .ref qn44, .ref qn46, .ref qn47, .ref qn48, .ref qn49, .int 0, .int 0, .int 0, .long 0, .long 0, .long 0, .int 0, .int 0, .int 0, .int 0, .int 0, .int 0, .int 0, .int 0])), (qn44, .inr (6, [.ref qn45, .int 0, .int 0])), (qn45, .inl (cA 0, 240, .inl (fun _ => 0))), (qn46, .inl (cA 0, 10, .inl (fun _ => 0))), (qn47, .inl (cA 0, 10, .inl (fun _ => 0))), (qn48, .inl (cA 0, 10, .inl (fun _ => 0))), (qn49, .inl (cA 0, 10, .inl (fun _ => 0))), (qn59, .inr (1, [.null, .int 0, .int 0, .int 0]))] := hD
  refine lv_dup hx hb dX9_init_99 rfl ?_
  have hPc := hP.sub (ws' := [(qn59, .inr (1, [.null, .int 0, .int 0, .int 0]))]) [50] rfl
  have hDc := hD.sub (ws' := [(qn59, .inr (1, [.null, .int 0, .int 0, .int 0]))]) [50] (by decide) rfl
  have hFc := va_free (wc := [(qn59, .inr (1, [.null, .int 0, .int 0, .int 0]))]) hD hS hA [50] rfl
  refine va_callv (va_runI (As := []) (rest := [.ref qn59, .ref h0]) ⟨hx, hb, hml, hown, hts⟩ (c_J4_init l D cA sa qn59 H.size) (cwI 0 hts gX9_init_J4_init_da8c8 rfl rfl rfl (hts (.initialized RJ4) (by decide +kernel)) (hts (.methodLink RX9 51 yJ4_init_da8c8) (by decide +kernel)) (hts (.instanceMethod yJ4_init_da8c8) (by decide +kernel)) rfl (by decide +kernel) ⟨(Nat.le_of_ble_eq_true rfl), (Nat.le_of_ble_eq_true rfl)⟩) ⟨Wd.blind, fun U hU hW => ⟨rfl, Wd.call hPc hDc hK hC hZ hS hFc U hU hW⟩⟩ rfl rfl hl.1 rfl (lv_room (Nat.le_of_ble_eq_true rfl)) dX9_init_100 ⟨(Nat.le_of_ble_eq_true rfl), (Nat.le_of_ble_eq_true rfl)⟩) hS (fun q _ h => hFc q h) hFc (fun u t H1 locs ht hvm hw hB hz1 hk1 hS => ?_)
  obtain ⟨qn60, hP1, hD1⟩ := hB
  rw [ht] at hP1
  obtain ⟨hP, hD⟩ := va_join (wr := [(h0, .inr (10, [.ref qn1, .int 0, .ref qn2, .ref qn12, .ref qn22, .ref qn27, .ref qn34, .ref qn41, .null])), (qn1, .inl (cA 2, 700, .inl (fun _ => 0))), (qn2, .inr (7, [.int 0, .int 365, .int 0, .int 0, .ref qn3, .int 0, .ref qn4, .ref qn5, .ref qn6, .ref qn7, .int 0, .ref qn8, .int 0, .ref qn9, .ref qn10, .ref qn11, .int 0])), (qn3, .inl (cA 0, 6, .inl (fun _ => 0))), (qn4, .inl (cA 1, 10, .inr (.inl (fun _ => 0)))), (qn5, .inl (cA 0, 10, .inl (fun _ => 0))), (qn6, .inl (cA 0, 10, .inl (fun _ => 0))), (qn7, .inl (cA 0, 10, .inl (fun _ => 0))), (qn8, .inl (cA 1, 8, .inr (.inl (fun _ => 0)))), (qn9, .inl (cA 0, 350, .inl (fun _ => 0))), (qn10, .inl (cA 0, 350, .inl (fun _ => 0))), (qn11, .inl (cA 0, 10, .inl (fun _ => 0))), (qn12, .inr (7, [.int 0, .int 365, .int 0, .int 0, .ref qn13, .int 0, .ref qn14, .ref qn15, .ref qn16, .ref qn17, .int 0, .ref qn18, .int 0, .ref qn19, .ref qn20, .ref qn21, .int 0])), (qn13, .inl (cA 0, 6, .inl (fun _ => 0))), (qn14, .inl (cA 1, 10, .inr (.inl (fun _ => 0)))), (qn15, .inl (cA 0, 10, .inl (fun _ => 0))), (qn16, .inl (cA 0, 10, .inl (fun _ => 0))), (qn17, .inl (cA 0, 10, .inl (fun _ => 0))), (qn18, .inl (cA 1, 8, .inr (.inl (fun _ => 0)))), (qn19, .inl (cA 0, 350, .inl (fun _ => 0))), (qn20, .inl (cA 0, 350, .inl (fun _ => 0))), (qn21, .inl (cA 0, 10, .inl (fun _ => 0))), (qn22, .inr (8, [.ref qn23, .ref qn12, .int 0, .int 0, .int 0, .long 0, .int 0, .int 0, .int (-1)])), (qn23, .inr (9, [.ref qn24, .ref qn25, .ref qn26, .int 0])), (qn24, .inl (cA 0, 701, .inl (fun _ => 0))), (qn25, .inl (cA 0, 701, .inl (fun _ => 0))), (qn26, .inl (cA 1, 701, .inr (.inl (fun _ => 0)))), (qn27, .inr (4, [.ref qn2, .ref qn28, .ref qn30, .ref qn31, .ref qn32, .ref qn33, .int 0, .int 0, .int 0, .long 0, .long 0, .long 0, .int 0, .int 0, .int 0, .int 0, .int 0, .int 0, .int 0, .int 0])), (qn28, .inr (6, [.ref qn29, .int 0, .int 0])), (qn29, .inl (cA 0, 240, .inl (fun _ => 0))), (qn30, .inl (cA 0, 10, .inl (fun _ => 0))), (qn31, .inl (cA 0, 10, .inl (fun _ => 0))), (qn32, .inl (cA 0, 10, .inl (fun _ => 0))), (qn33, .inl (cA 0, 10, .inl (fun _ => 0))), (qn34, .inr (4, [.ref qn2, .ref qn35, .ref qn37, .ref qn38, .ref qn39, .ref qn40, .int 0, .int 0, .int 0, .long 0, .long 0, .long 0, .int 0, .int 0, .int 0, .int 0, .int 0, .int 0, .int 0, .int 0])), (qn35, .inr (6, [.ref qn36, .int 0, .int 0])), (qn36, .inl (cA 0, 240, .inl (fun _ => 0))), (qn37, .inl (cA 0, 10, .inl (fun _ => 0))), (qn38, .inl (cA 0, 10, .inl (fun _ => 0))), (qn39, .inl (cA 0, 10, .inl (fun _ => 0))), (qn40, .inl (cA 0, 10, .inl (fun _ => 0))), (qn41, .inr (5, [.ref qn42, .int 0, .int 0])), (qn42, .inl (cA 5, 10, .inr (.inr (.inr (.inr (va_up (va_up (va_up (va_up (va_up (va_up (va_up (va_up (va_up (va_up (fun _ => none) 0 (some qn43)) 1 (some qn50)) 2 (some qn51)) 3 (some qn52)) 4 (some qn53)) 5 (some qn54)) 6 (some qn55)) 7 (some qn56)) 8 (some qn57)) 9 (some qn58))))))), (qn43, .inr (4, [.ref qn2, .ref qn44, .ref qn46, .ref qn47, .ref qn48, .ref qn49, .int 0, .int 0, .int 0, .long 0, .long 0, .long 0, .int 0, .int 0, .int 0, .int 0, .int 0, .int 0, .int 0, .int 0])), (qn44, .inr (6, [.ref qn45, .int 0, .int 0])), (qn45, .inl (cA 0, 240, .inl (fun _ => 0))), (qn46, .inl (cA 0, 10, .inl (fun _ => 0))), (qn47, .inl (cA 0, 10, .inl (fun _ => 0))), (qn48, .inl (cA 0, 10, .inl (fun _ => 0))), (qn49, .inl (cA 0, 10, .inl (fun _ => 0)))]) (w1 := [(qn59, .inr (1, [.ref qn60, .int 0, .int 0, .int 0])), (qn60, .inl (cA 3, 16, .inl (fun _ => 0)))]) hP hD [50] [0, 1, 2, 3, 4, 5, 6, 7, 8, 9, 10, 11, 12, 13, 14, 15, 16, 17, 18, 19, 20, 21, 22, 23, 24, 25, 26, 27, 28, 29, 30, 31, 32, 33, 34, 35, 36, 37, 38, 39, 40, 41, 42, 43, 44, 45, 46, 47, 48, 49] rfl rfl (by decide) (by decide) hk1 hFc hP1 hD1
  generalize H1 = H at hP hS ⊢
  have hP : va_P D vwCl [(h0, .inr (10, [.ref qn1, .int 0, .ref qn2, .ref qn12, .ref qn22, .ref qn27, .ref qn34, .ref qn41, .null])), (qn1, .inl (cA 2, 700, .inl (fun _ => 0))), (qn2, .inr (7, [.int 0, .int 365, .int 0, .int 0, .ref qn3, .int 0, .ref qn4, .ref qn5, .ref qn6, .ref qn7, .int 0, .ref qn8, .int 0, .ref qn9, .ref qn10, .ref qn11, .int 0])), (qn3, .inl (cA 0, 6, .inl (fun _ => 0))), (qn4, .inl (cA 1, 10, .inr (.inl (fun _ => 0)))), (qn5, .inl (cA 0, 10, .inl (fun _ => 0))), (qn6, .inl (cA 0, 10, .inl (fun _ => 0))), (qn7, .inl (cA 0, 10, .inl (fun _ => 0))), (qn8, .inl (cA 1, 8, .inr (.inl (fun _ => 0)))), (qn9, .inl (cA 0, 350, .inl (fun _ => 0))), (qn10, .inl (cA 0, 350, .inl (fun _ => 0))), (qn11, .inl (cA 0, 10, .inl (fun _ => 0))), (qn12, .inr (7, [.int 0, .int 365, .int 0, .int 0, .ref qn13, .int 0, .ref qn14, .ref qn15, .ref qn16, .ref qn17, .int 0, .ref qn18, .int 0, .ref qn19, .ref qn20, .ref qn21, .int 0])), (qn13, .inl (cA 0, 6, .inl (fun _ => 0))), (qn14, .inl (cA 1, 10, .inr (.inl (fun _ => 0)))), (qn15, .inl (cA 0, 10, .inl (fun _ => 0))), (qn16, .inl (cA 0, 10, .inl (fun _ => 0))), (qn17, .inl (cA 0, 10, .inl (fun _ => 0))), (qn18, .inl (cA 1, 8, .inr (.inl (fun _ => 0)))), (qn19, .inl (cA 0, 350, .inl (fun _ => 0))), (qn20, .inl (cA 0, 350, .inl (fun _ => 0))), (qn21, .inl (cA 0, 10, .inl (fun _ => 0))), (qn22, .inr (8, [.ref qn23, .ref qn12, .int 0, .int 0, .int 0, .long 0, .int 0, .int 0, .int (-1)])), (qn23, .inr (9, [.ref qn24, .ref qn25, .ref qn26, .int 0])), (qn24, .inl (cA 0, 701, .inl (fun _ => 0))), (qn25, .inl (cA 0, 701, .inl (fun _ => 0))), (qn26, .inl (cA 1, 701, .inr (.inl (fun _ => 0)))), (qn27, .inr (4, [.ref qn2, .ref qn28, .ref qn30, .ref qn31, .ref qn32, .ref qn33, .int 0, .int 0, .int 0, .long 0, .long 0, .long 0, .int 0, .int 0, .int 0, .int 0, .int 0, .int 0, .int 0, .int 0])), (qn28, .inr (6, [.ref qn29, .int 0, .int 0])), (qn29, .inl (cA 0, 240, .inl (fun _ => 0))), (qn30, .inl (cA 0, 10, .inl (fun _ => 0))), (qn31, .inl (cA 0, 10, .inl (fun _ => 0))), (qn32, .inl (cA 0, 10, .inl (fun _ => 0))), (qn33, .inl (cA 0, 10, .inl (fun _ => 0))), (qn34, .inr (4, [.ref qn2, .ref qn35, .ref qn37, .ref qn38, .ref qn39, .ref qn40, .int 0, .int 0, .int 0, .long 0, .long 0, .long 0, .int 0, .int 0, .int 0, .int 0, .int 0, .int 0, .int 0, .int 0])), (qn35, .inr (6, [.ref qn36, .int 0, .int 0])), (qn36, .inl (cA 0, 240, .inl (fun _ => 0))), (qn37, .inl (cA 0, 10, .inl (fun _ => 0))), (qn38, .inl (cA 0, 10, .inl (fun _ => 0))), (qn39, .inl (cA 0, 10, .inl (fun _ => 0))), (qn40, .inl (cA 0, 10, .inl (fun _ => 0))), (qn41, .inr (5, [.ref qn42, .int 0, .int 0])), (qn42, .inl (cA 5, 10, .inr (.inr (.inr (.inr (va_up (va_up (va_up (va_up (va_up (va_up (va_up (va_up (va_up (va_up (fun _ => none) 0 (some qn43)) 1 (some qn50)) 2 (some qn51)) 3 (some qn52)) 4 (some qn53)) 5 (some qn54)) 6 (some qn55)) 7 (some qn56)) 8 (some qn57)) 9 (some qn58))))))), (qn43, .inr (4, [.ref qn2, .ref qn44, .ref qn46, .ref qn47, .ref qn48, .ref qn49, .int 0, .int 0, .int 0, .long 0, .long 0, .long 0, .int 0, .int 0, .int 0, .int 0, .int 0, .int 0, .int 0, .int 0])), (qn44, .inr (6, [.ref qn45, .int 0, .int 0])), (qn45, .inl (cA 0, 240, .inl (fun _ => 0))), (qn46, .inl (cA 0, 10, .inl (fun _ => 0))), (qn47, .inl (cA 0, 10, .inl (fun _ => 0))), (qn48, .inl (cA 0, 10, .inl (fun _ => 0))), (qn49, .inl (cA 0, 10, .inl (fun _ => 0))), (qn59, .inr (1, [.ref qn60, .int 0, .int 0, .int 0])), (qn60, .inl (cA 3, 16, .inl (fun _ => 0)))] H := hP
  have hD : va_D A [(h0, .inr (10, [.ref qn1, .int 0, .ref qn2, .ref qn12, .ref qn22, .ref qn27, .ref qn34, .ref qn41, .null])), (qn1, .inl (cA 2, 700, .inl (fun _ => 0))), (qn2, .inr (7, [.int 0, .int 365, .int 0, .int 0, .ref qn3, .int 0, .ref qn4, .ref qn5, .ref qn6, .ref qn7, .int 0, .ref qn8, .int 0, .ref qn9, .ref qn10, .ref qn11, .int 0])), (qn3, .inl (cA 0, 6, .inl (fun _ => 0))), (qn4, .inl (cA 1, 10, .inr (.inl (fun _ => 0)))), (qn5, .inl (cA 0, 10, .inl (fun _ => 0))), (qn6, .inl (cA 0, 10, .inl (fun _ => 0))), (qn7, .inl (cA 0, 10, .inl (fun _ => 0))), (qn8, .inl (cA 1, 8, .inr (.inl (fun _ => 0)))), (qn9, .inl (cA 0, 350, .inl (fun _ => 0))), (qn10, .inl (cA 0, 350, .inl (fun _ => 0))), (qn11, .inl (cA 0, 10, .inl (fun _ => 0))), (qn12, .inr (7, [.int 0, .int 365, .int 0, .int 0, .ref qn13, .int 0, .ref qn14, .ref qn15, .ref qn16, .ref qn17, .int 0, .ref qn18, .int 0, .ref qn19, .ref qn20, .ref qn21, .int 0])), (qn13, .inl (cA 0, 6, .inl (fun _ => 0))), (qn14, .inl (cA 1, 10, .inr (.inl (fun _ => 0)))), (qn15, .inl (cA 0, 10, .inl (fun _ => 0))), (qn16, .inl (cA 0, 10, .inl (fun _ => 0))), (qn17, .inl (cA 0, 10, .inl (fun _ => 0))), (qn18, .inl (cA 1, 8, .inr (.inl (fun _ => 0)))), (qn19, .inl (cA 0, 350, .inl (fun _ => 0))), (qn20, .inl (cA 0, 350, .inl (fun _ => 0))), (qn21, .inl (cA 0, 10, .inl (fun _ => 0))), (qn22, .inr (8, [.ref qn23, .ref qn12, .int 0, .int 0, .int 0, .long 0, .int 0, .int 0, .int (-1)])), (qn23, .inr (9, [.ref qn24, .ref qn25, .ref qn26, .int 0])), (qn24, .inl (cA 0, 701, .inl (fun _ => 0))), (qn25, .inl (cA 0, 701, .inl (fun _ => 0))), (qn26, .inl (cA 1, 701, .inr (.inl (fun _ => 0)))), (qn27, .inr (4, [.ref qn2, .ref qn28, .ref qn30, .ref qn31, .ref qn32, .ref qn33, .int 0, .int 0, .int 0, .long 0, .long 0, .long 0, .int 0, .int 0, .int 0, .int 0, .int 0, .int 0, .int 0, .int 0])), (qn28, .inr (6, [.ref qn29, .int 0, .int 0])), (qn29, .inl (cA 0, 240, .inl (fun _ => 0))), (qn30, .inl (cA 0, 10, .inl (fun _ => 0))), (qn31, .inl (cA 0, 10, .inl (fun _ => 0))), (qn32, .inl (cA 0, 10, .inl (fun _ => 0))), (qn33, .inl (cA 0, 10, .inl (fun _ => 0))), (qn34, .inr (4, [.ref qn2, .ref qn35, .ref qn37, .ref qn38, .ref qn39, .ref qn40, .int 0, .int 0, .int 0, .long 0, .long 0, .long 0, .int 0, .int 0, .int 0, .int 0, .int 0, .int 0, .int 0, .int 0])), (qn35, .inr (6, [.ref qn36, .int 0, .int 0])), (qn36, .inl (cA 0, 240, .inl (fun _ => 0))), (qn37, .inl (cA 0, 10, .inl (fun _ => 0))), (qn38, .inl (cA 0, 10, .inl (fun _ => 0))), (qn39, .inl (cA 0, 10, .inl (fun _ => 0))), (qn40, .inl (cA 0, 10, .inl (fun _ => 0))), (qn41, .inr (5, [.ref qn42, .int 0, .int 0])), (qn42, .inl (cA 5, 10, .inr (.inr (.inr (.inr (va_up (va_up (va_up (va_up (va_up (va_up (va_up (va_up (va_up (va_up (fun _ => none) 0 (some qn43)) 1 (some qn50)) 2 (some qn51)) 3 (some qn52)) 4 (some qn53)) 5 (some qn54)) 6 (some qn55)) 7 (some qn56)) 8 (some qn57)) 9 (some qn58))))))), (qn43, .inr (4, [.ref qn2, .ref qn44, .ref qn46, .ref qn47, .ref qn48, .ref qn49, .int 0, .int 0, .int 0, .long 0, .long 0, .long 0, .int 0, .int 0, .int 0, .int 0, .int 0, .int 0, .int 0, .int 0])), (qn44, .inr (6, [.ref qn45, .int 0, .int 0])), (qn45, .inl (cA 0, 240, .inl (fun _ => 0))), (qn46, .inl (cA 0, 10, .inl (fun _ => 0))), (qn47, .inl (cA 0, 10, .inl (fun _ => 0))), (qn48, .inl (cA 0, 10, .inl (fun _ => 0))), (qn49, .inl (cA 0, 10, .inl (fun _ => 0))), (qn59, .inr (1, [.ref qn60, .int 0, .int 0, .int 0])), (qn60, .inl (cA 3, 16, .inl (fun _ => 0)))] := hD
  refine va_putF (D := D) (ci := 10) (v := .ref qn59) (ty := (.object "java/lang/StringBuilder")) (C := RX9) (T := TX9) (N := 9) hx hb hts inX9 tyX9 tyX9_ok nmX9 hown hK hP hD hS 0 rfl rfl 8 (by decide) (hts (.fieldLink RX9 52 "EscrowDesk" "output" "Ljava/lang/StringBuilder;") (by decide +kernel)) (fun _ h9 => h9) rfl hin rfl (by decide +kernel) rfl rfl (Nat.le_of_ble_eq_true rfl) dX9_init_103 (fun H locs hP hD hS => ?_)
  have hP : va_P D vwCl [(h0, .inr (10, [.ref qn1, .int 0, .ref qn2, .ref qn12, .ref qn22, .ref qn27, .ref qn34, .ref qn41, .ref qn59])), (qn1, .inl (cA 2, 700, .inl (fun _ => 0))), (qn2, .inr (7, [.int 0, .int 365, .int 0, .int 0, .ref qn3, .int 0, .ref qn4, .ref qn5, .ref qn6, .ref qn7, .int 0, .ref qn8, .int 0, .ref qn9, .ref qn10, .ref qn11, .int 0])), (qn3, .inl (cA 0, 6, .inl (fun _ => 0))), (qn4, .inl (cA 1, 10, .inr (.inl (fun _ => 0)))), (qn5, .inl (cA 0, 10, .inl (fun _ => 0))), (qn6, .inl (cA 0, 10, .inl (fun _ => 0))), (qn7, .inl (cA 0, 10, .inl (fun _ => 0))), (qn8, .inl (cA 1, 8, .inr (.inl (fun _ => 0)))), (qn9, .inl (cA 0, 350, .inl (fun _ => 0))), (qn10, .inl (cA 0, 350, .inl (fun _ => 0))), (qn11, .inl (cA 0, 10, .inl (fun _ => 0))), (qn12, .inr (7, [.int 0, .int 365, .int 0, .int 0, .ref qn13, .int 0, .ref qn14, .ref qn15, .ref qn16, .ref qn17, .int 0, .ref qn18, .int 0, .ref qn19, .ref qn20, .ref qn21, .int 0])), (qn13, .inl (cA 0, 6, .inl (fun _ => 0))), (qn14, .inl (cA 1, 10, .inr (.inl (fun _ => 0)))), (qn15, .inl (cA 0, 10, .inl (fun _ => 0))), (qn16, .inl (cA 0, 10, .inl (fun _ => 0))), (qn17, .inl (cA 0, 10, .inl (fun _ => 0))), (qn18, .inl (cA 1, 8, .inr (.inl (fun _ => 0)))), (qn19, .inl (cA 0, 350, .inl (fun _ => 0))), (qn20, .inl (cA 0, 350, .inl (fun _ => 0))), (qn21, .inl (cA 0, 10, .inl (fun _ => 0))), (qn22, .inr (8, [.ref qn23, .ref qn12, .int 0, .int 0, .int 0, .long 0, .int 0, .int 0, .int (-1)])), (qn23, .inr (9, [.ref qn24, .ref qn25, .ref qn26, .int 0])), (qn24, .inl (cA 0, 701, .inl (fun _ => 0))), (qn25, .inl (cA 0, 701, .inl (fun _ => 0))), (qn26, .inl (cA 1, 701, .inr (.inl (fun _ => 0)))), (qn27, .inr (4, [.ref qn2, .ref qn28, .ref qn30, .ref qn31, .ref qn32, .ref qn33, .int 0, .int 0, .int 0, .long 0, .long 0, .long 0, .int 0, .int 0, .int 0, .int 0, .int 0, .int 0, .int 0, .int 0])), (qn28, .inr (6, [.ref qn29, .int 0, .int 0])), (qn29, .inl (cA 0, 240, .inl (fun _ => 0))), (qn30, .inl (cA 0, 10, .inl (fun _ => 0))), (qn31, .inl (cA 0, 10, .inl (fun _ => 0))), (qn32, .inl (cA 0, 10, .inl (fun _ => 0))), (qn33, .inl (cA 0, 10, .inl (fun _ => 0))), (qn34, .inr (4, [.ref qn2, .ref qn35, .ref qn37, .ref qn38, .ref qn39, .ref qn40, .int 0, .int 0, .int 0, .long 0, .long 0, .long 0, .int 0, .int 0, .int 0, .int 0, .int 0, .int 0, .int 0, .int 0])), (qn35, .inr (6, [.ref qn36, .int 0, .int 0])), (qn36, .inl (cA 0, 240, .inl (fun _ => 0))), (qn37, .inl (cA 0, 10, .inl (fun _ => 0))), (qn38, .inl (cA 0, 10, .inl (fun _ => 0))), (qn39, .inl (cA 0, 10, .inl (fun _ => 0))), (qn40, .inl (cA 0, 10, .inl (fun _ => 0))), (qn41, .inr (5, [.ref qn42, .int 0, .int 0])), (qn42, .inl (cA 5, 10, .inr (.inr (.inr (.inr (va_up (va_up (va_up (va_up (va_up (va_up (va_up (va_up (va_up (va_up (fun _ => none) 0 (some qn43)) 1 (some qn50)) 2 (some qn51)) 3 (some qn52)) 4 (some qn53)) 5 (some qn54)) 6 (some qn55)) 7 (some qn56)) 8 (some qn57)) 9 (some qn58))))))), (qn43, .inr (4, [.ref qn2, .ref qn44, .ref qn46, .ref qn47, .ref qn48, .ref qn49, .int 0, .int 0, .int 0, .long 0, .long 0, .long 0, .int 0, .int 0, .int 0, .int 0, .int 0, .int 0, .int 0, .int 0])), (qn44, .inr (6, [.ref qn45, .int 0, .int 0])), (qn45, .inl (cA 0, 240, .inl (fun _ => 0))), (qn46, .inl (cA 0, 10, .inl (fun _ => 0))), (qn47, .inl (cA 0, 10, .inl (fun _ => 0))), (qn48, .inl (cA 0, 10, .inl (fun _ => 0))), (qn49, .inl (cA 0, 10, .inl (fun _ => 0))), (qn59, .inr (1, [.ref qn60, .int 0, .int 0, .int 0])), (qn60, .inl (cA 3, 16, .inl (fun _ => 0)))] H := hP
  have hD : va_D A [(h0, .inr (10, [.ref qn1, .int 0, .ref qn2, .ref qn12, .ref qn22, .ref qn27, .ref qn34, .ref qn41, .ref qn59])), (qn1, .inl (cA 2, 700, .inl (fun _ => 0))), (qn2, .inr (7, [.int 0, .int 365, .int 0, .int 0, .ref qn3, .int 0, .ref qn4, .ref qn5, .ref qn6, .ref qn7, .int 0, .ref qn8, .int 0, .ref qn9, .ref qn10, .ref qn11, .int 0])), (qn3, .inl (cA 0, 6, .inl (fun _ => 0))), (qn4, .inl (cA 1, 10, .inr (.inl (fun _ => 0)))), (qn5, .inl (cA 0, 10, .inl (fun _ => 0))), (qn6, .inl (cA 0, 10, .inl (fun _ => 0))), (qn7, .inl (cA 0, 10, .inl (fun _ => 0))), (qn8, .inl (cA 1, 8, .inr (.inl (fun _ => 0)))), (qn9, .inl (cA 0, 350, .inl (fun _ => 0))), (qn10, .inl (cA 0, 350, .inl (fun _ => 0))), (qn11, .inl (cA 0, 10, .inl (fun _ => 0))), (qn12, .inr (7, [.int 0, .int 365, .int 0, .int 0, .ref qn13, .int 0, .ref qn14, .ref qn15, .ref qn16, .ref qn17, .int 0, .ref qn18, .int 0, .ref qn19, .ref qn20, .ref qn21, .int 0])), (qn13, .inl (cA 0, 6, .inl (fun _ => 0))), (qn14, .inl (cA 1, 10, .inr (.inl (fun _ => 0)))), (qn15, .inl (cA 0, 10, .inl (fun _ => 0))), (qn16, .inl (cA 0, 10, .inl (fun _ => 0))), (qn17, .inl (cA 0, 10, .inl (fun _ => 0))), (qn18, .inl (cA 1, 8, .inr (.inl (fun _ => 0)))), (qn19, .inl (cA 0, 350, .inl (fun _ => 0))), (qn20, .inl (cA 0, 350, .inl (fun _ => 0))), (qn21, .inl (cA 0, 10, .inl (fun _ => 0))), (qn22, .inr (8, [.ref qn23, .ref qn12, .int 0, .int 0, .int 0, .long 0, .int 0, .int 0, .int (-1)])), (qn23, .inr (9, [.ref qn24, .ref qn25, .ref qn26, .int 0])), (qn24, .inl (cA 0, 701, .inl (fun _ => 0))), (qn25, .inl (cA 0, 701, .inl (fun _ => 0))), (qn26, .inl (cA 1, 701, .inr (.inl (fun _ => 0)))), (qn27, .inr (4, [.ref qn2, .ref qn28, .ref qn30, .ref qn31, .ref qn32, .ref qn33, .int 0, .int 0, .int 0, .long 0, .long 0, .long 0, .int 0, .int 0, .int 0, .int 0, .int 0, .int 0, .int 0, .int 0])), (qn28, .inr (6, [.ref qn29, .int 0, .int 0])), (qn29, .inl (cA 0, 240, .inl (fun _ => 0))), (qn30, .inl (cA 0, 10, .inl (fun _ => 0))), (qn31, .inl (cA 0, 10, .inl (fun _ => 0))), (qn32, .inl (cA 0, 10, .inl (fun _ => 0))), (qn33, .inl (cA 0, 10, .inl (fun _ => 0))), (qn34, .inr (4, [.ref qn2, .ref qn35, .ref qn37, .ref qn38, .ref qn39, .ref qn40, .int 0, .int 0, .int 0, .long 0, .long 0, .long 0, .int 0, .int 0, .int 0, .int 0, .int 0, .int 0, .int 0, .int 0])), (qn35, .inr (6, [.ref qn36, .int 0, .int 0])), (qn36, .inl (cA 0, 240, .inl (fun _ => 0))), (qn37, .inl (cA 0, 10, .inl (fun _ => 0))), (qn38, .inl (cA 0, 10, .inl (fun _ => 0))), (qn39, .inl (cA 0, 10, .inl (fun _ => 0))), (qn40, .inl (cA 0, 10, .inl (fun _ => 0))), (qn41, .inr (5, [.ref qn42, .int 0, .int 0])), (qn42, .inl (cA 5, 10, .inr (.inr (.inr (.inr (va_up (va_up (va_up (va_up (va_up (va_up (va_up (va_up (va_up (va_up (fun _ => none) 0 (some qn43)) 1 (some qn50)) 2 (some qn51)) 3 (some qn52)) 4 (some qn53)) 5 (some qn54)) 6 (some qn55)) 7 (some qn56)) 8 (some qn57)) 9 (some qn58))))))), (qn43, .inr (4, [.ref qn2, .ref qn44, .ref qn46, .ref qn47, .ref qn48, .ref qn49, .int 0, .int 0, .int 0, .long 0, .long 0, .long 0, .int 0, .int 0, .int 0, .int 0, .int 0, .int 0, .int 0, .int 0])), (qn44, .inr (6, [.ref qn45, .int 0, .int 0])), (qn45, .inl (cA 0, 240, .inl (fun _ => 0))), (qn46, .inl (cA 0, 10, .inl (fun _ => 0))), (qn47, .inl (cA 0, 10, .inl (fun _ => 0))), (qn48, .inl (cA 0, 10, .inl (fun _ => 0))), (qn49, .inl (cA 0, 10, .inl (fun _ => 0))), (qn59, .inr (1, [.ref qn60, .int 0, .int 0, .int 0])), (qn60, .inl (cA 3, 16, .inl (fun _ => 0)))] := hD
  refine lv_aload_n hx hb dX9_init_106 rfl (lv_at hl 0 rfl) ?_
  refine va_get (D := D) (ci := 10) (v := .ref qn27) (C := RX9) (T := TX9) (N := 9) hx hb hts inX9 hown hK hP 0 rfl rfl 5 (by decide) (hts (.fieldLink RX9 35 "EscrowDesk" "account" "LEscrowDesk$Account;") (by decide +kernel)) (fun _ h9 => h9) rfl dX9_init_107 ?_
  refine lv_aload_n hx hb dX9_init_110 rfl (lv_at hl 0 rfl) ?_
  refine va_get (D := D) (ci := 10) (v := .ref qn2) (C := RX9) (T := TX9) (N := 9) hx hb hts inX9 hown hK hP 0 rfl rfl 2 (by decide) (hts (.fieldLink RX9 16 "EscrowDesk" "plan" "LEscrowDesk$Plan;") (by decide +kernel)) (fun _ h9 => h9) rfl dX9_init_111 ?_
  have hPc := hP.sub (ws' := [(qn27, .inr (4, [.ref qn2, .ref qn28, .ref qn30, .ref qn31, .ref qn32, .ref qn33, .int 0, .int 0, .int 0, .long 0, .long 0, .long 0, .int 0, .int 0, .int 0, .int 0, .int 0, .int 0, .int 0, .int 0])), (qn28, .inr (6, [.ref qn29, .int 0, .int 0])), (qn30, .inl (cA 0, 10, .inl (fun _ => 0))), (qn31, .inl (cA 0, 10, .inl (fun _ => 0))), (qn32, .inl (cA 0, 10, .inl (fun _ => 0))), (qn33, .inl (cA 0, 10, .inl (fun _ => 0))), (qn2, .inr (7, [.int 0, .int 365, .int 0, .int 0, .ref qn3, .int 0, .ref qn4, .ref qn5, .ref qn6, .ref qn7, .int 0, .ref qn8, .int 0, .ref qn9, .ref qn10, .ref qn11, .int 0]))]) [27, 28, 30, 31, 32, 33, 2] rfl
  have hDc := hD.sub (ws' := [(qn27, .inr (4, [.ref qn2, .ref qn28, .ref qn30, .ref qn31, .ref qn32, .ref qn33, .int 0, .int 0, .int 0, .long 0, .long 0, .long 0, .int 0, .int 0, .int 0, .int 0, .int 0, .int 0, .int 0, .int 0])), (qn28, .inr (6, [.ref qn29, .int 0, .int 0])), (qn30, .inl (cA 0, 10, .inl (fun _ => 0))), (qn31, .inl (cA 0, 10, .inl (fun _ => 0))), (qn32, .inl (cA 0, 10, .inl (fun _ => 0))), (qn33, .inl (cA 0, 10, .inl (fun _ => 0))), (qn2, .inr (7, [.int 0, .int 365, .int 0, .int 0, .ref qn3, .int 0, .ref qn4, .ref qn5, .ref qn6, .ref qn7, .int 0, .ref qn8, .int 0, .ref qn9, .ref qn10, .ref qn11, .int 0]))]) [27, 28, 30, 31, 32, 33, 2] (by decide) rfl
  have hFc := va_free (wc := [(qn27, .inr (4, [.ref qn2, .ref qn28, .ref qn30, .ref qn31, .ref qn32, .ref qn33, .int 0, .int 0, .int 0, .long 0, .long 0, .long 0, .int 0, .int 0, .int 0, .int 0, .int 0, .int 0, .int 0, .int 0])), (qn28, .inr (6, [.ref qn29, .int 0, .int 0])), (qn30, .inl (cA 0, 10, .inl (fun _ => 0))), (qn31, .inl (cA 0, 10, .inl (fun _ => 0))), (qn32, .inl (cA 0, 10, .inl (fun _ => 0))), (qn33, .inl (cA 0, 10, .inl (fun _ => 0))), (qn2, .inr (7, [.int 0, .int 365, .int 0, .int 0, .ref qn3, .int 0, .ref qn4, .ref qn5, .ref qn6, .ref qn7, .int 0, .ref qn8, .int 0, .ref qn9, .ref qn10, .ref qn11, .int 0]))]) hD hS hA [27, 28, 30, 31, 32, 33, 2] rfl
  refine va_callv (va_runV (As := [.ref qn2]) (rest := []) ⟨hx, hb, hml, hown, hts⟩ (c_X0_openWith l D cA sa qn27 qn28 qn29 qn30 qn31 qn32 qn33 qn2 qn3 qn4 qn5 qn6 qn7 qn8 qn9 qn10 qn11 (.ref qn2) (.int 0) (.int 0) (.int 0) (.long 0) (.long 0) (.long 0) (.int 0) (.int 0) (.int 0) (.int 0) (.int 0) (.int 0) (.int 0) (.int 0) 0 0 (fun _ => 0) (fun _ => 0) (fun _ => 0) (fun _ => 0) H.size) (cwV 1 hts gX9_init_X0_openWith rfl rfl rfl (by decide +kernel) ⟨(Nat.le_of_ble_eq_true rfl), (Nat.le_of_ble_eq_true rfl)⟩) ⟨Wd.blind, va_recv hK hPc (ci := 4) (q0 := 0) rfl rfl, fun U hU hW => ⟨rfl, Wd.call hPc hDc hK hC hZ hS hFc U hU hW⟩⟩ rfl rfl hl.1 rfl (lv_room (Nat.le_of_ble_eq_true rfl)) dX9_init_114 ⟨(Nat.le_of_ble_eq_true rfl), (Nat.le_of_ble_eq_true rfl)⟩) hS (fun q _ h => hFc q h) hFc (fun u t H1 locs ht hvm hw hB hz1 hk1 hS => ?_)
  obtain ⟨fn61, fn62, fn63, fn64, hP1, hD1⟩ := hB
  rw [ht] at hP1
  obtain ⟨hP, hD⟩ := va_join (wr := [(h0, .inr (10, [.ref qn1, .int 0, .ref qn2, .ref qn12, .ref qn22, .ref qn27, .ref qn34, .ref qn41, .ref qn59])), (qn1, .inl (cA 2, 700, .inl (fun _ => 0))), (qn3, .inl (cA 0, 6, .inl (fun _ => 0))), (qn4, .inl (cA 1, 10, .inr (.inl (fun _ => 0)))), (qn5, .inl (cA 0, 10, .inl (fun _ => 0))), (qn6, .inl (cA 0, 10, .inl (fun _ => 0))), (qn7, .inl (cA 0, 10, .inl (fun _ => 0))), (qn8, .inl (cA 1, 8, .inr (.inl (fun _ => 0)))), (qn9, .inl (cA 0, 350, .inl (fun _ => 0))), (qn10, .inl (cA 0, 350, .inl (fun _ => 0))), (qn11, .inl (cA 0, 10, .inl (fun _ => 0))), (qn12, .inr (7, [.int 0, .int 365, .int 0, .int 0, .ref qn13, .int 0, .ref qn14, .ref qn15, .ref qn16, .ref qn17, .int 0, .ref qn18, .int 0, .ref qn19, .ref qn20, .ref qn21, .int 0])), (qn13, .inl (cA 0, 6, .inl (fun _ => 0))), (qn14, .inl (cA 1, 10, .inr (.inl (fun _ => 0)))), (qn15, .inl (cA 0, 10, .inl (fun _ => 0))), (qn16, .inl (cA 0, 10, .inl (fun _ => 0))), (qn17, .inl (cA 0, 10, .inl (fun _ => 0))), (qn18, .inl (cA 1, 8, .inr (.inl (fun _ => 0)))), (qn19, .inl (cA 0, 350, .inl (fun _ => 0))), (qn20, .inl (cA 0, 350, .inl (fun _ => 0))), (qn21, .inl (cA 0, 10, .inl (fun _ => 0))), (qn22, .inr (8, [.ref qn23, .ref qn12, .int 0, .int 0, .int 0, .long 0, .int 0, .int 0, .int (-1)])), (qn23, .inr (9, [.ref qn24, .ref qn25, .ref qn26, .int 0])), (qn24, .inl (cA 0, 701, .inl (fun _ => 0))), (qn25, .inl (cA 0, 701, .inl (fun _ => 0))), (qn26, .inl (cA 1, 701, .inr (.inl (fun _ => 0)))), (qn29, .inl (cA 0, 240, .inl (fun _ => 0))), (qn34, .inr (4, [.ref qn2, .ref qn35, .ref qn37, .ref qn38, .ref qn39, .ref qn40, .int 0, .int 0, .int 0, .long 0, .long 0, .long 0, .int 0, .int 0, .int 0, .int 0, .int 0, .int 0, .int 0, .int 0])), (qn35, .inr (6, [.ref qn36, .int 0, .int 0])), (qn36, .inl (cA 0, 240, .inl (fun _ => 0))), (qn37, .inl (cA 0, 10, .inl (fun _ => 0))), (qn38, .inl (cA 0, 10, .inl (fun _ => 0))), (qn39, .inl (cA 0, 10, .inl (fun _ => 0))), (qn40, .inl (cA 0, 10, .inl (fun _ => 0))), (qn41, .inr (5, [.ref qn42, .int 0, .int 0])), (qn42, .inl (cA 5, 10, .inr (.inr (.inr (.inr (va_up (va_up (va_up (va_up (va_up (va_up (va_up (va_up (va_up (va_up (fun _ => none) 0 (some qn43)) 1 (some qn50)) 2 (some qn51)) 3 (some qn52)) 4 (some qn53)) 5 (some qn54)) 6 (some qn55)) 7 (some qn56)) 8 (some qn57)) 9 (some qn58))))))), (qn43, .inr (4, [.ref qn2, .ref qn44, .ref qn46, .ref qn47, .ref qn48, .ref qn49, .int 0, .int 0, .int 0, .long 0, .long 0, .long 0, .int 0, .int 0, .int 0, .int 0, .int 0, .int 0, .int 0, .int 0])), (qn44, .inr (6, [.ref qn45, .int 0, .int 0])), (qn45, .inl (cA 0, 240, .inl (fun _ => 0))), (qn46, .inl (cA 0, 10, .inl (fun _ => 0))), (qn47, .inl (cA 0, 10, .inl (fun _ => 0))), (qn48, .inl (cA 0, 10, .inl (fun _ => 0))), (qn49, .inl (cA 0, 10, .inl (fun _ => 0))), (qn59, .inr (1, [.ref qn60, .int 0, .int 0, .int 0])), (qn60, .inl (cA 3, 16, .inl (fun _ => 0)))]) (w1 := [(qn27, .inr (4, [.ref qn2, .ref qn28, .ref qn30, .ref qn31, .ref qn32, .ref qn33, .int 0, .int 0, .int 0, .long 0, .long 0, .long 0, .int 0, .int 0, .int 0, .int 0, .int 365, .int 0, .int 0, .int 0])), (qn28, .inr (6, [.ref qn29, .int 0, .int 0])), (qn30, .inl (cA 0, 10, .inl fn61)), (qn31, .inl (cA 0, 10, .inl fn62)), (qn32, .inl (cA 0, 10, .inl fn63)), (qn33, .inl (cA 0, 10, .inl fn64)), (qn2, .inr (7, [.int 0, .int 365, .int 0, .int 0, .ref qn3, .int 0, .ref qn4, .ref qn5, .ref qn6, .ref qn7, .int 0, .ref qn8, .int 0, .ref qn9, .ref qn10, .ref qn11, .int 0]))]) hP hD [27, 28, 30, 31, 32, 33, 2] [0, 1, 3, 4, 5, 6, 7, 8, 9, 10, 11, 12, 13, 14, 15, 16, 17, 18, 19, 20, 21, 22, 23, 24, 25, 26, 29, 34, 35, 36, 37, 38, 39, 40, 41, 42, 43, 44, 45, 46, 47, 48, 49, 50, 51] rfl rfl (by decide) (by decide) hk1 hFc hP1 hD1
  generalize H1 = H at hP hS ⊢
  have hP : va_P D vwCl [(h0, .inr (10, [.ref qn1, .int 0, .ref qn2, .ref qn12, .ref qn22, .ref qn27, .ref qn34, .ref qn41, .ref qn59])), (qn1, .inl (cA 2, 700, .inl (fun _ => 0))), (qn3, .inl (cA 0, 6, .inl (fun _ => 0))), (qn4, .inl (cA 1, 10, .inr (.inl (fun _ => 0)))), (qn5, .inl (cA 0, 10, .inl (fun _ => 0))), (qn6, .inl (cA 0, 10, .inl (fun _ => 0))), (qn7, .inl (cA 0, 10, .inl (fun _ => 0))), (qn8, .inl (cA 1, 8, .inr (.inl (fun _ => 0)))), (qn9, .inl (cA 0, 350, .inl (fun _ => 0))), (qn10, .inl (cA 0, 350, .inl (fun _ => 0))), (qn11, .inl (cA 0, 10, .inl (fun _ => 0))), (qn12, .inr (7, [.int 0, .int 365, .int 0, .int 0, .ref qn13, .int 0, .ref qn14, .ref qn15, .ref qn16, .ref qn17, .int 0, .ref qn18, .int 0, .ref qn19, .ref qn20, .ref qn21, .int 0])), (qn13, .inl (cA 0, 6, .inl (fun _ => 0))), (qn14, .inl (cA 1, 10, .inr (.inl (fun _ => 0)))), (qn15, .inl (cA 0, 10, .inl (fun _ => 0))), (qn16, .inl (cA 0, 10, .inl (fun _ => 0))), (qn17, .inl (cA 0, 10, .inl (fun _ => 0))), (qn18, .inl (cA 1, 8, .inr (.inl (fun _ => 0)))), (qn19, .inl (cA 0, 350, .inl (fun _ => 0))), (qn20, .inl (cA 0, 350, .inl (fun _ => 0))), (qn21, .inl (cA 0, 10, .inl (fun _ => 0))), (qn22, .inr (8, [.ref qn23, .ref qn12, .int 0, .int 0, .int 0, .long 0, .int 0, .int 0, .int (-1)])), (qn23, .inr (9, [.ref qn24, .ref qn25, .ref qn26, .int 0])), (qn24, .inl (cA 0, 701, .inl (fun _ => 0))), (qn25, .inl (cA 0, 701, .inl (fun _ => 0))), (qn26, .inl (cA 1, 701, .inr (.inl (fun _ => 0)))), (qn29, .inl (cA 0, 240, .inl (fun _ => 0))), (qn34, .inr (4, [.ref qn2, .ref qn35, .ref qn37, .ref qn38, .ref qn39, .ref qn40, .int 0, .int 0, .int 0, .long 0, .long 0, .long 0, .int 0, .int 0, .int 0, .int 0, .int 0, .int 0, .int 0, .int 0])), (qn35, .inr (6, [.ref qn36, .int 0, .int 0])), (qn36, .inl (cA 0, 240, .inl (fun _ => 0))), (qn37, .inl (cA 0, 10, .inl (fun _ => 0))), (qn38, .inl (cA 0, 10, .inl (fun _ => 0))), (qn39, .inl (cA 0, 10, .inl (fun _ => 0))), (qn40, .inl (cA 0, 10, .inl (fun _ => 0))), (qn41, .inr (5, [.ref qn42, .int 0, .int 0])), (qn42, .inl (cA 5, 10, .inr (.inr (.inr (.inr (va_up (va_up (va_up (va_up (va_up (va_up (va_up (va_up (va_up (va_up (fun _ => none) 0 (some qn43)) 1 (some qn50)) 2 (some qn51)) 3 (some qn52)) 4 (some qn53)) 5 (some qn54)) 6 (some qn55)) 7 (some qn56)) 8 (some qn57)) 9 (some qn58))))))), (qn43, .inr (4, [.ref qn2, .ref qn44, .ref qn46, .ref qn47, .ref qn48, .ref qn49, .int 0, .int 0, .int 0, .long 0, .long 0, .long 0, .int 0, .int 0, .int 0, .int 0, .int 0, .int 0, .int 0, .int 0])), (qn44, .inr (6, [.ref qn45, .int 0, .int 0])), (qn45, .inl (cA 0, 240, .inl (fun _ => 0))), (qn46, .inl (cA 0, 10, .inl (fun _ => 0))), (qn47, .inl (cA 0, 10, .inl (fun _ => 0))), (qn48, .inl (cA 0, 10, .inl (fun _ => 0))), (qn49, .inl (cA 0, 10, .inl (fun _ => 0))), (qn59, .inr (1, [.ref qn60, .int 0, .int 0, .int 0])), (qn60, .inl (cA 3, 16, .inl (fun _ => 0))), (qn27, .inr (4, [.ref qn2, .ref qn28, .ref qn30, .ref qn31, .ref qn32, .ref qn33, .int 0, .int 0, .int 0, .long 0, .long 0, .long 0, .int 0, .int 0, .int 0, .int 0, .int 365, .int 0, .int 0, .int 0])), (qn28, .inr (6, [.ref qn29, .int 0, .int 0])), (qn30, .inl (cA 0, 10, .inl fn61)), (qn31, .inl (cA 0, 10, .inl fn62)), (qn32, .inl (cA 0, 10, .inl fn63)), (qn33, .inl (cA 0, 10, .inl fn64)), (qn2, .inr (7, [.int 0, .int 365, .int 0, .int 0, .ref qn3, .int 0, .ref qn4, .ref qn5, .ref qn6, .ref qn7, .int 0, .ref qn8, .int 0, .ref qn9, .ref qn10, .ref qn11, .int 0]))] H := hP
  have hD : va_D A [(h0, .inr (10, [.ref qn1, .int 0, .ref qn2, .ref qn12, .ref qn22, .ref qn27, .ref qn34, .ref qn41, .ref qn59])), (qn1, .inl (cA 2, 700, .inl (fun _ => 0))), (qn3, .inl (cA 0, 6, .inl (fun _ => 0))), (qn4, .inl (cA 1, 10, .inr (.inl (fun _ => 0)))), (qn5, .inl (cA 0, 10, .inl (fun _ => 0))), (qn6, .inl (cA 0, 10, .inl (fun _ => 0))), (qn7, .inl (cA 0, 10, .inl (fun _ => 0))), (qn8, .inl (cA 1, 8, .inr (.inl (fun _ => 0)))), (qn9, .inl (cA 0, 350, .inl (fun _ => 0))), (qn10, .inl (cA 0, 350, .inl (fun _ => 0))), (qn11, .inl (cA 0, 10, .inl (fun _ => 0))), (qn12, .inr (7, [.int 0, .int 365, .int 0, .int 0, .ref qn13, .int 0, .ref qn14, .ref qn15, .ref qn16, .ref qn17, .int 0, .ref qn18, .int 0, .ref qn19, .ref qn20, .ref qn21, .int 0])), (qn13, .inl (cA 0, 6, .inl (fun _ => 0))), (qn14, .inl (cA 1, 10, .inr (.inl (fun _ => 0)))), (qn15, .inl (cA 0, 10, .inl (fun _ => 0))), (qn16, .inl (cA 0, 10, .inl (fun _ => 0))), (qn17, .inl (cA 0, 10, .inl (fun _ => 0))), (qn18, .inl (cA 1, 8, .inr (.inl (fun _ => 0)))), (qn19, .inl (cA 0, 350, .inl (fun _ => 0))), (qn20, .inl (cA 0, 350, .inl (fun _ => 0))), (qn21, .inl (cA 0, 10, .inl (fun _ => 0))), (qn22, .inr (8, [.ref qn23, .ref qn12, .int 0, .int 0, .int 0, .long 0, .int 0, .int 0, .int (-1)])), (qn23, .inr (9, [.ref qn24, .ref qn25, .ref qn26, .int 0])), (qn24, .inl (cA 0, 701, .inl (fun _ => 0))), (qn25, .inl (cA 0, 701, .inl (fun _ => 0))), (qn26, .inl (cA 1, 701, .inr (.inl (fun _ => 0)))), (qn29, .inl (cA 0, 240, .inl (fun _ => 0))), (qn34, .inr (4, [.ref qn2, .ref qn35, .ref qn37, .ref qn38, .ref qn39, .ref qn40, .int 0, .int 0, .int 0, .long 0, .long 0, .long 0, .int 0, .int 0, .int 0, .int 0, .int 0, .int 0, .int 0, .int 0])), (qn35, .inr (6, [.ref qn36, .int 0, .int 0])), (qn36, .inl (cA 0, 240, .inl (fun _ => 0))), (qn37, .inl (cA 0, 10, .inl (fun _ => 0))), (qn38, .inl (cA 0, 10, .inl (fun _ => 0))), (qn39, .inl (cA 0, 10, .inl (fun _ => 0))), (qn40, .inl (cA 0, 10, .inl (fun _ => 0))), (qn41, .inr (5, [.ref qn42, .int 0, .int 0])), (qn42, .inl (cA 5, 10, .inr (.inr (.inr (.inr (va_up (va_up (va_up (va_up (va_up (va_up (va_up (va_up (va_up (va_up (fun _ => none) 0 (some qn43)) 1 (some qn50)) 2 (some qn51)) 3 (some qn52)) 4 (some qn53)) 5 (some qn54)) 6 (some qn55)) 7 (some qn56)) 8 (some qn57)) 9 (some qn58))))))), (qn43, .inr (4, [.ref qn2, .ref qn44, .ref qn46, .ref qn47, .ref qn48, .ref qn49, .int 0, .int 0, .int 0, .long 0, .long 0, .long 0, .int 0, .int 0, .int 0, .int 0, .int 0, .int 0, .int 0, .int 0])), (qn44, .inr (6, [.ref qn45, .int 0, .int 0])), (qn45, .inl (cA 0, 240, .inl (fun _ => 0))), (qn46, .inl (cA 0, 10, .inl (fun _ => 0))), (qn47, .inl (cA 0, 10, .inl (fun _ => 0))), (qn48, .inl (cA 0, 10, .inl (fun _ => 0))), (qn49, .inl (cA 0, 10, .inl (fun _ => 0))), (qn59, .inr (1, [.ref qn60, .int 0, .int 0, .int 0])), (qn60, .inl (cA 3, 16, .inl (fun _ => 0))), (qn27, .inr (4, [.ref qn2, .ref qn28, .ref qn30, .ref qn31, .ref qn32, .ref qn33, .int 0, .int 0, .int 0, .long 0, .long 0, .long 0, .int 0, .int 0, .int 0, .int 0, .int 365, .int 0, .int 0, .int 0])), (qn28, .inr (6, [.ref qn29, .int 0, .int 0])), (qn30, .inl (cA 0, 10, .inl fn61)), (qn31, .inl (cA 0, 10, .inl fn62)), (qn32, .inl (cA 0, 10, .inl fn63)), (qn33, .inl (cA 0, 10, .inl fn64)), (qn2, .inr (7, [.int 0, .int 365, .int 0, .int 0, .ref qn3, .int 0, .ref qn4, .ref qn5, .ref qn6, .ref qn7, .int 0, .ref qn8, .int 0, .ref qn9, .ref qn10, .ref qn11, .int 0]))] := hD
  have hP9 := hP.sub (ws' := [(h0, .inr (10, [.ref qn1, .int 0, .ref qn2, .ref qn12, .ref qn22, .ref qn27, .ref qn34, .ref qn41, .ref qn59])), (qn1, .inl (cA 2, 700, .inl (fun _ => 0))), (qn2, .inr (7, [.int 0, .int 365, .int 0, .int 0, .ref qn3, .int 0, .ref qn4, .ref qn5, .ref qn6, .ref qn7, .int 0, .ref qn8, .int 0, .ref qn9, .ref qn10, .ref qn11, .int 0])), (qn12, .inr (7, [.int 0, .int 365, .int 0, .int 0, .ref qn13, .int 0, .ref qn14, .ref qn15, .ref qn16, .ref qn17, .int 0, .ref qn18, .int 0, .ref qn19, .ref qn20, .ref qn21, .int 0])), (qn22, .inr (8, [.ref qn23, .ref qn12, .int 0, .int 0, .int 0, .long 0, .int 0, .int 0, .int (-1)])), (qn23, .inr (9, [.ref qn24, .ref qn25, .ref qn26, .int 0])), (qn24, .inl (cA 0, 701, .inl (fun _ => 0))), (qn25, .inl (cA 0, 701, .inl (fun _ => 0))), (qn26, .inl (cA 1, 701, .inr (.inl (fun _ => 0)))), (qn27, .inr (4, [.ref qn2, .ref qn28, .ref qn30, .ref qn31, .ref qn32, .ref qn33, .int 0, .int 0, .int 0, .long 0, .long 0, .long 0, .int 0, .int 0, .int 0, .int 0, .int 365, .int 0, .int 0, .int 0])), (qn28, .inr (6, [.ref qn29, .int 0, .int 0])), (qn29, .inl (cA 0, 240, .inl (fun _ => 0))), (qn30, .inl (cA 0, 10, .inl fn61)), (qn31, .inl (cA 0, 10, .inl fn62)), (qn32, .inl (cA 0, 10, .inl fn63)), (qn33, .inl (cA 0, 10, .inl fn64)), (qn34, .inr (4, [.ref qn2, .ref qn35, .ref qn37, .ref qn38, .ref qn39, .ref qn40, .int 0, .int 0, .int 0, .long 0, .long 0, .long 0, .int 0, .int 0, .int 0, .int 0, .int 0, .int 0, .int 0, .int 0])), (qn35, .inr (6, [.ref qn36, .int 0, .int 0])), (qn36, .inl (cA 0, 240, .inl (fun _ => 0))), (qn37, .inl (cA 0, 10, .inl (fun _ => 0))), (qn38, .inl (cA 0, 10, .inl (fun _ => 0))), (qn39, .inl (cA 0, 10, .inl (fun _ => 0))), (qn40, .inl (cA 0, 10, .inl (fun _ => 0))), (qn41, .inr (5, [.ref qn42, .int 0, .int 0])), (qn42, .inl (cA 5, 10, .inr (.inr (.inr (.inr (va_up (va_up (va_up (va_up (va_up (va_up (va_up (va_up (va_up (va_up (fun _ => none) 0 (some qn43)) 1 (some qn50)) 2 (some qn51)) 3 (some qn52)) 4 (some qn53)) 5 (some qn54)) 6 (some qn55)) 7 (some qn56)) 8 (some qn57)) 9 (some qn58))))))), (qn43, .inr (4, [.ref qn2, .ref qn44, .ref qn46, .ref qn47, .ref qn48, .ref qn49, .int 0, .int 0, .int 0, .long 0, .long 0, .long 0, .int 0, .int 0, .int 0, .int 0, .int 0, .int 0, .int 0, .int 0])), (qn44, .inr (6, [.ref qn45, .int 0, .int 0])), (qn45, .inl (cA 0, 240, .inl (fun _ => 0))), (qn46, .inl (cA 0, 10, .inl (fun _ => 0))), (qn47, .inl (cA 0, 10, .inl (fun _ => 0))), (qn48, .inl (cA 0, 10, .inl (fun _ => 0))), (qn49, .inl (cA 0, 10, .inl (fun _ => 0))), (qn59, .inr (1, [.ref qn60, .int 0, .int 0, .int 0]))]) [0, 1, 51, 11, 21, 22, 23, 24, 25, 45, 46, 26, 47, 48, 49, 50, 27, 28, 29, 30, 31, 32, 33, 34, 35, 36, 37, 38, 39, 40, 41, 42, 43] rfl
  have hD9 := hD.sub (ws' := [(h0, .inr (10, [.ref qn1, .int 0, .ref qn2, .ref qn12, .ref qn22, .ref qn27, .ref qn34, .ref qn41, .ref qn59])), (qn1, .inl (cA 2, 700, .inl (fun _ => 0))), (qn2, .inr (7, [.int 0, .int 365, .int 0, .int 0, .ref qn3, .int 0, .ref qn4, .ref qn5, .ref qn6, .ref qn7, .int 0, .ref qn8, .int 0, .ref qn9, .ref qn10, .ref qn11, .int 0])), (qn12, .inr (7, [.int 0, .int 365, .int 0, .int 0, .ref qn13, .int 0, .ref qn14, .ref qn15, .ref qn16, .ref qn17, .int 0, .ref qn18, .int 0, .ref qn19, .ref qn20, .ref qn21, .int 0])), (qn22, .inr (8, [.ref qn23, .ref qn12, .int 0, .int 0, .int 0, .long 0, .int 0, .int 0, .int (-1)])), (qn23, .inr (9, [.ref qn24, .ref qn25, .ref qn26, .int 0])), (qn24, .inl (cA 0, 701, .inl (fun _ => 0))), (qn25, .inl (cA 0, 701, .inl (fun _ => 0))), (qn26, .inl (cA 1, 701, .inr (.inl (fun _ => 0)))), (qn27, .inr (4, [.ref qn2, .ref qn28, .ref qn30, .ref qn31, .ref qn32, .ref qn33, .int 0, .int 0, .int 0, .long 0, .long 0, .long 0, .int 0, .int 0, .int 0, .int 0, .int 365, .int 0, .int 0, .int 0])), (qn28, .inr (6, [.ref qn29, .int 0, .int 0])), (qn29, .inl (cA 0, 240, .inl (fun _ => 0))), (qn30, .inl (cA 0, 10, .inl fn61)), (qn31, .inl (cA 0, 10, .inl fn62)), (qn32, .inl (cA 0, 10, .inl fn63)), (qn33, .inl (cA 0, 10, .inl fn64)), (qn34, .inr (4, [.ref qn2, .ref qn35, .ref qn37, .ref qn38, .ref qn39, .ref qn40, .int 0, .int 0, .int 0, .long 0, .long 0, .long 0, .int 0, .int 0, .int 0, .int 0, .int 0, .int 0, .int 0, .int 0])), (qn35, .inr (6, [.ref qn36, .int 0, .int 0])), (qn36, .inl (cA 0, 240, .inl (fun _ => 0))), (qn37, .inl (cA 0, 10, .inl (fun _ => 0))), (qn38, .inl (cA 0, 10, .inl (fun _ => 0))), (qn39, .inl (cA 0, 10, .inl (fun _ => 0))), (qn40, .inl (cA 0, 10, .inl (fun _ => 0))), (qn41, .inr (5, [.ref qn42, .int 0, .int 0])), (qn42, .inl (cA 5, 10, .inr (.inr (.inr (.inr (va_up (va_up (va_up (va_up (va_up (va_up (va_up (va_up (va_up (va_up (fun _ => none) 0 (some qn43)) 1 (some qn50)) 2 (some qn51)) 3 (some qn52)) 4 (some qn53)) 5 (some qn54)) 6 (some qn55)) 7 (some qn56)) 8 (some qn57)) 9 (some qn58))))))), (qn43, .inr (4, [.ref qn2, .ref qn44, .ref qn46, .ref qn47, .ref qn48, .ref qn49, .int 0, .int 0, .int 0, .long 0, .long 0, .long 0, .int 0, .int 0, .int 0, .int 0, .int 0, .int 0, .int 0, .int 0])), (qn44, .inr (6, [.ref qn45, .int 0, .int 0])), (qn45, .inl (cA 0, 240, .inl (fun _ => 0))), (qn46, .inl (cA 0, 10, .inl (fun _ => 0))), (qn47, .inl (cA 0, 10, .inl (fun _ => 0))), (qn48, .inl (cA 0, 10, .inl (fun _ => 0))), (qn49, .inl (cA 0, 10, .inl (fun _ => 0))), (qn59, .inr (1, [.ref qn60, .int 0, .int 0, .int 0]))]) [0, 1, 51, 11, 21, 22, 23, 24, 25, 45, 46, 26, 47, 48, 49, 50, 27, 28, 29, 30, 31, 32, 33, 34, 35, 36, 37, 38, 39, 40, 41, 42, 43] (by decide) rfl
  refine W.widen (k := 114) (n := 8047) (Nat.le_of_ble_eq_true rfl) (Nat.le_of_ble_eq_true rfl) ?_
  exact W.vret hx hb hr (fun t ht hW => ⟨⟨(), rfl, trivial, qn1, qn2, qn3, qn4, qn5, qn6, qn7, qn8, qn9, qn10, qn11, qn12, qn13, qn14, qn15, qn16, qn17, qn18, qn19, qn20, qn21, qn22, qn23, qn24, qn25, qn26, qn27, qn28, qn29, qn30, qn31, qn32, qn33, qn34, qn35, qn36, qn37, qn38, qn39, qn40, qn41, qn42, qn43, qn44, qn45, qn46, qn47, qn48, qn49, qn50, qn51, qn52, qn53, qn54, qn55, qn56, qn57, qn58, qn59, qn60, fn61, fn62, fn63, fn64, by rw [ht]; exact hP9, hD9⟩, hS.F ht⟩) hS.2.2 dX9_init_117

set_option maxRecDepth 20000 in
theorem ggX9_available_X0_availableMoney : GoodIn wsX9_available wsX0_availableMoney := goodIn_r _ [6, 7, 8, 9, 19, 20, 21, 22, 23, 24, 25, 26, 27, 28, 29, 30, 31, 32, 33, 34, 35, 36, 37, 38, 39, 40, 41, 42, 43, 44, 45, 46, 47, 48, 49, 50, 51, 52, 53, 54, 55] rfl (by decide +kernel)
set_option maxRecDepth 20000 in
theorem gX9_available_X0_availableMoney : GoodIn wsX9_available (wsV RX9 96 RX0 yX0_availableMoney wsX0_availableMoney) := goodIn_app (goodIn_r _ [2, 3, 4, 5] rfl (by decide +kernel)) ggX9_available_X0_availableMoney
set_option maxRecDepth 20000 in
theorem ggX9_state_X9_needMilestone : GoodIn wsX9_state wsX9_needMilestone := goodIn_ca (goodIn_r _ [6, 7, 8, 9, 5, 10, 11, 12, 13, 14, 15, 16, 17, 18, 19, 20, 21, 42, 43, 44, 45, 46, 47, 48, 49, 50, 51, 52, 53, 54, 55, 56, 57, 58] rfl (by decide +kernel)) (goodIn_sub (fun _ h => List.mem_cons_of_mem _ (List.mem_append_right _ h)) (by decide +kernel))
set_option maxRecDepth 20000 in
theorem gX9_state_X9_needMilestone : GoodIn wsX9_state (wsV RX9 119 RX9 yX9_needMilestone wsX9_needMilestone) := goodIn_app (goodIn_r _ [2, 3, 4, 5] rfl (by decide +kernel)) ggX9_state_X9_needMilestone
set_option maxRecDepth 20000 in
theorem ggX9_paid_X9_needMilestone : GoodIn wsX9_paid wsX9_needMilestone := goodIn_ca (goodIn_r _ [6, 7, 8, 9, 5, 10, 11, 12, 13, 14, 15, 16, 17, 18, 19, 20, 21, 42, 43, 44, 45, 46, 47, 48, 49, 50, 51, 52, 53, 54, 55, 56, 57, 58] rfl (by decide +kernel)) (goodIn_sub (fun _ h => List.mem_cons_of_mem _ (List.mem_append_right _ h)) (by decide +kernel))
set_option maxRecDepth 20000 in
theorem gX9_paid_X9_needMilestone : GoodIn wsX9_paid (wsV RX9 119 RX9 yX9_needMilestone wsX9_needMilestone) := goodIn_app (goodIn_r _ [2, 3, 4, 5] rfl (by decide +kernel)) ggX9_paid_X9_needMilestone
set_option maxRecDepth 20000 in
theorem ggX9_remaining_X9_needMilestone : GoodIn wsX9_remaining wsX9_needMilestone := goodIn_ca (goodIn_r _ [6, 7, 8, 9, 5, 10, 11, 12, 25, 26, 27, 28, 29, 30, 31, 32, 33, 34, 35, 36, 37, 38, 39, 40, 41, 42, 43, 44, 45, 46, 47, 48, 49, 50] rfl (by decide +kernel)) (goodIn_sub (fun _ h => List.mem_cons_of_mem _ (List.mem_append_right _ h)) (by decide +kernel))
set_option maxRecDepth 20000 in
theorem gX9_remaining_X9_needMilestone : GoodIn wsX9_remaining (wsV RX9 119 RX9 yX9_needMilestone wsX9_needMilestone) := goodIn_app (goodIn_r _ [2, 3, 4, 5] rfl (by decide +kernel)) ggX9_remaining_X9_needMilestone
set_option maxRecDepth 20000 in
theorem ggX9_frozen_X9_needMilestone : GoodIn wsX9_frozen wsX9_needMilestone := goodIn_ca (goodIn_r _ [6, 7, 8, 9, 5, 10, 11, 12, 13, 14, 15, 16, 17, 18, 19, 20, 21, 42, 43, 44, 45, 46, 47, 48, 49, 50, 51, 52, 53, 54, 55, 56, 57, 58] rfl (by decide +kernel)) (goodIn_sub (fun _ h => List.mem_cons_of_mem _ (List.mem_append_right _ h)) (by decide +kernel))
set_option maxRecDepth 20000 in
theorem gX9_frozen_X9_needMilestone : GoodIn wsX9_frozen (wsV RX9 119 RX9 yX9_needMilestone wsX9_needMilestone) := goodIn_app (goodIn_r _ [2, 3, 4, 5] rfl (by decide +kernel)) ggX9_frozen_X9_needMilestone
set_option maxRecDepth 20000 in
theorem ggX9_dueDay_X9_needMilestone : GoodIn wsX9_dueDay wsX9_needMilestone := goodIn_ca (goodIn_r _ [6, 7, 8, 9, 5, 10, 11, 12, 13, 14, 15, 16, 17, 18, 19, 20, 21, 42, 43, 44, 45, 46, 47, 48, 49, 50, 51, 52, 53, 54, 55, 56, 57, 58] rfl (by decide +kernel)) (goodIn_sub (fun _ h => List.mem_cons_of_mem _ (List.mem_append_right _ h)) (by decide +kernel))
set_option maxRecDepth 20000 in
theorem gX9_dueDay_X9_needMilestone : GoodIn wsX9_dueDay (wsV RX9 119 RX9 yX9_needMilestone wsX9_needMilestone) := goodIn_app (goodIn_r _ [2, 3, 4, 5] rfl (by decide +kernel)) ggX9_dueDay_X9_needMilestone
set_option maxRecDepth 20000 in
theorem ggX9_holds_X9_needMilestone : GoodIn wsX9_holds wsX9_needMilestone := goodIn_ca (goodIn_r _ [6, 7, 8, 9, 5, 10, 11, 12, 55, 56, 57, 58, 59, 60, 61, 62, 63, 84, 85, 86, 87, 88, 89, 90, 91, 92, 93, 94, 95, 96, 97, 98, 99, 100] rfl (by decide +kernel)) (goodIn_sub (fun _ h => List.mem_cons_of_mem _ (List.mem_append_right _ h)) (by decide +kernel))
set_option maxRecDepth 20000 in
theorem gX9_holds_X9_needMilestone : GoodIn wsX9_holds (wsV RX9 119 RX9 yX9_needMilestone wsX9_needMilestone) := goodIn_app (goodIn_r _ [2, 3, 4, 5] rfl (by decide +kernel)) ggX9_holds_X9_needMilestone
set_option maxRecDepth 20000 in
theorem ggX9_dayByClock_X9_needMilestone : GoodIn wsX9_dayByClock wsX9_needMilestone := goodIn_ca (goodIn_r _ [7, 2, 8, 9, 6, 10, 11, 12, 59, 60, 61, 62, 63, 64, 65, 66, 67, 88, 89, 90, 91, 92, 93, 94, 95, 96, 97, 98, 99, 100, 101, 102, 103, 104] rfl (by decide +kernel)) (goodIn_sub (fun _ h => List.mem_cons_of_mem _ (List.mem_append_right _ h)) (by decide +kernel))
set_option maxRecDepth 20000 in
theorem gX9_dayByClock_X9_needMilestone : GoodIn wsX9_dayByClock (wsV RX9 119 RX9 yX9_needMilestone wsX9_needMilestone) := goodIn_app (goodIn_r _ [3, 4, 5, 6] rfl (by decide +kernel)) ggX9_dayByClock_X9_needMilestone
set_option maxRecDepth 20000 in
theorem ggX9_missingProofs_X9_needMilestone : GoodIn wsX9_missingProofs wsX9_needMilestone := goodIn_ca (goodIn_r _ [7, 1, 8, 9, 6, 10, 11, 12, 63, 64, 65, 66, 67, 68, 69, 70, 71, 72, 73, 74, 75, 76, 77, 78, 79, 80, 81, 82, 83, 84, 85, 86, 87, 88] rfl (by decide +kernel)) (goodIn_sub (fun _ h => List.mem_cons_of_mem _ (List.mem_append_right _ h)) (by decide +kernel))
set_option maxRecDepth 20000 in
theorem gX9_missingProofs_X9_needMilestone : GoodIn wsX9_missingProofs (wsV RX9 119 RX9 yX9_needMilestone wsX9_needMilestone) := goodIn_app (goodIn_r _ [3, 4, 5, 6] rfl (by decide +kernel)) ggX9_missingProofs_X9_needMilestone
set_option maxRecDepth 20000 in
theorem ggX9_graceLeft_X9_needMilestone : GoodIn wsX9_graceLeft wsX9_needMilestone := goodIn_ca (goodIn_r _ [10, 11, 12, 13, 9, 14, 15, 16, 24, 25, 26, 27, 28, 29, 30, 31, 32, 53, 54, 55, 56, 57, 58, 59, 60, 61, 62, 63, 64, 65, 66, 67, 68, 69] rfl (by decide +kernel)) (goodIn_sub (fun _ h => List.mem_cons_of_mem _ (List.mem_append_right _ h)) (by decide +kernel))
set_option maxRecDepth 20000 in
theorem gX9_graceLeft_X9_needMilestone : GoodIn wsX9_graceLeft (wsV RX9 119 RX9 yX9_needMilestone wsX9_needMilestone) := goodIn_app (goodIn_r _ [6, 7, 8, 9] rfl (by decide +kernel)) ggX9_graceLeft_X9_needMilestone
set_option maxRecDepth 20000 in
theorem ggX9_isSubmitted_X9_needProof : GoodIn wsX9_isSubmitted wsX9_needProof := goodIn_ca (goodIn_r _ [6, 7, 8, 9, 5, 10, 11, 12, 23, 24, 25, 26, 27, 28, 29, 30, 31, 32, 33, 34, 35, 36, 37, 38, 39, 40, 41, 42, 43, 44, 45, 46, 47, 48] rfl (by decide +kernel)) (goodIn_sub (fun _ h => List.mem_cons_of_mem _ (List.mem_append_right _ h)) (by decide +kernel))
set_option maxRecDepth 20000 in
theorem gX9_isSubmitted_X9_needProof : GoodIn wsX9_isSubmitted (wsV RX9 180 RX9 yX9_needProof wsX9_needProof) := goodIn_app (goodIn_r _ [2, 3, 4, 5] rfl (by decide +kernel)) ggX9_isSubmitted_X9_needProof
set_option maxRecDepth 20000 in
theorem ggX9_proofCharacter_X9_needProof : GoodIn wsX9_proofCharacter wsX9_needProof := goodIn_ca (goodIn_r _ [6, 1, 7, 8, 5, 9, 10, 11, 22, 23, 24, 25, 26, 27, 28, 29, 30, 31, 32, 33, 34, 35, 36, 37, 38, 39, 40, 41, 42, 43, 44, 45, 46, 47] rfl (by decide +kernel)) (goodIn_sub (fun _ h => List.mem_cons_of_mem _ (List.mem_append_right _ h)) (by decide +kernel))
set_option maxRecDepth 20000 in
theorem gX9_proofCharacter_X9_needProof : GoodIn wsX9_proofCharacter (wsV RX9 180 RX9 yX9_needProof wsX9_needProof) := goodIn_app (goodIn_r _ [2, 3, 4, 5] rfl (by decide +kernel)) ggX9_proofCharacter_X9_needProof
set_option maxRecDepth 20000 in
theorem ggX9_wouldHold_X9_needMilestone : GoodIn wsX9_wouldHold wsX9_needMilestone := goodIn_ca (goodIn_r _ [7, 1, 8, 9, 6, 10, 11, 12, 61, 62, 63, 64, 65, 66, 67, 68, 69, 70, 71, 72, 73, 74, 75, 76, 77, 78, 79, 80, 81, 82, 83, 84, 85, 86] rfl (by decide +kernel)) (goodIn_sub (fun _ h => List.mem_cons_of_mem _ (List.mem_append_left _ (List.mem_append_right _ h))) (by decide +kernel))
set_option maxRecDepth 20000 in
theorem gX9_wouldHold_X9_needMilestone : GoodIn wsX9_wouldHold (wsV RX9 119 RX9 yX9_needMilestone wsX9_needMilestone) := goodIn_app (goodIn_r _ [3, 4, 5, 6] rfl (by decide +kernel)) ggX9_wouldHold_X9_needMilestone
set_option maxRecDepth 20000 in
theorem ggX9_dueAt_X0_dueByRank : GoodIn wsX9_dueAt wsX0_dueByRank := goodIn_r _ [8, 9, 10, 20, 21, 22, 23, 24, 25, 26, 27, 28, 29, 30, 31, 32, 33, 34, 35, 36, 37, 38, 39, 40, 41, 42, 43, 44, 45, 46, 47, 48, 49, 50, 51, 52, 53, 54, 55, 56] rfl (by decide +kernel)
set_option maxRecDepth 20000 in
theorem gX9_dueAt_X0_dueByRank : GoodIn wsX9_dueAt (wsV RX9 207 RX0 yX0_dueByRank wsX0_dueByRank) := goodIn_app (goodIn_r _ [4, 5, 6, 7] rfl (by decide +kernel)) ggX9_dueAt_X0_dueByRank
set_option maxRecDepth 20000 in
theorem ggX9_nextDue_X0_dueByRank : GoodIn wsX9_nextDue wsX0_dueByRank := goodIn_r _ [6, 7, 8, 18, 19, 20, 21, 22, 23, 24, 25, 26, 27, 28, 29, 30, 31, 32, 33, 34, 35, 36, 37, 38, 39, 40, 41, 42, 43, 44, 45, 46, 47, 48, 49, 50, 51, 52, 53, 54] rfl (by decide +kernel)
set_option maxRecDepth 20000 in
theorem gX9_nextDue_X0_dueByRank : GoodIn wsX9_nextDue (wsV RX9 207 RX0 yX0_dueByRank wsX0_dueByRank) := goodIn_app (goodIn_r _ [2, 3, 4, 5] rfl (by decide +kernel)) ggX9_nextDue_X0_dueByRank
set_option maxRecDepth 20000 in
theorem ggX9_paidAfter_X9_needMilestone : GoodIn wsX9_paidAfter wsX9_needMilestone := goodIn_ca (goodIn_r _ [6, 7, 8, 9, 5, 10, 11, 12, 151, 152, 153, 154, 155, 156, 157, 158, 159, 180, 181, 182, 183, 184, 185, 186, 187, 188, 189, 190, 191, 192, 193, 194, 195, 196] rfl (by decide +kernel)) (goodIn_sub (fun _ h => List.mem_cons_of_mem _ (List.mem_append_left _ (List.mem_append_right _ h))) (by decide +kernel))
set_option maxRecDepth 20000 in
theorem gX9_paidAfter_X9_needMilestone : GoodIn wsX9_paidAfter (wsV RX9 119 RX9 yX9_needMilestone wsX9_needMilestone) := goodIn_app (goodIn_r _ [2, 3, 4, 5] rfl (by decide +kernel)) ggX9_paidAfter_X9_needMilestone
set_option maxRecDepth 20000 in
theorem ggX9_daysUntilClosed_X9_needMilestone : GoodIn wsX9_daysUntilClosed wsX9_needMilestone := goodIn_ca (goodIn_r _ [7, 8, 9, 10, 6, 11, 12, 13, 139, 140, 141, 142, 143, 144, 145, 146, 147, 148, 149, 150, 151, 152, 153, 154, 155, 156, 157, 158, 159, 160, 161, 162, 163, 164] rfl (by decide +kernel)) (goodIn_sub (fun _ h => List.mem_cons_of_mem _ (List.mem_append_right _ h)) (by decide +kernel))
set_option maxRecDepth 20000 in
theorem gX9_daysUntilClosed_X9_needMilestone : GoodIn wsX9_daysUntilClosed (wsV RX9 119 RX9 yX9_needMilestone wsX9_needMilestone) := goodIn_app (goodIn_r _ [3, 4, 5, 6] rfl (by decide +kernel)) ggX9_daysUntilClosed_X9_needMilestone
set_option maxRecDepth 20000 in
theorem ggX9_splitPayment_X9_needMilestone : GoodIn wsX9_splitPayment wsX9_needMilestone := goodIn_ca (goodIn_r _ [6, 7, 8, 9, 5, 10, 11, 12, 56, 57, 58, 59, 60, 61, 62, 63, 64, 65, 66, 67, 68, 69, 70, 71, 72, 73, 74, 75, 76, 77, 78, 79, 80, 81] rfl (by decide +kernel)) (goodIn_sub (fun _ h => List.mem_cons_of_mem _ (List.mem_append_left _ (List.mem_append_left _ (List.mem_append_right _ h)))) (by decide +kernel))
set_option maxRecDepth 20000 in
theorem gX9_splitPayment_X9_needMilestone : GoodIn wsX9_splitPayment (wsV RX9 119 RX9 yX9_needMilestone wsX9_needMilestone) := goodIn_app (goodIn_r _ [2, 3, 4, 5] rfl (by decide +kernel)) ggX9_splitPayment_X9_needMilestone
set_option maxRecDepth 20000 in
theorem ggX9_shareFor_X9_needMilestone : GoodIn wsX9_shareFor wsX9_needMilestone := goodIn_ca (goodIn_r _ [8, 3, 9, 10, 7, 11, 12, 13, 63, 64, 65, 66, 67, 68, 69, 70, 71, 72, 73, 74, 75, 76, 77, 78, 79, 80, 81, 82, 83, 84, 85, 86, 87, 88] rfl (by decide +kernel)) (goodIn_sub (fun _ h => List.mem_cons_of_mem _ (List.mem_append_left _ (List.mem_append_left _ (List.mem_append_right _ h)))) (by decide +kernel))
set_option maxRecDepth 20000 in
theorem gX9_shareFor_X9_needMilestone : GoodIn wsX9_shareFor (wsV RX9 119 RX9 yX9_needMilestone wsX9_needMilestone) := goodIn_app (goodIn_r _ [4, 5, 6, 7] rfl (by decide +kernel)) ggX9_shareFor_X9_needMilestone
set_option maxRecDepth 20000 in
theorem ggX9_submit_X9_needProof : GoodIn wsX9_submit wsX9_needProof := goodIn_ca (goodIn_r _ [7, 8, 9, 10, 6, 11, 12, 13, 72, 73, 74, 75, 76, 77, 78, 79, 80, 101, 102, 103, 104, 105, 106, 107, 108, 109, 110, 111, 112, 113, 114, 115, 116, 117] rfl (by decide +kernel)) (goodIn_sub (fun _ h => List.mem_cons_of_mem _ (List.mem_append_right _ h)) (by decide +kernel))
set_option maxRecDepth 20000 in
theorem gX9_submit_X9_needProof : GoodIn wsX9_submit (wsV RX9 180 RX9 yX9_needProof wsX9_needProof) := goodIn_app (goodIn_r _ [3, 4, 5, 6] rfl (by decide +kernel)) ggX9_submit_X9_needProof
set_option maxRecDepth 20000 in
theorem ggX9_approve_X9_needMilestone : GoodIn wsX9_approve wsX9_needMilestone := goodIn_ca (goodIn_r _ [7, 8, 9, 10, 6, 11, 12, 13, 108, 109, 110, 111, 112, 113, 114, 115, 116, 137, 138, 139, 140, 141, 142, 143, 144, 145, 146, 147, 148, 149, 150, 151, 152, 153] rfl (by decide +kernel)) (goodIn_sub (fun _ h => List.mem_cons_of_mem _ (List.mem_append_left _ (List.mem_append_right _ h))) (by decide +kernel))
set_option maxRecDepth 20000 in
theorem gX9_approve_X9_needMilestone : GoodIn wsX9_approve (wsV RX9 119 RX9 yX9_needMilestone wsX9_needMilestone) := goodIn_app (goodIn_r _ [3, 4, 5, 6] rfl (by decide +kernel)) ggX9_approve_X9_needMilestone
set_option maxRecDepth 20000 in
theorem ggX9_pay_X9_needMilestone : GoodIn wsX9_pay wsX9_needMilestone := goodIn_ca (goodIn_r _ [7, 8, 9, 10, 6, 11, 12, 13, 106, 107, 108, 109, 110, 111, 112, 113, 114, 115, 116, 117, 118, 119, 120, 121, 122, 123, 124, 125, 126, 127, 128, 129, 130, 131] rfl (by decide +kernel)) (goodIn_sub (fun _ h => List.mem_cons_of_mem _ (List.mem_append_left _ (List.mem_append_left _ (List.mem_append_right _ h)))) (by decide +kernel))
set_option maxRecDepth 20000 in
theorem gX9_pay_X9_needMilestone : GoodIn wsX9_pay (wsV RX9 119 RX9 yX9_needMilestone wsX9_needMilestone) := goodIn_app (goodIn_r _ [3, 4, 5, 6] rfl (by decide +kernel)) ggX9_pay_X9_needMilestone
set_option maxRecDepth 20000 in
theorem ggX9_dispute_X9_needMilestone : GoodIn wsX9_dispute wsX9_needMilestone := goodIn_ca (goodIn_r _ [7, 8, 9, 10, 6, 11, 12, 13, 90, 91, 92, 93, 94, 95, 96, 97, 98, 99, 100, 101, 102, 103, 104, 105, 106, 107, 108, 109, 110, 111, 112, 113, 114, 115] rfl (by decide +kernel)) (goodIn_sub (fun _ h => List.mem_cons_of_mem _ (List.mem_append_left _ (List.mem_append_right _ h))) (by decide +kernel))
set_option maxRecDepth 20000 in
theorem gX9_dispute_X9_needMilestone : GoodIn wsX9_dispute (wsV RX9 119 RX9 yX9_needMilestone wsX9_needMilestone) := goodIn_app (goodIn_r _ [3, 4, 5, 6] rfl (by decide +kernel)) ggX9_dispute_X9_needMilestone
set_option maxRecDepth 20000 in
theorem ggX9_withdraw_X9_needMilestone : GoodIn wsX9_withdraw wsX9_needMilestone := goodIn_ca (goodIn_r _ [7, 8, 9, 10, 6, 11, 12, 13, 81, 82, 83, 84, 85, 86, 87, 88, 89, 90, 91, 92, 93, 94, 95, 96, 97, 98, 99, 100, 101, 102, 103, 104, 105, 106] rfl (by decide +kernel)) (goodIn_sub (fun _ h => List.mem_cons_of_mem _ (List.mem_append_left _ (List.mem_append_right _ h))) (by decide +kernel))
set_option maxRecDepth 20000 in
theorem gX9_withdraw_X9_needMilestone : GoodIn wsX9_withdraw (wsV RX9 119 RX9 yX9_needMilestone wsX9_needMilestone) := goodIn_app (goodIn_r _ [3, 4, 5, 6] rfl (by decide +kernel)) ggX9_withdraw_X9_needMilestone
set_option maxRecDepth 20000 in
theorem ggX9_resolve_X9_needMilestone : GoodIn wsX9_resolve wsX9_needMilestone := goodIn_ca (goodIn_r _ [7, 8, 9, 10, 6, 11, 12, 13, 125, 126, 127, 128, 129, 130, 131, 132, 133, 134, 135, 136, 137, 138, 139, 140, 141, 142, 143, 144, 145, 146, 147, 148, 149, 150] rfl (by decide +kernel)) (goodIn_sub (fun _ h => List.mem_cons_of_mem _ (List.mem_append_left _ (List.mem_append_left _ (List.mem_append_right _ h)))) (by decide +kernel))
set_option maxRecDepth 20000 in
theorem gX9_resolve_X9_needMilestone : GoodIn wsX9_resolve (wsV RX9 119 RX9 yX9_needMilestone wsX9_needMilestone) := goodIn_app (goodIn_r _ [3, 4, 5, 6] rfl (by decide +kernel)) ggX9_resolve_X9_needMilestone
set_option maxRecDepth 20000 in
theorem ggX9_cancel_X9_needMilestone : GoodIn wsX9_cancel wsX9_needMilestone := goodIn_ca (goodIn_r _ [7, 8, 9, 10, 6, 11, 12, 13, 81, 82, 83, 84, 85, 86, 87, 88, 89, 110, 111, 112, 113, 114, 115, 116, 117, 118, 119, 120, 121, 122, 123, 124, 125, 126] rfl (by decide +kernel)) (goodIn_sub (fun _ h => List.mem_cons_of_mem _ (List.mem_append_left _ (List.mem_append_right _ h))) (by decide +kernel))
set_option maxRecDepth 20000 in
theorem gX9_cancel_X9_needMilestone : GoodIn wsX9_cancel (wsV RX9 119 RX9 yX9_needMilestone wsX9_needMilestone) := goodIn_app (goodIn_r _ [3, 4, 5, 6] rfl (by decide +kernel)) ggX9_cancel_X9_needMilestone
set_option maxRecDepth 20000 in
theorem ggX9_undo_X1_restore : GoodIn wsX9_undo wsX1_restore := goodIn_r _ [7, 8, 9, 10, 11, 12, 13, 14, 15, 16, 17, 18, 19, 20, 21, 22, 23, 24, 25, 26, 27, 28, 29, 30, 31, 32, 33, 34, 35, 36, 37, 38, 39, 40, 41, 42, 43, 44, 45, 46, 47, 48, 58, 59, 60, 61, 62, 63, 64, 65, 66, 67, 68, 69, 70, 71, 72, 73, 74, 75, 76, 77, 78, 79, 80, 81, 82, 83] rfl (by decide +kernel)
set_option maxRecDepth 20000 in
theorem gX9_undo_X1_restore : GoodIn wsX9_undo (wsV RX9 308 RX1 yX1_restore wsX1_restore) := goodIn_app (goodIn_r _ [3, 4, 5, 6] rfl (by decide +kernel)) ggX9_undo_X1_restore
set_option maxRecDepth 20000 in
theorem ggX9_write_X9_needMilestone : GoodIn wsX9_write wsX9_needMilestone := goodIn_ca (goodIn_r _ [8, 3, 9, 10, 7, 11, 12, 13, 264, 265, 266, 267, 268, 269, 270, 271, 272, 293, 294, 295, 296, 297, 298, 299, 300, 301, 302, 303, 304, 305, 306, 307, 308, 309] rfl (by decide +kernel)) (goodIn_sub (fun _ h => List.mem_cons_of_mem _ (List.mem_append_right _ h)) (by decide +kernel))
set_option maxRecDepth 20000 in
theorem gX9_write_X9_needMilestone : GoodIn wsX9_write (wsV RX9 119 RX9 yX9_needMilestone wsX9_needMilestone) := goodIn_app (goodIn_r _ [4, 5, 6, 7] rfl (by decide +kernel)) ggX9_write_X9_needMilestone
set_option maxRecDepth 20000 in
theorem ggX9_entry_X9_needIndex : GoodIn wsX9_entry wsX9_needIndex := goodIn_ca (goodIn_r _ [5, 6, 7] rfl (by decide +kernel)) (goodIn_sub (fun _ h => List.mem_cons_of_mem _ (List.mem_append_left _ (List.mem_append_right _ h))) (by decide +kernel))
set_option maxRecDepth 20000 in
theorem gX9_entry_X9_needIndex : GoodIn wsX9_entry (va_wsS RX9 196 yX9_needIndex wsX9_needIndex) := goodIn_app (goodIn_r _ [2, 3, 4] rfl (by decide +kernel)) ggX9_entry_X9_needIndex
set_option maxRecDepth 20000 in
theorem ggX9_totalOn_X9_needRange : GoodIn wsX9_totalOn wsX9_needRange := goodIn_ca (goodIn_r _ [5, 6, 7] rfl (by decide +kernel)) (goodIn_sub (fun _ h => List.mem_cons_of_mem _ (List.mem_append_right _ h)) (by decide +kernel))
set_option maxRecDepth 20000 in
theorem gX9_totalOn_X9_needRange : GoodIn wsX9_totalOn (va_wsS RX9 67 yX9_needRange wsX9_needRange) := goodIn_app (goodIn_r _ [2, 3, 4] rfl (by decide +kernel)) ggX9_totalOn_X9_needRange
set_option maxRecDepth 20000 in
theorem ggX9_totalOn_X2_sumOn : GoodIn wsX9_totalOn wsX2_sumOn := goodIn_r _ [12, 13, 14, 15, 16, 11, 17, 18, 19, 49, 50, 51] rfl (by decide +kernel)
set_option maxRecDepth 20000 in
theorem gX9_totalOn_X2_sumOn : GoodIn wsX9_totalOn (wsV RX9 359 RX2 yX2_sumOn wsX2_sumOn) := goodIn_app (goodIn_r _ [8, 9, 10, 11] rfl (by decide +kernel)) ggX9_totalOn_X2_sumOn
set_option maxRecDepth 20000 in
theorem ggX9_busiestDay_X2_dayOfMostPayments : GoodIn wsX9_busiestDay wsX2_dayOfMostPayments := goodIn_r _ [6, 7, 8, 9, 10, 5, 11, 12, 13, 43, 44, 45] rfl (by decide +kernel)
set_option maxRecDepth 20000 in
theorem gX9_busiestDay_X2_dayOfMostPayments : GoodIn wsX9_busiestDay (wsV RX9 362 RX2 yX2_dayOfMostPayments wsX2_dayOfMostPayments) := goodIn_app (goodIn_r _ [2, 3, 4, 5] rfl (by decide +kernel)) ggX9_busiestDay_X2_dayOfMostPayments
set_option maxRecDepth 20000 in
theorem ggX9_needMilestone_X9_needIndex : GoodIn wsX9_needMilestone wsX9_needIndex := goodIn_ca (goodIn_r _ [5, 6, 7] rfl (by decide +kernel)) (goodIn_sub (fun _ h => List.mem_cons_of_mem _ (List.mem_append_right _ h)) (by decide +kernel))
set_option maxRecDepth 20000 in
theorem gX9_needMilestone_X9_needIndex : GoodIn wsX9_needMilestone (va_wsS RX9 196 yX9_needIndex wsX9_needIndex) := goodIn_app (goodIn_r _ [2, 3, 4] rfl (by decide +kernel)) ggX9_needMilestone_X9_needIndex
set_option maxRecDepth 20000 in
theorem ggX9_needProof_X9_needIndex : GoodIn wsX9_needProof wsX9_needIndex := goodIn_ca (goodIn_r _ [5, 6, 7] rfl (by decide +kernel)) (goodIn_sub (fun _ h => List.mem_cons_of_mem _ (List.mem_append_right _ h)) (by decide +kernel))
set_option maxRecDepth 20000 in
theorem gX9_needProof_X9_needIndex : GoodIn wsX9_needProof (va_wsS RX9 196 yX9_needIndex wsX9_needIndex) := goodIn_app (goodIn_r _ [2, 3, 4] rfl (by decide +kernel)) ggX9_needProof_X9_needIndex
theorem dX0_availableMoney_0 : decode cX0_availableMoney 0 = .ok (.aload_n 0, 1) := by decide +kernel
theorem dX0_availableMoney_1 : decode cX0_availableMoney 1 = .ok (.getfield 47, 3) := by decide +kernel
theorem dX0_availableMoney_4 : decode cX0_availableMoney 4 = .ok (.istore_n 1, 1) := by decide +kernel
theorem dX0_availableMoney_5 : decode cX0_availableMoney 5 = .ok (.iconst 0, 1) := by decide +kernel
theorem dX0_availableMoney_6 : decode cX0_availableMoney 6 = .ok (.istore_n 2, 1) := by decide +kernel
theorem dX0_availableMoney_7 : decode cX0_availableMoney 7 = .ok (.iload_n 2, 1) := by decide +kernel
theorem dX0_availableMoney_8 : decode cX0_availableMoney 8 = .ok (.aload_n 0, 1) := by decide +kernel
theorem dX0_availableMoney_9 : decode cX0_availableMoney 9 = .ok (.getfield 31, 3) := by decide +kernel
theorem dX0_availableMoney_12 : decode cX0_availableMoney 12 = .ok (.getfield 109, 3) := by decide +kernel
theorem dX0_availableMoney_15 : decode cX0_availableMoney 15 = .ok (.if_icmp .ge 18, 3) := by decide +kernel
theorem dX0_availableMoney_18 : decode cX0_availableMoney 18 = .ok (.iload_n 1, 1) := by decide +kernel
theorem dX0_availableMoney_19 : decode cX0_availableMoney 19 = .ok (.aload_n 0, 1) := by decide +kernel
theorem dX0_availableMoney_20 : decode cX0_availableMoney 20 = .ok (.getfield 25, 3) := by decide +kernel
theorem dX0_availableMoney_23 : decode cX0_availableMoney 23 = .ok (.iload_n 2, 1) := by decide +kernel
theorem dX0_availableMoney_24 : decode cX0_availableMoney 24 = .ok (.iaload, 1) := by decide +kernel
theorem dX0_availableMoney_25 : decode cX0_availableMoney 25 = .ok (.isub, 1) := by decide +kernel
theorem dX0_availableMoney_26 : decode cX0_availableMoney 26 = .ok (.istore_n 1, 1) := by decide +kernel
theorem dX0_availableMoney_27 : decode cX0_availableMoney 27 = .ok (.iinc 2 1, 3) := by decide +kernel
theorem dX0_availableMoney_30 : decode cX0_availableMoney 30 = .ok (.goto (-23), 3) := by decide +kernel
theorem dX0_availableMoney_33 : decode cX0_availableMoney 33 = .ok (.iload_n 1, 1) := by decide +kernel
theorem dX0_availableMoney_34 : decode cX0_availableMoney 34 = .ok (.ireturn, 1) := by decide +kernel
theorem dX0_dueByRank_0 : decode cX0_dueByRank 0 = .ok (.iconst 0, 1) := by decide +kernel
theorem dX0_dueByRank_1 : decode cX0_dueByRank 1 = .ok (.istore_n 2, 1) := by decide +kernel
theorem dX0_dueByRank_2 : decode cX0_dueByRank 2 = .ok (.iconst 0, 1) := by decide +kernel
theorem dX0_dueByRank_3 : decode cX0_dueByRank 3 = .ok (.istore_n 3, 1) := by decide +kernel
theorem dX0_dueByRank_4 : decode cX0_dueByRank 4 = .ok (.iload_n 3, 1) := by decide +kernel
theorem dX0_dueByRank_5 : decode cX0_dueByRank 5 = .ok (.aload_n 0, 1) := by decide +kernel
theorem dX0_dueByRank_6 : decode cX0_dueByRank 6 = .ok (.getfield 31, 3) := by decide +kernel
theorem dX0_dueByRank_9 : decode cX0_dueByRank 9 = .ok (.getfield 109, 3) := by decide +kernel
theorem dX0_dueByRank_12 : decode cX0_dueByRank 12 = .ok (.if_icmp .ge 42, 3) := by decide +kernel
theorem dX0_dueByRank_15 : decode cX0_dueByRank 15 = .ok (.aload_n 0, 1) := by decide +kernel
theorem dX0_dueByRank_16 : decode cX0_dueByRank 16 = .ok (.getfield 31, 3) := by decide +kernel
theorem dX0_dueByRank_19 : decode cX0_dueByRank 19 = .ok (.getfield 138, 3) := by decide +kernel
theorem dX0_dueByRank_22 : decode cX0_dueByRank 22 = .ok (.iload_n 3, 1) := by decide +kernel
theorem dX0_dueByRank_23 : decode cX0_dueByRank 23 = .ok (.iaload, 1) := by decide +kernel
theorem dX0_dueByRank_24 : decode cX0_dueByRank 24 = .ok (.istore 4, 2) := by decide +kernel
theorem dX0_dueByRank_26 : decode cX0_dueByRank 26 = .ok (.aload_n 0, 1) := by decide +kernel
theorem dX0_dueByRank_27 : decode cX0_dueByRank 27 = .ok (.getfield 18, 3) := by decide +kernel
theorem dX0_dueByRank_30 : decode cX0_dueByRank 30 = .ok (.iload 4, 2) := by decide +kernel
theorem dX0_dueByRank_32 : decode cX0_dueByRank 32 = .ok (.iaload, 1) := by decide +kernel
theorem dX0_dueByRank_33 : decode cX0_dueByRank 33 = .ok (.iconst 1, 1) := by decide +kernel
theorem dX0_dueByRank_34 : decode cX0_dueByRank 34 = .ok (.if_icmp .ne 14, 3) := by decide +kernel
theorem dX0_dueByRank_37 : decode cX0_dueByRank 37 = .ok (.iload_n 2, 1) := by decide +kernel
theorem dX0_dueByRank_38 : decode cX0_dueByRank 38 = .ok (.iload_n 1, 1) := by decide +kernel
theorem dX0_dueByRank_39 : decode cX0_dueByRank 39 = .ok (.if_icmp .ne 6, 3) := by decide +kernel
theorem dX0_dueByRank_42 : decode cX0_dueByRank 42 = .ok (.iload 4, 2) := by decide +kernel
theorem dX0_dueByRank_44 : decode cX0_dueByRank 44 = .ok (.ireturn, 1) := by decide +kernel
theorem dX0_dueByRank_45 : decode cX0_dueByRank 45 = .ok (.iinc 2 1, 3) := by decide +kernel
theorem dX0_dueByRank_48 : decode cX0_dueByRank 48 = .ok (.iinc 3 1, 3) := by decide +kernel
theorem dX0_dueByRank_51 : decode cX0_dueByRank 51 = .ok (.goto (-47), 3) := by decide +kernel
theorem dX0_dueByRank_54 : decode cX0_dueByRank 54 = .ok (.iconst (-1), 1) := by decide +kernel
theorem dX0_dueByRank_55 : decode cX0_dueByRank 55 = .ok (.ireturn, 1) := by decide +kernel
theorem dX1_restore_0 : decode cX1_restore 0 = .ok (.aload_n 0, 1) := by decide +kernel
theorem dX1_restore_1 : decode cX1_restore 1 = .ok (.getfield 28, 3) := by decide +kernel
theorem dX1_restore_4 : decode cX1_restore 4 = .ok (.ifCond .ne 5, 3) := by decide +kernel
theorem dX1_restore_7 : decode cX1_restore 7 = .ok (.iconst (-1), 1) := by decide +kernel
theorem dX1_restore_8 : decode cX1_restore 8 = .ok (.ireturn, 1) := by decide +kernel
theorem dX1_restore_9 : decode cX1_restore 9 = .ok (.aload_n 0, 1) := by decide +kernel
theorem dX1_restore_10 : decode cX1_restore 10 = .ok (.aload_n 0, 1) := by decide +kernel
theorem dX1_restore_11 : decode cX1_restore 11 = .ok (.getfield 20, 3) := by decide +kernel
theorem dX1_restore_14 : decode cX1_restore 14 = .ok (.bipush 10, 2) := by decide +kernel
theorem dX1_restore_16 : decode cX1_restore 16 = .ok (.iadd, 1) := by decide +kernel
theorem dX1_restore_17 : decode cX1_restore 17 = .ok (.iconst 1, 1) := by decide +kernel
theorem dX1_restore_18 : decode cX1_restore 18 = .ok (.isub, 1) := by decide +kernel
theorem dX1_restore_19 : decode cX1_restore 19 = .ok (.bipush 10, 2) := by decide +kernel
theorem dX1_restore_21 : decode cX1_restore 21 = .ok (.irem, 1) := by decide +kernel
theorem dX1_restore_22 : decode cX1_restore 22 = .ok (.putfield 20, 3) := by decide +kernel
theorem dX1_restore_25 : decode cX1_restore 25 = .ok (.aload_n 0, 1) := by decide +kernel
theorem dX1_restore_26 : decode cX1_restore 26 = .ok (.dup, 1) := by decide +kernel
theorem dX1_restore_27 : decode cX1_restore 27 = .ok (.getfield 28, 3) := by decide +kernel
theorem dX1_restore_30 : decode cX1_restore 30 = .ok (.iconst 1, 1) := by decide +kernel
theorem dX1_restore_31 : decode cX1_restore 31 = .ok (.isub, 1) := by decide +kernel
theorem dX1_restore_32 : decode cX1_restore 32 = .ok (.putfield 28, 3) := by decide +kernel
theorem dX1_restore_35 : decode cX1_restore 35 = .ok (.aload_n 1, 1) := by decide +kernel
theorem dX1_restore_36 : decode cX1_restore 36 = .ok (.aload_n 0, 1) := by decide +kernel
theorem dX1_restore_37 : decode cX1_restore 37 = .ok (.getfield 13, 3) := by decide +kernel
theorem dX1_restore_40 : decode cX1_restore 40 = .ok (.aload_n 0, 1) := by decide +kernel
theorem dX1_restore_41 : decode cX1_restore 41 = .ok (.getfield 20, 3) := by decide +kernel
theorem dX1_restore_44 : decode cX1_restore 44 = .ok (.aaload, 1) := by decide +kernel
theorem dX1_restore_45 : decode cX1_restore 45 = .ok (.invokevirtual 24, 3) := by decide +kernel
theorem dX1_restore_48 : decode cX1_restore 48 = .ok (.aload_n 0, 1) := by decide +kernel
theorem dX1_restore_49 : decode cX1_restore 49 = .ok (.getfield 28, 3) := by decide +kernel
theorem dX1_restore_52 : decode cX1_restore 52 = .ok (.ireturn, 1) := by decide +kernel
theorem dX2_dayOfMostPayments_0 : decode cX2_dayOfMostPayments 0 = .ok (.iconst (-1), 1) := by decide +kernel
theorem dX2_dayOfMostPayments_1 : decode cX2_dayOfMostPayments 1 = .ok (.istore_n 1, 1) := by decide +kernel
theorem dX2_dayOfMostPayments_2 : decode cX2_dayOfMostPayments 2 = .ok (.iconst 0, 1) := by decide +kernel
theorem dX2_dayOfMostPayments_3 : decode cX2_dayOfMostPayments 3 = .ok (.istore_n 2, 1) := by decide +kernel
theorem dX2_dayOfMostPayments_4 : decode cX2_dayOfMostPayments 4 = .ok (.iconst (-1), 1) := by decide +kernel
theorem dX2_dayOfMostPayments_5 : decode cX2_dayOfMostPayments 5 = .ok (.istore_n 3, 1) := by decide +kernel
theorem dX2_dayOfMostPayments_6 : decode cX2_dayOfMostPayments 6 = .ok (.iconst 0, 1) := by decide +kernel
theorem dX2_dayOfMostPayments_7 : decode cX2_dayOfMostPayments 7 = .ok (.istore 4, 2) := by decide +kernel
theorem dX2_dayOfMostPayments_9 : decode cX2_dayOfMostPayments 9 = .ok (.iconst 0, 1) := by decide +kernel
theorem dX2_dayOfMostPayments_10 : decode cX2_dayOfMostPayments 10 = .ok (.istore 5, 2) := by decide +kernel
theorem dX2_dayOfMostPayments_12 : decode cX2_dayOfMostPayments 12 = .ok (.iload 5, 2) := by decide +kernel
theorem dX2_dayOfMostPayments_14 : decode cX2_dayOfMostPayments 14 = .ok (.aload_n 0, 1) := by decide +kernel
theorem dX2_dayOfMostPayments_15 : decode cX2_dayOfMostPayments 15 = .ok (.getfield 19, 3) := by decide +kernel
theorem dX2_dayOfMostPayments_18 : decode cX2_dayOfMostPayments 18 = .ok (.if_icmp .ge 66, 3) := by decide +kernel
theorem dX2_dayOfMostPayments_21 : decode cX2_dayOfMostPayments 21 = .ok (.aload_n 0, 1) := by decide +kernel
theorem dX2_dayOfMostPayments_22 : decode cX2_dayOfMostPayments 22 = .ok (.iload 5, 2) := by decide +kernel
theorem dX2_dayOfMostPayments_24 : decode cX2_dayOfMostPayments 24 = .ok (.iconst 0, 1) := by decide +kernel
theorem dX2_dayOfMostPayments_25 : decode cX2_dayOfMostPayments 25 = .ok (.invokevirtual 34, 3) := by decide +kernel
theorem dX2_dayOfMostPayments_28 : decode cX2_dayOfMostPayments 28 = .ok (.iconst 1, 1) := by decide +kernel
theorem dX2_dayOfMostPayments_29 : decode cX2_dayOfMostPayments 29 = .ok (.if_icmp .ne 49, 3) := by decide +kernel
theorem dX2_dayOfMostPayments_32 : decode cX2_dayOfMostPayments 32 = .ok (.aload_n 0, 1) := by decide +kernel
theorem dX2_dayOfMostPayments_33 : decode cX2_dayOfMostPayments 33 = .ok (.iload 5, 2) := by decide +kernel
theorem dX2_dayOfMostPayments_35 : decode cX2_dayOfMostPayments 35 = .ok (.iconst 1, 1) := by decide +kernel
theorem dX2_dayOfMostPayments_36 : decode cX2_dayOfMostPayments 36 = .ok (.invokevirtual 34, 3) := by decide +kernel
theorem dX2_dayOfMostPayments_39 : decode cX2_dayOfMostPayments 39 = .ok (.istore 6, 2) := by decide +kernel
theorem dX2_dayOfMostPayments_41 : decode cX2_dayOfMostPayments 41 = .ok (.iload 6, 2) := by decide +kernel
theorem dX2_dayOfMostPayments_43 : decode cX2_dayOfMostPayments 43 = .ok (.iload_n 3, 1) := by decide +kernel
theorem dX2_dayOfMostPayments_44 : decode cX2_dayOfMostPayments 44 = .ok (.if_icmp .ne 8, 3) := by decide +kernel
theorem dX2_dayOfMostPayments_47 : decode cX2_dayOfMostPayments 47 = .ok (.iload 4, 2) := by decide +kernel
theorem dX2_dayOfMostPayments_49 : decode cX2_dayOfMostPayments 49 = .ok (.goto 4, 3) := by decide +kernel
theorem dX2_dayOfMostPayments_52 : decode cX2_dayOfMostPayments 52 = .ok (.iconst 0, 1) := by decide +kernel
theorem dX2_dayOfMostPayments_53 : decode cX2_dayOfMostPayments 53 = .ok (.aload_n 0, 1) := by decide +kernel
theorem dX2_dayOfMostPayments_54 : decode cX2_dayOfMostPayments 54 = .ok (.iload 5, 2) := by decide +kernel
theorem dX2_dayOfMostPayments_56 : decode cX2_dayOfMostPayments 56 = .ok (.iconst 2, 1) := by decide +kernel
theorem dX2_dayOfMostPayments_57 : decode cX2_dayOfMostPayments 57 = .ok (.invokevirtual 34, 3) := by decide +kernel
theorem dX2_dayOfMostPayments_60 : decode cX2_dayOfMostPayments 60 = .ok (.iadd, 1) := by decide +kernel
theorem dX2_dayOfMostPayments_61 : decode cX2_dayOfMostPayments 61 = .ok (.istore 4, 2) := by decide +kernel
theorem dX2_dayOfMostPayments_63 : decode cX2_dayOfMostPayments 63 = .ok (.iload 6, 2) := by decide +kernel
theorem dX2_dayOfMostPayments_65 : decode cX2_dayOfMostPayments 65 = .ok (.istore_n 3, 1) := by decide +kernel
theorem dX2_dayOfMostPayments_66 : decode cX2_dayOfMostPayments 66 = .ok (.iload 4, 2) := by decide +kernel
theorem dX2_dayOfMostPayments_68 : decode cX2_dayOfMostPayments 68 = .ok (.iload_n 2, 1) := by decide +kernel
theorem dX2_dayOfMostPayments_69 : decode cX2_dayOfMostPayments 69 = .ok (.if_icmp .le 9, 3) := by decide +kernel
theorem dX2_dayOfMostPayments_72 : decode cX2_dayOfMostPayments 72 = .ok (.iload 6, 2) := by decide +kernel
theorem dX2_dayOfMostPayments_74 : decode cX2_dayOfMostPayments 74 = .ok (.istore_n 1, 1) := by decide +kernel
theorem dX2_dayOfMostPayments_75 : decode cX2_dayOfMostPayments 75 = .ok (.iload 4, 2) := by decide +kernel
theorem dX2_dayOfMostPayments_77 : decode cX2_dayOfMostPayments 77 = .ok (.istore_n 2, 1) := by decide +kernel
theorem dX2_dayOfMostPayments_78 : decode cX2_dayOfMostPayments 78 = .ok (.iinc 5 1, 3) := by decide +kernel
theorem dX2_dayOfMostPayments_81 : decode cX2_dayOfMostPayments 81 = .ok (.goto (-69), 3) := by decide +kernel
theorem dX2_dayOfMostPayments_84 : decode cX2_dayOfMostPayments 84 = .ok (.iload_n 1, 1) := by decide +kernel
theorem dX2_dayOfMostPayments_85 : decode cX2_dayOfMostPayments 85 = .ok (.ireturn, 1) := by decide +kernel
theorem dX2_sumOn_0 : decode cX2_sumOn 0 = .ok (.iconst 0, 1) := by decide +kernel
theorem dX2_sumOn_1 : decode cX2_sumOn 1 = .ok (.istore_n 3, 1) := by decide +kernel
theorem dX2_sumOn_2 : decode cX2_sumOn 2 = .ok (.iconst 0, 1) := by decide +kernel
theorem dX2_sumOn_3 : decode cX2_sumOn 3 = .ok (.istore 4, 2) := by decide +kernel
theorem dX2_sumOn_5 : decode cX2_sumOn 5 = .ok (.iload 4, 2) := by decide +kernel
theorem dX2_sumOn_7 : decode cX2_sumOn 7 = .ok (.aload_n 0, 1) := by decide +kernel
theorem dX2_sumOn_8 : decode cX2_sumOn 8 = .ok (.getfield 19, 3) := by decide +kernel
theorem dX2_sumOn_11 : decode cX2_sumOn 11 = .ok (.if_icmp .ge 41, 3) := by decide +kernel
theorem dX2_sumOn_14 : decode cX2_sumOn 14 = .ok (.aload_n 0, 1) := by decide +kernel
theorem dX2_sumOn_15 : decode cX2_sumOn 15 = .ok (.iload 4, 2) := by decide +kernel
theorem dX2_sumOn_17 : decode cX2_sumOn 17 = .ok (.iconst 1, 1) := by decide +kernel
theorem dX2_sumOn_18 : decode cX2_sumOn 18 = .ok (.invokevirtual 34, 3) := by decide +kernel
theorem dX2_sumOn_21 : decode cX2_sumOn 21 = .ok (.iload_n 1, 1) := by decide +kernel
theorem dX2_sumOn_22 : decode cX2_sumOn 22 = .ok (.if_icmp .ne 24, 3) := by decide +kernel
theorem dX2_sumOn_25 : decode cX2_sumOn 25 = .ok (.aload_n 0, 1) := by decide +kernel
theorem dX2_sumOn_26 : decode cX2_sumOn 26 = .ok (.iload 4, 2) := by decide +kernel
theorem dX2_sumOn_28 : decode cX2_sumOn 28 = .ok (.iconst 0, 1) := by decide +kernel
theorem dX2_sumOn_29 : decode cX2_sumOn 29 = .ok (.invokevirtual 34, 3) := by decide +kernel
theorem dX2_sumOn_32 : decode cX2_sumOn 32 = .ok (.iload_n 2, 1) := by decide +kernel
theorem dX2_sumOn_33 : decode cX2_sumOn 33 = .ok (.if_icmp .ne 13, 3) := by decide +kernel
theorem dX2_sumOn_36 : decode cX2_sumOn 36 = .ok (.iload_n 3, 1) := by decide +kernel
theorem dX2_sumOn_37 : decode cX2_sumOn 37 = .ok (.aload_n 0, 1) := by decide +kernel
theorem dX2_sumOn_38 : decode cX2_sumOn 38 = .ok (.iload 4, 2) := by decide +kernel
theorem dX2_sumOn_40 : decode cX2_sumOn 40 = .ok (.iconst 2, 1) := by decide +kernel
theorem dX2_sumOn_41 : decode cX2_sumOn 41 = .ok (.invokevirtual 34, 3) := by decide +kernel
theorem dX2_sumOn_44 : decode cX2_sumOn 44 = .ok (.iadd, 1) := by decide +kernel
theorem dX2_sumOn_45 : decode cX2_sumOn 45 = .ok (.istore_n 3, 1) := by decide +kernel
theorem dX2_sumOn_46 : decode cX2_sumOn 46 = .ok (.iinc 4 1, 3) := by decide +kernel
theorem dX2_sumOn_49 : decode cX2_sumOn 49 = .ok (.goto (-44), 3) := by decide +kernel
theorem dX2_sumOn_52 : decode cX2_sumOn 52 = .ok (.iload_n 3, 1) := by decide +kernel
theorem dX2_sumOn_53 : decode cX2_sumOn 53 = .ok (.ireturn, 1) := by decide +kernel
theorem dX9_accruedParts_0 : decode cX9_accruedParts 0 = .ok (.aload_n 0, 1) := by decide +kernel
theorem dX9_accruedParts_1 : decode cX9_accruedParts 1 = .ok (.getfield 35, 3) := by decide +kernel
theorem dX9_accruedParts_4 : decode cX9_accruedParts 4 = .ok (.getfield 107, 3) := by decide +kernel
theorem dX9_accruedParts_7 : decode cX9_accruedParts 7 = .ok (.lreturn, 1) := by decide +kernel
theorem dX9_approve_0 : decode cX9_approve 0 = .ok (.aload_n 0, 1) := by decide +kernel
theorem dX9_approve_1 : decode cX9_approve 1 = .ok (.iload_n 1, 1) := by decide +kernel
theorem dX9_approve_2 : decode cX9_approve 2 = .ok (.invokevirtual 119, 3) := by decide +kernel
theorem dX9_approve_5 : decode cX9_approve 5 = .ok (.aload_n 0, 1) := by decide +kernel
theorem dX9_approve_6 : decode cX9_approve 6 = .ok (.getfield 35, 3) := by decide +kernel
theorem dX9_approve_9 : decode cX9_approve 9 = .ok (.iload_n 1, 1) := by decide +kernel
theorem dX9_approve_10 : decode cX9_approve 10 = .ok (.invokevirtual 161, 3) := by decide +kernel
theorem dX9_approve_13 : decode cX9_approve 13 = .ok (.ifCond .ne 7, 3) := by decide +kernel
theorem dX9_approve_16 : decode cX9_approve 16 = .ok (.iconst 1, 1) := by decide +kernel
theorem dX9_approve_17 : decode cX9_approve 17 = .ok (.goto 4, 3) := by decide +kernel
theorem dX9_approve_20 : decode cX9_approve 20 = .ok (.iconst 0, 1) := by decide +kernel
theorem dX9_approve_21 : decode cX9_approve 21 = .ok (.invokestatic 251, 3) := by decide +kernel
theorem dX9_approve_24 : decode cX9_approve 24 = .ok (.aload_n 0, 1) := by decide +kernel
theorem dX9_approve_25 : decode cX9_approve 25 = .ok (.getfield 45, 3) := by decide +kernel
theorem dX9_approve_28 : decode cX9_approve 28 = .ok (.aload_n 0, 1) := by decide +kernel
theorem dX9_approve_29 : decode cX9_approve 29 = .ok (.getfield 35, 3) := by decide +kernel
theorem dX9_approve_32 : decode cX9_approve 32 = .ok (.invokevirtual 255, 3) := by decide +kernel
theorem dX9_approve_35 : decode cX9_approve 35 = .ok (.aload_n 0, 1) := by decide +kernel
theorem dX9_approve_36 : decode cX9_approve 36 = .ok (.getfield 35, 3) := by decide +kernel
theorem dX9_approve_39 : decode cX9_approve 39 = .ok (.dup, 1) := by decide +kernel
theorem dX9_approve_40 : decode cX9_approve 40 = .ok (.getfield 261, 3) := by decide +kernel
theorem dX9_approve_43 : decode cX9_approve 43 = .ok (.iconst 1, 1) := by decide +kernel
theorem dX9_approve_44 : decode cX9_approve 44 = .ok (.iload_n 1, 1) := by decide +kernel
theorem dX9_approve_45 : decode cX9_approve 45 = .ok (.ishl, 1) := by decide +kernel
theorem dX9_approve_46 : decode cX9_approve 46 = .ok (.ior, 1) := by decide +kernel
theorem dX9_approve_47 : decode cX9_approve 47 = .ok (.putfield 261, 3) := by decide +kernel
theorem dX9_approve_50 : decode cX9_approve 50 = .ok (.aload_n 0, 1) := by decide +kernel
theorem dX9_approve_51 : decode cX9_approve 51 = .ok (.getfield 35, 3) := by decide +kernel
theorem dX9_approve_54 : decode cX9_approve 54 = .ok (.iload_n 1, 1) := by decide +kernel
theorem dX9_approve_55 : decode cX9_approve 55 = .ok (.aload_n 0, 1) := by decide +kernel
theorem dX9_approve_56 : decode cX9_approve 56 = .ok (.getfield 35, 3) := by decide +kernel
theorem dX9_approve_59 : decode cX9_approve 59 = .ok (.getfield 87, 3) := by decide +kernel
theorem dX9_approve_62 : decode cX9_approve 62 = .ok (.invokevirtual 139, 3) := by decide +kernel
theorem dX9_approve_65 : decode cX9_approve 65 = .ok (.ireturn, 1) := by decide +kernel
theorem dX9_available_0 : decode cX9_available 0 = .ok (.aload_n 0, 1) := by decide +kernel
theorem dX9_available_1 : decode cX9_available 1 = .ok (.getfield 35, 3) := by decide +kernel
theorem dX9_available_4 : decode cX9_available 4 = .ok (.invokevirtual 96, 3) := by decide +kernel
theorem dX9_available_7 : decode cX9_available 7 = .ok (.ireturn, 1) := by decide +kernel
theorem dX9_busiestDay_0 : decode cX9_busiestDay 0 = .ok (.aload_n 0, 1) := by decide +kernel
theorem dX9_busiestDay_1 : decode cX9_busiestDay 1 = .ok (.getfield 35, 3) := by decide +kernel
theorem dX9_busiestDay_4 : decode cX9_busiestDay 4 = .ok (.getfield 347, 3) := by decide +kernel
theorem dX9_busiestDay_7 : decode cX9_busiestDay 7 = .ok (.invokevirtual 362, 3) := by decide +kernel
theorem dX9_busiestDay_10 : decode cX9_busiestDay 10 = .ok (.ireturn, 1) := by decide +kernel
theorem dX9_cancel_0 : decode cX9_cancel 0 = .ok (.aload_n 0, 1) := by decide +kernel
theorem dX9_cancel_1 : decode cX9_cancel 1 = .ok (.iload_n 1, 1) := by decide +kernel
theorem dX9_cancel_2 : decode cX9_cancel 2 = .ok (.invokevirtual 119, 3) := by decide +kernel
theorem dX9_cancel_5 : decode cX9_cancel 5 = .ok (.aload_n 0, 1) := by decide +kernel
theorem dX9_cancel_6 : decode cX9_cancel 6 = .ok (.getfield 35, 3) := by decide +kernel
theorem dX9_cancel_9 : decode cX9_cancel 9 = .ok (.iload_n 1, 1) := by decide +kernel
theorem dX9_cancel_10 : decode cX9_cancel 10 = .ok (.invokevirtual 264, 3) := by decide +kernel
theorem dX9_cancel_13 : decode cX9_cancel 13 = .ok (.invokestatic 251, 3) := by decide +kernel
theorem dX9_cancel_16 : decode cX9_cancel 16 = .ok (.aload_n 0, 1) := by decide +kernel
theorem dX9_cancel_17 : decode cX9_cancel 17 = .ok (.getfield 45, 3) := by decide +kernel
theorem dX9_cancel_20 : decode cX9_cancel 20 = .ok (.aload_n 0, 1) := by decide +kernel
theorem dX9_cancel_21 : decode cX9_cancel 21 = .ok (.getfield 35, 3) := by decide +kernel
theorem dX9_cancel_24 : decode cX9_cancel 24 = .ok (.invokevirtual 255, 3) := by decide +kernel
theorem dX9_cancel_27 : decode cX9_cancel 27 = .ok (.aload_n 0, 1) := by decide +kernel
theorem dX9_cancel_28 : decode cX9_cancel 28 = .ok (.getfield 35, 3) := by decide +kernel
theorem dX9_cancel_31 : decode cX9_cancel 31 = .ok (.iload_n 1, 1) := by decide +kernel
theorem dX9_cancel_32 : decode cX9_cancel 32 = .ok (.invokevirtual 129, 3) := by decide +kernel
theorem dX9_cancel_35 : decode cX9_cancel 35 = .ok (.istore_n 2, 1) := by decide +kernel
theorem dX9_cancel_36 : decode cX9_cancel 36 = .ok (.aload_n 0, 1) := by decide +kernel
theorem dX9_cancel_37 : decode cX9_cancel 37 = .ok (.getfield 35, 3) := by decide +kernel
theorem dX9_cancel_40 : decode cX9_cancel 40 = .ok (.getfield 122, 3) := by decide +kernel
theorem dX9_cancel_43 : decode cX9_cancel 43 = .ok (.iload_n 1, 1) := by decide +kernel
theorem dX9_cancel_44 : decode cX9_cancel 44 = .ok (.iconst 5, 1) := by decide +kernel
theorem dX9_cancel_45 : decode cX9_cancel 45 = .ok (.iastore, 1) := by decide +kernel
theorem dX9_cancel_46 : decode cX9_cancel 46 = .ok (.iload_n 2, 1) := by decide +kernel
theorem dX9_cancel_47 : decode cX9_cancel 47 = .ok (.ireturn, 1) := by decide +kernel
theorem dX9_closedCount_0 : decode cX9_closedCount 0 = .ok (.iconst 0, 1) := by decide +kernel
theorem dX9_closedCount_1 : decode cX9_closedCount 1 = .ok (.istore_n 1, 1) := by decide +kernel
theorem dX9_closedCount_2 : decode cX9_closedCount 2 = .ok (.iconst 0, 1) := by decide +kernel
theorem dX9_closedCount_3 : decode cX9_closedCount 3 = .ok (.istore_n 2, 1) := by decide +kernel
theorem dX9_closedCount_4 : decode cX9_closedCount 4 = .ok (.iload_n 2, 1) := by decide +kernel
theorem dX9_closedCount_5 : decode cX9_closedCount 5 = .ok (.aload_n 0, 1) := by decide +kernel
theorem dX9_closedCount_6 : decode cX9_closedCount 6 = .ok (.getfield 16, 3) := by decide +kernel
theorem dX9_closedCount_9 : decode cX9_closedCount 9 = .ok (.getfield 78, 3) := by decide +kernel
theorem dX9_closedCount_12 : decode cX9_closedCount 12 = .ok (.if_icmp .ge 23, 3) := by decide +kernel
theorem dX9_closedCount_15 : decode cX9_closedCount 15 = .ok (.aload_n 0, 1) := by decide +kernel
theorem dX9_closedCount_16 : decode cX9_closedCount 16 = .ok (.getfield 35, 3) := by decide +kernel
theorem dX9_closedCount_19 : decode cX9_closedCount 19 = .ok (.iload_n 2, 1) := by decide +kernel
theorem dX9_closedCount_20 : decode cX9_closedCount 20 = .ok (.invokevirtual 161, 3) := by decide +kernel
theorem dX9_closedCount_23 : decode cX9_closedCount 23 = .ok (.ifCond .eq 6, 3) := by decide +kernel
theorem dX9_closedCount_26 : decode cX9_closedCount 26 = .ok (.iinc 1 1, 3) := by decide +kernel
theorem dX9_closedCount_29 : decode cX9_closedCount 29 = .ok (.iinc 2 1, 3) := by decide +kernel
theorem dX9_closedCount_32 : decode cX9_closedCount 32 = .ok (.goto (-28), 3) := by decide +kernel
theorem dX9_closedCount_35 : decode cX9_closedCount 35 = .ok (.iload_n 1, 1) := by decide +kernel
theorem dX9_closedCount_36 : decode cX9_closedCount 36 = .ok (.ireturn, 1) := by decide +kernel
theorem dX9_credited_0 : decode cX9_credited 0 = .ok (.aload_n 0, 1) := by decide +kernel
theorem dX9_credited_1 : decode cX9_credited 1 = .ok (.getfield 35, 3) := by decide +kernel
theorem dX9_credited_4 : decode cX9_credited 4 = .ok (.getfield 104, 3) := by decide +kernel
theorem dX9_credited_7 : decode cX9_credited 7 = .ok (.l2i, 1) := by decide +kernel
theorem dX9_credited_8 : decode cX9_credited 8 = .ok (.ireturn, 1) := by decide +kernel
theorem dX9_day_0 : decode cX9_day 0 = .ok (.aload_n 0, 1) := by decide +kernel
theorem dX9_day_1 : decode cX9_day 1 = .ok (.getfield 35, 3) := by decide +kernel
theorem dX9_day_4 : decode cX9_day 4 = .ok (.getfield 87, 3) := by decide +kernel
theorem dX9_day_7 : decode cX9_day 7 = .ok (.ireturn, 1) := by decide +kernel
theorem dX9_dayByClock_0 : decode cX9_dayByClock 0 = .ok (.aload_n 0, 1) := by decide +kernel
theorem dX9_dayByClock_1 : decode cX9_dayByClock 1 = .ok (.iload_n 1, 1) := by decide +kernel
theorem dX9_dayByClock_2 : decode cX9_dayByClock 2 = .ok (.invokevirtual 119, 3) := by decide +kernel
theorem dX9_dayByClock_5 : decode cX9_dayByClock 5 = .ok (.aload_n 0, 1) := by decide +kernel
theorem dX9_dayByClock_6 : decode cX9_dayByClock 6 = .ok (.getfield 35, 3) := by decide +kernel
theorem dX9_dayByClock_9 : decode cX9_dayByClock 9 = .ok (.getfield 87, 3) := by decide +kernel
theorem dX9_dayByClock_12 : decode cX9_dayByClock 12 = .ok (.sipush 400, 3) := by decide +kernel
theorem dX9_dayByClock_15 : decode cX9_dayByClock 15 = .ok (.iadd, 1) := by decide +kernel
theorem dX9_dayByClock_16 : decode cX9_dayByClock 16 = .ok (.istore_n 2, 1) := by decide +kernel
theorem dX9_dayByClock_17 : decode cX9_dayByClock 17 = .ok (.aload_n 0, 1) := by decide +kernel
theorem dX9_dayByClock_18 : decode cX9_dayByClock 18 = .ok (.getfield 35, 3) := by decide +kernel
theorem dX9_dayByClock_21 : decode cX9_dayByClock 21 = .ok (.getfield 87, 3) := by decide +kernel
theorem dX9_dayByClock_24 : decode cX9_dayByClock 24 = .ok (.istore_n 3, 1) := by decide +kernel
theorem dX9_dayByClock_25 : decode cX9_dayByClock 25 = .ok (.iconst 0, 1) := by decide +kernel
theorem dX9_dayByClock_26 : decode cX9_dayByClock 26 = .ok (.istore 4, 2) := by decide +kernel
theorem dX9_dayByClock_28 : decode cX9_dayByClock 28 = .ok (.iload 4, 2) := by decide +kernel
theorem dX9_dayByClock_30 : decode cX9_dayByClock 30 = .ok (.sipush 400, 3) := by decide +kernel
theorem dX9_dayByClock_33 : decode cX9_dayByClock 33 = .ok (.if_icmp .gt 43, 3) := by decide +kernel
theorem dX9_dayByClock_36 : decode cX9_dayByClock 36 = .ok (.iload_n 3, 1) := by decide +kernel
theorem dX9_dayByClock_37 : decode cX9_dayByClock 37 = .ok (.iconst (-1), 1) := by decide +kernel
theorem dX9_dayByClock_38 : decode cX9_dayByClock 38 = .ok (.if_icmp .eq 38, 3) := by decide +kernel
theorem dX9_dayByClock_41 : decode cX9_dayByClock 41 = .ok (.iload_n 3, 1) := by decide +kernel
theorem dX9_dayByClock_42 : decode cX9_dayByClock 42 = .ok (.iload_n 2, 1) := by decide +kernel
theorem dX9_dayByClock_43 : decode cX9_dayByClock 43 = .ok (.if_icmp .gt 33, 3) := by decide +kernel
theorem dX9_dayByClock_46 : decode cX9_dayByClock 46 = .ok (.aload_n 0, 1) := by decide +kernel
theorem dX9_dayByClock_47 : decode cX9_dayByClock 47 = .ok (.getfield 35, 3) := by decide +kernel
theorem dX9_dayByClock_50 : decode cX9_dayByClock 50 = .ok (.iload_n 1, 1) := by decide +kernel
theorem dX9_dayByClock_51 : decode cX9_dayByClock 51 = .ok (.iload_n 3, 1) := by decide +kernel
theorem dX9_dayByClock_52 : decode cX9_dayByClock 52 = .ok (.invokevirtual 139, 3) := by decide +kernel
theorem dX9_dayByClock_55 : decode cX9_dayByClock 55 = .ok (.ifCond .eq 5, 3) := by decide +kernel
theorem dX9_dayByClock_58 : decode cX9_dayByClock 58 = .ok (.iload_n 3, 1) := by decide +kernel
theorem dX9_dayByClock_59 : decode cX9_dayByClock 59 = .ok (.ireturn, 1) := by decide +kernel
theorem dX9_dayByClock_60 : decode cX9_dayByClock 60 = .ok (.aload_n 0, 1) := by decide +kernel
theorem dX9_dayByClock_61 : decode cX9_dayByClock 61 = .ok (.getfield 16, 3) := by decide +kernel
theorem dX9_dayByClock_64 : decode cX9_dayByClock 64 = .ok (.iload_n 1, 1) := by decide +kernel
theorem dX9_dayByClock_65 : decode cX9_dayByClock 65 = .ok (.iload_n 3, 1) := by decide +kernel
theorem dX9_dayByClock_66 : decode cX9_dayByClock 66 = .ok (.invokevirtual 143, 3) := by decide +kernel
theorem dX9_dayByClock_69 : decode cX9_dayByClock 69 = .ok (.istore_n 3, 1) := by decide +kernel
theorem dX9_dayByClock_70 : decode cX9_dayByClock 70 = .ok (.iinc 4 1, 3) := by decide +kernel
theorem dX9_dayByClock_73 : decode cX9_dayByClock 73 = .ok (.goto (-45), 3) := by decide +kernel
theorem dX9_dayByClock_76 : decode cX9_dayByClock 76 = .ok (.iconst (-1), 1) := by decide +kernel
theorem dX9_dayByClock_77 : decode cX9_dayByClock 77 = .ok (.ireturn, 1) := by decide +kernel
theorem dX9_daysUntilClosed_0 : decode cX9_daysUntilClosed 0 = .ok (.aload_n 0, 1) := by decide +kernel
theorem dX9_daysUntilClosed_1 : decode cX9_daysUntilClosed 1 = .ok (.iload_n 1, 1) := by decide +kernel
theorem dX9_daysUntilClosed_2 : decode cX9_daysUntilClosed 2 = .ok (.invokevirtual 119, 3) := by decide +kernel
theorem dX9_daysUntilClosed_5 : decode cX9_daysUntilClosed 5 = .ok (.aload_n 0, 1) := by decide +kernel
theorem dX9_daysUntilClosed_6 : decode cX9_daysUntilClosed 6 = .ok (.getfield 39, 3) := by decide +kernel
theorem dX9_daysUntilClosed_9 : decode cX9_daysUntilClosed 9 = .ok (.aload_n 0, 1) := by decide +kernel
theorem dX9_daysUntilClosed_10 : decode cX9_daysUntilClosed 10 = .ok (.getfield 35, 3) := by decide +kernel
theorem dX9_daysUntilClosed_13 : decode cX9_daysUntilClosed 13 = .ok (.invokevirtual 223, 3) := by decide +kernel
theorem dX9_daysUntilClosed_16 : decode cX9_daysUntilClosed 16 = .ok (.iconst 0, 1) := by decide +kernel
theorem dX9_daysUntilClosed_17 : decode cX9_daysUntilClosed 17 = .ok (.istore_n 2, 1) := by decide +kernel
theorem dX9_daysUntilClosed_18 : decode cX9_daysUntilClosed 18 = .ok (.iload_n 2, 1) := by decide +kernel
theorem dX9_daysUntilClosed_19 : decode cX9_daysUntilClosed 19 = .ok (.bipush 120, 2) := by decide +kernel
theorem dX9_daysUntilClosed_21 : decode cX9_daysUntilClosed 21 = .ok (.if_icmp .gt 29, 3) := by decide +kernel
theorem dX9_daysUntilClosed_24 : decode cX9_daysUntilClosed 24 = .ok (.aload_n 0, 1) := by decide +kernel
theorem dX9_daysUntilClosed_25 : decode cX9_daysUntilClosed 25 = .ok (.getfield 39, 3) := by decide +kernel
theorem dX9_daysUntilClosed_28 : decode cX9_daysUntilClosed 28 = .ok (.iload_n 1, 1) := by decide +kernel
theorem dX9_daysUntilClosed_29 : decode cX9_daysUntilClosed 29 = .ok (.invokevirtual 161, 3) := by decide +kernel
theorem dX9_daysUntilClosed_32 : decode cX9_daysUntilClosed 32 = .ok (.ifCond .eq 5, 3) := by decide +kernel
theorem dX9_daysUntilClosed_35 : decode cX9_daysUntilClosed 35 = .ok (.iload_n 2, 1) := by decide +kernel
theorem dX9_daysUntilClosed_36 : decode cX9_daysUntilClosed 36 = .ok (.ireturn, 1) := by decide +kernel
theorem dX9_daysUntilClosed_37 : decode cX9_daysUntilClosed 37 = .ok (.aload_n 0, 1) := by decide +kernel
theorem dX9_daysUntilClosed_38 : decode cX9_daysUntilClosed 38 = .ok (.getfield 39, 3) := by decide +kernel
theorem dX9_daysUntilClosed_41 : decode cX9_daysUntilClosed 41 = .ok (.invokevirtual 227, 3) := by decide +kernel
theorem dX9_daysUntilClosed_44 : decode cX9_daysUntilClosed 44 = .ok (.iinc 2 1, 3) := by decide +kernel
theorem dX9_daysUntilClosed_47 : decode cX9_daysUntilClosed 47 = .ok (.goto (-29), 3) := by decide +kernel
theorem dX9_daysUntilClosed_50 : decode cX9_daysUntilClosed 50 = .ok (.iconst (-1), 1) := by decide +kernel
theorem dX9_daysUntilClosed_51 : decode cX9_daysUntilClosed 51 = .ok (.ireturn, 1) := by decide +kernel
theorem dX9_deposited_0 : decode cX9_deposited 0 = .ok (.aload_n 0, 1) := by decide +kernel
theorem dX9_deposited_1 : decode cX9_deposited 1 = .ok (.getfield 35, 3) := by decide +kernel
theorem dX9_deposited_4 : decode cX9_deposited 4 = .ok (.getfield 90, 3) := by decide +kernel
theorem dX9_deposited_7 : decode cX9_deposited 7 = .ok (.ireturn, 1) := by decide +kernel
theorem dX9_dispute_0 : decode cX9_dispute 0 = .ok (.aload_n 0, 1) := by decide +kernel
theorem dX9_dispute_1 : decode cX9_dispute 1 = .ok (.iload_n 1, 1) := by decide +kernel
theorem dX9_dispute_2 : decode cX9_dispute 2 = .ok (.invokevirtual 119, 3) := by decide +kernel
theorem dX9_dispute_5 : decode cX9_dispute 5 = .ok (.aload_n 0, 1) := by decide +kernel
theorem dX9_dispute_6 : decode cX9_dispute 6 = .ok (.getfield 35, 3) := by decide +kernel
theorem dX9_dispute_9 : decode cX9_dispute 9 = .ok (.iload_n 1, 1) := by decide +kernel
theorem dX9_dispute_10 : decode cX9_dispute 10 = .ok (.invokevirtual 264, 3) := by decide +kernel
theorem dX9_dispute_13 : decode cX9_dispute 13 = .ok (.invokestatic 251, 3) := by decide +kernel
theorem dX9_dispute_16 : decode cX9_dispute 16 = .ok (.aload_n 0, 1) := by decide +kernel
theorem dX9_dispute_17 : decode cX9_dispute 17 = .ok (.getfield 45, 3) := by decide +kernel
theorem dX9_dispute_20 : decode cX9_dispute 20 = .ok (.aload_n 0, 1) := by decide +kernel
theorem dX9_dispute_21 : decode cX9_dispute 21 = .ok (.getfield 35, 3) := by decide +kernel
theorem dX9_dispute_24 : decode cX9_dispute 24 = .ok (.invokevirtual 255, 3) := by decide +kernel
theorem dX9_dispute_27 : decode cX9_dispute 27 = .ok (.aload_n 0, 1) := by decide +kernel
theorem dX9_dispute_28 : decode cX9_dispute 28 = .ok (.getfield 35, 3) := by decide +kernel
theorem dX9_dispute_31 : decode cX9_dispute 31 = .ok (.iload_n 1, 1) := by decide +kernel
theorem dX9_dispute_32 : decode cX9_dispute 32 = .ok (.invokevirtual 270, 3) := by decide +kernel
theorem dX9_dispute_35 : decode cX9_dispute 35 = .ok (.ireturn, 1) := by decide +kernel
theorem dX9_dueAt_0 : decode cX9_dueAt 0 = .ok (.aload_n 0, 1) := by decide +kernel
theorem dX9_dueAt_1 : decode cX9_dueAt 1 = .ok (.getfield 35, 3) := by decide +kernel
theorem dX9_dueAt_4 : decode cX9_dueAt 4 = .ok (.iload_n 1, 1) := by decide +kernel
theorem dX9_dueAt_5 : decode cX9_dueAt 5 = .ok (.invokevirtual 207, 3) := by decide +kernel
theorem dX9_dueAt_8 : decode cX9_dueAt 8 = .ok (.istore_n 2, 1) := by decide +kernel
theorem dX9_dueAt_9 : decode cX9_dueAt 9 = .ok (.iload_n 2, 1) := by decide +kernel
theorem dX9_dueAt_10 : decode cX9_dueAt 10 = .ok (.iconst (-1), 1) := by decide +kernel
theorem dX9_dueAt_11 : decode cX9_dueAt 11 = .ok (.if_icmp .ne 13, 3) := by decide +kernel
theorem dX9_dueAt_14 : decode cX9_dueAt 14 = .ok (.new 210, 3) := by decide +kernel
theorem dX9_dueAt_17 : decode cX9_dueAt 17 = .ok (.dup, 1) := by decide +kernel
theorem dX9_dueAt_18 : decode cX9_dueAt 18 = .ok (.ldc 212, 2) := by decide +kernel
theorem dX9_dueAt_20 : decode cX9_dueAt 20 = .ok (.invokespecial 214, 3) := by decide +kernel
theorem dX9_dueAt_23 : decode cX9_dueAt 23 = .ok (.athrow, 1) := by decide +kernel
theorem dX9_dueAt_24 : decode cX9_dueAt 24 = .ok (.iload_n 2, 1) := by decide +kernel
theorem dX9_dueAt_25 : decode cX9_dueAt 25 = .ok (.ireturn, 1) := by decide +kernel
theorem dX9_dueDay_0 : decode cX9_dueDay 0 = .ok (.aload_n 0, 1) := by decide +kernel
theorem dX9_dueDay_1 : decode cX9_dueDay 1 = .ok (.iload_n 1, 1) := by decide +kernel
theorem dX9_dueDay_2 : decode cX9_dueDay 2 = .ok (.invokevirtual 119, 3) := by decide +kernel
theorem dX9_dueDay_5 : decode cX9_dueDay 5 = .ok (.aload_n 0, 1) := by decide +kernel
theorem dX9_dueDay_6 : decode cX9_dueDay 6 = .ok (.getfield 35, 3) := by decide +kernel
theorem dX9_dueDay_9 : decode cX9_dueDay 9 = .ok (.getfield 136, 3) := by decide +kernel
theorem dX9_dueDay_12 : decode cX9_dueDay 12 = .ok (.iload_n 1, 1) := by decide +kernel
theorem dX9_dueDay_13 : decode cX9_dueDay 13 = .ok (.iaload, 1) := by decide +kernel
theorem dX9_dueDay_14 : decode cX9_dueDay 14 = .ok (.ireturn, 1) := by decide +kernel
theorem dX9_entries_0 : decode cX9_entries 0 = .ok (.aload_n 0, 1) := by decide +kernel
theorem dX9_entries_1 : decode cX9_entries 1 = .ok (.getfield 35, 3) := by decide +kernel
theorem dX9_entries_4 : decode cX9_entries 4 = .ok (.getfield 347, 3) := by decide +kernel
theorem dX9_entries_7 : decode cX9_entries 7 = .ok (.getfield 351, 3) := by decide +kernel
theorem dX9_entries_10 : decode cX9_entries 10 = .ok (.ireturn, 1) := by decide +kernel
theorem dX9_entry_0 : decode cX9_entry 0 = .ok (.iload_n 1, 1) := by decide +kernel
theorem dX9_entry_1 : decode cX9_entry 1 = .ok (.aload_n 0, 1) := by decide +kernel
theorem dX9_entry_2 : decode cX9_entry 2 = .ok (.getfield 35, 3) := by decide +kernel
theorem dX9_entry_5 : decode cX9_entry 5 = .ok (.getfield 347, 3) := by decide +kernel
theorem dX9_entry_8 : decode cX9_entry 8 = .ok (.getfield 351, 3) := by decide +kernel
theorem dX9_entry_11 : decode cX9_entry 11 = .ok (.invokestatic 196, 3) := by decide +kernel
theorem dX9_entry_14 : decode cX9_entry 14 = .ok (.iload_n 2, 1) := by decide +kernel
theorem dX9_entry_15 : decode cX9_entry 15 = .ok (.iconst 0, 1) := by decide +kernel
theorem dX9_entry_16 : decode cX9_entry 16 = .ok (.iconst 3, 1) := by decide +kernel
theorem dX9_entry_17 : decode cX9_entry 17 = .ok (.invokestatic 67, 3) := by decide +kernel
theorem dX9_entry_20 : decode cX9_entry 20 = .ok (.aload_n 0, 1) := by decide +kernel
theorem dX9_entry_21 : decode cX9_entry 21 = .ok (.getfield 35, 3) := by decide +kernel
theorem dX9_entry_24 : decode cX9_entry 24 = .ok (.getfield 347, 3) := by decide +kernel
theorem dX9_entry_27 : decode cX9_entry 27 = .ok (.iload_n 1, 1) := by decide +kernel
theorem dX9_entry_28 : decode cX9_entry 28 = .ok (.iload_n 2, 1) := by decide +kernel
theorem dX9_entry_29 : decode cX9_entry 29 = .ok (.invokevirtual 356, 3) := by decide +kernel
theorem dX9_entry_32 : decode cX9_entry 32 = .ok (.ireturn, 1) := by decide +kernel
theorem dX9_errorKind_0 : decode cX9_errorKind 0 = .ok (.aload_n 0, 1) := by decide +kernel
theorem dX9_errorKind_1 : decode cX9_errorKind 1 = .ok (.getfield 28, 3) := by decide +kernel
theorem dX9_errorKind_4 : decode cX9_errorKind 4 = .ok (.getfield 81, 3) := by decide +kernel
theorem dX9_errorKind_7 : decode cX9_errorKind 7 = .ok (.ireturn, 1) := by decide +kernel
theorem dX9_errorPosition_0 : decode cX9_errorPosition 0 = .ok (.aload_n 0, 1) := by decide +kernel
theorem dX9_errorPosition_1 : decode cX9_errorPosition 1 = .ok (.getfield 28, 3) := by decide +kernel
theorem dX9_errorPosition_4 : decode cX9_errorPosition 4 = .ok (.getfield 84, 3) := by decide +kernel
theorem dX9_errorPosition_7 : decode cX9_errorPosition 7 = .ok (.ireturn, 1) := by decide +kernel
theorem dX9_fees_0 : decode cX9_fees 0 = .ok (.aload_n 0, 1) := by decide +kernel
theorem dX9_fees_1 : decode cX9_fees 1 = .ok (.getfield 35, 3) := by decide +kernel
theorem dX9_fees_4 : decode cX9_fees 4 = .ok (.getfield 113, 3) := by decide +kernel
theorem dX9_fees_7 : decode cX9_fees 7 = .ok (.ireturn, 1) := by decide +kernel
theorem dX9_frozen_0 : decode cX9_frozen 0 = .ok (.aload_n 0, 1) := by decide +kernel
theorem dX9_frozen_1 : decode cX9_frozen 1 = .ok (.iload_n 1, 1) := by decide +kernel
theorem dX9_frozen_2 : decode cX9_frozen 2 = .ok (.invokevirtual 119, 3) := by decide +kernel
theorem dX9_frozen_5 : decode cX9_frozen 5 = .ok (.aload_n 0, 1) := by decide +kernel
theorem dX9_frozen_6 : decode cX9_frozen 6 = .ok (.getfield 35, 3) := by decide +kernel
theorem dX9_frozen_9 : decode cX9_frozen 9 = .ok (.getfield 133, 3) := by decide +kernel
theorem dX9_frozen_12 : decode cX9_frozen 12 = .ok (.iload_n 1, 1) := by decide +kernel
theorem dX9_frozen_13 : decode cX9_frozen 13 = .ok (.iaload, 1) := by decide +kernel
theorem dX9_frozen_14 : decode cX9_frozen 14 = .ok (.ireturn, 1) := by decide +kernel
theorem dX9_graceLeft_0 : decode cX9_graceLeft 0 = .ok (.aload_n 0, 1) := by decide +kernel
theorem dX9_graceLeft_1 : decode cX9_graceLeft 1 = .ok (.iload_n 1, 1) := by decide +kernel
theorem dX9_graceLeft_2 : decode cX9_graceLeft 2 = .ok (.invokevirtual 119, 3) := by decide +kernel
theorem dX9_graceLeft_5 : decode cX9_graceLeft 5 = .ok (.aload_n 0, 1) := by decide +kernel
theorem dX9_graceLeft_6 : decode cX9_graceLeft 6 = .ok (.getfield 35, 3) := by decide +kernel
theorem dX9_graceLeft_9 : decode cX9_graceLeft 9 = .ok (.getfield 122, 3) := by decide +kernel
theorem dX9_graceLeft_12 : decode cX9_graceLeft 12 = .ok (.iload_n 1, 1) := by decide +kernel
theorem dX9_graceLeft_13 : decode cX9_graceLeft 13 = .ok (.iaload, 1) := by decide +kernel
theorem dX9_graceLeft_14 : decode cX9_graceLeft 14 = .ok (.iconst 1, 1) := by decide +kernel
theorem dX9_graceLeft_15 : decode cX9_graceLeft 15 = .ok (.if_icmp .eq 5, 3) := by decide +kernel
theorem dX9_graceLeft_18 : decode cX9_graceLeft 18 = .ok (.iconst (-1), 1) := by decide +kernel
theorem dX9_graceLeft_19 : decode cX9_graceLeft 19 = .ok (.ireturn, 1) := by decide +kernel
theorem dX9_graceLeft_20 : decode cX9_graceLeft 20 = .ok (.aload_n 0, 1) := by decide +kernel
theorem dX9_graceLeft_21 : decode cX9_graceLeft 21 = .ok (.getfield 35, 3) := by decide +kernel
theorem dX9_graceLeft_24 : decode cX9_graceLeft 24 = .ok (.iload_n 1, 1) := by decide +kernel
theorem dX9_graceLeft_25 : decode cX9_graceLeft 25 = .ok (.invokevirtual 172, 3) := by decide +kernel
theorem dX9_graceLeft_28 : decode cX9_graceLeft 28 = .ok (.aload_n 0, 1) := by decide +kernel
theorem dX9_graceLeft_29 : decode cX9_graceLeft 29 = .ok (.getfield 35, 3) := by decide +kernel
theorem dX9_graceLeft_32 : decode cX9_graceLeft 32 = .ok (.getfield 87, 3) := by decide +kernel
theorem dX9_graceLeft_35 : decode cX9_graceLeft 35 = .ok (.isub, 1) := by decide +kernel
theorem dX9_graceLeft_36 : decode cX9_graceLeft 36 = .ok (.iconst 0, 1) := by decide +kernel
theorem dX9_graceLeft_37 : decode cX9_graceLeft 37 = .ok (.invokestatic 175, 3) := by decide +kernel
theorem dX9_graceLeft_40 : decode cX9_graceLeft 40 = .ok (.ireturn, 1) := by decide +kernel
theorem dX9_holds_0 : decode cX9_holds 0 = .ok (.aload_n 0, 1) := by decide +kernel
theorem dX9_holds_1 : decode cX9_holds 1 = .ok (.iload_n 1, 1) := by decide +kernel
theorem dX9_holds_2 : decode cX9_holds 2 = .ok (.invokevirtual 119, 3) := by decide +kernel
theorem dX9_holds_5 : decode cX9_holds 5 = .ok (.aload_n 0, 1) := by decide +kernel
theorem dX9_holds_6 : decode cX9_holds 6 = .ok (.getfield 35, 3) := by decide +kernel
theorem dX9_holds_9 : decode cX9_holds 9 = .ok (.iload_n 1, 1) := by decide +kernel
theorem dX9_holds_10 : decode cX9_holds 10 = .ok (.aload_n 0, 1) := by decide +kernel
theorem dX9_holds_11 : decode cX9_holds 11 = .ok (.getfield 35, 3) := by decide +kernel
theorem dX9_holds_14 : decode cX9_holds 14 = .ok (.getfield 87, 3) := by decide +kernel
theorem dX9_holds_17 : decode cX9_holds 17 = .ok (.invokevirtual 139, 3) := by decide +kernel
theorem dX9_holds_20 : decode cX9_holds 20 = .ok (.ireturn, 1) := by decide +kernel
theorem dX9_interestPot_0 : decode cX9_interestPot 0 = .ok (.aload_n 0, 1) := by decide +kernel
theorem dX9_interestPot_1 : decode cX9_interestPot 1 = .ok (.getfield 35, 3) := by decide +kernel
theorem dX9_interestPot_4 : decode cX9_interestPot 4 = .ok (.getfield 100, 3) := by decide +kernel
theorem dX9_interestPot_7 : decode cX9_interestPot 7 = .ok (.l2i, 1) := by decide +kernel
theorem dX9_interestPot_8 : decode cX9_interestPot 8 = .ok (.ireturn, 1) := by decide +kernel
theorem dX9_isSubmitted_0 : decode cX9_isSubmitted 0 = .ok (.aload_n 0, 1) := by decide +kernel
theorem dX9_isSubmitted_1 : decode cX9_isSubmitted 1 = .ok (.iload_n 1, 1) := by decide +kernel
theorem dX9_isSubmitted_2 : decode cX9_isSubmitted 2 = .ok (.invokevirtual 180, 3) := by decide +kernel
theorem dX9_isSubmitted_5 : decode cX9_isSubmitted 5 = .ok (.aload_n 0, 1) := by decide +kernel
theorem dX9_isSubmitted_6 : decode cX9_isSubmitted 6 = .ok (.getfield 35, 3) := by decide +kernel
theorem dX9_isSubmitted_9 : decode cX9_isSubmitted 9 = .ok (.iload_n 1, 1) := by decide +kernel
theorem dX9_isSubmitted_10 : decode cX9_isSubmitted 10 = .ok (.invokevirtual 183, 3) := by decide +kernel
theorem dX9_isSubmitted_13 : decode cX9_isSubmitted 13 = .ok (.ireturn, 1) := by decide +kernel
theorem dX9_milestones_0 : decode cX9_milestones 0 = .ok (.aload_n 0, 1) := by decide +kernel
theorem dX9_milestones_1 : decode cX9_milestones 1 = .ok (.getfield 16, 3) := by decide +kernel
theorem dX9_milestones_4 : decode cX9_milestones 4 = .ok (.getfield 78, 3) := by decide +kernel
theorem dX9_milestones_7 : decode cX9_milestones 7 = .ok (.ireturn, 1) := by decide +kernel
theorem dX9_missingProofs_0 : decode cX9_missingProofs 0 = .ok (.aload_n 0, 1) := by decide +kernel
theorem dX9_missingProofs_1 : decode cX9_missingProofs 1 = .ok (.iload_n 1, 1) := by decide +kernel
theorem dX9_missingProofs_2 : decode cX9_missingProofs 2 = .ok (.invokevirtual 119, 3) := by decide +kernel
theorem dX9_missingProofs_5 : decode cX9_missingProofs 5 = .ok (.iconst (-1), 1) := by decide +kernel
theorem dX9_missingProofs_6 : decode cX9_missingProofs 6 = .ok (.istore_n 2, 1) := by decide +kernel
theorem dX9_missingProofs_7 : decode cX9_missingProofs 7 = .ok (.bipush 9, 2) := by decide +kernel
theorem dX9_missingProofs_9 : decode cX9_missingProofs 9 = .ok (.istore_n 3, 1) := by decide +kernel
theorem dX9_missingProofs_10 : decode cX9_missingProofs 10 = .ok (.iconst 1, 1) := by decide +kernel
theorem dX9_missingProofs_11 : decode cX9_missingProofs 11 = .ok (.aload_n 0, 1) := by decide +kernel
theorem dX9_missingProofs_12 : decode cX9_missingProofs 12 = .ok (.getfield 16, 3) := by decide +kernel
theorem dX9_missingProofs_15 : decode cX9_missingProofs 15 = .ok (.getfield 147, 3) := by decide +kernel
theorem dX9_missingProofs_18 : decode cX9_missingProofs 18 = .ok (.ishl, 1) := by decide +kernel
theorem dX9_missingProofs_19 : decode cX9_missingProofs 19 = .ok (.istore 4, 2) := by decide +kernel
theorem dX9_missingProofs_21 : decode cX9_missingProofs 21 = .ok (.iconst 0, 1) := by decide +kernel
theorem dX9_missingProofs_22 : decode cX9_missingProofs 22 = .ok (.istore 5, 2) := by decide +kernel
theorem dX9_missingProofs_24 : decode cX9_missingProofs 24 = .ok (.iload 5, 2) := by decide +kernel
theorem dX9_missingProofs_26 : decode cX9_missingProofs 26 = .ok (.iload 4, 2) := by decide +kernel
theorem dX9_missingProofs_28 : decode cX9_missingProofs 28 = .ok (.if_icmp .ge 65, 3) := by decide +kernel
theorem dX9_missingProofs_31 : decode cX9_missingProofs 31 = .ok (.iload 5, 2) := by decide +kernel
theorem dX9_missingProofs_33 : decode cX9_missingProofs 33 = .ok (.aload_n 0, 1) := by decide +kernel
theorem dX9_missingProofs_34 : decode cX9_missingProofs 34 = .ok (.getfield 35, 3) := by decide +kernel
theorem dX9_missingProofs_37 : decode cX9_missingProofs 37 = .ok (.getfield 150, 3) := by decide +kernel
theorem dX9_missingProofs_40 : decode cX9_missingProofs 40 = .ok (.iand, 1) := by decide +kernel
theorem dX9_missingProofs_41 : decode cX9_missingProofs 41 = .ok (.ifCond .ne 7, 3) := by decide +kernel
theorem dX9_missingProofs_44 : decode cX9_missingProofs 44 = .ok (.iconst 1, 1) := by decide +kernel
theorem dX9_missingProofs_45 : decode cX9_missingProofs 45 = .ok (.goto 4, 3) := by decide +kernel
theorem dX9_missingProofs_48 : decode cX9_missingProofs 48 = .ok (.iconst 0, 1) := by decide +kernel
theorem dX9_missingProofs_49 : decode cX9_missingProofs 49 = .ok (.istore 6, 2) := by decide +kernel
theorem dX9_missingProofs_51 : decode cX9_missingProofs 51 = .ok (.iload 6, 2) := by decide +kernel
theorem dX9_missingProofs_53 : decode cX9_missingProofs 53 = .ok (.ifCond .eq 34, 3) := by decide +kernel
theorem dX9_missingProofs_56 : decode cX9_missingProofs 56 = .ok (.iload 5, 2) := by decide +kernel
theorem dX9_missingProofs_58 : decode cX9_missingProofs 58 = .ok (.invokestatic 153, 3) := by decide +kernel
theorem dX9_missingProofs_61 : decode cX9_missingProofs 61 = .ok (.iload_n 3, 1) := by decide +kernel
theorem dX9_missingProofs_62 : decode cX9_missingProofs 62 = .ok (.if_icmp .ge 25, 3) := by decide +kernel
theorem dX9_missingProofs_65 : decode cX9_missingProofs 65 = .ok (.aload_n 0, 1) := by decide +kernel
theorem dX9_missingProofs_66 : decode cX9_missingProofs 66 = .ok (.getfield 35, 3) := by decide +kernel
theorem dX9_missingProofs_69 : decode cX9_missingProofs 69 = .ok (.iload_n 1, 1) := by decide +kernel
theorem dX9_missingProofs_70 : decode cX9_missingProofs 70 = .ok (.iload 5, 2) := by decide +kernel
theorem dX9_missingProofs_72 : decode cX9_missingProofs 72 = .ok (.invokevirtual 158, 3) := by decide +kernel
theorem dX9_missingProofs_75 : decode cX9_missingProofs 75 = .ok (.ifCond .eq 12, 3) := by decide +kernel
theorem dX9_missingProofs_78 : decode cX9_missingProofs 78 = .ok (.iload 5, 2) := by decide +kernel
theorem dX9_missingProofs_80 : decode cX9_missingProofs 80 = .ok (.istore_n 2, 1) := by decide +kernel
theorem dX9_missingProofs_81 : decode cX9_missingProofs 81 = .ok (.iload 5, 2) := by decide +kernel
theorem dX9_missingProofs_83 : decode cX9_missingProofs 83 = .ok (.invokestatic 153, 3) := by decide +kernel
theorem dX9_missingProofs_86 : decode cX9_missingProofs 86 = .ok (.istore_n 3, 1) := by decide +kernel
theorem dX9_missingProofs_87 : decode cX9_missingProofs 87 = .ok (.iinc 5 1, 3) := by decide +kernel
theorem dX9_missingProofs_90 : decode cX9_missingProofs 90 = .ok (.goto (-66), 3) := by decide +kernel
theorem dX9_missingProofs_93 : decode cX9_missingProofs 93 = .ok (.iload_n 2, 1) := by decide +kernel
theorem dX9_missingProofs_94 : decode cX9_missingProofs 94 = .ok (.ireturn, 1) := by decide +kernel
theorem dX9_needIndex_0 : decode cX9_needIndex 0 = .ok (.iload_n 0, 1) := by decide +kernel
theorem dX9_needIndex_1 : decode cX9_needIndex 1 = .ok (.ifCond .lt 8, 3) := by decide +kernel
theorem dX9_needIndex_4 : decode cX9_needIndex 4 = .ok (.iload_n 0, 1) := by decide +kernel
theorem dX9_needIndex_5 : decode cX9_needIndex 5 = .ok (.iload_n 1, 1) := by decide +kernel
theorem dX9_needIndex_6 : decode cX9_needIndex 6 = .ok (.if_icmp .lt 14, 3) := by decide +kernel
theorem dX9_needIndex_9 : decode cX9_needIndex 9 = .ok (.new 210, 3) := by decide +kernel
theorem dX9_needIndex_12 : decode cX9_needIndex 12 = .ok (.dup, 1) := by decide +kernel
theorem dX9_needIndex_13 : decode cX9_needIndex 13 = .ok (.ldc_w 365, 3) := by decide +kernel
theorem dX9_needIndex_16 : decode cX9_needIndex 16 = .ok (.invokespecial 214, 3) := by decide +kernel
theorem dX9_needIndex_19 : decode cX9_needIndex 19 = .ok (.athrow, 1) := by decide +kernel
theorem dX9_needIndex_20 : decode cX9_needIndex 20 = .ok (.return_, 1) := by decide +kernel
theorem dX9_needMilestone_0 : decode cX9_needMilestone 0 = .ok (.iload_n 1, 1) := by decide +kernel
theorem dX9_needMilestone_1 : decode cX9_needMilestone 1 = .ok (.aload_n 0, 1) := by decide +kernel
theorem dX9_needMilestone_2 : decode cX9_needMilestone 2 = .ok (.getfield 16, 3) := by decide +kernel
theorem dX9_needMilestone_5 : decode cX9_needMilestone 5 = .ok (.getfield 78, 3) := by decide +kernel
theorem dX9_needMilestone_8 : decode cX9_needMilestone 8 = .ok (.invokestatic 196, 3) := by decide +kernel
theorem dX9_needMilestone_11 : decode cX9_needMilestone 11 = .ok (.return_, 1) := by decide +kernel
theorem dX9_needPossible_0 : decode cX9_needPossible 0 = .ok (.iload_n 0, 1) := by decide +kernel
theorem dX9_needPossible_1 : decode cX9_needPossible 1 = .ok (.ifCond .ne 14, 3) := by decide +kernel
theorem dX9_needPossible_4 : decode cX9_needPossible 4 = .ok (.new 369, 3) := by decide +kernel
theorem dX9_needPossible_7 : decode cX9_needPossible 7 = .ok (.dup, 1) := by decide +kernel
theorem dX9_needPossible_8 : decode cX9_needPossible 8 = .ok (.ldc_w 371, 3) := by decide +kernel
theorem dX9_needPossible_11 : decode cX9_needPossible 11 = .ok (.invokespecial 373, 3) := by decide +kernel
theorem dX9_needPossible_14 : decode cX9_needPossible 14 = .ok (.athrow, 1) := by decide +kernel
theorem dX9_needPossible_15 : decode cX9_needPossible 15 = .ok (.return_, 1) := by decide +kernel
theorem dX9_needProof_0 : decode cX9_needProof 0 = .ok (.iload_n 1, 1) := by decide +kernel
theorem dX9_needProof_1 : decode cX9_needProof 1 = .ok (.aload_n 0, 1) := by decide +kernel
theorem dX9_needProof_2 : decode cX9_needProof 2 = .ok (.getfield 16, 3) := by decide +kernel
theorem dX9_needProof_5 : decode cX9_needProof 5 = .ok (.getfield 147, 3) := by decide +kernel
theorem dX9_needProof_8 : decode cX9_needProof 8 = .ok (.invokestatic 196, 3) := by decide +kernel
theorem dX9_needProof_11 : decode cX9_needProof 11 = .ok (.return_, 1) := by decide +kernel
theorem dX9_needRange_0 : decode cX9_needRange 0 = .ok (.iload_n 0, 1) := by decide +kernel
theorem dX9_needRange_1 : decode cX9_needRange 1 = .ok (.iload_n 1, 1) := by decide +kernel
theorem dX9_needRange_2 : decode cX9_needRange 2 = .ok (.if_icmp .lt 8, 3) := by decide +kernel
theorem dX9_needRange_5 : decode cX9_needRange 5 = .ok (.iload_n 0, 1) := by decide +kernel
theorem dX9_needRange_6 : decode cX9_needRange 6 = .ok (.iload_n 2, 1) := by decide +kernel
theorem dX9_needRange_7 : decode cX9_needRange 7 = .ok (.if_icmp .le 14, 3) := by decide +kernel
theorem dX9_needRange_10 : decode cX9_needRange 10 = .ok (.new 279, 3) := by decide +kernel
theorem dX9_needRange_13 : decode cX9_needRange 13 = .ok (.dup, 1) := by decide +kernel
theorem dX9_needRange_14 : decode cX9_needRange 14 = .ok (.ldc_w 367, 3) := by decide +kernel
theorem dX9_needRange_17 : decode cX9_needRange 17 = .ok (.invokespecial 283, 3) := by decide +kernel
theorem dX9_needRange_20 : decode cX9_needRange 20 = .ok (.athrow, 1) := by decide +kernel
theorem dX9_needRange_21 : decode cX9_needRange 21 = .ok (.return_, 1) := by decide +kernel
theorem dX9_nextDue_0 : decode cX9_nextDue 0 = .ok (.aload_n 0, 1) := by decide +kernel
theorem dX9_nextDue_1 : decode cX9_nextDue 1 = .ok (.getfield 35, 3) := by decide +kernel
theorem dX9_nextDue_4 : decode cX9_nextDue 4 = .ok (.iconst 0, 1) := by decide +kernel
theorem dX9_nextDue_5 : decode cX9_nextDue 5 = .ok (.invokevirtual 207, 3) := by decide +kernel
theorem dX9_nextDue_8 : decode cX9_nextDue 8 = .ok (.ireturn, 1) := by decide +kernel
theorem dX9_paid_0 : decode cX9_paid 0 = .ok (.aload_n 0, 1) := by decide +kernel
theorem dX9_paid_1 : decode cX9_paid 1 = .ok (.iload_n 1, 1) := by decide +kernel
theorem dX9_paid_2 : decode cX9_paid 2 = .ok (.invokevirtual 119, 3) := by decide +kernel
theorem dX9_paid_5 : decode cX9_paid 5 = .ok (.aload_n 0, 1) := by decide +kernel
theorem dX9_paid_6 : decode cX9_paid 6 = .ok (.getfield 35, 3) := by decide +kernel
theorem dX9_paid_9 : decode cX9_paid 9 = .ok (.getfield 126, 3) := by decide +kernel
theorem dX9_paid_12 : decode cX9_paid 12 = .ok (.iload_n 1, 1) := by decide +kernel
theorem dX9_paid_13 : decode cX9_paid 13 = .ok (.iaload, 1) := by decide +kernel
theorem dX9_paid_14 : decode cX9_paid 14 = .ok (.ireturn, 1) := by decide +kernel
theorem dX9_paidAfter_0 : decode cX9_paidAfter 0 = .ok (.aload_n 0, 1) := by decide +kernel
theorem dX9_paidAfter_1 : decode cX9_paidAfter 1 = .ok (.iload_n 1, 1) := by decide +kernel
theorem dX9_paidAfter_2 : decode cX9_paidAfter 2 = .ok (.invokevirtual 119, 3) := by decide +kernel
theorem dX9_paidAfter_5 : decode cX9_paidAfter 5 = .ok (.iload_n 2, 1) := by decide +kernel
theorem dX9_paidAfter_6 : decode cX9_paidAfter 6 = .ok (.iconst 1, 1) := by decide +kernel
theorem dX9_paidAfter_7 : decode cX9_paidAfter 7 = .ok (.bipush 120, 2) := by decide +kernel
theorem dX9_paidAfter_9 : decode cX9_paidAfter 9 = .ok (.invokestatic 67, 3) := by decide +kernel
theorem dX9_paidAfter_12 : decode cX9_paidAfter 12 = .ok (.aload_n 0, 1) := by decide +kernel
theorem dX9_paidAfter_13 : decode cX9_paidAfter 13 = .ok (.iload_n 2, 1) := by decide +kernel
theorem dX9_paidAfter_14 : decode cX9_paidAfter 14 = .ok (.invokevirtual 217, 3) := by decide +kernel
theorem dX9_paidAfter_17 : decode cX9_paidAfter 17 = .ok (.aload_n 0, 1) := by decide +kernel
theorem dX9_paidAfter_18 : decode cX9_paidAfter 18 = .ok (.getfield 39, 3) := by decide +kernel
theorem dX9_paidAfter_21 : decode cX9_paidAfter 21 = .ok (.getfield 126, 3) := by decide +kernel
theorem dX9_paidAfter_24 : decode cX9_paidAfter 24 = .ok (.iload_n 1, 1) := by decide +kernel
theorem dX9_paidAfter_25 : decode cX9_paidAfter 25 = .ok (.iaload, 1) := by decide +kernel
theorem dX9_paidAfter_26 : decode cX9_paidAfter 26 = .ok (.ireturn, 1) := by decide +kernel
theorem dX9_pay_0 : decode cX9_pay 0 = .ok (.aload_n 0, 1) := by decide +kernel
theorem dX9_pay_1 : decode cX9_pay 1 = .ok (.iload_n 1, 1) := by decide +kernel
theorem dX9_pay_2 : decode cX9_pay 2 = .ok (.invokevirtual 119, 3) := by decide +kernel
theorem dX9_pay_5 : decode cX9_pay 5 = .ok (.iload_n 2, 1) := by decide +kernel
theorem dX9_pay_6 : decode cX9_pay 6 = .ok (.iconst 1, 1) := by decide +kernel
theorem dX9_pay_7 : decode cX9_pay 7 = .ok (.aload_n 0, 1) := by decide +kernel
theorem dX9_pay_8 : decode cX9_pay 8 = .ok (.getfield 35, 3) := by decide +kernel
theorem dX9_pay_11 : decode cX9_pay 11 = .ok (.iload_n 1, 1) := by decide +kernel
theorem dX9_pay_12 : decode cX9_pay 12 = .ok (.invokevirtual 129, 3) := by decide +kernel
theorem dX9_pay_15 : decode cX9_pay 15 = .ok (.invokestatic 67, 3) := by decide +kernel
theorem dX9_pay_18 : decode cX9_pay 18 = .ok (.aload_n 0, 1) := by decide +kernel
theorem dX9_pay_19 : decode cX9_pay 19 = .ok (.getfield 35, 3) := by decide +kernel
theorem dX9_pay_22 : decode cX9_pay 22 = .ok (.iload_n 1, 1) := by decide +kernel
theorem dX9_pay_23 : decode cX9_pay 23 = .ok (.invokevirtual 264, 3) := by decide +kernel
theorem dX9_pay_26 : decode cX9_pay 26 = .ok (.ifCond .eq 18, 3) := by decide +kernel
theorem dX9_pay_29 : decode cX9_pay 29 = .ok (.iload_n 2, 1) := by decide +kernel
theorem dX9_pay_30 : decode cX9_pay 30 = .ok (.aload_n 0, 1) := by decide +kernel
theorem dX9_pay_31 : decode cX9_pay 31 = .ok (.getfield 35, 3) := by decide +kernel
theorem dX9_pay_34 : decode cX9_pay 34 = .ok (.invokevirtual 96, 3) := by decide +kernel
theorem dX9_pay_37 : decode cX9_pay 37 = .ok (.if_icmp .gt 7, 3) := by decide +kernel
theorem dX9_pay_40 : decode cX9_pay 40 = .ok (.iconst 1, 1) := by decide +kernel
theorem dX9_pay_41 : decode cX9_pay 41 = .ok (.goto 4, 3) := by decide +kernel
theorem dX9_pay_44 : decode cX9_pay 44 = .ok (.iconst 0, 1) := by decide +kernel
theorem dX9_pay_45 : decode cX9_pay 45 = .ok (.invokestatic 251, 3) := by decide +kernel
theorem dX9_pay_48 : decode cX9_pay 48 = .ok (.aload_n 0, 1) := by decide +kernel
theorem dX9_pay_49 : decode cX9_pay 49 = .ok (.getfield 45, 3) := by decide +kernel
theorem dX9_pay_52 : decode cX9_pay 52 = .ok (.aload_n 0, 1) := by decide +kernel
theorem dX9_pay_53 : decode cX9_pay 53 = .ok (.getfield 35, 3) := by decide +kernel
theorem dX9_pay_56 : decode cX9_pay 56 = .ok (.invokevirtual 255, 3) := by decide +kernel
theorem dX9_pay_59 : decode cX9_pay 59 = .ok (.aload_n 0, 1) := by decide +kernel
theorem dX9_pay_60 : decode cX9_pay 60 = .ok (.getfield 35, 3) := by decide +kernel
theorem dX9_pay_63 : decode cX9_pay 63 = .ok (.iload_n 1, 1) := by decide +kernel
theorem dX9_pay_64 : decode cX9_pay 64 = .ok (.iload_n 2, 1) := by decide +kernel
theorem dX9_pay_65 : decode cX9_pay 65 = .ok (.invokevirtual 267, 3) := by decide +kernel
theorem dX9_pay_68 : decode cX9_pay 68 = .ok (.ireturn, 1) := by decide +kernel
theorem dX9_principal_0 : decode cX9_principal 0 = .ok (.aload_n 0, 1) := by decide +kernel
theorem dX9_principal_1 : decode cX9_principal 1 = .ok (.getfield 35, 3) := by decide +kernel
theorem dX9_principal_4 : decode cX9_principal 4 = .ok (.getfield 93, 3) := by decide +kernel
theorem dX9_principal_7 : decode cX9_principal 7 = .ok (.ireturn, 1) := by decide +kernel
theorem dX9_progress_0 : decode cX9_progress 0 = .ok (.lconst 0, 1) := by decide +kernel
theorem dX9_progress_1 : decode cX9_progress 1 = .ok (.lstore_n 1, 1) := by decide +kernel
theorem dX9_progress_2 : decode cX9_progress 2 = .ok (.lconst 0, 1) := by decide +kernel
theorem dX9_progress_3 : decode cX9_progress 3 = .ok (.lstore_n 3, 1) := by decide +kernel
theorem dX9_progress_4 : decode cX9_progress 4 = .ok (.iconst 0, 1) := by decide +kernel
theorem dX9_progress_5 : decode cX9_progress 5 = .ok (.istore 5, 2) := by decide +kernel
theorem dX9_progress_7 : decode cX9_progress 7 = .ok (.iload 5, 2) := by decide +kernel
theorem dX9_progress_9 : decode cX9_progress 9 = .ok (.aload_n 0, 1) := by decide +kernel
theorem dX9_progress_10 : decode cX9_progress 10 = .ok (.getfield 16, 3) := by decide +kernel
theorem dX9_progress_13 : decode cX9_progress 13 = .ok (.getfield 78, 3) := by decide +kernel
theorem dX9_progress_16 : decode cX9_progress 16 = .ok (.if_icmp .ge 37, 3) := by decide +kernel
theorem dX9_progress_19 : decode cX9_progress 19 = .ok (.lload_n 1, 1) := by decide +kernel
theorem dX9_progress_20 : decode cX9_progress 20 = .ok (.aload_n 0, 1) := by decide +kernel
theorem dX9_progress_21 : decode cX9_progress 21 = .ok (.getfield 35, 3) := by decide +kernel
theorem dX9_progress_24 : decode cX9_progress 24 = .ok (.getfield 126, 3) := by decide +kernel
theorem dX9_progress_27 : decode cX9_progress 27 = .ok (.iload 5, 2) := by decide +kernel
theorem dX9_progress_29 : decode cX9_progress 29 = .ok (.iaload, 1) := by decide +kernel
theorem dX9_progress_30 : decode cX9_progress 30 = .ok (.i2l, 1) := by decide +kernel
theorem dX9_progress_31 : decode cX9_progress 31 = .ok (.ladd, 1) := by decide +kernel
theorem dX9_progress_32 : decode cX9_progress 32 = .ok (.lstore_n 1, 1) := by decide +kernel
theorem dX9_progress_33 : decode cX9_progress 33 = .ok (.lload_n 3, 1) := by decide +kernel
theorem dX9_progress_34 : decode cX9_progress 34 = .ok (.aload_n 0, 1) := by decide +kernel
theorem dX9_progress_35 : decode cX9_progress 35 = .ok (.getfield 16, 3) := by decide +kernel
theorem dX9_progress_38 : decode cX9_progress 38 = .ok (.getfield 165, 3) := by decide +kernel
theorem dX9_progress_41 : decode cX9_progress 41 = .ok (.iload 5, 2) := by decide +kernel
theorem dX9_progress_43 : decode cX9_progress 43 = .ok (.iaload, 1) := by decide +kernel
theorem dX9_progress_44 : decode cX9_progress 44 = .ok (.i2l, 1) := by decide +kernel
theorem dX9_progress_45 : decode cX9_progress 45 = .ok (.ladd, 1) := by decide +kernel
theorem dX9_progress_46 : decode cX9_progress 46 = .ok (.lstore_n 3, 1) := by decide +kernel
theorem dX9_progress_47 : decode cX9_progress 47 = .ok (.iinc 5 1, 3) := by decide +kernel
theorem dX9_progress_50 : decode cX9_progress 50 = .ok (.goto (-43), 3) := by decide +kernel
theorem dX9_progress_53 : decode cX9_progress 53 = .ok (.lload_n 3, 1) := by decide +kernel
theorem dX9_progress_54 : decode cX9_progress 54 = .ok (.lconst 0, 1) := by decide +kernel
theorem dX9_progress_55 : decode cX9_progress 55 = .ok (.lcmp, 1) := by decide +kernel
theorem dX9_progress_56 : decode cX9_progress 56 = .ok (.ifCond .le 14, 3) := by decide +kernel
theorem dX9_progress_59 : decode cX9_progress 59 = .ok (.lload_n 1, 1) := by decide +kernel
theorem dX9_progress_60 : decode cX9_progress 60 = .ok (.ldc2_w 168, 3) := by decide +kernel
theorem dX9_progress_63 : decode cX9_progress 63 = .ok (.lmul, 1) := by decide +kernel
theorem dX9_progress_64 : decode cX9_progress 64 = .ok (.lload_n 3, 1) := by decide +kernel
theorem dX9_progress_65 : decode cX9_progress 65 = .ok (.ldiv, 1) := by decide +kernel
theorem dX9_progress_66 : decode cX9_progress 66 = .ok (.l2i, 1) := by decide +kernel
theorem dX9_progress_67 : decode cX9_progress 67 = .ok (.goto 4, 3) := by decide +kernel
theorem dX9_progress_70 : decode cX9_progress 70 = .ok (.iconst 0, 1) := by decide +kernel
theorem dX9_progress_71 : decode cX9_progress 71 = .ok (.ireturn, 1) := by decide +kernel
theorem dX9_proofCharacter_0 : decode cX9_proofCharacter 0 = .ok (.aload_n 0, 1) := by decide +kernel
theorem dX9_proofCharacter_1 : decode cX9_proofCharacter 1 = .ok (.iload_n 1, 1) := by decide +kernel
theorem dX9_proofCharacter_2 : decode cX9_proofCharacter 2 = .ok (.invokevirtual 180, 3) := by decide +kernel
theorem dX9_proofCharacter_5 : decode cX9_proofCharacter 5 = .ok (.aload_n 0, 1) := by decide +kernel
theorem dX9_proofCharacter_6 : decode cX9_proofCharacter 6 = .ok (.getfield 16, 3) := by decide +kernel
theorem dX9_proofCharacter_9 : decode cX9_proofCharacter 9 = .ok (.getfield 186, 3) := by decide +kernel
theorem dX9_proofCharacter_12 : decode cX9_proofCharacter 12 = .ok (.iload_n 1, 1) := by decide +kernel
theorem dX9_proofCharacter_13 : decode cX9_proofCharacter 13 = .ok (.laload, 1) := by decide +kernel
theorem dX9_proofCharacter_14 : decode cX9_proofCharacter 14 = .ok (.lstore_n 3, 1) := by decide +kernel
theorem dX9_proofCharacter_15 : decode cX9_proofCharacter 15 = .ok (.iload_n 2, 1) := by decide +kernel
theorem dX9_proofCharacter_16 : decode cX9_proofCharacter 16 = .ok (.lload_n 3, 1) := by decide +kernel
theorem dX9_proofCharacter_17 : decode cX9_proofCharacter 17 = .ok (.invokestatic 190, 3) := by decide +kernel
theorem dX9_proofCharacter_20 : decode cX9_proofCharacter 20 = .ok (.invokestatic 196, 3) := by decide +kernel
theorem dX9_proofCharacter_23 : decode cX9_proofCharacter 23 = .ok (.lload_n 3, 1) := by decide +kernel
theorem dX9_proofCharacter_24 : decode cX9_proofCharacter 24 = .ok (.iload_n 2, 1) := by decide +kernel
theorem dX9_proofCharacter_25 : decode cX9_proofCharacter 25 = .ok (.invokestatic 200, 3) := by decide +kernel
theorem dX9_proofCharacter_28 : decode cX9_proofCharacter 28 = .ok (.ireturn, 1) := by decide +kernel
theorem dX9_proofs_0 : decode cX9_proofs 0 = .ok (.aload_n 0, 1) := by decide +kernel
theorem dX9_proofs_1 : decode cX9_proofs 1 = .ok (.getfield 16, 3) := by decide +kernel
theorem dX9_proofs_4 : decode cX9_proofs 4 = .ok (.getfield 147, 3) := by decide +kernel
theorem dX9_proofs_7 : decode cX9_proofs 7 = .ok (.ireturn, 1) := by decide +kernel
theorem dX9_received_0 : decode cX9_received 0 = .ok (.aload_n 0, 1) := by decide +kernel
theorem dX9_received_1 : decode cX9_received 1 = .ok (.getfield 35, 3) := by decide +kernel
theorem dX9_received_4 : decode cX9_received 4 = .ok (.getfield 110, 3) := by decide +kernel
theorem dX9_received_7 : decode cX9_received 7 = .ok (.ireturn, 1) := by decide +kernel
theorem dX9_refunded_0 : decode cX9_refunded 0 = .ok (.aload_n 0, 1) := by decide +kernel
theorem dX9_refunded_1 : decode cX9_refunded 1 = .ok (.getfield 35, 3) := by decide +kernel
theorem dX9_refunded_4 : decode cX9_refunded 4 = .ok (.getfield 116, 3) := by decide +kernel
theorem dX9_refunded_7 : decode cX9_refunded 7 = .ok (.ireturn, 1) := by decide +kernel
theorem dX9_remaining_0 : decode cX9_remaining 0 = .ok (.aload_n 0, 1) := by decide +kernel
theorem dX9_remaining_1 : decode cX9_remaining 1 = .ok (.iload_n 1, 1) := by decide +kernel
theorem dX9_remaining_2 : decode cX9_remaining 2 = .ok (.invokevirtual 119, 3) := by decide +kernel
theorem dX9_remaining_5 : decode cX9_remaining 5 = .ok (.aload_n 0, 1) := by decide +kernel
theorem dX9_remaining_6 : decode cX9_remaining 6 = .ok (.getfield 35, 3) := by decide +kernel
theorem dX9_remaining_9 : decode cX9_remaining 9 = .ok (.iload_n 1, 1) := by decide +kernel
theorem dX9_remaining_10 : decode cX9_remaining 10 = .ok (.invokevirtual 129, 3) := by decide +kernel
theorem dX9_remaining_13 : decode cX9_remaining 13 = .ok (.ireturn, 1) := by decide +kernel
theorem dX9_resolve_0 : decode cX9_resolve 0 = .ok (.aload_n 0, 1) := by decide +kernel
theorem dX9_resolve_1 : decode cX9_resolve 1 = .ok (.iload_n 1, 1) := by decide +kernel
theorem dX9_resolve_2 : decode cX9_resolve 2 = .ok (.invokevirtual 119, 3) := by decide +kernel
theorem dX9_resolve_5 : decode cX9_resolve 5 = .ok (.iload_n 2, 1) := by decide +kernel
theorem dX9_resolve_6 : decode cX9_resolve 6 = .ok (.iconst 0, 1) := by decide +kernel
theorem dX9_resolve_7 : decode cX9_resolve 7 = .ok (.sipush 1000, 3) := by decide +kernel
theorem dX9_resolve_10 : decode cX9_resolve 10 = .ok (.invokestatic 67, 3) := by decide +kernel
theorem dX9_resolve_13 : decode cX9_resolve 13 = .ok (.aload_n 0, 1) := by decide +kernel
theorem dX9_resolve_14 : decode cX9_resolve 14 = .ok (.iload_n 1, 1) := by decide +kernel
theorem dX9_resolve_15 : decode cX9_resolve 15 = .ok (.invokevirtual 230, 3) := by decide +kernel
theorem dX9_resolve_18 : decode cX9_resolve 18 = .ok (.aload_n 0, 1) := by decide +kernel
theorem dX9_resolve_19 : decode cX9_resolve 19 = .ok (.getfield 45, 3) := by decide +kernel
theorem dX9_resolve_22 : decode cX9_resolve 22 = .ok (.aload_n 0, 1) := by decide +kernel
theorem dX9_resolve_23 : decode cX9_resolve 23 = .ok (.getfield 35, 3) := by decide +kernel
theorem dX9_resolve_26 : decode cX9_resolve 26 = .ok (.invokevirtual 255, 3) := by decide +kernel
theorem dX9_resolve_29 : decode cX9_resolve 29 = .ok (.aload_n 0, 1) := by decide +kernel
theorem dX9_resolve_30 : decode cX9_resolve 30 = .ok (.getfield 35, 3) := by decide +kernel
theorem dX9_resolve_33 : decode cX9_resolve 33 = .ok (.iload_n 1, 1) := by decide +kernel
theorem dX9_resolve_34 : decode cX9_resolve 34 = .ok (.iload_n 2, 1) := by decide +kernel
theorem dX9_resolve_35 : decode cX9_resolve 35 = .ok (.invokevirtual 276, 3) := by decide +kernel
theorem dX9_resolve_38 : decode cX9_resolve 38 = .ok (.ireturn, 1) := by decide +kernel
theorem dX9_shareFor_0 : decode cX9_shareFor 0 = .ok (.aload_n 0, 1) := by decide +kernel
theorem dX9_shareFor_1 : decode cX9_shareFor 1 = .ok (.iload_n 1, 1) := by decide +kernel
theorem dX9_shareFor_2 : decode cX9_shareFor 2 = .ok (.invokevirtual 119, 3) := by decide +kernel
theorem dX9_shareFor_5 : decode cX9_shareFor 5 = .ok (.iload_n 2, 1) := by decide +kernel
theorem dX9_shareFor_6 : decode cX9_shareFor 6 = .ok (.iconst 0, 1) := by decide +kernel
theorem dX9_shareFor_7 : decode cX9_shareFor 7 = .ok (.ldc 239, 2) := by decide +kernel
theorem dX9_shareFor_9 : decode cX9_shareFor 9 = .ok (.invokestatic 67, 3) := by decide +kernel
theorem dX9_shareFor_12 : decode cX9_shareFor 12 = .ok (.aload_n 0, 1) := by decide +kernel
theorem dX9_shareFor_13 : decode cX9_shareFor 13 = .ok (.iload_n 1, 1) := by decide +kernel
theorem dX9_shareFor_14 : decode cX9_shareFor 14 = .ok (.invokevirtual 230, 3) := by decide +kernel
theorem dX9_shareFor_17 : decode cX9_shareFor 17 = .ok (.aload_n 0, 1) := by decide +kernel
theorem dX9_shareFor_18 : decode cX9_shareFor 18 = .ok (.getfield 35, 3) := by decide +kernel
theorem dX9_shareFor_21 : decode cX9_shareFor 21 = .ok (.iload_n 1, 1) := by decide +kernel
theorem dX9_shareFor_22 : decode cX9_shareFor 22 = .ok (.invokevirtual 233, 3) := by decide +kernel
theorem dX9_shareFor_25 : decode cX9_shareFor 25 = .ok (.istore_n 3, 1) := by decide +kernel
theorem dX9_shareFor_26 : decode cX9_shareFor 26 = .ok (.iconst 0, 1) := by decide +kernel
theorem dX9_shareFor_27 : decode cX9_shareFor 27 = .ok (.istore 4, 2) := by decide +kernel
theorem dX9_shareFor_29 : decode cX9_shareFor 29 = .ok (.iload 4, 2) := by decide +kernel
theorem dX9_shareFor_31 : decode cX9_shareFor 31 = .ok (.sipush 1000, 3) := by decide +kernel
theorem dX9_shareFor_34 : decode cX9_shareFor 34 = .ok (.if_icmp .gt 36, 3) := by decide +kernel
theorem dX9_shareFor_37 : decode cX9_shareFor 37 = .ok (.iload_n 3, 1) := by decide +kernel
theorem dX9_shareFor_38 : decode cX9_shareFor 38 = .ok (.iload 4, 2) := by decide +kernel
theorem dX9_shareFor_40 : decode cX9_shareFor 40 = .ok (.invokestatic 236, 3) := by decide +kernel
theorem dX9_shareFor_43 : decode cX9_shareFor 43 = .ok (.istore 5, 2) := by decide +kernel
theorem dX9_shareFor_45 : decode cX9_shareFor 45 = .ok (.iload 5, 2) := by decide +kernel
theorem dX9_shareFor_47 : decode cX9_shareFor 47 = .ok (.aload_n 0, 1) := by decide +kernel
theorem dX9_shareFor_48 : decode cX9_shareFor 48 = .ok (.getfield 16, 3) := by decide +kernel
theorem dX9_shareFor_51 : decode cX9_shareFor 51 = .ok (.iload 5, 2) := by decide +kernel
theorem dX9_shareFor_53 : decode cX9_shareFor 53 = .ok (.invokevirtual 240, 3) := by decide +kernel
theorem dX9_shareFor_56 : decode cX9_shareFor 56 = .ok (.isub, 1) := by decide +kernel
theorem dX9_shareFor_57 : decode cX9_shareFor 57 = .ok (.iload_n 2, 1) := by decide +kernel
theorem dX9_shareFor_58 : decode cX9_shareFor 58 = .ok (.if_icmp .lt 6, 3) := by decide +kernel
theorem dX9_shareFor_61 : decode cX9_shareFor 61 = .ok (.iload 4, 2) := by decide +kernel
theorem dX9_shareFor_63 : decode cX9_shareFor 63 = .ok (.ireturn, 1) := by decide +kernel
theorem dX9_shareFor_64 : decode cX9_shareFor 64 = .ok (.iinc 4 1, 3) := by decide +kernel
theorem dX9_shareFor_67 : decode cX9_shareFor 67 = .ok (.goto (-38), 3) := by decide +kernel
theorem dX9_shareFor_70 : decode cX9_shareFor 70 = .ok (.iconst (-1), 1) := by decide +kernel
theorem dX9_shareFor_71 : decode cX9_shareFor 71 = .ok (.ireturn, 1) := by decide +kernel
theorem dX9_shortage_0 : decode cX9_shortage 0 = .ok (.iconst 0, 1) := by decide +kernel
theorem dX9_shortage_1 : decode cX9_shortage 1 = .ok (.istore_n 1, 1) := by decide +kernel
theorem dX9_shortage_2 : decode cX9_shortage 2 = .ok (.iconst 0, 1) := by decide +kernel
theorem dX9_shortage_3 : decode cX9_shortage 3 = .ok (.istore_n 2, 1) := by decide +kernel
theorem dX9_shortage_4 : decode cX9_shortage 4 = .ok (.iload_n 2, 1) := by decide +kernel
theorem dX9_shortage_5 : decode cX9_shortage 5 = .ok (.aload_n 0, 1) := by decide +kernel
theorem dX9_shortage_6 : decode cX9_shortage 6 = .ok (.getfield 16, 3) := by decide +kernel
theorem dX9_shortage_9 : decode cX9_shortage 9 = .ok (.getfield 78, 3) := by decide +kernel
theorem dX9_shortage_12 : decode cX9_shortage 12 = .ok (.if_icmp .ge 20, 3) := by decide +kernel
theorem dX9_shortage_15 : decode cX9_shortage 15 = .ok (.iload_n 1, 1) := by decide +kernel
theorem dX9_shortage_16 : decode cX9_shortage 16 = .ok (.aload_n 0, 1) := by decide +kernel
theorem dX9_shortage_17 : decode cX9_shortage 17 = .ok (.getfield 35, 3) := by decide +kernel
theorem dX9_shortage_20 : decode cX9_shortage 20 = .ok (.iload_n 2, 1) := by decide +kernel
theorem dX9_shortage_21 : decode cX9_shortage 21 = .ok (.invokevirtual 129, 3) := by decide +kernel
theorem dX9_shortage_24 : decode cX9_shortage 24 = .ok (.iadd, 1) := by decide +kernel
theorem dX9_shortage_25 : decode cX9_shortage 25 = .ok (.istore_n 1, 1) := by decide +kernel
theorem dX9_shortage_26 : decode cX9_shortage 26 = .ok (.iinc 2 1, 3) := by decide +kernel
theorem dX9_shortage_29 : decode cX9_shortage 29 = .ok (.goto (-25), 3) := by decide +kernel
theorem dX9_shortage_32 : decode cX9_shortage 32 = .ok (.iload_n 1, 1) := by decide +kernel
theorem dX9_shortage_33 : decode cX9_shortage 33 = .ok (.aload_n 0, 1) := by decide +kernel
theorem dX9_shortage_34 : decode cX9_shortage 34 = .ok (.getfield 35, 3) := by decide +kernel
theorem dX9_shortage_37 : decode cX9_shortage 37 = .ok (.getfield 93, 3) := by decide +kernel
theorem dX9_shortage_40 : decode cX9_shortage 40 = .ok (.isub, 1) := by decide +kernel
theorem dX9_shortage_41 : decode cX9_shortage 41 = .ok (.iconst 0, 1) := by decide +kernel
theorem dX9_shortage_42 : decode cX9_shortage 42 = .ok (.invokestatic 175, 3) := by decide +kernel
theorem dX9_shortage_45 : decode cX9_shortage 45 = .ok (.ireturn, 1) := by decide +kernel
theorem dX9_splitPayment_0 : decode cX9_splitPayment 0 = .ok (.aload_n 0, 1) := by decide +kernel
theorem dX9_splitPayment_1 : decode cX9_splitPayment 1 = .ok (.iload_n 1, 1) := by decide +kernel
theorem dX9_splitPayment_2 : decode cX9_splitPayment 2 = .ok (.invokevirtual 119, 3) := by decide +kernel
theorem dX9_splitPayment_5 : decode cX9_splitPayment 5 = .ok (.iload_n 2, 1) := by decide +kernel
theorem dX9_splitPayment_6 : decode cX9_splitPayment 6 = .ok (.iconst 0, 1) := by decide +kernel
theorem dX9_splitPayment_7 : decode cX9_splitPayment 7 = .ok (.sipush 1000, 3) := by decide +kernel
theorem dX9_splitPayment_10 : decode cX9_splitPayment 10 = .ok (.invokestatic 67, 3) := by decide +kernel
theorem dX9_splitPayment_13 : decode cX9_splitPayment 13 = .ok (.aload_n 0, 1) := by decide +kernel
theorem dX9_splitPayment_14 : decode cX9_splitPayment 14 = .ok (.iload_n 1, 1) := by decide +kernel
theorem dX9_splitPayment_15 : decode cX9_splitPayment 15 = .ok (.invokevirtual 230, 3) := by decide +kernel
theorem dX9_splitPayment_18 : decode cX9_splitPayment 18 = .ok (.aload_n 0, 1) := by decide +kernel
theorem dX9_splitPayment_19 : decode cX9_splitPayment 19 = .ok (.getfield 35, 3) := by decide +kernel
theorem dX9_splitPayment_22 : decode cX9_splitPayment 22 = .ok (.iload_n 1, 1) := by decide +kernel
theorem dX9_splitPayment_23 : decode cX9_splitPayment 23 = .ok (.invokevirtual 233, 3) := by decide +kernel
theorem dX9_splitPayment_26 : decode cX9_splitPayment 26 = .ok (.iload_n 2, 1) := by decide +kernel
theorem dX9_splitPayment_27 : decode cX9_splitPayment 27 = .ok (.invokestatic 236, 3) := by decide +kernel
theorem dX9_splitPayment_30 : decode cX9_splitPayment 30 = .ok (.ireturn, 1) := by decide +kernel
theorem dX9_state_0 : decode cX9_state 0 = .ok (.aload_n 0, 1) := by decide +kernel
theorem dX9_state_1 : decode cX9_state 1 = .ok (.iload_n 1, 1) := by decide +kernel
theorem dX9_state_2 : decode cX9_state 2 = .ok (.invokevirtual 119, 3) := by decide +kernel
theorem dX9_state_5 : decode cX9_state 5 = .ok (.aload_n 0, 1) := by decide +kernel
theorem dX9_state_6 : decode cX9_state 6 = .ok (.getfield 35, 3) := by decide +kernel
theorem dX9_state_9 : decode cX9_state 9 = .ok (.getfield 122, 3) := by decide +kernel
theorem dX9_state_12 : decode cX9_state 12 = .ok (.iload_n 1, 1) := by decide +kernel
theorem dX9_state_13 : decode cX9_state 13 = .ok (.iaload, 1) := by decide +kernel
theorem dX9_state_14 : decode cX9_state 14 = .ok (.ireturn, 1) := by decide +kernel
theorem dX9_submit_0 : decode cX9_submit 0 = .ok (.aload_n 0, 1) := by decide +kernel
theorem dX9_submit_1 : decode cX9_submit 1 = .ok (.iload_n 1, 1) := by decide +kernel
theorem dX9_submit_2 : decode cX9_submit 2 = .ok (.invokevirtual 180, 3) := by decide +kernel
theorem dX9_submit_5 : decode cX9_submit 5 = .ok (.aload_n 0, 1) := by decide +kernel
theorem dX9_submit_6 : decode cX9_submit 6 = .ok (.getfield 35, 3) := by decide +kernel
theorem dX9_submit_9 : decode cX9_submit 9 = .ok (.iload_n 1, 1) := by decide +kernel
theorem dX9_submit_10 : decode cX9_submit 10 = .ok (.invokevirtual 183, 3) := by decide +kernel
theorem dX9_submit_13 : decode cX9_submit 13 = .ok (.ifCond .ne 7, 3) := by decide +kernel
theorem dX9_submit_16 : decode cX9_submit 16 = .ok (.iconst 1, 1) := by decide +kernel
theorem dX9_submit_17 : decode cX9_submit 17 = .ok (.goto 4, 3) := by decide +kernel
theorem dX9_submit_20 : decode cX9_submit 20 = .ok (.iconst 0, 1) := by decide +kernel
theorem dX9_submit_21 : decode cX9_submit 21 = .ok (.istore_n 2, 1) := by decide +kernel
theorem dX9_submit_22 : decode cX9_submit 22 = .ok (.aload_n 0, 1) := by decide +kernel
theorem dX9_submit_23 : decode cX9_submit 23 = .ok (.getfield 45, 3) := by decide +kernel
theorem dX9_submit_26 : decode cX9_submit 26 = .ok (.aload_n 0, 1) := by decide +kernel
theorem dX9_submit_27 : decode cX9_submit 27 = .ok (.getfield 35, 3) := by decide +kernel
theorem dX9_submit_30 : decode cX9_submit 30 = .ok (.invokevirtual 255, 3) := by decide +kernel
theorem dX9_submit_33 : decode cX9_submit 33 = .ok (.aload_n 0, 1) := by decide +kernel
theorem dX9_submit_34 : decode cX9_submit 34 = .ok (.getfield 35, 3) := by decide +kernel
theorem dX9_submit_37 : decode cX9_submit 37 = .ok (.dup, 1) := by decide +kernel
theorem dX9_submit_38 : decode cX9_submit 38 = .ok (.getfield 150, 3) := by decide +kernel
theorem dX9_submit_41 : decode cX9_submit 41 = .ok (.iconst 1, 1) := by decide +kernel
theorem dX9_submit_42 : decode cX9_submit 42 = .ok (.iload_n 1, 1) := by decide +kernel
theorem dX9_submit_43 : decode cX9_submit 43 = .ok (.ishl, 1) := by decide +kernel
theorem dX9_submit_44 : decode cX9_submit 44 = .ok (.ior, 1) := by decide +kernel
theorem dX9_submit_45 : decode cX9_submit 45 = .ok (.putfield 150, 3) := by decide +kernel
theorem dX9_submit_48 : decode cX9_submit 48 = .ok (.iload_n 2, 1) := by decide +kernel
theorem dX9_submit_49 : decode cX9_submit 49 = .ok (.ireturn, 1) := by decide +kernel
theorem dX9_totalOn_0 : decode cX9_totalOn 0 = .ok (.iload_n 2, 1) := by decide +kernel
theorem dX9_totalOn_1 : decode cX9_totalOn 1 = .ok (.iconst 0, 1) := by decide +kernel
theorem dX9_totalOn_2 : decode cX9_totalOn 2 = .ok (.iconst 4, 1) := by decide +kernel
theorem dX9_totalOn_3 : decode cX9_totalOn 3 = .ok (.invokestatic 67, 3) := by decide +kernel
theorem dX9_totalOn_6 : decode cX9_totalOn 6 = .ok (.aload_n 0, 1) := by decide +kernel
theorem dX9_totalOn_7 : decode cX9_totalOn 7 = .ok (.getfield 35, 3) := by decide +kernel
theorem dX9_totalOn_10 : decode cX9_totalOn 10 = .ok (.getfield 347, 3) := by decide +kernel
theorem dX9_totalOn_13 : decode cX9_totalOn 13 = .ok (.iload_n 1, 1) := by decide +kernel
theorem dX9_totalOn_14 : decode cX9_totalOn 14 = .ok (.iload_n 2, 1) := by decide +kernel
theorem dX9_totalOn_15 : decode cX9_totalOn 15 = .ok (.invokevirtual 359, 3) := by decide +kernel
theorem dX9_totalOn_18 : decode cX9_totalOn 18 = .ok (.ireturn, 1) := by decide +kernel
theorem dX9_undo_0 : decode cX9_undo 0 = .ok (.aload_n 0, 1) := by decide +kernel
theorem dX9_undo_1 : decode cX9_undo 1 = .ok (.getfield 45, 3) := by decide +kernel
theorem dX9_undo_4 : decode cX9_undo 4 = .ok (.aload_n 0, 1) := by decide +kernel
theorem dX9_undo_5 : decode cX9_undo 5 = .ok (.getfield 35, 3) := by decide +kernel
theorem dX9_undo_8 : decode cX9_undo 8 = .ok (.invokevirtual 308, 3) := by decide +kernel
theorem dX9_undo_11 : decode cX9_undo 11 = .ok (.ireturn, 1) := by decide +kernel
theorem dX9_withdraw_0 : decode cX9_withdraw 0 = .ok (.aload_n 0, 1) := by decide +kernel
theorem dX9_withdraw_1 : decode cX9_withdraw 1 = .ok (.iload_n 1, 1) := by decide +kernel
theorem dX9_withdraw_2 : decode cX9_withdraw 2 = .ok (.invokevirtual 119, 3) := by decide +kernel
theorem dX9_withdraw_5 : decode cX9_withdraw 5 = .ok (.aload_n 0, 1) := by decide +kernel
theorem dX9_withdraw_6 : decode cX9_withdraw 6 = .ok (.iload_n 1, 1) := by decide +kernel
theorem dX9_withdraw_7 : decode cX9_withdraw 7 = .ok (.invokevirtual 230, 3) := by decide +kernel
theorem dX9_withdraw_10 : decode cX9_withdraw 10 = .ok (.aload_n 0, 1) := by decide +kernel
theorem dX9_withdraw_11 : decode cX9_withdraw 11 = .ok (.getfield 45, 3) := by decide +kernel
theorem dX9_withdraw_14 : decode cX9_withdraw 14 = .ok (.aload_n 0, 1) := by decide +kernel
theorem dX9_withdraw_15 : decode cX9_withdraw 15 = .ok (.getfield 35, 3) := by decide +kernel
theorem dX9_withdraw_18 : decode cX9_withdraw 18 = .ok (.invokevirtual 255, 3) := by decide +kernel
theorem dX9_withdraw_21 : decode cX9_withdraw 21 = .ok (.aload_n 0, 1) := by decide +kernel
theorem dX9_withdraw_22 : decode cX9_withdraw 22 = .ok (.getfield 35, 3) := by decide +kernel
theorem dX9_withdraw_25 : decode cX9_withdraw 25 = .ok (.iload_n 1, 1) := by decide +kernel
theorem dX9_withdraw_26 : decode cX9_withdraw 26 = .ok (.iconst 0, 1) := by decide +kernel
theorem dX9_withdraw_27 : decode cX9_withdraw 27 = .ok (.invokevirtual 273, 3) := by decide +kernel
theorem dX9_withdraw_30 : decode cX9_withdraw 30 = .ok (.aload_n 0, 1) := by decide +kernel
theorem dX9_withdraw_31 : decode cX9_withdraw 31 = .ok (.getfield 35, 3) := by decide +kernel
theorem dX9_withdraw_34 : decode cX9_withdraw 34 = .ok (.invokevirtual 96, 3) := by decide +kernel
theorem dX9_withdraw_37 : decode cX9_withdraw 37 = .ok (.ireturn, 1) := by decide +kernel
theorem dX9_wouldHold_0 : decode cX9_wouldHold 0 = .ok (.aload_n 0, 1) := by decide +kernel
theorem dX9_wouldHold_1 : decode cX9_wouldHold 1 = .ok (.iload_n 1, 1) := by decide +kernel
theorem dX9_wouldHold_2 : decode cX9_wouldHold 2 = .ok (.invokevirtual 119, 3) := by decide +kernel
theorem dX9_wouldHold_5 : decode cX9_wouldHold 5 = .ok (.iload_n 2, 1) := by decide +kernel
theorem dX9_wouldHold_6 : decode cX9_wouldHold 6 = .ok (.iconst 0, 1) := by decide +kernel
theorem dX9_wouldHold_7 : decode cX9_wouldHold 7 = .ok (.iconst 1, 1) := by decide +kernel
theorem dX9_wouldHold_8 : decode cX9_wouldHold 8 = .ok (.aload_n 0, 1) := by decide +kernel
theorem dX9_wouldHold_9 : decode cX9_wouldHold 9 = .ok (.getfield 16, 3) := by decide +kernel
theorem dX9_wouldHold_12 : decode cX9_wouldHold 12 = .ok (.getfield 78, 3) := by decide +kernel
theorem dX9_wouldHold_15 : decode cX9_wouldHold 15 = .ok (.ishl, 1) := by decide +kernel
theorem dX9_wouldHold_16 : decode cX9_wouldHold 16 = .ok (.iconst 1, 1) := by decide +kernel
theorem dX9_wouldHold_17 : decode cX9_wouldHold 17 = .ok (.isub, 1) := by decide +kernel
theorem dX9_wouldHold_18 : decode cX9_wouldHold 18 = .ok (.invokestatic 67, 3) := by decide +kernel
theorem dX9_wouldHold_21 : decode cX9_wouldHold 21 = .ok (.aload_n 0, 1) := by decide +kernel
theorem dX9_wouldHold_22 : decode cX9_wouldHold 22 = .ok (.getfield 35, 3) := by decide +kernel
theorem dX9_wouldHold_25 : decode cX9_wouldHold 25 = .ok (.iload_n 1, 1) := by decide +kernel
theorem dX9_wouldHold_26 : decode cX9_wouldHold 26 = .ok (.iload_n 2, 1) := by decide +kernel
theorem dX9_wouldHold_27 : decode cX9_wouldHold 27 = .ok (.invokevirtual 204, 3) := by decide +kernel
theorem dX9_wouldHold_30 : decode cX9_wouldHold 30 = .ok (.ireturn, 1) := by decide +kernel
theorem dX9_write_0 : decode cX9_write 0 = .ok (.aload_n 0, 1) := by decide +kernel
theorem dX9_write_1 : decode cX9_write 1 = .ok (.iload_n 1, 1) := by decide +kernel
theorem dX9_write_2 : decode cX9_write 2 = .ok (.invokevirtual 119, 3) := by decide +kernel
theorem dX9_write_5 : decode cX9_write 5 = .ok (.aload_n 0, 1) := by decide +kernel
theorem dX9_write_6 : decode cX9_write 6 = .ok (.getfield 35, 3) := by decide +kernel
theorem dX9_write_9 : decode cX9_write 9 = .ok (.getfield 122, 3) := by decide +kernel
theorem dX9_write_12 : decode cX9_write 12 = .ok (.iload_n 1, 1) := by decide +kernel
theorem dX9_write_13 : decode cX9_write 13 = .ok (.iaload, 1) := by decide +kernel
theorem dX9_write_14 : decode cX9_write 14 = .ok (.istore_n 2, 1) := by decide +kernel
theorem dX9_write_15 : decode cX9_write 15 = .ok (.aload_n 0, 1) := by decide +kernel
theorem dX9_write_16 : decode cX9_write 16 = .ok (.getfield 52, 3) := by decide +kernel
theorem dX9_write_19 : decode cX9_write 19 = .ok (.iconst 0, 1) := by decide +kernel
theorem dX9_write_20 : decode cX9_write 20 = .ok (.invokevirtual 312, 3) := by decide +kernel
theorem dX9_write_23 : decode cX9_write 23 = .ok (.aload_n 0, 1) := by decide +kernel
theorem dX9_write_24 : decode cX9_write 24 = .ok (.getfield 52, 3) := by decide +kernel
theorem dX9_write_27 : decode cX9_write 27 = .ok (.aload_n 0, 1) := by decide +kernel
theorem dX9_write_28 : decode cX9_write 28 = .ok (.getfield 16, 3) := by decide +kernel
theorem dX9_write_31 : decode cX9_write 31 = .ok (.getfield 315, 3) := by decide +kernel
theorem dX9_write_34 : decode cX9_write 34 = .ok (.iload_n 1, 1) := by decide +kernel
theorem dX9_write_35 : decode cX9_write 35 = .ok (.laload, 1) := by decide +kernel
theorem dX9_write_36 : decode cX9_write 36 = .ok (.invokestatic 318, 3) := by decide +kernel
theorem dX9_write_39 : decode cX9_write 39 = .ok (.aload_n 0, 1) := by decide +kernel
theorem dX9_write_40 : decode cX9_write 40 = .ok (.getfield 52, 3) := by decide +kernel
theorem dX9_write_43 : decode cX9_write 43 = .ok (.bipush 32, 2) := by decide +kernel
theorem dX9_write_45 : decode cX9_write 45 = .ok (.invokevirtual 322, 3) := by decide +kernel
theorem dX9_write_48 : decode cX9_write 48 = .ok (.pop, 1) := by decide +kernel
theorem dX9_write_49 : decode cX9_write 49 = .ok (.aload_n 0, 1) := by decide +kernel
theorem dX9_write_50 : decode cX9_write 50 = .ok (.getfield 52, 3) := by decide +kernel
theorem dX9_write_53 : decode cX9_write 53 = .ok (.iload_n 2, 1) := by decide +kernel
theorem dX9_write_54 : decode cX9_write 54 = .ok (.invokestatic 326, 3) := by decide +kernel
theorem dX9_write_57 : decode cX9_write 57 = .ok (.invokevirtual 330, 3) := by decide +kernel
theorem dX9_write_60 : decode cX9_write 60 = .ok (.pop, 1) := by decide +kernel
theorem dX9_write_61 : decode cX9_write 61 = .ok (.aload_n 0, 1) := by decide +kernel
theorem dX9_write_62 : decode cX9_write 62 = .ok (.getfield 52, 3) := by decide +kernel
theorem dX9_write_65 : decode cX9_write 65 = .ok (.bipush 32, 2) := by decide +kernel
theorem dX9_write_67 : decode cX9_write 67 = .ok (.invokevirtual 322, 3) := by decide +kernel
theorem dX9_write_70 : decode cX9_write 70 = .ok (.pop, 1) := by decide +kernel
theorem dX9_write_71 : decode cX9_write 71 = .ok (.aload_n 0, 1) := by decide +kernel
theorem dX9_write_72 : decode cX9_write 72 = .ok (.getfield 52, 3) := by decide +kernel
theorem dX9_write_75 : decode cX9_write 75 = .ok (.aload_n 0, 1) := by decide +kernel
theorem dX9_write_76 : decode cX9_write 76 = .ok (.getfield 35, 3) := by decide +kernel
theorem dX9_write_79 : decode cX9_write 79 = .ok (.getfield 126, 3) := by decide +kernel
theorem dX9_write_82 : decode cX9_write 82 = .ok (.iload_n 1, 1) := by decide +kernel
theorem dX9_write_83 : decode cX9_write 83 = .ok (.iaload, 1) := by decide +kernel
theorem dX9_write_84 : decode cX9_write 84 = .ok (.invokevirtual 333, 3) := by decide +kernel
theorem dX9_write_87 : decode cX9_write 87 = .ok (.pop, 1) := by decide +kernel
theorem dX9_write_88 : decode cX9_write 88 = .ok (.aload_n 0, 1) := by decide +kernel
theorem dX9_write_89 : decode cX9_write 89 = .ok (.getfield 52, 3) := by decide +kernel
theorem dX9_write_92 : decode cX9_write 92 = .ok (.bipush 47, 2) := by decide +kernel
theorem dX9_write_94 : decode cX9_write 94 = .ok (.invokevirtual 322, 3) := by decide +kernel
theorem dX9_write_97 : decode cX9_write 97 = .ok (.pop, 1) := by decide +kernel
theorem dX9_write_98 : decode cX9_write 98 = .ok (.aload_n 0, 1) := by decide +kernel
theorem dX9_write_99 : decode cX9_write 99 = .ok (.getfield 52, 3) := by decide +kernel
theorem dX9_write_102 : decode cX9_write 102 = .ok (.aload_n 0, 1) := by decide +kernel
theorem dX9_write_103 : decode cX9_write 103 = .ok (.getfield 16, 3) := by decide +kernel
theorem dX9_write_106 : decode cX9_write 106 = .ok (.getfield 165, 3) := by decide +kernel
theorem dX9_write_109 : decode cX9_write 109 = .ok (.iload_n 1, 1) := by decide +kernel
theorem dX9_write_110 : decode cX9_write 110 = .ok (.iaload, 1) := by decide +kernel
theorem dX9_write_111 : decode cX9_write 111 = .ok (.invokevirtual 333, 3) := by decide +kernel
theorem dX9_write_114 : decode cX9_write 114 = .ok (.pop, 1) := by decide +kernel
theorem dX9_write_115 : decode cX9_write 115 = .ok (.iload_n 2, 1) := by decide +kernel
theorem dX9_write_116 : decode cX9_write 116 = .ok (.iconst 1, 1) := by decide +kernel
theorem dX9_write_117 : decode cX9_write 117 = .ok (.if_icmp .ne 31, 3) := by decide +kernel
theorem dX9_write_120 : decode cX9_write 120 = .ok (.aload_n 0, 1) := by decide +kernel
theorem dX9_write_121 : decode cX9_write 121 = .ok (.getfield 52, 3) := by decide +kernel
theorem dX9_write_124 : decode cX9_write 124 = .ok (.ldc_w 336, 3) := by decide +kernel
theorem dX9_write_127 : decode cX9_write 127 = .ok (.invokevirtual 330, 3) := by decide +kernel
theorem dX9_write_130 : decode cX9_write 130 = .ok (.pop, 1) := by decide +kernel
theorem dX9_write_131 : decode cX9_write 131 = .ok (.aload_n 0, 1) := by decide +kernel
theorem dX9_write_132 : decode cX9_write 132 = .ok (.getfield 52, 3) := by decide +kernel
theorem dX9_write_135 : decode cX9_write 135 = .ok (.aload_n 0, 1) := by decide +kernel
theorem dX9_write_136 : decode cX9_write 136 = .ok (.getfield 35, 3) := by decide +kernel
theorem dX9_write_139 : decode cX9_write 139 = .ok (.getfield 136, 3) := by decide +kernel
theorem dX9_write_142 : decode cX9_write 142 = .ok (.iload_n 1, 1) := by decide +kernel
theorem dX9_write_143 : decode cX9_write 143 = .ok (.iaload, 1) := by decide +kernel
theorem dX9_write_144 : decode cX9_write 144 = .ok (.invokevirtual 333, 3) := by decide +kernel
theorem dX9_write_147 : decode cX9_write 147 = .ok (.pop, 1) := by decide +kernel
theorem dX9_write_148 : decode cX9_write 148 = .ok (.iload_n 2, 1) := by decide +kernel
theorem dX9_write_149 : decode cX9_write 149 = .ok (.iconst 2, 1) := by decide +kernel
theorem dX9_write_150 : decode cX9_write 150 = .ok (.if_icmp .ne 31, 3) := by decide +kernel
theorem dX9_write_153 : decode cX9_write 153 = .ok (.aload_n 0, 1) := by decide +kernel
theorem dX9_write_154 : decode cX9_write 154 = .ok (.getfield 52, 3) := by decide +kernel
theorem dX9_write_157 : decode cX9_write 157 = .ok (.ldc_w 338, 3) := by decide +kernel
theorem dX9_write_160 : decode cX9_write 160 = .ok (.invokevirtual 330, 3) := by decide +kernel
theorem dX9_write_163 : decode cX9_write 163 = .ok (.pop, 1) := by decide +kernel
theorem dX9_write_164 : decode cX9_write 164 = .ok (.aload_n 0, 1) := by decide +kernel
theorem dX9_write_165 : decode cX9_write 165 = .ok (.getfield 52, 3) := by decide +kernel
theorem dX9_write_168 : decode cX9_write 168 = .ok (.aload_n 0, 1) := by decide +kernel
theorem dX9_write_169 : decode cX9_write 169 = .ok (.getfield 35, 3) := by decide +kernel
theorem dX9_write_172 : decode cX9_write 172 = .ok (.getfield 133, 3) := by decide +kernel
theorem dX9_write_175 : decode cX9_write 175 = .ok (.iload_n 1, 1) := by decide +kernel
theorem dX9_write_176 : decode cX9_write 176 = .ok (.iaload, 1) := by decide +kernel
theorem dX9_write_177 : decode cX9_write 177 = .ok (.invokevirtual 333, 3) := by decide +kernel
theorem dX9_write_180 : decode cX9_write 180 = .ok (.pop, 1) := by decide +kernel
theorem dX9_write_181 : decode cX9_write 181 = .ok (.aload_n 0, 1) := by decide +kernel
theorem dX9_write_182 : decode cX9_write 182 = .ok (.getfield 52, 3) := by decide +kernel
theorem dX9_write_185 : decode cX9_write 185 = .ok (.invokevirtual 340, 3) := by decide +kernel
theorem dX9_write_188 : decode cX9_write 188 = .ok (.ireturn, 1) := by decide +kernel

set_option maxRecDepth 20000 in
theorem ggX0_copyFrom_X2_copyFrom : GoodIn wsX0_copyFrom wsX2_copyFrom := goodIn_r _ [29, 30, 31, 5, 6, 7, 32, 33, 54, 55, 56] rfl (by decide +kernel)
set_option maxRecDepth 20000 in
theorem gX0_copyFrom_X2_copyFrom : GoodIn wsX0_copyFrom (wsV RX0 99 RX2 yX2_copyFrom wsX2_copyFrom) := goodIn_app (goodIn_r _ [25, 26, 27, 28] rfl (by decide +kernel)) ggX0_copyFrom_X2_copyFrom
set_option maxRecDepth 20000 in
theorem ggX0_liveDays_X0_liveDay : GoodIn wsX0_liveDays wsX0_liveDay := goodIn_r _ [5, 6, 7, 8, 9, 10, 11, 12, 13, 4, 14, 15, 16, 17, 18, 19, 20, 21, 22, 23, 24, 25, 26, 27, 28, 29, 30, 31, 32, 33, 34, 35, 36, 37, 38, 39, 40, 41, 42, 43, 44, 45, 46, 47, 48, 49, 50, 51, 52, 53, 54, 55, 56, 57, 58, 59, 60, 61, 62, 63, 64, 65, 66, 67, 68, 69, 70, 71, 72, 73, 74, 75, 76, 77, 78, 79, 80, 81, 82, 83, 84, 85, 86, 87, 88, 89, 90, 91, 92, 93, 94, 95, 96, 97, 98, 99, 100, 101, 102, 103, 104, 105, 106, 107, 108, 109, 110, 111, 112, 113, 114, 115, 116, 117, 118, 119, 120, 121, 122, 123, 124, 125, 126, 127, 128, 129, 130, 131, 132, 133, 134, 135, 136, 137, 138, 139, 140, 141, 142, 143, 144, 145, 146, 147, 148, 149] rfl (by decide +kernel)
set_option maxRecDepth 20000 in
theorem gX0_liveDays_X0_liveDay : GoodIn wsX0_liveDays (wsV RX0 183 RX0 yX0_liveDay wsX0_liveDay) := goodIn_app (goodIn_r _ [1, 2, 3, 4] rfl (by decide +kernel)) ggX0_liveDays_X0_liveDay
set_option maxRecDepth 20000 in
theorem ggX0_liveDay_X0_creditInterest : GoodIn wsX0_liveDay wsX0_creditInterest := goodIn_r _ [10, 11, 12, 1, 3, 13, 14, 5, 15, 16, 17, 18, 19, 20, 21, 22, 23, 24, 25, 26, 106, 107, 108, 109, 110, 111, 112, 113, 114, 115, 116, 117, 118, 119, 120, 121, 122, 123, 124, 125, 126, 127, 128] rfl (by decide +kernel)
set_option maxRecDepth 20000 in
theorem gX0_liveDay_X0_creditInterest : GoodIn wsX0_liveDay (wsV RX0 186 RX0 yX0_creditInterest wsX0_creditInterest) := goodIn_app (goodIn_r _ [6, 7, 8, 9] rfl (by decide +kernel)) ggX0_liveDay_X0_creditInterest
set_option maxRecDepth 20000 in
theorem ggX0_liveDay_X0_makeDue : GoodIn wsX0_liveDay wsX0_makeDue := goodIn_r _ [30, 31, 32, 5, 33, 34, 35, 36, 37, 9, 38, 39, 40, 41, 42, 43, 44, 45, 46, 47, 48, 49, 50, 51, 52, 53, 54, 55, 56, 57, 58, 59, 60, 61, 62, 63, 64, 65, 66, 67, 68, 106, 107, 108, 109, 110, 111, 112, 113, 114, 115, 116, 117, 118, 119, 120, 121, 122, 123, 124, 125, 129, 130, 131, 132, 133, 134, 135, 136, 137, 138, 139, 140, 141, 142, 143, 144, 145] rfl (by decide +kernel)
set_option maxRecDepth 20000 in
theorem gX0_liveDay_X0_makeDue : GoodIn wsX0_liveDay (wsV RX0 189 RX0 yX0_makeDue wsX0_makeDue) := goodIn_app (goodIn_r _ [27, 28, 29, 9] rfl (by decide +kernel)) ggX0_liveDay_X0_makeDue
set_option maxRecDepth 20000 in
theorem ggX0_liveDay_X0_payDue : GoodIn wsX0_liveDay wsX0_payDue := goodIn_r _ [72, 31, 73, 24, 25, 26, 74, 75, 76, 9, 77, 78, 79, 80, 81, 82, 32, 83, 84, 85, 86, 2, 87, 88, 89, 90, 91, 5, 92, 93, 94, 95, 34, 96, 97, 98, 99, 100, 53, 52, 14, 101, 102, 103, 46, 104, 105, 15, 16, 17, 18, 19, 20, 21, 22, 23, 106, 107, 108, 109, 110, 111, 112, 113, 114, 115, 116, 117, 118, 119, 120, 121, 122, 123, 124, 125, 129, 130, 131, 132, 133, 134, 135, 136, 137, 138, 139, 140, 141, 142, 143, 144, 145, 126, 127, 128] rfl (by decide +kernel)
set_option maxRecDepth 20000 in
theorem gX0_liveDay_X0_payDue : GoodIn wsX0_liveDay (wsV RX0 192 RX0 yX0_payDue wsX0_payDue) := goodIn_app (goodIn_r _ [69, 70, 71, 9] rfl (by decide +kernel)) ggX0_liveDay_X0_payDue
set_option maxRecDepth 20000 in
theorem ggX0_creditInterest_X2_enter : GoodIn wsX0_creditInterest wsX2_enter := goodIn_r _ [12, 13, 14, 15, 16, 17, 18, 19, 40, 41, 42] rfl (by decide +kernel)
set_option maxRecDepth 20000 in
theorem gX0_creditInterest_X2_enter : GoodIn wsX0_creditInterest (wsV RX0 151 RX2 yX2_enter wsX2_enter) := goodIn_app (goodIn_r _ [8, 9, 10, 11] rfl (by decide +kernel)) ggX0_creditInterest_X2_enter
set_option maxRecDepth 20000 in
theorem ggX0_makeDue_X0_doneSet : GoodIn wsX0_makeDue wsX0_doneSet := goodIn_r _ [10, 1, 2, 41, 42, 43, 44, 45, 46, 47, 48, 49, 50, 51, 52, 53, 54, 55, 56, 57, 58, 59, 60, 61, 62, 63, 64, 65, 66, 67, 68, 69, 70, 71, 72, 73, 74, 75, 76, 77] rfl (by decide +kernel)
set_option maxRecDepth 20000 in
theorem gX0_makeDue_X0_doneSet : GoodIn wsX0_makeDue (wsV RX0 123 RX0 yX0_doneSet wsX0_doneSet) := goodIn_app (goodIn_r _ [6, 7, 8, 9] rfl (by decide +kernel)) ggX0_makeDue_X0_doneSet
theorem dX0_copyFrom_0 : decode cX0_copyFrom 0 = .ok (.aload_n 0, 1) := by decide +kernel
theorem dX0_copyFrom_1 : decode cX0_copyFrom 1 = .ok (.aload_n 1, 1) := by decide +kernel
theorem dX0_copyFrom_2 : decode cX0_copyFrom 2 = .ok (.getfield 31, 3) := by decide +kernel
theorem dX0_copyFrom_5 : decode cX0_copyFrom 5 = .ok (.putfield 31, 3) := by decide +kernel
theorem dX0_copyFrom_8 : decode cX0_copyFrom 8 = .ok (.aload_n 0, 1) := by decide +kernel
theorem dX0_copyFrom_9 : decode cX0_copyFrom 9 = .ok (.getfield 12, 3) := by decide +kernel
theorem dX0_copyFrom_12 : decode cX0_copyFrom 12 = .ok (.aload_n 1, 1) := by decide +kernel
theorem dX0_copyFrom_13 : decode cX0_copyFrom 13 = .ok (.getfield 12, 3) := by decide +kernel
theorem dX0_copyFrom_16 : decode cX0_copyFrom 16 = .ok (.invokevirtual 99, 3) := by decide +kernel
theorem dX0_copyFrom_19 : decode cX0_copyFrom 19 = .ok (.aload_n 1, 1) := by decide +kernel
theorem dX0_copyFrom_20 : decode cX0_copyFrom 20 = .ok (.getfield 18, 3) := by decide +kernel
theorem dX0_copyFrom_23 : decode cX0_copyFrom 23 = .ok (.iconst 0, 1) := by decide +kernel
theorem dX0_copyFrom_24 : decode cX0_copyFrom 24 = .ok (.aload_n 0, 1) := by decide +kernel
theorem dX0_copyFrom_25 : decode cX0_copyFrom 25 = .ok (.getfield 18, 3) := by decide +kernel
theorem dX0_copyFrom_28 : decode cX0_copyFrom 28 = .ok (.iconst 0, 1) := by decide +kernel
theorem dX0_copyFrom_29 : decode cX0_copyFrom 29 = .ok (.bipush 10, 2) := by decide +kernel
theorem dX0_copyFrom_31 : decode cX0_copyFrom 31 = .ok (.invokestatic 103, 3) := by decide +kernel
theorem dX0_copyFrom_34 : decode cX0_copyFrom 34 = .ok (.aload_n 1, 1) := by decide +kernel
theorem dX0_copyFrom_35 : decode cX0_copyFrom 35 = .ok (.getfield 22, 3) := by decide +kernel
theorem dX0_copyFrom_38 : decode cX0_copyFrom 38 = .ok (.iconst 0, 1) := by decide +kernel
theorem dX0_copyFrom_39 : decode cX0_copyFrom 39 = .ok (.aload_n 0, 1) := by decide +kernel
theorem dX0_copyFrom_40 : decode cX0_copyFrom 40 = .ok (.getfield 22, 3) := by decide +kernel
theorem dX0_copyFrom_43 : decode cX0_copyFrom 43 = .ok (.iconst 0, 1) := by decide +kernel
theorem dX0_copyFrom_44 : decode cX0_copyFrom 44 = .ok (.bipush 10, 2) := by decide +kernel
theorem dX0_copyFrom_46 : decode cX0_copyFrom 46 = .ok (.invokestatic 103, 3) := by decide +kernel
theorem dX0_copyFrom_49 : decode cX0_copyFrom 49 = .ok (.aload_n 1, 1) := by decide +kernel
theorem dX0_copyFrom_50 : decode cX0_copyFrom 50 = .ok (.getfield 25, 3) := by decide +kernel
theorem dX0_copyFrom_53 : decode cX0_copyFrom 53 = .ok (.iconst 0, 1) := by decide +kernel
theorem dX0_copyFrom_54 : decode cX0_copyFrom 54 = .ok (.aload_n 0, 1) := by decide +kernel
theorem dX0_copyFrom_55 : decode cX0_copyFrom 55 = .ok (.getfield 25, 3) := by decide +kernel
theorem dX0_copyFrom_58 : decode cX0_copyFrom 58 = .ok (.iconst 0, 1) := by decide +kernel
theorem dX0_copyFrom_59 : decode cX0_copyFrom 59 = .ok (.bipush 10, 2) := by decide +kernel
theorem dX0_copyFrom_61 : decode cX0_copyFrom 61 = .ok (.invokestatic 103, 3) := by decide +kernel
theorem dX0_copyFrom_64 : decode cX0_copyFrom 64 = .ok (.aload_n 1, 1) := by decide +kernel
theorem dX0_copyFrom_65 : decode cX0_copyFrom 65 = .ok (.getfield 28, 3) := by decide +kernel
theorem dX0_copyFrom_68 : decode cX0_copyFrom 68 = .ok (.iconst 0, 1) := by decide +kernel
theorem dX0_copyFrom_69 : decode cX0_copyFrom 69 = .ok (.aload_n 0, 1) := by decide +kernel
theorem dX0_copyFrom_70 : decode cX0_copyFrom 70 = .ok (.getfield 28, 3) := by decide +kernel
theorem dX0_copyFrom_73 : decode cX0_copyFrom 73 = .ok (.iconst 0, 1) := by decide +kernel
theorem dX0_copyFrom_74 : decode cX0_copyFrom 74 = .ok (.bipush 10, 2) := by decide +kernel
theorem dX0_copyFrom_76 : decode cX0_copyFrom 76 = .ok (.invokestatic 103, 3) := by decide +kernel
theorem dX0_copyFrom_79 : decode cX0_copyFrom 79 = .ok (.aload_n 0, 1) := by decide +kernel
theorem dX0_copyFrom_80 : decode cX0_copyFrom 80 = .ok (.aload_n 1, 1) := by decide +kernel
theorem dX0_copyFrom_81 : decode cX0_copyFrom 81 = .ok (.getfield 40, 3) := by decide +kernel
theorem dX0_copyFrom_84 : decode cX0_copyFrom 84 = .ok (.putfield 40, 3) := by decide +kernel
theorem dX0_copyFrom_87 : decode cX0_copyFrom 87 = .ok (.aload_n 0, 1) := by decide +kernel
theorem dX0_copyFrom_88 : decode cX0_copyFrom 88 = .ok (.aload_n 1, 1) := by decide +kernel
theorem dX0_copyFrom_89 : decode cX0_copyFrom 89 = .ok (.getfield 44, 3) := by decide +kernel
theorem dX0_copyFrom_92 : decode cX0_copyFrom 92 = .ok (.putfield 44, 3) := by decide +kernel
theorem dX0_copyFrom_95 : decode cX0_copyFrom 95 = .ok (.aload_n 0, 1) := by decide +kernel
theorem dX0_copyFrom_96 : decode cX0_copyFrom 96 = .ok (.aload_n 1, 1) := by decide +kernel
theorem dX0_copyFrom_97 : decode cX0_copyFrom 97 = .ok (.getfield 47, 3) := by decide +kernel
theorem dX0_copyFrom_100 : decode cX0_copyFrom 100 = .ok (.putfield 47, 3) := by decide +kernel
theorem dX0_copyFrom_103 : decode cX0_copyFrom 103 = .ok (.aload_n 0, 1) := by decide +kernel
theorem dX0_copyFrom_104 : decode cX0_copyFrom 104 = .ok (.aload_n 1, 1) := by decide +kernel
theorem dX0_copyFrom_105 : decode cX0_copyFrom 105 = .ok (.getfield 50, 3) := by decide +kernel
theorem dX0_copyFrom_108 : decode cX0_copyFrom 108 = .ok (.putfield 50, 3) := by decide +kernel
theorem dX0_copyFrom_111 : decode cX0_copyFrom 111 = .ok (.aload_n 0, 1) := by decide +kernel
theorem dX0_copyFrom_112 : decode cX0_copyFrom 112 = .ok (.aload_n 1, 1) := by decide +kernel
theorem dX0_copyFrom_113 : decode cX0_copyFrom 113 = .ok (.getfield 54, 3) := by decide +kernel
theorem dX0_copyFrom_116 : decode cX0_copyFrom 116 = .ok (.putfield 54, 3) := by decide +kernel
theorem dX0_copyFrom_119 : decode cX0_copyFrom 119 = .ok (.aload_n 0, 1) := by decide +kernel
theorem dX0_copyFrom_120 : decode cX0_copyFrom 120 = .ok (.aload_n 1, 1) := by decide +kernel
theorem dX0_copyFrom_121 : decode cX0_copyFrom 121 = .ok (.getfield 57, 3) := by decide +kernel
theorem dX0_copyFrom_124 : decode cX0_copyFrom 124 = .ok (.putfield 57, 3) := by decide +kernel
theorem dX0_copyFrom_127 : decode cX0_copyFrom 127 = .ok (.aload_n 0, 1) := by decide +kernel
theorem dX0_copyFrom_128 : decode cX0_copyFrom 128 = .ok (.aload_n 1, 1) := by decide +kernel
theorem dX0_copyFrom_129 : decode cX0_copyFrom 129 = .ok (.getfield 60, 3) := by decide +kernel
theorem dX0_copyFrom_132 : decode cX0_copyFrom 132 = .ok (.putfield 60, 3) := by decide +kernel
theorem dX0_copyFrom_135 : decode cX0_copyFrom 135 = .ok (.aload_n 0, 1) := by decide +kernel
theorem dX0_copyFrom_136 : decode cX0_copyFrom 136 = .ok (.aload_n 1, 1) := by decide +kernel
theorem dX0_copyFrom_137 : decode cX0_copyFrom 137 = .ok (.getfield 63, 3) := by decide +kernel
theorem dX0_copyFrom_140 : decode cX0_copyFrom 140 = .ok (.putfield 63, 3) := by decide +kernel
theorem dX0_copyFrom_143 : decode cX0_copyFrom 143 = .ok (.aload_n 0, 1) := by decide +kernel
theorem dX0_copyFrom_144 : decode cX0_copyFrom 144 = .ok (.aload_n 1, 1) := by decide +kernel
theorem dX0_copyFrom_145 : decode cX0_copyFrom 145 = .ok (.getfield 66, 3) := by decide +kernel
theorem dX0_copyFrom_148 : decode cX0_copyFrom 148 = .ok (.putfield 66, 3) := by decide +kernel
theorem dX0_copyFrom_151 : decode cX0_copyFrom 151 = .ok (.aload_n 0, 1) := by decide +kernel
theorem dX0_copyFrom_152 : decode cX0_copyFrom 152 = .ok (.aload_n 1, 1) := by decide +kernel
theorem dX0_copyFrom_153 : decode cX0_copyFrom 153 = .ok (.getfield 74, 3) := by decide +kernel
theorem dX0_copyFrom_156 : decode cX0_copyFrom 156 = .ok (.putfield 74, 3) := by decide +kernel
theorem dX0_copyFrom_159 : decode cX0_copyFrom 159 = .ok (.aload_n 0, 1) := by decide +kernel
theorem dX0_copyFrom_160 : decode cX0_copyFrom 160 = .ok (.aload_n 1, 1) := by decide +kernel
theorem dX0_copyFrom_161 : decode cX0_copyFrom 161 = .ok (.getfield 78, 3) := by decide +kernel
theorem dX0_copyFrom_164 : decode cX0_copyFrom 164 = .ok (.putfield 78, 3) := by decide +kernel
theorem dX0_copyFrom_167 : decode cX0_copyFrom 167 = .ok (.aload_n 0, 1) := by decide +kernel
theorem dX0_copyFrom_168 : decode cX0_copyFrom 168 = .ok (.aload_n 1, 1) := by decide +kernel
theorem dX0_copyFrom_169 : decode cX0_copyFrom 169 = .ok (.getfield 82, 3) := by decide +kernel
theorem dX0_copyFrom_172 : decode cX0_copyFrom 172 = .ok (.putfield 82, 3) := by decide +kernel
theorem dX0_copyFrom_175 : decode cX0_copyFrom 175 = .ok (.aload_n 0, 1) := by decide +kernel
theorem dX0_copyFrom_176 : decode cX0_copyFrom 176 = .ok (.aload_n 1, 1) := by decide +kernel
theorem dX0_copyFrom_177 : decode cX0_copyFrom 177 = .ok (.getfield 83, 3) := by decide +kernel
theorem dX0_copyFrom_180 : decode cX0_copyFrom 180 = .ok (.putfield 83, 3) := by decide +kernel
theorem dX0_copyFrom_183 : decode cX0_copyFrom 183 = .ok (.aload_n 0, 1) := by decide +kernel
theorem dX0_copyFrom_184 : decode cX0_copyFrom 184 = .ok (.aload_n 1, 1) := by decide +kernel
theorem dX0_copyFrom_185 : decode cX0_copyFrom 185 = .ok (.getfield 86, 3) := by decide +kernel
theorem dX0_copyFrom_188 : decode cX0_copyFrom 188 = .ok (.putfield 86, 3) := by decide +kernel
theorem dX0_copyFrom_191 : decode cX0_copyFrom 191 = .ok (.return_, 1) := by decide +kernel
theorem dX0_creditInterest_0 : decode cX0_creditInterest 0 = .ok (.ldc2_w 195, 3) := by decide +kernel
theorem dX0_creditInterest_3 : decode cX0_creditInterest 3 = .ok (.aload_n 0, 1) := by decide +kernel
theorem dX0_creditInterest_4 : decode cX0_creditInterest 4 = .ok (.getfield 78, 3) := by decide +kernel
theorem dX0_creditInterest_7 : decode cX0_creditInterest 7 = .ok (.i2l, 1) := by decide +kernel
theorem dX0_creditInterest_8 : decode cX0_creditInterest 8 = .ok (.lmul, 1) := by decide +kernel
theorem dX0_creditInterest_9 : decode cX0_creditInterest 9 = .ok (.lstore_n 1, 1) := by decide +kernel
theorem dX0_creditInterest_10 : decode cX0_creditInterest 10 = .ok (.lload_n 1, 1) := by decide +kernel
theorem dX0_creditInterest_11 : decode cX0_creditInterest 11 = .ok (.lconst 0, 1) := by decide +kernel
theorem dX0_creditInterest_12 : decode cX0_creditInterest 12 = .ok (.lcmp, 1) := by decide +kernel
theorem dX0_creditInterest_13 : decode cX0_creditInterest 13 = .ok (.ifCond .gt 4, 3) := by decide +kernel
theorem dX0_creditInterest_16 : decode cX0_creditInterest 16 = .ok (.return_, 1) := by decide +kernel
theorem dX0_creditInterest_17 : decode cX0_creditInterest 17 = .ok (.aload_n 0, 1) := by decide +kernel
theorem dX0_creditInterest_18 : decode cX0_creditInterest 18 = .ok (.getfield 57, 3) := by decide +kernel
theorem dX0_creditInterest_21 : decode cX0_creditInterest 21 = .ok (.lload_n 1, 1) := by decide +kernel
theorem dX0_creditInterest_22 : decode cX0_creditInterest 22 = .ok (.ldiv, 1) := by decide +kernel
theorem dX0_creditInterest_23 : decode cX0_creditInterest 23 = .ok (.lstore_n 3, 1) := by decide +kernel
theorem dX0_creditInterest_24 : decode cX0_creditInterest 24 = .ok (.aload_n 0, 1) := by decide +kernel
theorem dX0_creditInterest_25 : decode cX0_creditInterest 25 = .ok (.dup, 1) := by decide +kernel
theorem dX0_creditInterest_26 : decode cX0_creditInterest 26 = .ok (.getfield 57, 3) := by decide +kernel
theorem dX0_creditInterest_29 : decode cX0_creditInterest 29 = .ok (.lload_n 3, 1) := by decide +kernel
theorem dX0_creditInterest_30 : decode cX0_creditInterest 30 = .ok (.lload_n 1, 1) := by decide +kernel
theorem dX0_creditInterest_31 : decode cX0_creditInterest 31 = .ok (.lmul, 1) := by decide +kernel
theorem dX0_creditInterest_32 : decode cX0_creditInterest 32 = .ok (.lsub, 1) := by decide +kernel
theorem dX0_creditInterest_33 : decode cX0_creditInterest 33 = .ok (.putfield 57, 3) := by decide +kernel
theorem dX0_creditInterest_36 : decode cX0_creditInterest 36 = .ok (.aload_n 0, 1) := by decide +kernel
theorem dX0_creditInterest_37 : decode cX0_creditInterest 37 = .ok (.dup, 1) := by decide +kernel
theorem dX0_creditInterest_38 : decode cX0_creditInterest 38 = .ok (.getfield 50, 3) := by decide +kernel
theorem dX0_creditInterest_41 : decode cX0_creditInterest 41 = .ok (.lload_n 3, 1) := by decide +kernel
theorem dX0_creditInterest_42 : decode cX0_creditInterest 42 = .ok (.ladd, 1) := by decide +kernel
theorem dX0_creditInterest_43 : decode cX0_creditInterest 43 = .ok (.putfield 50, 3) := by decide +kernel
theorem dX0_creditInterest_46 : decode cX0_creditInterest 46 = .ok (.aload_n 0, 1) := by decide +kernel
theorem dX0_creditInterest_47 : decode cX0_creditInterest 47 = .ok (.dup, 1) := by decide +kernel
theorem dX0_creditInterest_48 : decode cX0_creditInterest 48 = .ok (.getfield 54, 3) := by decide +kernel
theorem dX0_creditInterest_51 : decode cX0_creditInterest 51 = .ok (.lload_n 3, 1) := by decide +kernel
theorem dX0_creditInterest_52 : decode cX0_creditInterest 52 = .ok (.ladd, 1) := by decide +kernel
theorem dX0_creditInterest_53 : decode cX0_creditInterest 53 = .ok (.putfield 54, 3) := by decide +kernel
theorem dX0_creditInterest_56 : decode cX0_creditInterest 56 = .ok (.aload_n 0, 1) := by decide +kernel
theorem dX0_creditInterest_57 : decode cX0_creditInterest 57 = .ok (.getfield 12, 3) := by decide +kernel
theorem dX0_creditInterest_60 : decode cX0_creditInterest 60 = .ok (.iconst 3, 1) := by decide +kernel
theorem dX0_creditInterest_61 : decode cX0_creditInterest 61 = .ok (.aload_n 0, 1) := by decide +kernel
theorem dX0_creditInterest_62 : decode cX0_creditInterest 62 = .ok (.getfield 40, 3) := by decide +kernel
theorem dX0_creditInterest_65 : decode cX0_creditInterest 65 = .ok (.lload_n 3, 1) := by decide +kernel
theorem dX0_creditInterest_66 : decode cX0_creditInterest 66 = .ok (.l2i, 1) := by decide +kernel
theorem dX0_creditInterest_67 : decode cX0_creditInterest 67 = .ok (.iconst (-1), 1) := by decide +kernel
theorem dX0_creditInterest_68 : decode cX0_creditInterest 68 = .ok (.invokevirtual 151, 3) := by decide +kernel
theorem dX0_creditInterest_71 : decode cX0_creditInterest 71 = .ok (.return_, 1) := by decide +kernel
theorem dX0_doneSet_0 : decode cX0_doneSet 0 = .ok (.iconst 0, 1) := by decide +kernel
theorem dX0_doneSet_1 : decode cX0_doneSet 1 = .ok (.istore_n 1, 1) := by decide +kernel
theorem dX0_doneSet_2 : decode cX0_doneSet 2 = .ok (.iconst 0, 1) := by decide +kernel
theorem dX0_doneSet_3 : decode cX0_doneSet 3 = .ok (.istore_n 2, 1) := by decide +kernel
theorem dX0_doneSet_4 : decode cX0_doneSet 4 = .ok (.iload_n 2, 1) := by decide +kernel
theorem dX0_doneSet_5 : decode cX0_doneSet 5 = .ok (.aload_n 0, 1) := by decide +kernel
theorem dX0_doneSet_6 : decode cX0_doneSet 6 = .ok (.getfield 31, 3) := by decide +kernel
theorem dX0_doneSet_9 : decode cX0_doneSet 9 = .ok (.getfield 109, 3) := by decide +kernel
theorem dX0_doneSet_12 : decode cX0_doneSet 12 = .ok (.if_icmp .ge 35, 3) := by decide +kernel
theorem dX0_doneSet_15 : decode cX0_doneSet 15 = .ok (.aload_n 0, 1) := by decide +kernel
theorem dX0_doneSet_16 : decode cX0_doneSet 16 = .ok (.getfield 18, 3) := by decide +kernel
theorem dX0_doneSet_19 : decode cX0_doneSet 19 = .ok (.iload_n 2, 1) := by decide +kernel
theorem dX0_doneSet_20 : decode cX0_doneSet 20 = .ok (.iaload, 1) := by decide +kernel
theorem dX0_doneSet_21 : decode cX0_doneSet 21 = .ok (.iconst 3, 1) := by decide +kernel
theorem dX0_doneSet_22 : decode cX0_doneSet 22 = .ok (.if_icmp .eq 13, 3) := by decide +kernel
theorem dX0_doneSet_25 : decode cX0_doneSet 25 = .ok (.aload_n 0, 1) := by decide +kernel
theorem dX0_doneSet_26 : decode cX0_doneSet 26 = .ok (.getfield 18, 3) := by decide +kernel
theorem dX0_doneSet_29 : decode cX0_doneSet 29 = .ok (.iload_n 2, 1) := by decide +kernel
theorem dX0_doneSet_30 : decode cX0_doneSet 30 = .ok (.iaload, 1) := by decide +kernel
theorem dX0_doneSet_31 : decode cX0_doneSet 31 = .ok (.iconst 4, 1) := by decide +kernel
theorem dX0_doneSet_32 : decode cX0_doneSet 32 = .ok (.if_icmp .ne 9, 3) := by decide +kernel
theorem dX0_doneSet_35 : decode cX0_doneSet 35 = .ok (.iload_n 1, 1) := by decide +kernel
theorem dX0_doneSet_36 : decode cX0_doneSet 36 = .ok (.iconst 1, 1) := by decide +kernel
theorem dX0_doneSet_37 : decode cX0_doneSet 37 = .ok (.iload_n 2, 1) := by decide +kernel
theorem dX0_doneSet_38 : decode cX0_doneSet 38 = .ok (.ishl, 1) := by decide +kernel
theorem dX0_doneSet_39 : decode cX0_doneSet 39 = .ok (.ior, 1) := by decide +kernel
theorem dX0_doneSet_40 : decode cX0_doneSet 40 = .ok (.istore_n 1, 1) := by decide +kernel
theorem dX0_doneSet_41 : decode cX0_doneSet 41 = .ok (.iinc 2 1, 3) := by decide +kernel
theorem dX0_doneSet_44 : decode cX0_doneSet 44 = .ok (.goto (-40), 3) := by decide +kernel
theorem dX0_doneSet_47 : decode cX0_doneSet 47 = .ok (.iload_n 1, 1) := by decide +kernel
theorem dX0_doneSet_48 : decode cX0_doneSet 48 = .ok (.ireturn, 1) := by decide +kernel
theorem dX0_isShort_0 : decode cX0_isShort 0 = .ok (.iconst 0, 1) := by decide +kernel
theorem dX0_isShort_1 : decode cX0_isShort 1 = .ok (.istore_n 1, 1) := by decide +kernel
theorem dX0_isShort_2 : decode cX0_isShort 2 = .ok (.iload_n 1, 1) := by decide +kernel
theorem dX0_isShort_3 : decode cX0_isShort 3 = .ok (.aload_n 0, 1) := by decide +kernel
theorem dX0_isShort_4 : decode cX0_isShort 4 = .ok (.getfield 31, 3) := by decide +kernel
theorem dX0_isShort_7 : decode cX0_isShort 7 = .ok (.getfield 109, 3) := by decide +kernel
theorem dX0_isShort_10 : decode cX0_isShort 10 = .ok (.if_icmp .ge 27, 3) := by decide +kernel
theorem dX0_isShort_13 : decode cX0_isShort 13 = .ok (.aload_n 0, 1) := by decide +kernel
theorem dX0_isShort_14 : decode cX0_isShort 14 = .ok (.iload_n 1, 1) := by decide +kernel
theorem dX0_isShort_15 : decode cX0_isShort 15 = .ok (.invokevirtual 141, 3) := by decide +kernel
theorem dX0_isShort_18 : decode cX0_isShort 18 = .ok (.ifCond .eq 13, 3) := by decide +kernel
theorem dX0_isShort_21 : decode cX0_isShort 21 = .ok (.aload_n 0, 1) := by decide +kernel
theorem dX0_isShort_22 : decode cX0_isShort 22 = .ok (.iload_n 1, 1) := by decide +kernel
theorem dX0_isShort_23 : decode cX0_isShort 23 = .ok (.invokevirtual 144, 3) := by decide +kernel
theorem dX0_isShort_26 : decode cX0_isShort 26 = .ok (.ifCond .le 5, 3) := by decide +kernel
theorem dX0_isShort_29 : decode cX0_isShort 29 = .ok (.iconst 1, 1) := by decide +kernel
theorem dX0_isShort_30 : decode cX0_isShort 30 = .ok (.ireturn, 1) := by decide +kernel
theorem dX0_isShort_31 : decode cX0_isShort 31 = .ok (.iinc 1 1, 3) := by decide +kernel
theorem dX0_isShort_34 : decode cX0_isShort 34 = .ok (.goto (-32), 3) := by decide +kernel
theorem dX0_isShort_37 : decode cX0_isShort 37 = .ok (.iconst 0, 1) := by decide +kernel
theorem dX0_isShort_38 : decode cX0_isShort 38 = .ok (.ireturn, 1) := by decide +kernel
theorem dX0_liveDay_0 : decode cX0_liveDay 0 = .ok (.aload_n 0, 1) := by decide +kernel
theorem dX0_liveDay_1 : decode cX0_liveDay 1 = .ok (.dup, 1) := by decide +kernel
theorem dX0_liveDay_2 : decode cX0_liveDay 2 = .ok (.getfield 57, 3) := by decide +kernel
theorem dX0_liveDay_5 : decode cX0_liveDay 5 = .ok (.aload_n 0, 1) := by decide +kernel
theorem dX0_liveDay_6 : decode cX0_liveDay 6 = .ok (.getfield 47, 3) := by decide +kernel
theorem dX0_liveDay_9 : decode cX0_liveDay 9 = .ok (.i2l, 1) := by decide +kernel
theorem dX0_liveDay_10 : decode cX0_liveDay 10 = .ok (.aload_n 0, 1) := by decide +kernel
theorem dX0_liveDay_11 : decode cX0_liveDay 11 = .ok (.getfield 50, 3) := by decide +kernel
theorem dX0_liveDay_14 : decode cX0_liveDay 14 = .ok (.ladd, 1) := by decide +kernel
theorem dX0_liveDay_15 : decode cX0_liveDay 15 = .ok (.aload_n 0, 1) := by decide +kernel
theorem dX0_liveDay_16 : decode cX0_liveDay 16 = .ok (.getfield 74, 3) := by decide +kernel
theorem dX0_liveDay_19 : decode cX0_liveDay 19 = .ok (.i2l, 1) := by decide +kernel
theorem dX0_liveDay_20 : decode cX0_liveDay 20 = .ok (.lmul, 1) := by decide +kernel
theorem dX0_liveDay_21 : decode cX0_liveDay 21 = .ok (.ladd, 1) := by decide +kernel
theorem dX0_liveDay_22 : decode cX0_liveDay 22 = .ok (.putfield 57, 3) := by decide +kernel
theorem dX0_liveDay_25 : decode cX0_liveDay 25 = .ok (.aload_n 0, 1) := by decide +kernel
theorem dX0_liveDay_26 : decode cX0_liveDay 26 = .ok (.dup, 1) := by decide +kernel
theorem dX0_liveDay_27 : decode cX0_liveDay 27 = .ok (.getfield 40, 3) := by decide +kernel
theorem dX0_liveDay_30 : decode cX0_liveDay 30 = .ok (.iconst 1, 1) := by decide +kernel
theorem dX0_liveDay_31 : decode cX0_liveDay 31 = .ok (.iadd, 1) := by decide +kernel
theorem dX0_liveDay_32 : decode cX0_liveDay 32 = .ok (.putfield 40, 3) := by decide +kernel
theorem dX0_liveDay_35 : decode cX0_liveDay 35 = .ok (.aload_n 0, 1) := by decide +kernel
theorem dX0_liveDay_36 : decode cX0_liveDay 36 = .ok (.getfield 40, 3) := by decide +kernel
theorem dX0_liveDay_39 : decode cX0_liveDay 39 = .ok (.bipush 30, 2) := by decide +kernel
theorem dX0_liveDay_41 : decode cX0_liveDay 41 = .ok (.irem, 1) := by decide +kernel
theorem dX0_liveDay_42 : decode cX0_liveDay 42 = .ok (.ifCond .ne 7, 3) := by decide +kernel
theorem dX0_liveDay_45 : decode cX0_liveDay 45 = .ok (.aload_n 0, 1) := by decide +kernel
theorem dX0_liveDay_46 : decode cX0_liveDay 46 = .ok (.invokevirtual 186, 3) := by decide +kernel
theorem dX0_liveDay_49 : decode cX0_liveDay 49 = .ok (.aload_n 0, 1) := by decide +kernel
theorem dX0_liveDay_50 : decode cX0_liveDay 50 = .ok (.invokevirtual 189, 3) := by decide +kernel
theorem dX0_liveDay_53 : decode cX0_liveDay 53 = .ok (.aload_n 0, 1) := by decide +kernel
theorem dX0_liveDay_54 : decode cX0_liveDay 54 = .ok (.invokevirtual 192, 3) := by decide +kernel
theorem dX0_liveDay_57 : decode cX0_liveDay 57 = .ok (.return_, 1) := by decide +kernel
theorem dX0_liveDays_0 : decode cX0_liveDays 0 = .ok (.iconst 0, 1) := by decide +kernel
theorem dX0_liveDays_1 : decode cX0_liveDays 1 = .ok (.istore_n 2, 1) := by decide +kernel
theorem dX0_liveDays_2 : decode cX0_liveDays 2 = .ok (.iload_n 2, 1) := by decide +kernel
theorem dX0_liveDays_3 : decode cX0_liveDays 3 = .ok (.iload_n 1, 1) := by decide +kernel
theorem dX0_liveDays_4 : decode cX0_liveDays 4 = .ok (.if_icmp .ge 13, 3) := by decide +kernel
theorem dX0_liveDays_7 : decode cX0_liveDays 7 = .ok (.aload_n 0, 1) := by decide +kernel
theorem dX0_liveDays_8 : decode cX0_liveDays 8 = .ok (.invokevirtual 183, 3) := by decide +kernel
theorem dX0_liveDays_11 : decode cX0_liveDays 11 = .ok (.iinc 2 1, 3) := by decide +kernel
theorem dX0_liveDays_14 : decode cX0_liveDays 14 = .ok (.goto (-12), 3) := by decide +kernel
theorem dX0_liveDays_17 : decode cX0_liveDays 17 = .ok (.return_, 1) := by decide +kernel
theorem dX0_makeDue_0 : decode cX0_makeDue 0 = .ok (.aload_n 0, 1) := by decide +kernel
theorem dX0_makeDue_1 : decode cX0_makeDue 1 = .ok (.invokevirtual 123, 3) := by decide +kernel
theorem dX0_makeDue_4 : decode cX0_makeDue 4 = .ok (.istore_n 1, 1) := by decide +kernel
theorem dX0_makeDue_5 : decode cX0_makeDue 5 = .ok (.iconst 0, 1) := by decide +kernel
theorem dX0_makeDue_6 : decode cX0_makeDue 6 = .ok (.istore_n 2, 1) := by decide +kernel
theorem dX0_makeDue_7 : decode cX0_makeDue 7 = .ok (.iload_n 2, 1) := by decide +kernel
theorem dX0_makeDue_8 : decode cX0_makeDue 8 = .ok (.aload_n 0, 1) := by decide +kernel
theorem dX0_makeDue_9 : decode cX0_makeDue 9 = .ok (.getfield 31, 3) := by decide +kernel
theorem dX0_makeDue_12 : decode cX0_makeDue 12 = .ok (.getfield 109, 3) := by decide +kernel
theorem dX0_makeDue_15 : decode cX0_makeDue 15 = .ok (.if_icmp .ge 52, 3) := by decide +kernel
theorem dX0_makeDue_18 : decode cX0_makeDue 18 = .ok (.aload_n 0, 1) := by decide +kernel
theorem dX0_makeDue_19 : decode cX0_makeDue 19 = .ok (.getfield 18, 3) := by decide +kernel
theorem dX0_makeDue_22 : decode cX0_makeDue 22 = .ok (.iload_n 2, 1) := by decide +kernel
theorem dX0_makeDue_23 : decode cX0_makeDue 23 = .ok (.iaload, 1) := by decide +kernel
theorem dX0_makeDue_24 : decode cX0_makeDue 24 = .ok (.ifCond .ne 37, 3) := by decide +kernel
theorem dX0_makeDue_27 : decode cX0_makeDue 27 = .ok (.aload_n 0, 1) := by decide +kernel
theorem dX0_makeDue_28 : decode cX0_makeDue 28 = .ok (.iload_n 2, 1) := by decide +kernel
theorem dX0_makeDue_29 : decode cX0_makeDue 29 = .ok (.aload_n 0, 1) := by decide +kernel
theorem dX0_makeDue_30 : decode cX0_makeDue 30 = .ok (.getfield 40, 3) := by decide +kernel
theorem dX0_makeDue_33 : decode cX0_makeDue 33 = .ok (.aload_n 0, 1) := by decide +kernel
theorem dX0_makeDue_34 : decode cX0_makeDue 34 = .ok (.getfield 83, 3) := by decide +kernel
theorem dX0_makeDue_37 : decode cX0_makeDue 37 = .ok (.iload_n 1, 1) := by decide +kernel
theorem dX0_makeDue_38 : decode cX0_makeDue 38 = .ok (.invokevirtual 127, 3) := by decide +kernel
theorem dX0_makeDue_41 : decode cX0_makeDue 41 = .ok (.ifCond .eq 20, 3) := by decide +kernel
theorem dX0_makeDue_44 : decode cX0_makeDue 44 = .ok (.aload_n 0, 1) := by decide +kernel
theorem dX0_makeDue_45 : decode cX0_makeDue 45 = .ok (.getfield 18, 3) := by decide +kernel
theorem dX0_makeDue_48 : decode cX0_makeDue 48 = .ok (.iload_n 2, 1) := by decide +kernel
theorem dX0_makeDue_49 : decode cX0_makeDue 49 = .ok (.iconst 1, 1) := by decide +kernel
theorem dX0_makeDue_50 : decode cX0_makeDue 50 = .ok (.iastore, 1) := by decide +kernel
theorem dX0_makeDue_51 : decode cX0_makeDue 51 = .ok (.aload_n 0, 1) := by decide +kernel
theorem dX0_makeDue_52 : decode cX0_makeDue 52 = .ok (.getfield 28, 3) := by decide +kernel
theorem dX0_makeDue_55 : decode cX0_makeDue 55 = .ok (.iload_n 2, 1) := by decide +kernel
theorem dX0_makeDue_56 : decode cX0_makeDue 56 = .ok (.aload_n 0, 1) := by decide +kernel
theorem dX0_makeDue_57 : decode cX0_makeDue 57 = .ok (.getfield 40, 3) := by decide +kernel
theorem dX0_makeDue_60 : decode cX0_makeDue 60 = .ok (.iastore, 1) := by decide +kernel
theorem dX0_makeDue_61 : decode cX0_makeDue 61 = .ok (.iinc 2 1, 3) := by decide +kernel
theorem dX0_makeDue_64 : decode cX0_makeDue 64 = .ok (.goto (-57), 3) := by decide +kernel
theorem dX0_makeDue_67 : decode cX0_makeDue 67 = .ok (.return_, 1) := by decide +kernel
theorem dX0_payDue_0 : decode cX0_payDue 0 = .ok (.iconst 0, 1) := by decide +kernel
theorem dX0_payDue_1 : decode cX0_payDue 1 = .ok (.istore_n 1, 1) := by decide +kernel
theorem dX0_payDue_2 : decode cX0_payDue 2 = .ok (.iload_n 1, 1) := by decide +kernel
theorem dX0_payDue_3 : decode cX0_payDue 3 = .ok (.aload_n 0, 1) := by decide +kernel
theorem dX0_payDue_4 : decode cX0_payDue 4 = .ok (.getfield 31, 3) := by decide +kernel
theorem dX0_payDue_7 : decode cX0_payDue 7 = .ok (.getfield 109, 3) := by decide +kernel
theorem dX0_payDue_10 : decode cX0_payDue 10 = .ok (.if_icmp .ge 51, 3) := by decide +kernel
theorem dX0_payDue_13 : decode cX0_payDue 13 = .ok (.aload_n 0, 1) := by decide +kernel
theorem dX0_payDue_14 : decode cX0_payDue 14 = .ok (.getfield 31, 3) := by decide +kernel
theorem dX0_payDue_17 : decode cX0_payDue 17 = .ok (.getfield 138, 3) := by decide +kernel
theorem dX0_payDue_20 : decode cX0_payDue 20 = .ok (.iload_n 1, 1) := by decide +kernel
theorem dX0_payDue_21 : decode cX0_payDue 21 = .ok (.iaload, 1) := by decide +kernel
theorem dX0_payDue_22 : decode cX0_payDue 22 = .ok (.istore_n 2, 1) := by decide +kernel
theorem dX0_payDue_23 : decode cX0_payDue 23 = .ok (.aload_n 0, 1) := by decide +kernel
theorem dX0_payDue_24 : decode cX0_payDue 24 = .ok (.iload_n 2, 1) := by decide +kernel
theorem dX0_payDue_25 : decode cX0_payDue 25 = .ok (.invokevirtual 144, 3) := by decide +kernel
theorem dX0_payDue_28 : decode cX0_payDue 28 = .ok (.aload_n 0, 1) := by decide +kernel
theorem dX0_payDue_29 : decode cX0_payDue 29 = .ok (.invokevirtual 158, 3) := by decide +kernel
theorem dX0_payDue_32 : decode cX0_payDue 32 = .ok (.invokestatic 161, 3) := by decide +kernel
theorem dX0_payDue_35 : decode cX0_payDue 35 = .ok (.istore_n 3, 1) := by decide +kernel
theorem dX0_payDue_36 : decode cX0_payDue 36 = .ok (.aload_n 0, 1) := by decide +kernel
theorem dX0_payDue_37 : decode cX0_payDue 37 = .ok (.iload_n 2, 1) := by decide +kernel
theorem dX0_payDue_38 : decode cX0_payDue 38 = .ok (.invokevirtual 141, 3) := by decide +kernel
theorem dX0_payDue_41 : decode cX0_payDue 41 = .ok (.ifCond .eq 14, 3) := by decide +kernel
theorem dX0_payDue_44 : decode cX0_payDue 44 = .ok (.iload_n 3, 1) := by decide +kernel
theorem dX0_payDue_45 : decode cX0_payDue 45 = .ok (.ifCond .le 10, 3) := by decide +kernel
theorem dX0_payDue_48 : decode cX0_payDue 48 = .ok (.aload_n 0, 1) := by decide +kernel
theorem dX0_payDue_49 : decode cX0_payDue 49 = .ok (.iload_n 2, 1) := by decide +kernel
theorem dX0_payDue_50 : decode cX0_payDue 50 = .ok (.iload_n 3, 1) := by decide +kernel
theorem dX0_payDue_51 : decode cX0_payDue 51 = .ok (.invokevirtual 177, 3) := by decide +kernel
theorem dX0_payDue_54 : decode cX0_payDue 54 = .ok (.pop, 1) := by decide +kernel
theorem dX0_payDue_55 : decode cX0_payDue 55 = .ok (.iinc 1 1, 3) := by decide +kernel
theorem dX0_payDue_58 : decode cX0_payDue 58 = .ok (.goto (-56), 3) := by decide +kernel
theorem dX0_payDue_61 : decode cX0_payDue 61 = .ok (.return_, 1) := by decide +kernel
theorem dX0_payments_0 : decode cX0_payments 0 = .ok (.aload_n 0, 1) := by decide +kernel
theorem dX0_payments_1 : decode cX0_payments 1 = .ok (.getfield 60, 3) := by decide +kernel
theorem dX0_payments_4 : decode cX0_payments 4 = .ok (.aload_n 0, 1) := by decide +kernel
theorem dX0_payments_5 : decode cX0_payments 5 = .ok (.getfield 63, 3) := by decide +kernel
theorem dX0_payments_8 : decode cX0_payments 8 = .ok (.iadd, 1) := by decide +kernel
theorem dX0_payments_9 : decode cX0_payments 9 = .ok (.ireturn, 1) := by decide +kernel
theorem dX2_copyFrom_0 : decode cX2_copyFrom 0 = .ok (.aload_n 1, 1) := by decide +kernel
theorem dX2_copyFrom_1 : decode cX2_copyFrom 1 = .ok (.getfield 11, 3) := by decide +kernel
theorem dX2_copyFrom_4 : decode cX2_copyFrom 4 = .ok (.iconst 0, 1) := by decide +kernel
theorem dX2_copyFrom_5 : decode cX2_copyFrom 5 = .ok (.aload_n 0, 1) := by decide +kernel
theorem dX2_copyFrom_6 : decode cX2_copyFrom 6 = .ok (.getfield 11, 3) := by decide +kernel
theorem dX2_copyFrom_9 : decode cX2_copyFrom 9 = .ok (.iconst 0, 1) := by decide +kernel
theorem dX2_copyFrom_10 : decode cX2_copyFrom 10 = .ok (.aload_n 0, 1) := by decide +kernel
theorem dX2_copyFrom_11 : decode cX2_copyFrom 11 = .ok (.getfield 11, 3) := by decide +kernel
theorem dX2_copyFrom_14 : decode cX2_copyFrom 14 = .ok (.arraylength, 1) := by decide +kernel
theorem dX2_copyFrom_15 : decode cX2_copyFrom 15 = .ok (.invokestatic 22, 3) := by decide +kernel
theorem dX2_copyFrom_18 : decode cX2_copyFrom 18 = .ok (.aload_n 0, 1) := by decide +kernel
theorem dX2_copyFrom_19 : decode cX2_copyFrom 19 = .ok (.aload_n 1, 1) := by decide +kernel
theorem dX2_copyFrom_20 : decode cX2_copyFrom 20 = .ok (.getfield 15, 3) := by decide +kernel
theorem dX2_copyFrom_23 : decode cX2_copyFrom 23 = .ok (.putfield 15, 3) := by decide +kernel
theorem dX2_copyFrom_26 : decode cX2_copyFrom 26 = .ok (.aload_n 0, 1) := by decide +kernel
theorem dX2_copyFrom_27 : decode cX2_copyFrom 27 = .ok (.aload_n 1, 1) := by decide +kernel
theorem dX2_copyFrom_28 : decode cX2_copyFrom 28 = .ok (.getfield 19, 3) := by decide +kernel
theorem dX2_copyFrom_31 : decode cX2_copyFrom 31 = .ok (.putfield 19, 3) := by decide +kernel
theorem dX2_copyFrom_34 : decode cX2_copyFrom 34 = .ok (.return_, 1) := by decide +kernel
theorem dX2_enter_0 : decode cX2_enter 0 = .ok (.iload_n 3, 1) := by decide +kernel
theorem dX2_enter_1 : decode cX2_enter 1 = .ok (.ifCond .gt 4, 3) := by decide +kernel
theorem dX2_enter_4 : decode cX2_enter 4 = .ok (.return_, 1) := by decide +kernel
theorem dX2_enter_5 : decode cX2_enter 5 = .ok (.aload_n 0, 1) := by decide +kernel
theorem dX2_enter_6 : decode cX2_enter 6 = .ok (.getfield 15, 3) := by decide +kernel
theorem dX2_enter_9 : decode cX2_enter 9 = .ok (.iconst 4, 1) := by decide +kernel
theorem dX2_enter_10 : decode cX2_enter 10 = .ok (.imul, 1) := by decide +kernel
theorem dX2_enter_11 : decode cX2_enter 11 = .ok (.istore 5, 2) := by decide +kernel
theorem dX2_enter_13 : decode cX2_enter 13 = .ok (.aload_n 0, 1) := by decide +kernel
theorem dX2_enter_14 : decode cX2_enter 14 = .ok (.getfield 11, 3) := by decide +kernel
theorem dX2_enter_17 : decode cX2_enter 17 = .ok (.iload 5, 2) := by decide +kernel
theorem dX2_enter_19 : decode cX2_enter 19 = .ok (.iconst 0, 1) := by decide +kernel
theorem dX2_enter_20 : decode cX2_enter 20 = .ok (.iadd, 1) := by decide +kernel
theorem dX2_enter_21 : decode cX2_enter 21 = .ok (.iload_n 1, 1) := by decide +kernel
theorem dX2_enter_22 : decode cX2_enter 22 = .ok (.iastore, 1) := by decide +kernel
theorem dX2_enter_23 : decode cX2_enter 23 = .ok (.aload_n 0, 1) := by decide +kernel
theorem dX2_enter_24 : decode cX2_enter 24 = .ok (.getfield 11, 3) := by decide +kernel
theorem dX2_enter_27 : decode cX2_enter 27 = .ok (.iload 5, 2) := by decide +kernel
theorem dX2_enter_29 : decode cX2_enter 29 = .ok (.iconst 1, 1) := by decide +kernel
theorem dX2_enter_30 : decode cX2_enter 30 = .ok (.iadd, 1) := by decide +kernel
theorem dX2_enter_31 : decode cX2_enter 31 = .ok (.iload_n 2, 1) := by decide +kernel
theorem dX2_enter_32 : decode cX2_enter 32 = .ok (.iastore, 1) := by decide +kernel
theorem dX2_enter_33 : decode cX2_enter 33 = .ok (.aload_n 0, 1) := by decide +kernel
theorem dX2_enter_34 : decode cX2_enter 34 = .ok (.getfield 11, 3) := by decide +kernel
theorem dX2_enter_37 : decode cX2_enter 37 = .ok (.iload 5, 2) := by decide +kernel
theorem dX2_enter_39 : decode cX2_enter 39 = .ok (.iconst 2, 1) := by decide +kernel
theorem dX2_enter_40 : decode cX2_enter 40 = .ok (.iadd, 1) := by decide +kernel
theorem dX2_enter_41 : decode cX2_enter 41 = .ok (.iload_n 3, 1) := by decide +kernel
theorem dX2_enter_42 : decode cX2_enter 42 = .ok (.iastore, 1) := by decide +kernel
theorem dX2_enter_43 : decode cX2_enter 43 = .ok (.aload_n 0, 1) := by decide +kernel
theorem dX2_enter_44 : decode cX2_enter 44 = .ok (.getfield 11, 3) := by decide +kernel
theorem dX2_enter_47 : decode cX2_enter 47 = .ok (.iload 5, 2) := by decide +kernel
theorem dX2_enter_49 : decode cX2_enter 49 = .ok (.iconst 3, 1) := by decide +kernel
theorem dX2_enter_50 : decode cX2_enter 50 = .ok (.iadd, 1) := by decide +kernel
theorem dX2_enter_51 : decode cX2_enter 51 = .ok (.iload 4, 2) := by decide +kernel
theorem dX2_enter_53 : decode cX2_enter 53 = .ok (.iastore, 1) := by decide +kernel
theorem dX2_enter_54 : decode cX2_enter 54 = .ok (.aload_n 0, 1) := by decide +kernel
theorem dX2_enter_55 : decode cX2_enter 55 = .ok (.aload_n 0, 1) := by decide +kernel
theorem dX2_enter_56 : decode cX2_enter 56 = .ok (.getfield 15, 3) := by decide +kernel
theorem dX2_enter_59 : decode cX2_enter 59 = .ok (.iconst 1, 1) := by decide +kernel
theorem dX2_enter_60 : decode cX2_enter 60 = .ok (.iadd, 1) := by decide +kernel
theorem dX2_enter_61 : decode cX2_enter 61 = .ok (.bipush 60, 2) := by decide +kernel
theorem dX2_enter_63 : decode cX2_enter 63 = .ok (.irem, 1) := by decide +kernel
theorem dX2_enter_64 : decode cX2_enter 64 = .ok (.putfield 15, 3) := by decide +kernel
theorem dX2_enter_67 : decode cX2_enter 67 = .ok (.aload_n 0, 1) := by decide +kernel
theorem dX2_enter_68 : decode cX2_enter 68 = .ok (.aload_n 0, 1) := by decide +kernel
theorem dX2_enter_69 : decode cX2_enter 69 = .ok (.getfield 19, 3) := by decide +kernel
theorem dX2_enter_72 : decode cX2_enter 72 = .ok (.iconst 1, 1) := by decide +kernel
theorem dX2_enter_73 : decode cX2_enter 73 = .ok (.iadd, 1) := by decide +kernel
theorem dX2_enter_74 : decode cX2_enter 74 = .ok (.bipush 60, 2) := by decide +kernel
theorem dX2_enter_76 : decode cX2_enter 76 = .ok (.invokestatic 28, 3) := by decide +kernel
theorem dX2_enter_79 : decode cX2_enter 79 = .ok (.putfield 19, 3) := by decide +kernel
theorem dX2_enter_82 : decode cX2_enter 82 = .ok (.return_, 1) := by decide +kernel

set_option maxHeartbeats 4000000 in
set_option maxRecDepth 100000 in
/-- enter: nothing for an amount of 0 -/
theorem c_enter0 (l : Launch) (D : va_G) (cA : Nat → ClassId) (sa : Nat → Nat) (a1 a2 : Nat) (k d j n0 k0 : Int32) (sz : Nat) : Met l yX2_enter wsX2_enter ({ frames := 0, cells := 0, slots := 0, locals := 0 }) (va_Pc [.ref a1, .int k, .int d, .int 0, .int j] (Wd D cA sa [(a1, .inr (6, [.ref a2, .int n0, .int k0]))] sz)) (va_Qv (fun _ : Unit => True) (fun (_ : Unit) t => Wq D (va_A [(a1, .inr (6, [.ref a2, .int n0, .int k0]))] sz) [(a1, .inr (6, [.ref a2, .int n0, .int k0]))] t) (va_A [(a1, .inr (6, [.ref a2, .int n0, .int k0]))] sz)) 0 0 (va_A [(a1, .inr (6, [.ref a2, .int n0, .int k0]))] sz) := by
  refine Met.ofW (cc := cX2_enter) (maxL := 6) (ret := none) (by decide) rfl ?_
  intro p e s m args below meth c s₁ B hml hv
  obtain ⟨rfl, hsz, hP, hK, hD0, hC, hZ⟩ := hv
  have hx := B.exec
  have hb := B.bytes
  have hr := B.returns
  have hts := atoms_spec (ws := wsX2_enter) B.pre
  have hown : s.vm.findClass RX2 = some m.cls := findClass_of_methodNamed B.named
  have hlocks := B.notSynchronized
  subst hsz
  have hD := hD0.self (sz := s.heap.size)
  generalize hAe : va_A [(a1, .inr (6, [.ref a2, .int n0, .int k0]))] s.heap.size = A at hD hZ ⊢
  have hA : ∀ q : Nat, s.heap.size ≤ q → A q := fun q h => by rw [← hAe]; exact Or.inr h
  have hS : va_S A s.heap s.heap [] := va_S.rf
  have hP : va_P D vwCl [(a1, .inr (6, [.ref a2, .int n0, .int k0]))] s.heap := hP
  have hl := lv_entry ([.ref a1, .int k, .int d, .int 0, .int j]) (n := 6) (Nat.le_of_ble_eq_true rfl)
  rw [lg_entry_eq]
  generalize (lg_sl ([.ref a1, .int k, .int d, .int 0, .int j]) ++ List.replicate (6 - (lg_sl ([.ref a1, .int k, .int d, .int 0, .int j])).length) Slot.unset).toArray = ls at hl ⊢
  have hl : lv_has ls 6 [(0, .ref a1), (1, .int k), (2, .int d), (3, .int 0), (4, .int j)] := hl
  refine lv_iload_n hx hb dX2_enter_0 rfl (lv_at hl 3 rfl) ?_
  refine lv_if_gt (tgt := 5) hx hb dX2_enter_1 (by decide) (fun c9 => absurd c9 (by decide)) (fun c1 => ?_)
  have hP9 := hP.sub (ws' := [(a1, .inr (6, [.ref a2, .int n0, .int k0]))]) [0] rfl
  have hD9 := hD.sub (ws' := [(a1, .inr (6, [.ref a2, .int n0, .int k0]))]) [0] (by decide) rfl
  refine W.widen (k := 0) (n := 0) (Nat.le_of_ble_eq_true rfl) (Nat.le_of_ble_eq_true rfl) ?_
  exact W.vret hx hb hr (fun t ht hW => ⟨⟨(), rfl, trivial, by rw [ht]; exact hP9, hD9⟩, hS.F ht⟩) hS.2.2 dX2_enter_4

set_option maxHeartbeats 4000000 in
set_option maxRecDepth 100000 in
/-- enter: the first entry -/
theorem c_enter1 (l : Launch) (D : va_G) (cA : Nat → ClassId) (sa : Nat → Nat) (a1 a2 : Nat) (k d a j : Int32) (f : Nat → Int32) (sz : Nat) (h : 0 < a) : Met l yX2_enter wsX2_enter ({ frames := 1, cells := 0, slots := 0, locals := 21 }) (va_Pc [.ref a1, .int k, .int d, .int a, .int j] (Wd D cA sa [(a1, .inr (6, [.ref a2, .int 0, .int 0])), (a2, .inl (cA 0, 240, .inl f))] sz)) (va_Qv (fun _ : Unit => True) (fun (_ : Unit) t => ∃ fn10 : Nat → Int32, Wq D (va_A [(a1, .inr (6, [.ref a2, .int 0, .int 0])), (a2, .inl (cA 0, 240, .inl f))] sz) [(a1, .inr (6, [.ref a2, .int 1, .int 1])), (a2, .inl (cA 0, 240, .inl fn10))] t) (va_A [(a1, .inr (6, [.ref a2, .int 0, .int 0])), (a2, .inl (cA 0, 240, .inl f))] sz)) 0 0 (va_A [(a1, .inr (6, [.ref a2, .int 0, .int 0])), (a2, .inl (cA 0, 240, .inl f))] sz) := by
  refine Met.ofW (cc := cX2_enter) (maxL := 6) (ret := none) (by decide) rfl ?_
  intro p e s m args below meth c s₁ B hml hv
  obtain ⟨rfl, hsz, hP, hK, hD0, hC, hZ⟩ := hv
  have hx := B.exec
  have hb := B.bytes
  have hr := B.returns
  have hts := atoms_spec (ws := wsX2_enter) B.pre
  have hown : s.vm.findClass RX2 = some m.cls := findClass_of_methodNamed B.named
  have hlocks := B.notSynchronized
  subst hsz
  have hD := hD0.self (sz := s.heap.size)
  generalize hAe : va_A [(a1, .inr (6, [.ref a2, .int 0, .int 0])), (a2, .inl (cA 0, 240, .inl f))] s.heap.size = A at hD hZ ⊢
  have hA : ∀ q : Nat, s.heap.size ≤ q → A q := fun q h => by rw [← hAe]; exact Or.inr h
  have hS : va_S A s.heap s.heap [] := va_S.rf
  have hP : va_P D vwCl [(a1, .inr (6, [.ref a2, .int 0, .int 0])), (a2, .inl (cA 0, 240, .inl f))] s.heap := hP
  have hl := lv_entry ([.ref a1, .int k, .int d, .int a, .int j]) (n := 6) (Nat.le_of_ble_eq_true rfl)
  rw [lg_entry_eq]
  generalize (lg_sl ([.ref a1, .int k, .int d, .int a, .int j]) ++ List.replicate (6 - (lg_sl ([.ref a1, .int k, .int d, .int a, .int j])).length) Slot.unset).toArray = ls at hl ⊢
  have hl : lv_has ls 6 [(0, .ref a1), (1, .int k), (2, .int d), (3, .int a), (4, .int j)] := hl
  have inX2 : ∀ w ∈ u_ws RX2 TX2 3, w ∈ wsX2_enter := by decide +kernel
  refine lv_iload_n hx hb dX2_enter_0 rfl (lv_at hl 3 rfl) ?_
  refine lv_if_gt (tgt := 5) hx hb dX2_enter_1 (by decide) (fun c1 => ?_) (fun c9 => absurd c9 (fun h3 => h3 h))
  refine lv_aload_n hx hb dX2_enter_5 rfl (lv_at hl 0 rfl) ?_
  refine va_get (D := D) (ci := 6) (v := .int 0) (C := RX2) (T := TX2) (N := 3) hx hb hts inX2 hown hK hP 0 rfl rfl 1 (by decide) (hts (.fieldLink RX2 15 "EscrowDesk$Ledger" "next" "I") (by decide +kernel)) (fun _ h9 => h9) rfl dX2_enter_6 ?_
  refine lv_iconst (v := 4) hx hb dX2_enter_9 (by decide) ?_
  refine lv_imul hx hb dX2_enter_10 ?_
  refine lv_topi (fun yn2 eyn2 => ?_)
  obtain rfl : yn2 = 0 := eyn2.trans (by first | rfl | decide +kernel)
  refine lv_istore (lv' := [(5, .int 0), (0, .ref a1), (1, .int k), (2, .int d), (3, .int a), (4, .int j)]) hx hb dX2_enter_11 hl (by decide) rfl (fun ls hl => ?_)
  refine lv_aload_n hx hb dX2_enter_13 rfl (lv_at hl 1 rfl) ?_
  refine va_get (D := D) (ci := 6) (v := .ref a2) (C := RX2) (T := TX2) (N := 3) hx hb hts inX2 hown hK hP 0 rfl rfl 0 (by decide) (hts (.fieldLink RX2 11 "EscrowDesk$Ledger" "ring" "[I") (by decide +kernel)) (fun _ h9 => h9) rfl dX2_enter_14 ?_
  refine lv_iload hx hb dX2_enter_17 (lv_at hl 0 rfl) ?_
  refine lv_iconst (v := 0) hx hb dX2_enter_19 (by decide) ?_
  refine lv_iadd hx hb dX2_enter_20 ?_
  refine lv_topi (fun yn3 eyn3 => ?_)
  obtain rfl : yn3 = 0 := eyn3.trans (by first | rfl | decide +kernel)
  refine lv_iload_n hx hb dX2_enter_21 rfl (lv_at hl 2 rfl) ?_
  refine va_iast hx hb hK hP hD hS 1 0 rfl rfl (vp_in_iff.mpr (by decide)) dX2_enter_22 (fun H locs hP hD hS => ?_)
  have hP : va_P D vwCl [(a1, .inr (6, [.ref a2, .int 0, .int 0])), (a2, .inl (cA 0, 240, .inl (upd f 0 k)))] H := hP
  have hD : va_D A [(a1, .inr (6, [.ref a2, .int 0, .int 0])), (a2, .inl (cA 0, 240, .inl (upd f 0 k)))] := hD
  generalize (upd f 0 k) = fn4 at hP hD
  have hP : va_P D vwCl [(a1, .inr (6, [.ref a2, .int 0, .int 0])), (a2, .inl (cA 0, 240, .inl fn4))] H := hP
  have hD : va_D A [(a1, .inr (6, [.ref a2, .int 0, .int 0])), (a2, .inl (cA 0, 240, .inl fn4))] := hD
  refine lv_aload_n hx hb dX2_enter_23 rfl (lv_at hl 1 rfl) ?_
  refine va_get (D := D) (ci := 6) (v := .ref a2) (C := RX2) (T := TX2) (N := 3) hx hb hts inX2 hown hK hP 0 rfl rfl 0 (by decide) (hts (.fieldLink RX2 11 "EscrowDesk$Ledger" "ring" "[I") (by decide +kernel)) (fun _ h9 => h9) rfl dX2_enter_24 ?_
  refine lv_iload hx hb dX2_enter_27 (lv_at hl 0 rfl) ?_
  refine lv_iconst (v := 1) hx hb dX2_enter_29 (by decide) ?_
  refine lv_iadd hx hb dX2_enter_30 ?_
  refine lv_topi (fun yn5 eyn5 => ?_)
  obtain rfl : yn5 = 1 := eyn5.trans (by first | rfl | decide +kernel)
  refine lv_iload_n hx hb dX2_enter_31 rfl (lv_at hl 3 rfl) ?_
  refine va_iast hx hb hK hP hD hS 1 0 rfl rfl (vp_in_iff.mpr (by decide)) dX2_enter_32 (fun H locs hP hD hS => ?_)
  have hP : va_P D vwCl [(a1, .inr (6, [.ref a2, .int 0, .int 0])), (a2, .inl (cA 0, 240, .inl (upd fn4 1 d)))] H := hP
  have hD : va_D A [(a1, .inr (6, [.ref a2, .int 0, .int 0])), (a2, .inl (cA 0, 240, .inl (upd fn4 1 d)))] := hD
  generalize (upd fn4 1 d) = fn6 at hP hD
  have hP : va_P D vwCl [(a1, .inr (6, [.ref a2, .int 0, .int 0])), (a2, .inl (cA 0, 240, .inl fn6))] H := hP
  have hD : va_D A [(a1, .inr (6, [.ref a2, .int 0, .int 0])), (a2, .inl (cA 0, 240, .inl fn6))] := hD
  refine lv_aload_n hx hb dX2_enter_33 rfl (lv_at hl 1 rfl) ?_
  refine va_get (D := D) (ci := 6) (v := .ref a2) (C := RX2) (T := TX2) (N := 3) hx hb hts inX2 hown hK hP 0 rfl rfl 0 (by decide) (hts (.fieldLink RX2 11 "EscrowDesk$Ledger" "ring" "[I") (by decide +kernel)) (fun _ h9 => h9) rfl dX2_enter_34 ?_
  refine lv_iload hx hb dX2_enter_37 (lv_at hl 0 rfl) ?_
  refine lv_iconst (v := 2) hx hb dX2_enter_39 (by decide) ?_
  refine lv_iadd hx hb dX2_enter_40 ?_
  refine lv_topi (fun yn7 eyn7 => ?_)
  obtain rfl : yn7 = 2 := eyn7.trans (by first | rfl | decide +kernel)
  refine lv_iload_n hx hb dX2_enter_41 rfl (lv_at hl 4 rfl) ?_
  refine va_iast hx hb hK hP hD hS 1 0 rfl rfl (vp_in_iff.mpr (by decide)) dX2_enter_42 (fun H locs hP hD hS => ?_)
  have hP : va_P D vwCl [(a1, .inr (6, [.ref a2, .int 0, .int 0])), (a2, .inl (cA 0, 240, .inl (upd fn6 2 a)))] H := hP
  have hD : va_D A [(a1, .inr (6, [.ref a2, .int 0, .int 0])), (a2, .inl (cA 0, 240, .inl (upd fn6 2 a)))] := hD
  generalize (upd fn6 2 a) = fn8 at hP hD
  have hP : va_P D vwCl [(a1, .inr (6, [.ref a2, .int 0, .int 0])), (a2, .inl (cA 0, 240, .inl fn8))] H := hP
  have hD : va_D A [(a1, .inr (6, [.ref a2, .int 0, .int 0])), (a2, .inl (cA 0, 240, .inl fn8))] := hD
  refine lv_aload_n hx hb dX2_enter_43 rfl (lv_at hl 1 rfl) ?_
  refine va_get (D := D) (ci := 6) (v := .ref a2) (C := RX2) (T := TX2) (N := 3) hx hb hts inX2 hown hK hP 0 rfl rfl 0 (by decide) (hts (.fieldLink RX2 11 "EscrowDesk$Ledger" "ring" "[I") (by decide +kernel)) (fun _ h9 => h9) rfl dX2_enter_44 ?_
  refine lv_iload hx hb dX2_enter_47 (lv_at hl 0 rfl) ?_
  refine lv_iconst (v := 3) hx hb dX2_enter_49 (by decide) ?_
  refine lv_iadd hx hb dX2_enter_50 ?_
  refine lv_topi (fun yn9 eyn9 => ?_)
  obtain rfl : yn9 = 3 := eyn9.trans (by first | rfl | decide +kernel)
  refine lv_iload hx hb dX2_enter_51 (lv_at hl 5 rfl) ?_
  refine va_iast hx hb hK hP hD hS 1 0 rfl rfl (vp_in_iff.mpr (by decide)) dX2_enter_53 (fun H locs hP hD hS => ?_)
  have hP : va_P D vwCl [(a1, .inr (6, [.ref a2, .int 0, .int 0])), (a2, .inl (cA 0, 240, .inl (upd fn8 3 j)))] H := hP
  have hD : va_D A [(a1, .inr (6, [.ref a2, .int 0, .int 0])), (a2, .inl (cA 0, 240, .inl (upd fn8 3 j)))] := hD
  generalize (upd fn8 3 j) = fn10 at hP hD
  have hP : va_P D vwCl [(a1, .inr (6, [.ref a2, .int 0, .int 0])), (a2, .inl (cA 0, 240, .inl fn10))] H := hP
  have hD : va_D A [(a1, .inr (6, [.ref a2, .int 0, .int 0])), (a2, .inl (cA 0, 240, .inl fn10))] := hD
  refine lv_aload_n hx hb dX2_enter_54 rfl (lv_at hl 1 rfl) ?_
  refine lv_aload_n hx hb dX2_enter_55 rfl (lv_at hl 1 rfl) ?_
  refine va_get (D := D) (ci := 6) (v := .int 0) (C := RX2) (T := TX2) (N := 3) hx hb hts inX2 hown hK hP 0 rfl rfl 1 (by decide) (hts (.fieldLink RX2 15 "EscrowDesk$Ledger" "next" "I") (by decide +kernel)) (fun _ h9 => h9) rfl dX2_enter_56 ?_
  refine lv_iconst (v := 1) hx hb dX2_enter_59 (by decide) ?_
  refine lv_iadd hx hb dX2_enter_60 ?_
  refine lv_topi (fun yn11 eyn11 => ?_)
  obtain rfl : yn11 = 1 := eyn11.trans (by first | rfl | decide +kernel)
  refine lv_bipush (v := 60) hx hb dX2_enter_61 (by decide) ?_
  refine lv_irem hx hb dX2_enter_63 (by decide) ?_
  refine lv_topi (fun yn12 eyn12 => ?_)
  obtain rfl : yn12 = 1 := eyn12.trans (by first | rfl | decide +kernel)
  refine va_put (D := D) (ci := 6) (v := .int 1) (ty := .int) (C := RX2) (T := TX2) (N := 3) hx hb hts inX2 tyX2 tyX2_ok nmX2 hown hK hP hD hS 0 rfl rfl 1 (by decide) (hts (.fieldLink RX2 15 "EscrowDesk$Ledger" "next" "I") (by decide +kernel)) (fun _ h9 => h9) rfl (by decide +kernel) rfl rfl (Nat.le_of_ble_eq_true rfl) dX2_enter_64 (fun H locs hP hD hS => ?_)
  have hP : va_P D vwCl [(a1, .inr (6, [.ref a2, .int 1, .int 0])), (a2, .inl (cA 0, 240, .inl fn10))] H := hP
  have hD : va_D A [(a1, .inr (6, [.ref a2, .int 1, .int 0])), (a2, .inl (cA 0, 240, .inl fn10))] := hD
  refine lv_aload_n hx hb dX2_enter_67 rfl (lv_at hl 1 rfl) ?_
  refine lv_aload_n hx hb dX2_enter_68 rfl (lv_at hl 1 rfl) ?_
  refine va_get (D := D) (ci := 6) (v := .int 0) (C := RX2) (T := TX2) (N := 3) hx hb hts inX2 hown hK hP 0 rfl rfl 2 (by decide) (hts (.fieldLink RX2 19 "EscrowDesk$Ledger" "kept" "I") (by decide +kernel)) (fun _ h9 => h9) rfl dX2_enter_69 ?_
  refine lv_iconst (v := 1) hx hb dX2_enter_72 (by decide) ?_
  refine lv_iadd hx hb dX2_enter_73 ?_
  refine lv_topi (fun yn13 eyn13 => ?_)
  obtain rfl : yn13 = 1 := eyn13.trans (by first | rfl | decide +kernel)
  refine lv_bipush (v := 60) hx hb dX2_enter_74 (by decide) ?_
  refine va_mmin hx hb (by rw [hml]; exact hl.1.symm) hown (hts (.methodLink RX2 28 Lib.Math.min.name) (by decide +kernel)) (hts (.static Lib.Math.min.name) (by decide +kernel)) (hts (.initialized "java/lang/Math") (by decide +kernel)) (hts (.code Lib.Math.min.name Lib.Math.min.code 2 (some .int)) (by decide +kernel)) (Nat.le_of_ble_eq_true rfl) (Nat.le_of_ble_eq_true rfl) (Nat.le_of_ble_eq_true rfl) (Nat.le_of_ble_eq_true rfl) dX2_enter_76 ?_
  refine lv_topi (fun yn14 eyn14 => ?_)
  obtain rfl : yn14 = 1 := eyn14.trans (by first | rfl | decide +kernel)
  refine va_put (D := D) (ci := 6) (v := .int 1) (ty := .int) (C := RX2) (T := TX2) (N := 3) hx hb hts inX2 tyX2 tyX2_ok nmX2 hown hK hP hD hS 0 rfl rfl 2 (by decide) (hts (.fieldLink RX2 19 "EscrowDesk$Ledger" "kept" "I") (by decide +kernel)) (fun _ h9 => h9) rfl (by decide +kernel) rfl rfl (Nat.le_of_ble_eq_true rfl) dX2_enter_79 (fun H locs hP hD hS => ?_)
  have hP : va_P D vwCl [(a1, .inr (6, [.ref a2, .int 1, .int 1])), (a2, .inl (cA 0, 240, .inl fn10))] H := hP
  have hD : va_D A [(a1, .inr (6, [.ref a2, .int 1, .int 1])), (a2, .inl (cA 0, 240, .inl fn10))] := hD
  have hP9 := hP.sub (ws' := [(a1, .inr (6, [.ref a2, .int 1, .int 1])), (a2, .inl (cA 0, 240, .inl fn10))]) [0, 1] rfl
  have hD9 := hD.sub (ws' := [(a1, .inr (6, [.ref a2, .int 1, .int 1])), (a2, .inl (cA 0, 240, .inl fn10))]) [0, 1] (by decide) rfl
  refine W.widen (k := 0) (n := 0) (Nat.le_of_ble_eq_true rfl) (Nat.le_of_ble_eq_true rfl) ?_
  exact W.vret hx hb hr (fun t ht hW => ⟨⟨(), rfl, trivial, fn10, by rw [ht]; exact hP9, hD9⟩, hS.F ht⟩) hS.2.2 dX2_enter_82

set_option maxHeartbeats 4000000 in
set_option maxRecDepth 100000 in
/-- copyFrom -/
theorem c_X2_copyFrom (l : Launch) (D : va_G) (cA : Nat → ClassId) (sa : Nat → Nat) (h0 h1 g0 g1 : Nat) (n0 k0 n1 k1 : Int32) (f1 f2 : Nat → Int32) (sz : Nat) : Met l yX2_copyFrom wsX2_copyFrom ({ frames := 1, cells := 0, slots := 0, locals := 60 }) (va_Pc [.ref h0, .ref g0] (Wd D cA sa [(h0, .inr (6, [.ref h1, .int n0, .int k0])), (h1, .inl (cA 0, 240, .inl f1)), (g0, .inr (6, [.ref g1, .int n1, .int k1])), (g1, .inl (cA 0, 240, .inl f2))] sz)) (va_Qv (fun _ : Unit => True) (fun (_ : Unit) t => ∃ fn1 : Nat → Int32, Wq D (va_A [(h0, .inr (6, [.ref h1, .int n0, .int k0])), (h1, .inl (cA 0, 240, .inl f1)), (g0, .inr (6, [.ref g1, .int n1, .int k1])), (g1, .inl (cA 0, 240, .inl f2))] sz) [(h0, .inr (6, [.ref h1, .int n1, .int k1])), (h1, .inl (cA 0, 240, .inl fn1)), (g0, .inr (6, [.ref g1, .int n1, .int k1])), (g1, .inl (cA 0, 240, .inl f2))] t) (va_A [(h0, .inr (6, [.ref h1, .int n0, .int k0])), (h1, .inl (cA 0, 240, .inl f1)), (g0, .inr (6, [.ref g1, .int n1, .int k1])), (g1, .inl (cA 0, 240, .inl f2))] sz)) 0 0 (va_A [(h0, .inr (6, [.ref h1, .int n0, .int k0])), (h1, .inl (cA 0, 240, .inl f1)), (g0, .inr (6, [.ref g1, .int n1, .int k1])), (g1, .inl (cA 0, 240, .inl f2))] sz) := by
  refine Met.ofW (cc := cX2_copyFrom) (maxL := 2) (ret := none) (by decide) rfl ?_
  intro p e s m args below meth c s₁ B hml hv
  obtain ⟨rfl, hsz, hP, hK, hD0, hC, hZ⟩ := hv
  have hx := B.exec
  have hb := B.bytes
  have hr := B.returns
  have hts := atoms_spec (ws := wsX2_copyFrom) B.pre
  have hown : s.vm.findClass RX2 = some m.cls := findClass_of_methodNamed B.named
  have hlocks := B.notSynchronized
  subst hsz
  have hD := hD0.self (sz := s.heap.size)
  generalize hAe : va_A [(h0, .inr (6, [.ref h1, .int n0, .int k0])), (h1, .inl (cA 0, 240, .inl f1)), (g0, .inr (6, [.ref g1, .int n1, .int k1])), (g1, .inl (cA 0, 240, .inl f2))] s.heap.size = A at hD hZ ⊢
  have hA : ∀ q : Nat, s.heap.size ≤ q → A q := fun q h => by rw [← hAe]; exact Or.inr h
  have hS : va_S A s.heap s.heap [] := va_S.rf
  have hP : va_P D vwCl [(h0, .inr (6, [.ref h1, .int n0, .int k0])), (h1, .inl (cA 0, 240, .inl f1)), (g0, .inr (6, [.ref g1, .int n1, .int k1])), (g1, .inl (cA 0, 240, .inl f2))] s.heap := hP
  have hl := lv_entry ([.ref h0, .ref g0]) (n := 2) (Nat.le_of_ble_eq_true rfl)
  rw [lg_entry_eq]
  generalize (lg_sl ([.ref h0, .ref g0]) ++ List.replicate (2 - (lg_sl ([.ref h0, .ref g0])).length) Slot.unset).toArray = ls at hl ⊢
  have hl : lv_has ls 2 [(0, .ref h0), (1, .ref g0)] := hl
  have inX2 : ∀ w ∈ u_ws RX2 TX2 3, w ∈ wsX2_copyFrom := by decide +kernel
  refine lv_aload_n hx hb dX2_copyFrom_0 rfl (lv_at hl 1 rfl) ?_
  refine va_get (D := D) (ci := 6) (v := .ref g1) (C := RX2) (T := TX2) (N := 3) hx hb hts inX2 hown hK hP 2 rfl rfl 0 (by decide) (hts (.fieldLink RX2 11 "EscrowDesk$Ledger" "ring" "[I") (by decide +kernel)) (fun _ h9 => h9) rfl dX2_copyFrom_1 ?_
  refine lv_iconst (v := 0) hx hb dX2_copyFrom_4 (by decide) ?_
  refine lv_aload_n hx hb dX2_copyFrom_5 rfl (lv_at hl 0 rfl) ?_
  refine va_get (D := D) (ci := 6) (v := .ref h1) (C := RX2) (T := TX2) (N := 3) hx hb hts inX2 hown hK hP 0 rfl rfl 0 (by decide) (hts (.fieldLink RX2 11 "EscrowDesk$Ledger" "ring" "[I") (by decide +kernel)) (fun _ h9 => h9) rfl dX2_copyFrom_6 ?_
  refine lv_iconst (v := 0) hx hb dX2_copyFrom_9 (by decide) ?_
  refine lv_aload_n hx hb dX2_copyFrom_10 rfl (lv_at hl 0 rfl) ?_
  refine va_get (D := D) (ci := 6) (v := .ref h1) (C := RX2) (T := TX2) (N := 3) hx hb hts inX2 hown hK hP 0 rfl rfl 0 (by decide) (hts (.fieldLink RX2 11 "EscrowDesk$Ledger" "ring" "[I") (by decide +kernel)) (fun _ h9 => h9) rfl dX2_copyFrom_11 ?_
  refine va_alen (v := 240) hx hb hK hP 1 0 rfl rfl rfl dX2_copyFrom_14 ?_
  refine va_copyi hx hb (by rw [hml]; exact hl.1.symm) hown (hts (.methodLink RX2 22 arraycopyName) (by decide +kernel)) (hts (.native arraycopyName) (by decide +kernel)) (hts (.static arraycopyName) (by decide +kernel)) (hts (.initialized "java/lang/System") (by decide +kernel)) hK hP hD hS 3 1 0 0 rfl rfl rfl rfl rfl (by decide) (by decide) (by decide) (by decide +kernel) (by decide +kernel) (fun _ _ => rfl) (Nat.le_of_ble_eq_true rfl) (Nat.le_of_ble_eq_true rfl) dX2_copyFrom_15 (fun H locs hP hD hS => ?_)
  have hP : va_P D vwCl [(h0, .inr (6, [.ref h1, .int n0, .int k0])), (h1, .inl (cA 0, 240, .inl (va_cpy f2 f1 0 0 240))), (g0, .inr (6, [.ref g1, .int n1, .int k1])), (g1, .inl (cA 0, 240, .inl f2))] H := hP
  have hD : va_D A [(h0, .inr (6, [.ref h1, .int n0, .int k0])), (h1, .inl (cA 0, 240, .inl (va_cpy f2 f1 0 0 240))), (g0, .inr (6, [.ref g1, .int n1, .int k1])), (g1, .inl (cA 0, 240, .inl f2))] := hD
  generalize (va_cpy f2 f1 0 0 240) = fn1 at hP hD
  have hP : va_P D vwCl [(h0, .inr (6, [.ref h1, .int n0, .int k0])), (h1, .inl (cA 0, 240, .inl fn1)), (g0, .inr (6, [.ref g1, .int n1, .int k1])), (g1, .inl (cA 0, 240, .inl f2))] H := hP
  have hD : va_D A [(h0, .inr (6, [.ref h1, .int n0, .int k0])), (h1, .inl (cA 0, 240, .inl fn1)), (g0, .inr (6, [.ref g1, .int n1, .int k1])), (g1, .inl (cA 0, 240, .inl f2))] := hD
  refine lv_aload_n hx hb dX2_copyFrom_18 rfl (lv_at hl 0 rfl) ?_
  refine lv_aload_n hx hb dX2_copyFrom_19 rfl (lv_at hl 1 rfl) ?_
  refine va_get (D := D) (ci := 6) (v := .int n1) (C := RX2) (T := TX2) (N := 3) hx hb hts inX2 hown hK hP 2 rfl rfl 1 (by decide) (hts (.fieldLink RX2 15 "EscrowDesk$Ledger" "next" "I") (by decide +kernel)) (fun _ h9 => h9) rfl dX2_copyFrom_20 ?_
  refine va_put (D := D) (ci := 6) (v := .int n1) (ty := .int) (C := RX2) (T := TX2) (N := 3) hx hb hts inX2 tyX2 tyX2_ok nmX2 hown hK hP hD hS 0 rfl rfl 1 (by decide) (hts (.fieldLink RX2 15 "EscrowDesk$Ledger" "next" "I") (by decide +kernel)) (fun _ h9 => h9) rfl (by decide +kernel) rfl rfl (Nat.le_of_ble_eq_true rfl) dX2_copyFrom_23 (fun H locs hP hD hS => ?_)
  have hP : va_P D vwCl [(h0, .inr (6, [.ref h1, .int n1, .int k0])), (h1, .inl (cA 0, 240, .inl fn1)), (g0, .inr (6, [.ref g1, .int n1, .int k1])), (g1, .inl (cA 0, 240, .inl f2))] H := hP
  have hD : va_D A [(h0, .inr (6, [.ref h1, .int n1, .int k0])), (h1, .inl (cA 0, 240, .inl fn1)), (g0, .inr (6, [.ref g1, .int n1, .int k1])), (g1, .inl (cA 0, 240, .inl f2))] := hD
  refine lv_aload_n hx hb dX2_copyFrom_26 rfl (lv_at hl 0 rfl) ?_
  refine lv_aload_n hx hb dX2_copyFrom_27 rfl (lv_at hl 1 rfl) ?_
  refine va_get (D := D) (ci := 6) (v := .int k1) (C := RX2) (T := TX2) (N := 3) hx hb hts inX2 hown hK hP 2 rfl rfl 2 (by decide) (hts (.fieldLink RX2 19 "EscrowDesk$Ledger" "kept" "I") (by decide +kernel)) (fun _ h9 => h9) rfl dX2_copyFrom_28 ?_
  refine va_put (D := D) (ci := 6) (v := .int k1) (ty := .int) (C := RX2) (T := TX2) (N := 3) hx hb hts inX2 tyX2 tyX2_ok nmX2 hown hK hP hD hS 0 rfl rfl 2 (by decide) (hts (.fieldLink RX2 19 "EscrowDesk$Ledger" "kept" "I") (by decide +kernel)) (fun _ h9 => h9) rfl (by decide +kernel) rfl rfl (Nat.le_of_ble_eq_true rfl) dX2_copyFrom_31 (fun H locs hP hD hS => ?_)
  have hP : va_P D vwCl [(h0, .inr (6, [.ref h1, .int n1, .int k1])), (h1, .inl (cA 0, 240, .inl fn1)), (g0, .inr (6, [.ref g1, .int n1, .int k1])), (g1, .inl (cA 0, 240, .inl f2))] H := hP
  have hD : va_D A [(h0, .inr (6, [.ref h1, .int n1, .int k1])), (h1, .inl (cA 0, 240, .inl fn1)), (g0, .inr (6, [.ref g1, .int n1, .int k1])), (g1, .inl (cA 0, 240, .inl f2))] := hD
  have hP9 := hP.sub (ws' := [(h0, .inr (6, [.ref h1, .int n1, .int k1])), (h1, .inl (cA 0, 240, .inl fn1)), (g0, .inr (6, [.ref g1, .int n1, .int k1])), (g1, .inl (cA 0, 240, .inl f2))]) [0, 1, 2, 3] rfl
  have hD9 := hD.sub (ws' := [(h0, .inr (6, [.ref h1, .int n1, .int k1])), (h1, .inl (cA 0, 240, .inl fn1)), (g0, .inr (6, [.ref g1, .int n1, .int k1])), (g1, .inl (cA 0, 240, .inl f2))]) [0, 1, 2, 3] (by decide) rfl
  refine W.widen (k := 0) (n := 0) (Nat.le_of_ble_eq_true rfl) (Nat.le_of_ble_eq_true rfl) ?_
  exact W.vret hx hb hr (fun t ht hW => ⟨⟨(), rfl, trivial, fn1, by rw [ht]; exact hP9, hD9⟩, hS.F ht⟩) hS.2.2 dX2_copyFrom_34

set_option maxHeartbeats 4000000 in
set_option maxRecDepth 100000 in
/-- copyFrom(other) -/
theorem c_X0_copyFrom (l : Launch) (D : va_G) (cA : Nat → ClassId) (sa : Nat → Nat) (h0 h1 h2 h3 h4 h5 h6 g0 g1 g2 g3 g4 g5 g6 p0 : Nat) (x0 x6 x7 x8 x9 x10 x11 x12 x13 x14 x15 x16 x17 x18 x19 : Value) (n0 k0 n1 k1 y6 y7 y8 y12 y13 y14 y15 y16 y17 y18 y19 : Int32) (y9 y10 y11 : Int64) (f2 f3 f4 f5 f6 e2 e3 e4 e5 e6 : Nat → Int32) (sz : Nat) : Met l yX0_copyFrom wsX0_copyFrom ({ frames := 2, cells := 0, slots := 0, locals := 81 }) (va_Pc [.ref h0, .ref g0] (Wd D cA sa [(h0, .inr (4, [x0, .ref h1, .ref h3, .ref h4, .ref h5, .ref h6, x6, x7, x8, x9, x10, x11, x12, x13, x14, x15, x16, x17, x18, x19])), (h1, .inr (6, [.ref h2, .int n0, .int k0])), (h2, .inl (cA 0, 240, .inl f2)), (h3, .inl (cA 0, 10, .inl f3)), (h4, .inl (cA 0, 10, .inl f4)), (h5, .inl (cA 0, 10, .inl f5)), (h6, .inl (cA 0, 10, .inl f6)), (g0, .inr (4, [.ref p0, .ref g1, .ref g3, .ref g4, .ref g5, .ref g6, .int y6, .int y7, .int y8, .long y9, .long y10, .long y11, .int y12, .int y13, .int y14, .int y15, .int y16, .int y17, .int y18, .int y19])), (g1, .inr (6, [.ref g2, .int n1, .int k1])), (g2, .inl (cA 0, 240, .inl e2)), (g3, .inl (cA 0, 10, .inl e3)), (g4, .inl (cA 0, 10, .inl e4)), (g5, .inl (cA 0, 10, .inl e5)), (g6, .inl (cA 0, 10, .inl e6))] sz)) (va_Qv (fun _ : Unit => True) (fun (_ : Unit) t => ∃ fn1 : Nat → Int32, ∃ fn2 : Nat → Int32, ∃ fn3 : Nat → Int32, ∃ fn4 : Nat → Int32, ∃ fn5 : Nat → Int32, Wq D (va_A [(h0, .inr (4, [x0, .ref h1, .ref h3, .ref h4, .ref h5, .ref h6, x6, x7, x8, x9, x10, x11, x12, x13, x14, x15, x16, x17, x18, x19])), (h1, .inr (6, [.ref h2, .int n0, .int k0])), (h2, .inl (cA 0, 240, .inl f2)), (h3, .inl (cA 0, 10, .inl f3)), (h4, .inl (cA 0, 10, .inl f4)), (h5, .inl (cA 0, 10, .inl f5)), (h6, .inl (cA 0, 10, .inl f6)), (g0, .inr (4, [.ref p0, .ref g1, .ref g3, .ref g4, .ref g5, .ref g6, .int y6, .int y7, .int y8, .long y9, .long y10, .long y11, .int y12, .int y13, .int y14, .int y15, .int y16, .int y17, .int y18, .int y19])), (g1, .inr (6, [.ref g2, .int n1, .int k1])), (g2, .inl (cA 0, 240, .inl e2)), (g3, .inl (cA 0, 10, .inl e3)), (g4, .inl (cA 0, 10, .inl e4)), (g5, .inl (cA 0, 10, .inl e5)), (g6, .inl (cA 0, 10, .inl e6))] sz) [(h0, .inr (4, [.ref p0, .ref h1, .ref h3, .ref h4, .ref h5, .ref h6, .int y6, .int y7, .int y8, .long y9, .long y10, .long y11, .int y12, .int y13, .int y14, .int y15, .int y16, .int y17, .int y18, .int y19])), (h1, .inr (6, [.ref h2, .int n1, .int k1])), (h2, .inl (cA 0, 240, .inl fn1)), (h3, .inl (cA 0, 10, .inl fn2)), (h4, .inl (cA 0, 10, .inl fn3)), (h5, .inl (cA 0, 10, .inl fn4)), (h6, .inl (cA 0, 10, .inl fn5)), (g0, .inr (4, [.ref p0, .ref g1, .ref g3, .ref g4, .ref g5, .ref g6, .int y6, .int y7, .int y8, .long y9, .long y10, .long y11, .int y12, .int y13, .int y14, .int y15, .int y16, .int y17, .int y18, .int y19])), (g1, .inr (6, [.ref g2, .int n1, .int k1])), (g2, .inl (cA 0, 240, .inl e2)), (g3, .inl (cA 0, 10, .inl e3)), (g4, .inl (cA 0, 10, .inl e4)), (g5, .inl (cA 0, 10, .inl e5)), (g6, .inl (cA 0, 10, .inl e6))] t) (va_A [(h0, .inr (4, [x0, .ref h1, .ref h3, .ref h4, .ref h5, .ref h6, x6, x7, x8, x9, x10, x11, x12, x13, x14, x15, x16, x17, x18, x19])), (h1, .inr (6, [.ref h2, .int n0, .int k0])), (h2, .inl (cA 0, 240, .inl f2)), (h3, .inl (cA 0, 10, .inl f3)), (h4, .inl (cA 0, 10, .inl f4)), (h5, .inl (cA 0, 10, .inl f5)), (h6, .inl (cA 0, 10, .inl f6)), (g0, .inr (4, [.ref p0, .ref g1, .ref g3, .ref g4, .ref g5, .ref g6, .int y6, .int y7, .int y8, .long y9, .long y10, .long y11, .int y12, .int y13, .int y14, .int y15, .int y16, .int y17, .int y18, .int y19])), (g1, .inr (6, [.ref g2, .int n1, .int k1])), (g2, .inl (cA 0, 240, .inl e2)), (g3, .inl (cA 0, 10, .inl e3)), (g4, .inl (cA 0, 10, .inl e4)), (g5, .inl (cA 0, 10, .inl e5)), (g6, .inl (cA 0, 10, .inl e6))] sz)) 0 0 (va_A [(h0, .inr (4, [x0, .ref h1, .ref h3, .ref h4, .ref h5, .ref h6, x6, x7, x8, x9, x10, x11, x12, x13, x14, x15, x16, x17, x18, x19])), (h1, .inr (6, [.ref h2, .int n0, .int k0])), (h2, .inl (cA 0, 240, .inl f2)), (h3, .inl (cA 0, 10, .inl f3)), (h4, .inl (cA 0, 10, .inl f4)), (h5, .inl (cA 0, 10, .inl f5)), (h6, .inl (cA 0, 10, .inl f6)), (g0, .inr (4, [.ref p0, .ref g1, .ref g3, .ref g4, .ref g5, .ref g6, .int y6, .int y7, .int y8, .long y9, .long y10, .long y11, .int y12, .int y13, .int y14, .int y15, .int y16, .int y17, .int y18, .int y19])), (g1, .inr (6, [.ref g2, .int n1, .int k1])), (g2, .inl (cA 0, 240, .inl e2)), (g3, .inl (cA 0, 10, .inl e3)), (g4, .inl (cA 0, 10, .inl e4)), (g5, .inl (cA 0, 10, .inl e5)), (g6, .inl (cA 0, 10, .inl e6))] sz) := by
  refine Met.ofW (cc := cX0_copyFrom) (maxL := 2) (ret := none) (by decide) rfl ?_
  intro p e s m args below meth c s₁ B hml hv
  obtain ⟨rfl, hsz, hP, hK, hD0, hC, hZ⟩ := hv
  have hx := B.exec
  have hb := B.bytes
  have hr := B.returns
  have hts := atoms_spec (ws := wsX0_copyFrom) B.pre
  have hown : s.vm.findClass RX0 = some m.cls := findClass_of_methodNamed B.named
  have hlocks := B.notSynchronized
  subst hsz
  have hD := hD0.self (sz := s.heap.size)
  generalize hAe : va_A [(h0, .inr (4, [x0, .ref h1, .ref h3, .ref h4, .ref h5, .ref h6, x6, x7, x8, x9, x10, x11, x12, x13, x14, x15, x16, x17, x18, x19])), (h1, .inr (6, [.ref h2, .int n0, .int k0])), (h2, .inl (cA 0, 240, .inl f2)), (h3, .inl (cA 0, 10, .inl f3)), (h4, .inl (cA 0, 10, .inl f4)), (h5, .inl (cA 0, 10, .inl f5)), (h6, .inl (cA 0, 10, .inl f6)), (g0, .inr (4, [.ref p0, .ref g1, .ref g3, .ref g4, .ref g5, .ref g6, .int y6, .int y7, .int y8, .long y9, .long y10, .long y11, .int y12, .int y13, .int y14, .int y15, .int y16, .int y17, .int y18, .int y19])), (g1, .inr (6, [.ref g2, .int n1, .int k1])), (g2, .inl (cA 0, 240, .inl e2)), (g3, .inl (cA 0, 10, .inl e3)), (g4, .inl (cA 0, 10, .inl e4)), (g5, .inl (cA 0, 10, .inl e5)), (g6, .inl (cA 0, 10, .inl e6))] s.heap.size = A at hD hZ ⊢
  have hA : ∀ q : Nat, s.heap.size ≤ q → A q := fun q h => by rw [← hAe]; exact Or.inr h
  have hS : va_S A s.heap s.heap [] := va_S.rf
  have hP : va_P D vwCl [(h0, .inr (4, [x0, .ref h1, .ref h3, .ref h4, .ref h5, .ref h6, x6, x7, x8, x9, x10, x11, x12, x13, x14, x15, x16, x17, x18, x19])), (h1, .inr (6, [.ref h2, .int n0, .int k0])), (h2, .inl (cA 0, 240, .inl f2)), (h3, .inl (cA 0, 10, .inl f3)), (h4, .inl (cA 0, 10, .inl f4)), (h5, .inl (cA 0, 10, .inl f5)), (h6, .inl (cA 0, 10, .inl f6)), (g0, .inr (4, [.ref p0, .ref g1, .ref g3, .ref g4, .ref g5, .ref g6, .int y6, .int y7, .int y8, .long y9, .long y10, .long y11, .int y12, .int y13, .int y14, .int y15, .int y16, .int y17, .int y18, .int y19])), (g1, .inr (6, [.ref g2, .int n1, .int k1])), (g2, .inl (cA 0, 240, .inl e2)), (g3, .inl (cA 0, 10, .inl e3)), (g4, .inl (cA 0, 10, .inl e4)), (g5, .inl (cA 0, 10, .inl e5)), (g6, .inl (cA 0, 10, .inl e6))] s.heap := hP
  have hl := lv_entry ([.ref h0, .ref g0]) (n := 2) (Nat.le_of_ble_eq_true rfl)
  rw [lg_entry_eq]
  generalize (lg_sl ([.ref h0, .ref g0]) ++ List.replicate (2 - (lg_sl ([.ref h0, .ref g0])).length) Slot.unset).toArray = ls at hl ⊢
  have hl : lv_has ls 2 [(0, .ref h0), (1, .ref g0)] := hl
  have inX0 : ∀ w ∈ u_ws RX0 TX0 20, w ∈ wsX0_copyFrom := by decide +kernel
  refine lv_aload_n hx hb dX0_copyFrom_0 rfl (lv_at hl 0 rfl) ?_
  refine lv_aload_n hx hb dX0_copyFrom_1 rfl (lv_at hl 1 rfl) ?_
  refine va_get (D := D) (ci := 4) (v := .ref p0) (C := RX0) (T := TX0) (N := 20) hx hb hts inX0 hown hK hP 7 rfl rfl 0 (by decide) (hts (.fieldLink RX0 31 "EscrowDesk$Account" "plan" "LEscrowDesk$Plan;") (by decide +kernel)) (fun _ h9 => h9) rfl dX0_copyFrom_2 ?_
  refine va_put (D := D) (ci := 4) (v := .ref p0) (ty := (.object "EscrowDesk$Plan")) (C := RX0) (T := TX0) (N := 20) hx hb hts inX0 tyX0 tyX0_ok nmX0 hown hK hP hD hS 0 rfl rfl 0 (by decide) (hts (.fieldLink RX0 31 "EscrowDesk$Account" "plan" "LEscrowDesk$Plan;") (by decide +kernel)) (fun _ h9 => h9) rfl (by decide +kernel) rfl rfl (Nat.le_of_ble_eq_true rfl) dX0_copyFrom_5 (fun H locs hP hD hS => ?_)
  have hP : va_P D vwCl [(h0, .inr (4, [.ref p0, .ref h1, .ref h3, .ref h4, .ref h5, .ref h6, x6, x7, x8, x9, x10, x11, x12, x13, x14, x15, x16, x17, x18, x19])), (h1, .inr (6, [.ref h2, .int n0, .int k0])), (h2, .inl (cA 0, 240, .inl f2)), (h3, .inl (cA 0, 10, .inl f3)), (h4, .inl (cA 0, 10, .inl f4)), (h5, .inl (cA 0, 10, .inl f5)), (h6, .inl (cA 0, 10, .inl f6)), (g0, .inr (4, [.ref p0, .ref g1, .ref g3, .ref g4, .ref g5, .ref g6, .int y6, .int y7, .int y8, .long y9, .long y10, .long y11, .int y12, .int y13, .int y14, .int y15, .int y16, .int y17, .int y18, .int y19])), (g1, .inr (6, [.ref g2, .int n1, .int k1])), (g2, .inl (cA 0, 240, .inl e2)), (g3, .inl (cA 0, 10, .inl e3)), (g4, .inl (cA 0, 10, .inl e4)), (g5, .inl (cA 0, 10, .inl e5)), (g6, .inl (cA 0, 10, .inl e6))] H := hP
  have hD : va_D A [(h0, .inr (4, [.ref p0, .ref h1, .ref h3, .ref h4, .ref h5, .ref h6, x6, x7, x8, x9, x10, x11, x12, x13, x14, x15, x16, x17, x18, x19])), (h1, .inr (6, [.ref h2, .int n0, .int k0])), (h2, .inl (cA 0, 240, .inl f2)), (h3, .inl (cA 0, 10, .inl f3)), (h4, .inl (cA 0, 10, .inl f4)), (h5, .inl (cA 0, 10, .inl f5)), (h6, .inl (cA 0, 10, .inl f6)), (g0, .inr (4, [.ref p0, .ref g1, .ref g3, .ref g4, .ref g5, .ref g6, .int y6, .int y7, .int y8, .long y9, .long y10, .long y11, .int y12, .int y13, .int y14, .int y15, .int y16, .int y17, .int y18, .int y19])), (g1, .inr (6, [.ref g2, .int n1, .int k1])), (g2, .inl (cA 0, 240, .inl e2)), (g3, .inl (cA 0, 10, .inl e3)), (g4, .inl (cA 0, 10, .inl e4)), (g5, .inl (cA 0, 10, .inl e5)), (g6, .inl (cA 0, 10, .inl e6))] := hD
  refine lv_aload_n hx hb dX0_copyFrom_8 rfl (lv_at hl 0 rfl) ?_
  refine va_get (D := D) (ci := 4) (v := .ref h1) (C := RX0) (T := TX0) (N := 20) hx hb hts inX0 hown hK hP 0 rfl rfl 1 (by decide) (hts (.fieldLink RX0 12 "EscrowDesk$Account" "ledger" "LEscrowDesk$Ledger;") (by decide +kernel)) (fun _ h9 => h9) rfl dX0_copyFrom_9 ?_
  refine lv_aload_n hx hb dX0_copyFrom_12 rfl (lv_at hl 1 rfl) ?_
  refine va_get (D := D) (ci := 4) (v := .ref g1) (C := RX0) (T := TX0) (N := 20) hx hb hts inX0 hown hK hP 7 rfl rfl 1 (by decide) (hts (.fieldLink RX0 12 "EscrowDesk$Account" "ledger" "LEscrowDesk$Ledger;") (by decide +kernel)) (fun _ h9 => h9) rfl dX0_copyFrom_13 ?_
  have hPc := hP.sub (ws' := [(h1, .inr (6, [.ref h2, .int n0, .int k0])), (h2, .inl (cA 0, 240, .inl f2)), (g1, .inr (6, [.ref g2, .int n1, .int k1])), (g2, .inl (cA 0, 240, .inl e2))]) [1, 2, 8, 9] rfl
  have hDc := hD.sub (ws' := [(h1, .inr (6, [.ref h2, .int n0, .int k0])), (h2, .inl (cA 0, 240, .inl f2)), (g1, .inr (6, [.ref g2, .int n1, .int k1])), (g2, .inl (cA 0, 240, .inl e2))]) [1, 2, 8, 9] (by decide) rfl
  have hFc := va_free (wc := [(h1, .inr (6, [.ref h2, .int n0, .int k0])), (h2, .inl (cA 0, 240, .inl f2)), (g1, .inr (6, [.ref g2, .int n1, .int k1])), (g2, .inl (cA 0, 240, .inl e2))]) hD hS hA [1, 2, 8, 9] rfl
  refine va_callv (va_runV (As := [.ref g1]) (rest := []) ⟨hx, hb, hml, hown, hts⟩ (c_X2_copyFrom l D cA sa h1 h2 g1 g2 n0 k0 n1 k1 f2 e2 H.size) (cwV 1 hts gX0_copyFrom_X2_copyFrom rfl rfl rfl (by decide +kernel) ⟨(Nat.le_of_ble_eq_true rfl), (Nat.le_of_ble_eq_true rfl)⟩) ⟨Wd.blind, va_recv hK hPc (ci := 6) (q0 := 0) rfl rfl, fun U hU hW => ⟨rfl, Wd.call hPc hDc hK hC hZ hS hFc U hU hW⟩⟩ rfl rfl hl.1 rfl (lv_room (Nat.le_of_ble_eq_true rfl)) dX0_copyFrom_16 ⟨(Nat.le_of_ble_eq_true rfl), (Nat.le_of_ble_eq_true rfl)⟩) hS (fun q _ h => hFc q h) hFc (fun u t H1 locs ht hvm hw hB hz1 hk1 hS => ?_)
  obtain ⟨fn1, hP1, hD1⟩ := hB
  rw [ht] at hP1
  obtain ⟨hP, hD⟩ := va_join (wr := [(h0, .inr (4, [.ref p0, .ref h1, .ref h3, .ref h4, .ref h5, .ref h6, x6, x7, x8, x9, x10, x11, x12, x13, x14, x15, x16, x17, x18, x19])), (h3, .inl (cA 0, 10, .inl f3)), (h4, .inl (cA 0, 10, .inl f4)), (h5, .inl (cA 0, 10, .inl f5)), (h6, .inl (cA 0, 10, .inl f6)), (g0, .inr (4, [.ref p0, .ref g1, .ref g3, .ref g4, .ref g5, .ref g6, .int y6, .int y7, .int y8, .long y9, .long y10, .long y11, .int y12, .int y13, .int y14, .int y15, .int y16, .int y17, .int y18, .int y19])), (g3, .inl (cA 0, 10, .inl e3)), (g4, .inl (cA 0, 10, .inl e4)), (g5, .inl (cA 0, 10, .inl e5)), (g6, .inl (cA 0, 10, .inl e6))]) (w1 := [(h1, .inr (6, [.ref h2, .int n1, .int k1])), (h2, .inl (cA 0, 240, .inl fn1)), (g1, .inr (6, [.ref g2, .int n1, .int k1])), (g2, .inl (cA 0, 240, .inl e2))]) hP hD [1, 2, 8, 9] [0, 3, 4, 5, 6, 7, 10, 11, 12, 13] rfl rfl (by decide) (by decide) hk1 hFc hP1 hD1
  generalize H1 = H at hP hS ⊢
  have hP : va_P D vwCl [(h0, .inr (4, [.ref p0, .ref h1, .ref h3, .ref h4, .ref h5, .ref h6, x6, x7, x8, x9, x10, x11, x12, x13, x14, x15, x16, x17, x18, x19])), (h3, .inl (cA 0, 10, .inl f3)), (h4, .inl (cA 0, 10, .inl f4)), (h5, .inl (cA 0, 10, .inl f5)), (h6, .inl (cA 0, 10, .inl f6)), (g0, .inr (4, [.ref p0, .ref g1, .ref g3, .ref g4, .ref g5, .ref g6, .int y6, .int y7, .int y8, .long y9, .long y10, .long y11, .int y12, .int y13, .int y14, .int y15, .int y16, .int y17, .int y18, .int y19])), (g3, .inl (cA 0, 10, .inl e3)), (g4, .inl (cA 0, 10, .inl e4)), (g5, .inl (cA 0, 10, .inl e5)), (g6, .inl (cA 0, 10, .inl e6)), (h1, .inr (6, [.ref h2, .int n1, .int k1])), (h2, .inl (cA 0, 240, .inl fn1)), (g1, .inr (6, [.ref g2, .int n1, .int k1])), (g2, .inl (cA 0, 240, .inl e2))] H := hP
  have hD : va_D A [(h0, .inr (4, [.ref p0, .ref h1, .ref h3, .ref h4, .ref h5, .ref h6, x6, x7, x8, x9, x10, x11, x12, x13, x14, x15, x16, x17, x18, x19])), (h3, .inl (cA 0, 10, .inl f3)), (h4, .inl (cA 0, 10, .inl f4)), (h5, .inl (cA 0, 10, .inl f5)), (h6, .inl (cA 0, 10, .inl f6)), (g0, .inr (4, [.ref p0, .ref g1, .ref g3, .ref g4, .ref g5, .ref g6, .int y6, .int y7, .int y8, .long y9, .long y10, .long y11, .int y12, .int y13, .int y14, .int y15, .int y16, .int y17, .int y18, .int y19])), (g3, .inl (cA 0, 10, .inl e3)), (g4, .inl (cA 0, 10, .inl e4)), (g5, .inl (cA 0, 10, .inl e5)), (g6, .inl (cA 0, 10, .inl e6)), (h1, .inr (6, [.ref h2, .int n1, .int k1])), (h2, .inl (cA 0, 240, .inl fn1)), (g1, .inr (6, [.ref g2, .int n1, .int k1])), (g2, .inl (cA 0, 240, .inl e2))] := hD
  refine lv_aload_n hx hb dX0_copyFrom_19 rfl (lv_at hl 1 rfl) ?_
  refine va_get (D := D) (ci := 4) (v := .ref g3) (C := RX0) (T := TX0) (N := 20) hx hb hts inX0 hown hK hP 5 rfl rfl 2 (by decide) (hts (.fieldLink RX0 18 "EscrowDesk$Account" "state" "[I") (by decide +kernel)) (fun _ h9 => h9) rfl dX0_copyFrom_20 ?_
  refine lv_iconst (v := 0) hx hb dX0_copyFrom_23 (by decide) ?_
  refine lv_aload_n hx hb dX0_copyFrom_24 rfl (lv_at hl 0 rfl) ?_
  refine va_get (D := D) (ci := 4) (v := .ref h3) (C := RX0) (T := TX0) (N := 20) hx hb hts inX0 hown hK hP 0 rfl rfl 2 (by decide) (hts (.fieldLink RX0 18 "EscrowDesk$Account" "state" "[I") (by decide +kernel)) (fun _ h9 => h9) rfl dX0_copyFrom_25 ?_
  refine lv_iconst (v := 0) hx hb dX0_copyFrom_28 (by decide) ?_
  refine lv_bipush (v := 10) hx hb dX0_copyFrom_29 (by decide) ?_
  refine va_copyi hx hb (by rw [hml]; exact hl.1.symm) hown (hts (.methodLink RX0 103 arraycopyName) (by decide +kernel)) (hts (.native arraycopyName) (by decide +kernel)) (hts (.static arraycopyName) (by decide +kernel)) (hts (.initialized "java/lang/System") (by decide +kernel)) hK hP hD hS 6 1 0 0 rfl rfl rfl rfl rfl (by decide) (by decide) (by decide) (by decide +kernel) (by decide +kernel) (fun _ _ => rfl) (Nat.le_of_ble_eq_true rfl) (Nat.le_of_ble_eq_true rfl) dX0_copyFrom_31 (fun H locs hP hD hS => ?_)
  have hP : va_P D vwCl [(h0, .inr (4, [.ref p0, .ref h1, .ref h3, .ref h4, .ref h5, .ref h6, x6, x7, x8, x9, x10, x11, x12, x13, x14, x15, x16, x17, x18, x19])), (h3, .inl (cA 0, 10, .inl (va_cpy e3 f3 0 0 10))), (h4, .inl (cA 0, 10, .inl f4)), (h5, .inl (cA 0, 10, .inl f5)), (h6, .inl (cA 0, 10, .inl f6)), (g0, .inr (4, [.ref p0, .ref g1, .ref g3, .ref g4, .ref g5, .ref g6, .int y6, .int y7, .int y8, .long y9, .long y10, .long y11, .int y12, .int y13, .int y14, .int y15, .int y16, .int y17, .int y18, .int y19])), (g3, .inl (cA 0, 10, .inl e3)), (g4, .inl (cA 0, 10, .inl e4)), (g5, .inl (cA 0, 10, .inl e5)), (g6, .inl (cA 0, 10, .inl e6)), (h1, .inr (6, [.ref h2, .int n1, .int k1])), (h2, .inl (cA 0, 240, .inl fn1)), (g1, .inr (6, [.ref g2, .int n1, .int k1])), (g2, .inl (cA 0, 240, .inl e2))] H := hP
  have hD : va_D A [(h0, .inr (4, [.ref p0, .ref h1, .ref h3, .ref h4, .ref h5, .ref h6, x6, x7, x8, x9, x10, x11, x12, x13, x14, x15, x16, x17, x18, x19])), (h3, .inl (cA 0, 10, .inl (va_cpy e3 f3 0 0 10))), (h4, .inl (cA 0, 10, .inl f4)), (h5, .inl (cA 0, 10, .inl f5)), (h6, .inl (cA 0, 10, .inl f6)), (g0, .inr (4, [.ref p0, .ref g1, .ref g3, .ref g4, .ref g5, .ref g6, .int y6, .int y7, .int y8, .long y9, .long y10, .long y11, .int y12, .int y13, .int y14, .int y15, .int y16, .int y17, .int y18, .int y19])), (g3, .inl (cA 0, 10, .inl e3)), (g4, .inl (cA 0, 10, .inl e4)), (g5, .inl (cA 0, 10, .inl e5)), (g6, .inl (cA 0, 10, .inl e6)), (h1, .inr (6, [.ref h2, .int n1, .int k1])), (h2, .inl (cA 0, 240, .inl fn1)), (g1, .inr (6, [.ref g2, .int n1, .int k1])), (g2, .inl (cA 0, 240, .inl e2))] := hD
  generalize (va_cpy e3 f3 0 0 10) = fn2 at hP hD
  have hP : va_P D vwCl [(h0, .inr (4, [.ref p0, .ref h1, .ref h3, .ref h4, .ref h5, .ref h6, x6, x7, x8, x9, x10, x11, x12, x13, x14, x15, x16, x17, x18, x19])), (h3, .inl (cA 0, 10, .inl fn2)), (h4, .inl (cA 0, 10, .inl f4)), (h5, .inl (cA 0, 10, .inl f5)), (h6, .inl (cA 0, 10, .inl f6)), (g0, .inr (4, [.ref p0, .ref g1, .ref g3, .ref g4, .ref g5, .ref g6, .int y6, .int y7, .int y8, .long y9, .long y10, .long y11, .int y12, .int y13, .int y14, .int y15, .int y16, .int y17, .int y18, .int y19])), (g3, .inl (cA 0, 10, .inl e3)), (g4, .inl (cA 0, 10, .inl e4)), (g5, .inl (cA 0, 10, .inl e5)), (g6, .inl (cA 0, 10, .inl e6)), (h1, .inr (6, [.ref h2, .int n1, .int k1])), (h2, .inl (cA 0, 240, .inl fn1)), (g1, .inr (6, [.ref g2, .int n1, .int k1])), (g2, .inl (cA 0, 240, .inl e2))] H := hP
  have hD : va_D A [(h0, .inr (4, [.ref p0, .ref h1, .ref h3, .ref h4, .ref h5, .ref h6, x6, x7, x8, x9, x10, x11, x12, x13, x14, x15, x16, x17, x18, x19])), (h3, .inl (cA 0, 10, .inl fn2)), (h4, .inl (cA 0, 10, .inl f4)), (h5, .inl (cA 0, 10, .inl f5)), (h6, .inl (cA 0, 10, .inl f6)), (g0, .inr (4, [.ref p0, .ref g1, .ref g3, .ref g4, .ref g5, .ref g6, .int y6, .int y7, .int y8, .long y9, .long y10, .long y11, .int y12, .int y13, .int y14, .int y15, .int y16, .int y17, .int y18, .int y19])), (g3, .inl (cA 0, 10, .inl e3)), (g4, .inl (cA 0, 10, .inl e4)), (g5, .inl (cA 0, 10, .inl e5)), (g6, .inl (cA 0, 10, .inl e6)), (h1, .inr (6, [.ref h2, .int n1, .int k1])), (h2, .inl (cA 0, 240, .inl fn1)), (g1, .inr (6, [.ref g2, .int n1, .int k1])), (g2, .inl (cA 0, 240, .inl e2))] := hD
  refine lv_aload_n hx hb dX0_copyFrom_34 rfl (lv_at hl 1 rfl) ?_
  refine va_get (D := D) (ci := 4) (v := .ref g4) (C := RX0) (T := TX0) (N := 20) hx hb hts inX0 hown hK hP 5 rfl rfl 3 (by decide) (hts (.fieldLink RX0 22 "EscrowDesk$Account" "paid" "[I") (by decide +kernel)) (fun _ h9 => h9) rfl dX0_copyFrom_35 ?_
  refine lv_iconst (v := 0) hx hb dX0_copyFrom_38 (by decide) ?_
  refine lv_aload_n hx hb dX0_copyFrom_39 rfl (lv_at hl 0 rfl) ?_
  refine va_get (D := D) (ci := 4) (v := .ref h4) (C := RX0) (T := TX0) (N := 20) hx hb hts inX0 hown hK hP 0 rfl rfl 3 (by decide) (hts (.fieldLink RX0 22 "EscrowDesk$Account" "paid" "[I") (by decide +kernel)) (fun _ h9 => h9) rfl dX0_copyFrom_40 ?_
  refine lv_iconst (v := 0) hx hb dX0_copyFrom_43 (by decide) ?_
  refine lv_bipush (v := 10) hx hb dX0_copyFrom_44 (by decide) ?_
  refine va_copyi hx hb (by rw [hml]; exact hl.1.symm) hown (hts (.methodLink RX0 103 arraycopyName) (by decide +kernel)) (hts (.native arraycopyName) (by decide +kernel)) (hts (.static arraycopyName) (by decide +kernel)) (hts (.initialized "java/lang/System") (by decide +kernel)) hK hP hD hS 7 2 0 0 rfl rfl rfl rfl rfl (by decide) (by decide) (by decide) (by decide +kernel) (by decide +kernel) (fun _ _ => rfl) (Nat.le_of_ble_eq_true rfl) (Nat.le_of_ble_eq_true rfl) dX0_copyFrom_46 (fun H locs hP hD hS => ?_)
  have hP : va_P D vwCl [(h0, .inr (4, [.ref p0, .ref h1, .ref h3, .ref h4, .ref h5, .ref h6, x6, x7, x8, x9, x10, x11, x12, x13, x14, x15, x16, x17, x18, x19])), (h3, .inl (cA 0, 10, .inl fn2)), (h4, .inl (cA 0, 10, .inl (va_cpy e4 f4 0 0 10))), (h5, .inl (cA 0, 10, .inl f5)), (h6, .inl (cA 0, 10, .inl f6)), (g0, .inr (4, [.ref p0, .ref g1, .ref g3, .ref g4, .ref g5, .ref g6, .int y6, .int y7, .int y8, .long y9, .long y10, .long y11, .int y12, .int y13, .int y14, .int y15, .int y16, .int y17, .int y18, .int y19])), (g3, .inl (cA 0, 10, .inl e3)), (g4, .inl (cA 0, 10, .inl e4)), (g5, .inl (cA 0, 10, .inl e5)), (g6, .inl (cA 0, 10, .inl e6)), (h1, .inr (6, [.ref h2, .int n1, .int k1])), (h2, .inl (cA 0, 240, .inl fn1)), (g1, .inr (6, [.ref g2, .int n1, .int k1])), (g2, .inl (cA 0, 240, .inl e2))] H := hP
  have hD : va_D A [(h0, .inr (4, [.ref p0, .ref h1, .ref h3, .ref h4, .ref h5, .ref h6, x6, x7, x8, x9, x10, x11, x12, x13, x14, x15, x16, x17, x18, x19])), (h3, .inl (cA 0, 10, .inl fn2)), (h4, .inl (cA 0, 10, .inl (va_cpy e4 f4 0 0 10))), (h5, .inl (cA 0, 10, .inl f5)), (h6, .inl (cA 0, 10, .inl f6)), (g0, .inr (4, [.ref p0, .ref g1, .ref g3, .ref g4, .ref g5, .ref g6, .int y6, .int y7, .int y8, .long y9, .long y10, .long y11, .int y12, .int y13, .int y14, .int y15, .int y16, .int y17, .int y18, .int y19])), (g3, .inl (cA 0, 10, .inl e3)), (g4, .inl (cA 0, 10, .inl e4)), (g5, .inl (cA 0, 10, .inl e5)), (g6, .inl (cA 0, 10, .inl e6)), (h1, .inr (6, [.ref h2, .int n1, .int k1])), (h2, .inl (cA 0, 240, .inl fn1)), (g1, .inr (6, [.ref g2, .int n1, .int k1])), (g2, .inl (cA 0, 240, .inl e2))] := hD
  generalize (va_cpy e4 f4 0 0 10) = fn3 at hP hD
  have hP : va_P D vwCl [(h0, .inr (4, [.ref p0, .ref h1, .ref h3, .ref h4, .ref h5, .ref h6, x6, x7, x8, x9, x10, x11, x12, x13, x14, x15, x16, x17, x18, x19])), (h3, .inl (cA 0, 10, .inl fn2)), (h4, .inl (cA 0, 10, .inl fn3)), (h5, .inl (cA 0, 10, .inl f5)), (h6, .inl (cA 0, 10, .inl f6)), (g0, .inr (4, [.ref p0, .ref g1, .ref g3, .ref g4, .ref g5, .ref g6, .int y6, .int y7, .int y8, .long y9, .long y10, .long y11, .int y12, .int y13, .int y14, .int y15, .int y16, .int y17, .int y18, .int y19])), (g3, .inl (cA 0, 10, .inl e3)), (g4, .inl (cA 0, 10, .inl e4)), (g5, .inl (cA 0, 10, .inl e5)), (g6, .inl (cA 0, 10, .inl e6)), (h1, .inr (6, [.ref h2, .int n1, .int k1])), (h2, .inl (cA 0, 240, .inl fn1)), (g1, .inr (6, [.ref g2, .int n1, .int k1])), (g2, .inl (cA 0, 240, .inl e2))] H := hP
  have hD : va_D A [(h0, .inr (4, [.ref p0, .ref h1, .ref h3, .ref h4, .ref h5, .ref h6, x6, x7, x8, x9, x10, x11, x12, x13, x14, x15, x16, x17, x18, x19])), (h3, .inl (cA 0, 10, .inl fn2)), (h4, .inl (cA 0, 10, .inl fn3)), (h5, .inl (cA 0, 10, .inl f5)), (h6, .inl (cA 0, 10, .inl f6)), (g0, .inr (4, [.ref p0, .ref g1, .ref g3, .ref g4, .ref g5, .ref g6, .int y6, .int y7, .int y8, .long y9, .long y10, .long y11, .int y12, .int y13, .int y14, .int y15, .int y16, .int y17, .int y18, .int y19])), (g3, .inl (cA 0, 10, .inl e3)), (g4, .inl (cA 0, 10, .inl e4)), (g5, .inl (cA 0, 10, .inl e5)), (g6, .inl (cA 0, 10, .inl e6)), (h1, .inr (6, [.ref h2, .int n1, .int k1])), (h2, .inl (cA 0, 240, .inl fn1)), (g1, .inr (6, [.ref g2, .int n1, .int k1])), (g2, .inl (cA 0, 240, .inl e2))] := hD
  refine lv_aload_n hx hb dX0_copyFrom_49 rfl (lv_at hl 1 rfl) ?_
  refine va_get (D := D) (ci := 4) (v := .ref g5) (C := RX0) (T := TX0) (N := 20) hx hb hts inX0 hown hK hP 5 rfl rfl 4 (by decide) (hts (.fieldLink RX0 25 "EscrowDesk$Account" "frozen" "[I") (by decide +kernel)) (fun _ h9 => h9) rfl dX0_copyFrom_50 ?_
  refine lv_iconst (v := 0) hx hb dX0_copyFrom_53 (by decide) ?_
  refine lv_aload_n hx hb dX0_copyFrom_54 rfl (lv_at hl 0 rfl) ?_
  refine va_get (D := D) (ci := 4) (v := .ref h5) (C := RX0) (T := TX0) (N := 20) hx hb hts inX0 hown hK hP 0 rfl rfl 4 (by decide) (hts (.fieldLink RX0 25 "EscrowDesk$Account" "frozen" "[I") (by decide +kernel)) (fun _ h9 => h9) rfl dX0_copyFrom_55 ?_
  refine lv_iconst (v := 0) hx hb dX0_copyFrom_58 (by decide) ?_
  refine lv_bipush (v := 10) hx hb dX0_copyFrom_59 (by decide) ?_
  refine va_copyi hx hb (by rw [hml]; exact hl.1.symm) hown (hts (.methodLink RX0 103 arraycopyName) (by decide +kernel)) (hts (.native arraycopyName) (by decide +kernel)) (hts (.static arraycopyName) (by decide +kernel)) (hts (.initialized "java/lang/System") (by decide +kernel)) hK hP hD hS 8 3 0 0 rfl rfl rfl rfl rfl (by decide) (by decide) (by decide) (by decide +kernel) (by decide +kernel) (fun _ _ => rfl) (Nat.le_of_ble_eq_true rfl) (Nat.le_of_ble_eq_true rfl) dX0_copyFrom_61 (fun H locs hP hD hS => ?_)
  have hP : va_P D vwCl [(h0, .inr (4, [.ref p0, .ref h1, .ref h3, .ref h4, .ref h5, .ref h6, x6, x7, x8, x9, x10, x11, x12, x13, x14, x15, x16, x17, x18, x19])), (h3, .inl (cA 0, 10, .inl fn2)), (h4, .inl (cA 0, 10, .inl fn3)), (h5, .inl (cA 0, 10, .inl (va_cpy e5 f5 0 0 10))), (h6, .inl (cA 0, 10, .inl f6)), (g0, .inr (4, [.ref p0, .ref g1, .ref g3, .ref g4, .ref g5, .ref g6, .int y6, .int y7, .int y8, .long y9, .long y10, .long y11, .int y12, .int y13, .int y14, .int y15, .int y16, .int y17, .int y18, .int y19])), (g3, .inl (cA 0, 10, .inl e3)), (g4, .inl (cA 0, 10, .inl e4)), (g5, .inl (cA 0, 10, .inl e5)), (g6, .inl (cA 0, 10, .inl e6)), (h1, .inr (6, [.ref h2, .int n1, .int k1])), (h2, .inl (cA 0, 240, .inl fn1)), (g1, .inr (6, [.ref g2, .int n1, .int k1])), (g2, .inl (cA 0, 240, .inl e2))] H := hP
  have hD : va_D A [(h0, .inr (4, [.ref p0, .ref h1, .ref h3, .ref h4, .ref h5, .ref h6, x6, x7, x8, x9, x10, x11, x12, x13, x14, x15, x16, x17, x18, x19])), (h3, .inl (cA 0, 10, .inl fn2)), (h4, .inl (cA 0, 10, .inl fn3)), (h5, .inl (cA 0, 10, .inl (va_cpy e5 f5 0 0 10))), (h6, .inl (cA 0, 10, .inl f6)), (g0, .inr (4, [.ref p0, .ref g1, .ref g3, .ref g4, .ref g5, .ref g6, .int y6, .int y7, .int y8, .long y9, .long y10, .long y11, .int y12, .int y13, .int y14, .int y15, .int y16, .int y17, .int y18, .int y19])), (g3, .inl (cA 0, 10, .inl e3)), (g4, .inl (cA 0, 10, .inl e4)), (g5, .inl (cA 0, 10, .inl e5)), (g6, .inl (cA 0, 10, .inl e6)), (h1, .inr (6, [.ref h2, .int n1, .int k1])), (h2, .inl (cA 0, 240, .inl fn1)), (g1, .inr (6, [.ref g2, .int n1, .int k1])), (g2, .inl (cA 0, 240, .inl e2))] := hD
  generalize (va_cpy e5 f5 0 0 10) = fn4 at hP hD
  have hP : va_P D vwCl [(h0, .inr (4, [.ref p0, .ref h1, .ref h3, .ref h4, .ref h5, .ref h6, x6, x7, x8, x9, x10, x11, x12, x13, x14, x15, x16, x17, x18, x19])), (h3, .inl (cA 0, 10, .inl fn2)), (h4, .inl (cA 0, 10, .inl fn3)), (h5, .inl (cA 0, 10, .inl fn4)), (h6, .inl (cA 0, 10, .inl f6)), (g0, .inr (4, [.ref p0, .ref g1, .ref g3, .ref g4, .ref g5, .ref g6, .int y6, .int y7, .int y8, .long y9, .long y10, .long y11, .int y12, .int y13, .int y14, .int y15, .int y16, .int y17, .int y18, .int y19])), (g3, .inl (cA 0, 10, .inl e3)), (g4, .inl (cA 0, 10, .inl e4)), (g5, .inl (cA 0, 10, .inl e5)), (g6, .inl (cA 0, 10, .inl e6)), (h1, .inr (6, [.ref h2, .int n1, .int k1])), (h2, .inl (cA 0, 240, .inl fn1)), (g1, .inr (6, [.ref g2, .int n1, .int k1])), (g2, .inl (cA 0, 240, .inl e2))] H := hP
  have hD : va_D A [(h0, .inr (4, [.ref p0, .ref h1, .ref h3, .ref h4, .ref h5, .ref h6, x6, x7, x8, x9, x10, x11, x12, x13, x14, x15, x16, x17, x18, x19])), (h3, .inl (cA 0, 10, .inl fn2)), (h4, .inl (cA 0, 10, .inl fn3)), (h5, .inl (cA 0, 10, .inl fn4)), (h6, .inl (cA 0, 10, .inl f6)), (g0, .inr (4, [.ref p0, .ref g1, .ref g3, .ref g4, .ref g5, .ref g6, .int y6, .int y7, .int y8, .long y9, .long y10, .long y11, .int y12, .int y13, .int y14, .int y15, .int y16, .int y17, .int y18, .int y19])), (g3, .inl (cA 0, 10, .inl e3)), (g4, .inl (cA 0, 10, .inl e4)), (g5, .inl (cA 0, 10, .inl e5)), (g6, .inl (cA 0, 10, .inl e6)), (h1, .inr (6, [.ref h2, .int n1, .int k1])), (h2, .inl (cA 0, 240, .inl fn1)), (g1, .inr (6, [.ref g2, .int n1, .int k1])), (g2, .inl (cA 0, 240, .inl e2))] := hD
  refine lv_aload_n hx hb dX0_copyFrom_64 rfl (lv_at hl 1 rfl) ?_
  refine va_get (D := D) (ci := 4) (v := .ref g6) (C := RX0) (T := TX0) (N := 20) hx hb hts inX0 hown hK hP 5 rfl rfl 5 (by decide) (hts (.fieldLink RX0 28 "EscrowDesk$Account" "dueDay" "[I") (by decide +kernel)) (fun _ h9 => h9) rfl dX0_copyFrom_65 ?_
  refine lv_iconst (v := 0) hx hb dX0_copyFrom_68 (by decide) ?_
  refine lv_aload_n hx hb dX0_copyFrom_69 rfl (lv_at hl 0 rfl) ?_
  refine va_get (D := D) (ci := 4) (v := .ref h6) (C := RX0) (T := TX0) (N := 20) hx hb hts inX0 hown hK hP 0 rfl rfl 5 (by decide) (hts (.fieldLink RX0 28 "EscrowDesk$Account" "dueDay" "[I") (by decide +kernel)) (fun _ h9 => h9) rfl dX0_copyFrom_70 ?_
  refine lv_iconst (v := 0) hx hb dX0_copyFrom_73 (by decide) ?_
  refine lv_bipush (v := 10) hx hb dX0_copyFrom_74 (by decide) ?_
  refine va_copyi hx hb (by rw [hml]; exact hl.1.symm) hown (hts (.methodLink RX0 103 arraycopyName) (by decide +kernel)) (hts (.native arraycopyName) (by decide +kernel)) (hts (.static arraycopyName) (by decide +kernel)) (hts (.initialized "java/lang/System") (by decide +kernel)) hK hP hD hS 9 4 0 0 rfl rfl rfl rfl rfl (by decide) (by decide) (by decide) (by decide +kernel) (by decide +kernel) (fun _ _ => rfl) (Nat.le_of_ble_eq_true rfl) (Nat.le_of_ble_eq_true rfl) dX0_copyFrom_76 (fun H locs hP hD hS => ?_)
  have hP : va_P D vwCl [(h0, .inr (4, [.ref p0, .ref h1, .ref h3, .ref h4, .ref h5, .ref h6, x6, x7, x8, x9, x10, x11, x12, x13, x14, x15, x16, x17, x18, x19])), (h3, .inl (cA 0, 10, .inl fn2)), (h4, .inl (cA 0, 10, .inl fn3)), (h5, .inl (cA 0, 10, .inl fn4)), (h6, .inl (cA 0, 10, .inl (va_cpy e6 f6 0 0 10))), (g0, .inr (4, [.ref p0, .ref g1, .ref g3, .ref g4, .ref g5, .ref g6, .int y6, .int y7, .int y8, .long y9, .long y10, .long y11, .int y12, .int y13, .int y14, .int y15, .int y16, .int y17, .int y18, .int y19])), (g3, .inl (cA 0, 10, .inl e3)), (g4, .inl (cA 0, 10, .inl e4)), (g5, .inl (cA 0, 10, .inl e5)), (g6, .inl (cA 0, 10, .inl e6)), (h1, .inr (6, [.ref h2, .int n1, .int k1])), (h2, .inl (cA 0, 240, .inl fn1)), (g1, .inr (6, [.ref g2, .int n1, .int k1])), (g2, .inl (cA 0, 240, .inl e2))] H := hP
  have hD : va_D A [(h0, .inr (4, [.ref p0, .ref h1, .ref h3, .ref h4, .ref h5, .ref h6, x6, x7, x8, x9, x10, x11, x12, x13, x14, x15, x16, x17, x18, x19])), (h3, .inl (cA 0, 10, .inl fn2)), (h4, .inl (cA 0, 10, .inl fn3)), (h5, .inl (cA 0, 10, .inl fn4)), (h6, .inl (cA 0, 10, .inl (va_cpy e6 f6 0 0 10))), (g0, .inr (4, [.ref p0, .ref g1, .ref g3, .ref g4, .ref g5, .ref g6, .int y6, .int y7, .int y8, .long y9, .long y10, .long y11, .int y12, .int y13, .int y14, .int y15, .int y16, .int y17, .int y18, .int y19])), (g3, .inl (cA 0, 10, .inl e3)), (g4, .inl (cA 0, 10, .inl e4)), (g5, .inl (cA 0, 10, .inl e5)), (g6, .inl (cA 0, 10, .inl e6)), (h1, .inr (6, [.ref h2, .int n1, .int k1])), (h2, .inl (cA 0, 240, .inl fn1)), (g1, .inr (6, [.ref g2, .int n1, .int k1])), (g2, .inl (cA 0, 240, .inl e2))] := hD
  generalize (va_cpy e6 f6 0 0 10) = fn5 at hP hD
  have hP : va_P D vwCl [(h0, .inr (4, [.ref p0, .ref h1, .ref h3, .ref h4, .ref h5, .ref h6, x6, x7, x8, x9, x10, x11, x12, x13, x14, x15, x16, x17, x18, x19])), (h3, .inl (cA 0, 10, .inl fn2)), (h4, .inl (cA 0, 10, .inl fn3)), (h5, .inl (cA 0, 10, .inl fn4)), (h6, .inl (cA 0, 10, .inl fn5)), (g0, .inr (4, [.ref p0, .ref g1, .ref g3, .ref g4, .ref g5, .ref g6, .int y6, .int y7, .int y8, .long y9, .long y10, .long y11, .int y12, .int y13, .int y14, .int y15, .int y16, .int y17, .int y18, .int y19])), (g3, .inl (cA 0, 10, .inl e3)), (g4, .inl (cA 0, 10, .inl e4)), (g5, .inl (cA 0, 10, .inl e5)), (g6, .inl (cA 0, 10, .inl e6)), (h1, .inr (6, [.ref h2, .int n1, .int k1])), (h2, .inl (cA 0, 240, .inl fn1)), (g1, .inr (6, [.ref g2, .int n1, .int k1])), (g2, .inl (cA 0, 240, .inl e2))] H := hP
  have hD : va_D A [(h0, .inr (4, [.ref p0, .ref h1, .ref h3, .ref h4, .ref h5, .ref h6, x6, x7, x8, x9, x10, x11, x12, x13, x14, x15, x16, x17, x18, x19])), (h3, .inl (cA 0, 10, .inl fn2)), (h4, .inl (cA 0, 10, .inl fn3)), (h5, .inl (cA 0, 10, .inl fn4)), (h6, .inl (cA 0, 10, .inl fn5)), (g0, .inr (4, [.ref p0, .ref g1, .ref g3, .ref g4, .ref g5, .ref g6, .int y6, .int y7, .int y8, .long y9, .long y10, .long y11, .int y12, .int y13, .int y14, .int y15, .int y16, .int y17, .int y18, .int y19])), (g3, .inl (cA 0, 10, .inl e3)), (g4, .inl (cA 0, 10, .inl e4)), (g5, .inl (cA 0, 10, .inl e5)), (g6, .inl (cA 0, 10, .inl e6)), (h1, .inr (6, [.ref h2, .int n1, .int k1])), (h2, .inl (cA 0, 240, .inl fn1)), (g1, .inr (6, [.ref g2, .int n1, .int k1])), (g2, .inl (cA 0, 240, .inl e2))] := hD
  refine lv_aload_n hx hb dX0_copyFrom_79 rfl (lv_at hl 0 rfl) ?_
  refine lv_aload_n hx hb dX0_copyFrom_80 rfl (lv_at hl 1 rfl) ?_
  refine va_get (D := D) (ci := 4) (v := .int y6) (C := RX0) (T := TX0) (N := 20) hx hb hts inX0 hown hK hP 5 rfl rfl 6 (by decide) (hts (.fieldLink RX0 40 "EscrowDesk$Account" "day" "I") (by decide +kernel)) (fun _ h9 => h9) rfl dX0_copyFrom_81 ?_
  refine va_put (D := D) (ci := 4) (v := .int y6) (ty := .int) (C := RX0) (T := TX0) (N := 20) hx hb hts inX0 tyX0 tyX0_ok nmX0 hown hK hP hD hS 0 rfl rfl 6 (by decide) (hts (.fieldLink RX0 40 "EscrowDesk$Account" "day" "I") (by decide +kernel)) (fun _ h9 => h9) rfl (by decide +kernel) rfl rfl (Nat.le_of_ble_eq_true rfl) dX0_copyFrom_84 (fun H locs hP hD hS => ?_)
  have hP : va_P D vwCl [(h0, .inr (4, [.ref p0, .ref h1, .ref h3, .ref h4, .ref h5, .ref h6, .int y6, x7, x8, x9, x10, x11, x12, x13, x14, x15, x16, x17, x18, x19])), (h3, .inl (cA 0, 10, .inl fn2)), (h4, .inl (cA 0, 10, .inl fn3)), (h5, .inl (cA 0, 10, .inl fn4)), (h6, .inl (cA 0, 10, .inl fn5)), (g0, .inr (4, [.ref p0, .ref g1, .ref g3, .ref g4, .ref g5, .ref g6, .int y6, .int y7, .int y8, .long y9, .long y10, .long y11, .int y12, .int y13, .int y14, .int y15, .int y16, .int y17, .int y18, .int y19])), (g3, .inl (cA 0, 10, .inl e3)), (g4, .inl (cA 0, 10, .inl e4)), (g5, .inl (cA 0, 10, .inl e5)), (g6, .inl (cA 0, 10, .inl e6)), (h1, .inr (6, [.ref h2, .int n1, .int k1])), (h2, .inl (cA 0, 240, .inl fn1)), (g1, .inr (6, [.ref g2, .int n1, .int k1])), (g2, .inl (cA 0, 240, .inl e2))] H := hP
  have hD : va_D A [(h0, .inr (4, [.ref p0, .ref h1, .ref h3, .ref h4, .ref h5, .ref h6, .int y6, x7, x8, x9, x10, x11, x12, x13, x14, x15, x16, x17, x18, x19])), (h3, .inl (cA 0, 10, .inl fn2)), (h4, .inl (cA 0, 10, .inl fn3)), (h5, .inl (cA 0, 10, .inl fn4)), (h6, .inl (cA 0, 10, .inl fn5)), (g0, .inr (4, [.ref p0, .ref g1, .ref g3, .ref g4, .ref g5, .ref g6, .int y6, .int y7, .int y8, .long y9, .long y10, .long y11, .int y12, .int y13, .int y14, .int y15, .int y16, .int y17, .int y18, .int y19])), (g3, .inl (cA 0, 10, .inl e3)), (g4, .inl (cA 0, 10, .inl e4)), (g5, .inl (cA 0, 10, .inl e5)), (g6, .inl (cA 0, 10, .inl e6)), (h1, .inr (6, [.ref h2, .int n1, .int k1])), (h2, .inl (cA 0, 240, .inl fn1)), (g1, .inr (6, [.ref g2, .int n1, .int k1])), (g2, .inl (cA 0, 240, .inl e2))] := hD
  refine lv_aload_n hx hb dX0_copyFrom_87 rfl (lv_at hl 0 rfl) ?_
  refine lv_aload_n hx hb dX0_copyFrom_88 rfl (lv_at hl 1 rfl) ?_
  refine va_get (D := D) (ci := 4) (v := .int y7) (C := RX0) (T := TX0) (N := 20) hx hb hts inX0 hown hK hP 5 rfl rfl 7 (by decide) (hts (.fieldLink RX0 44 "EscrowDesk$Account" "deposited" "I") (by decide +kernel)) (fun _ h9 => h9) rfl dX0_copyFrom_89 ?_
  refine va_put (D := D) (ci := 4) (v := .int y7) (ty := .int) (C := RX0) (T := TX0) (N := 20) hx hb hts inX0 tyX0 tyX0_ok nmX0 hown hK hP hD hS 0 rfl rfl 7 (by decide) (hts (.fieldLink RX0 44 "EscrowDesk$Account" "deposited" "I") (by decide +kernel)) (fun _ h9 => h9) rfl (by decide +kernel) rfl rfl (Nat.le_of_ble_eq_true rfl) dX0_copyFrom_92 (fun H locs hP hD hS => ?_)
  have hP : va_P D vwCl [(h0, .inr (4, [.ref p0, .ref h1, .ref h3, .ref h4, .ref h5, .ref h6, .int y6, .int y7, x8, x9, x10, x11, x12, x13, x14, x15, x16, x17, x18, x19])), (h3, .inl (cA 0, 10, .inl fn2)), (h4, .inl (cA 0, 10, .inl fn3)), (h5, .inl (cA 0, 10, .inl fn4)), (h6, .inl (cA 0, 10, .inl fn5)), (g0, .inr (4, [.ref p0, .ref g1, .ref g3, .ref g4, .ref g5, .ref g6, .int y6, .int y7, .int y8, .long y9, .long y10, .long y11, .int y12, .int y13, .int y14, .int y15, .int y16, .int y17, .int y18, .int y19])), (g3, .inl (cA 0, 10, .inl e3)), (g4, .inl (cA 0, 10, .inl e4)), (g5, .inl (cA 0, 10, .inl e5)), (g6, .inl (cA 0, 10, .inl e6)), (h1, .inr (6, [.ref h2, .int n1, .int k1])), (h2, .inl (cA 0, 240, .inl fn1)), (g1, .inr (6, [.ref g2, .int n1, .int k1])), (g2, .inl (cA 0, 240, .inl e2))] H := hP
  have hD : va_D A [(h0, .inr (4, [.ref p0, .ref h1, .ref h3, .ref h4, .ref h5, .ref h6, .int y6, .int y7, x8, x9, x10, x11, x12, x13, x14, x15, x16, x17, x18, x19])), (h3, .inl (cA 0, 10, .inl fn2)), (h4, .inl (cA 0, 10, .inl fn3)), (h5, .inl (cA 0, 10, .inl fn4)), (h6, .inl (cA 0, 10, .inl fn5)), (g0, .inr (4, [.ref p0, .ref g1, .ref g3, .ref g4, .ref g5, .ref g6, .int y6, .int y7, .int y8, .long y9, .long y10, .long y11, .int y12, .int y13, .int y14, .int y15, .int y16, .int y17, .int y18, .int y19])), (g3, .inl (cA 0, 10, .inl e3)), (g4, .inl (cA 0, 10, .inl e4)), (g5, .inl (cA 0, 10, .inl e5)), (g6, .inl (cA 0, 10, .inl e6)), (h1, .inr (6, [.ref h2, .int n1, .int k1])), (h2, .inl (cA 0, 240, .inl fn1)), (g1, .inr (6, [.ref g2, .int n1, .int k1])), (g2, .inl (cA 0, 240, .inl e2))] := hD
  refine lv_aload_n hx hb dX0_copyFrom_95 rfl (lv_at hl 0 rfl) ?_
  refine lv_aload_n hx hb dX0_copyFrom_96 rfl (lv_at hl 1 rfl) ?_
  refine va_get (D := D) (ci := 4) (v := .int y8) (C := RX0) (T := TX0) (N := 20) hx hb hts inX0 hown hK hP 5 rfl rfl 8 (by decide) (hts (.fieldLink RX0 47 "EscrowDesk$Account" "principal" "I") (by decide +kernel)) (fun _ h9 => h9) rfl dX0_copyFrom_97 ?_
  refine va_put (D := D) (ci := 4) (v := .int y8) (ty := .int) (C := RX0) (T := TX0) (N := 20) hx hb hts inX0 tyX0 tyX0_ok nmX0 hown hK hP hD hS 0 rfl rfl 8 (by decide) (hts (.fieldLink RX0 47 "EscrowDesk$Account" "principal" "I") (by decide +kernel)) (fun _ h9 => h9) rfl (by decide +kernel) rfl rfl (Nat.le_of_ble_eq_true rfl) dX0_copyFrom_100 (fun H locs hP hD hS => ?_)
  have hP : va_P D vwCl [(h0, .inr (4, [.ref p0, .ref h1, .ref h3, .ref h4, .ref h5, .ref h6, .int y6, .int y7, .int y8, x9, x10, x11, x12, x13, x14, x15, x16, x17, x18, x19])), (h3, .inl (cA 0, 10, .inl fn2)), (h4, .inl (cA 0, 10, .inl fn3)), (h5, .inl (cA 0, 10, .inl fn4)), (h6, .inl (cA 0, 10, .inl fn5)), (g0, .inr (4, [.ref p0, .ref g1, .ref g3, .ref g4, .ref g5, .ref g6, .int y6, .int y7, .int y8, .long y9, .long y10, .long y11, .int y12, .int y13, .int y14, .int y15, .int y16, .int y17, .int y18, .int y19])), (g3, .inl (cA 0, 10, .inl e3)), (g4, .inl (cA 0, 10, .inl e4)), (g5, .inl (cA 0, 10, .inl e5)), (g6, .inl (cA 0, 10, .inl e6)), (h1, .inr (6, [.ref h2, .int n1, .int k1])), (h2, .inl (cA 0, 240, .inl fn1)), (g1, .inr (6, [.ref g2, .int n1, .int k1])), (g2, .inl (cA 0, 240, .inl e2))] H := hP
  have hD : va_D A [(h0, .inr (4, [.ref p0, .ref h1, .ref h3, .ref h4, .ref h5, .ref h6, .int y6, .int y7, .int y8, x9, x10, x11, x12, x13, x14, x15, x16, x17, x18, x19])), (h3, .inl (cA 0, 10, .inl fn2)), (h4, .inl (cA 0, 10, .inl fn3)), (h5, .inl (cA 0, 10, .inl fn4)), (h6, .inl (cA 0, 10, .inl fn5)), (g0, .inr (4, [.ref p0, .ref g1, .ref g3, .ref g4, .ref g5, .ref g6, .int y6, .int y7, .int y8, .long y9, .long y10, .long y11, .int y12, .int y13, .int y14, .int y15, .int y16, .int y17, .int y18, .int y19])), (g3, .inl (cA 0, 10, .inl e3)), (g4, .inl (cA 0, 10, .inl e4)), (g5, .inl (cA 0, 10, .inl e5)), (g6, .inl (cA 0, 10, .inl e6)), (h1, .inr (6, [.ref h2, .int n1, .int k1])), (h2, .inl (cA 0, 240, .inl fn1)), (g1, .inr (6, [.ref g2, .int n1, .int k1])), (g2, .inl (cA 0, 240, .inl e2))] := hD
  refine lv_aload_n hx hb dX0_copyFrom_103 rfl (lv_at hl 0 rfl) ?_
  refine lv_aload_n hx hb dX0_copyFrom_104 rfl (lv_at hl 1 rfl) ?_
  refine va_get (D := D) (ci := 4) (v := .long y9) (C := RX0) (T := TX0) (N := 20) hx hb hts inX0 hown hK hP 5 rfl rfl 9 (by decide) (hts (.fieldLink RX0 50 "EscrowDesk$Account" "interestPot" "J") (by decide +kernel)) (fun _ h9 => h9) rfl dX0_copyFrom_105 ?_
  refine va_put (D := D) (ci := 4) (v := .long y9) (ty := .long) (C := RX0) (T := TX0) (N := 20) hx hb hts inX0 tyX0 tyX0_ok nmX0 hown hK hP hD hS 0 rfl rfl 9 (by decide) (hts (.fieldLink RX0 50 "EscrowDesk$Account" "interestPot" "J") (by decide +kernel)) (fun _ h9 => h9) rfl (by decide +kernel) rfl rfl (Nat.le_of_ble_eq_true rfl) dX0_copyFrom_108 (fun H locs hP hD hS => ?_)
  have hP : va_P D vwCl [(h0, .inr (4, [.ref p0, .ref h1, .ref h3, .ref h4, .ref h5, .ref h6, .int y6, .int y7, .int y8, .long y9, x10, x11, x12, x13, x14, x15, x16, x17, x18, x19])), (h3, .inl (cA 0, 10, .inl fn2)), (h4, .inl (cA 0, 10, .inl fn3)), (h5, .inl (cA 0, 10, .inl fn4)), (h6, .inl (cA 0, 10, .inl fn5)), (g0, .inr (4, [.ref p0, .ref g1, .ref g3, .ref g4, .ref g5, .ref g6, .int y6, .int y7, .int y8, .long y9, .long y10, .long y11, .int y12, .int y13, .int y14, .int y15, .int y16, .int y17, .int y18, .int y19])), (g3, .inl (cA 0, 10, .inl e3)), (g4, .inl (cA 0, 10, .inl e4)), (g5, .inl (cA 0, 10, .inl e5)), (g6, .inl (cA 0, 10, .inl e6)), (h1, .inr (6, [.ref h2, .int n1, .int k1])), (h2, .inl (cA 0, 240, .inl fn1)), (g1, .inr (6, [.ref g2, .int n1, .int k1])), (g2, .inl (cA 0, 240, .inl e2))] H := hP
  have hD : va_D A [(h0, .inr (4, [.ref p0, .ref h1, .ref h3, .ref h4, .ref h5, .ref h6, .int y6, .int y7, .int y8, .long y9, x10, x11, x12, x13, x14, x15, x16, x17, x18, x19])), (h3, .inl (cA 0, 10, .inl fn2)), (h4, .inl (cA 0, 10, .inl fn3)), (h5, .inl (cA 0, 10, .inl fn4)), (h6, .inl (cA 0, 10, .inl fn5)), (g0, .inr (4, [.ref p0, .ref g1, .ref g3, .ref g4, .ref g5, .ref g6, .int y6, .int y7, .int y8, .long y9, .long y10, .long y11, .int y12, .int y13, .int y14, .int y15, .int y16, .int y17, .int y18, .int y19])), (g3, .inl (cA 0, 10, .inl e3)), (g4, .inl (cA 0, 10, .inl e4)), (g5, .inl (cA 0, 10, .inl e5)), (g6, .inl (cA 0, 10, .inl e6)), (h1, .inr (6, [.ref h2, .int n1, .int k1])), (h2, .inl (cA 0, 240, .inl fn1)), (g1, .inr (6, [.ref g2, .int n1, .int k1])), (g2, .inl (cA 0, 240, .inl e2))] := hD
  refine lv_aload_n hx hb dX0_copyFrom_111 rfl (lv_at hl 0 rfl) ?_
  refine lv_aload_n hx hb dX0_copyFrom_112 rfl (lv_at hl 1 rfl) ?_
  refine va_get (D := D) (ci := 4) (v := .long y10) (C := RX0) (T := TX0) (N := 20) hx hb hts inX0 hown hK hP 5 rfl rfl 10 (by decide) (hts (.fieldLink RX0 54 "EscrowDesk$Account" "credited" "J") (by decide +kernel)) (fun _ h9 => h9) rfl dX0_copyFrom_113 ?_
  refine va_put (D := D) (ci := 4) (v := .long y10) (ty := .long) (C := RX0) (T := TX0) (N := 20) hx hb hts inX0 tyX0 tyX0_ok nmX0 hown hK hP hD hS 0 rfl rfl 10 (by decide) (hts (.fieldLink RX0 54 "EscrowDesk$Account" "credited" "J") (by decide +kernel)) (fun _ h9 => h9) rfl (by decide +kernel) rfl rfl (Nat.le_of_ble_eq_true rfl) dX0_copyFrom_116 (fun H locs hP hD hS => ?_)
  have hP : va_P D vwCl [(h0, .inr (4, [.ref p0, .ref h1, .ref h3, .ref h4, .ref h5, .ref h6, .int y6, .int y7, .int y8, .long y9, .long y10, x11, x12, x13, x14, x15, x16, x17, x18, x19])), (h3, .inl (cA 0, 10, .inl fn2)), (h4, .inl (cA 0, 10, .inl fn3)), (h5, .inl (cA 0, 10, .inl fn4)), (h6, .inl (cA 0, 10, .inl fn5)), (g0, .inr (4, [.ref p0, .ref g1, .ref g3, .ref g4, .ref g5, .ref g6, .int y6, .int y7, .int y8, .long y9, .long y10, .long y11, .int y12, .int y13, .int y14, .int y15, .int y16, .int y17, .int y18, .int y19])), (g3, .inl (cA 0, 10, .inl e3)), (g4, .inl (cA 0, 10, .inl e4)), (g5, .inl (cA 0, 10, .inl e5)), (g6, .inl (cA 0, 10, .inl e6)), (h1, .inr (6, [.ref h2, .int n1, .int k1])), (h2, .inl (cA 0, 240, .inl fn1)), (g1, .inr (6, [.ref g2, .int n1, .int k1])), (g2, .inl (cA 0, 240, .inl e2))] H := hP
  have hD : va_D A [(h0, .inr (4, [.ref p0, .ref h1, .ref h3, .ref h4, .ref h5, .ref h6, .int y6, .int y7, .int y8, .long y9, .long y10, x11, x12, x13, x14, x15, x16, x17, x18, x19])), (h3, .inl (cA 0, 10, .inl fn2)), (h4, .inl (cA 0, 10, .inl fn3)), (h5, .inl (cA 0, 10, .inl fn4)), (h6, .inl (cA 0, 10, .inl fn5)), (g0, .inr (4, [.ref p0, .ref g1, .ref g3, .ref g4, .ref g5, .ref g6, .int y6, .int y7, .int y8, .long y9, .long y10, .long y11, .int y12, .int y13, .int y14, .int y15, .int y16, .int y17, .int y18, .int y19])), (g3, .inl (cA 0, 10, .inl e3)), (g4, .inl (cA 0, 10, .inl e4)), (g5, .inl (cA 0, 10, .inl e5)), (g6, .inl (cA 0, 10, .inl e6)), (h1, .inr (6, [.ref h2, .int n1, .int k1])), (h2, .inl (cA 0, 240, .inl fn1)), (g1, .inr (6, [.ref g2, .int n1, .int k1])), (g2, .inl (cA 0, 240, .inl e2))] := hD
  refine lv_aload_n hx hb dX0_copyFrom_119 rfl (lv_at hl 0 rfl) ?_
  refine lv_aload_n hx hb dX0_copyFrom_120 rfl (lv_at hl 1 rfl) ?_
  refine va_get (D := D) (ci := 4) (v := .long y11) (C := RX0) (T := TX0) (N := 20) hx hb hts inX0 hown hK hP 5 rfl rfl 11 (by decide) (hts (.fieldLink RX0 57 "EscrowDesk$Account" "accruedParts" "J") (by decide +kernel)) (fun _ h9 => h9) rfl dX0_copyFrom_121 ?_
  refine va_put (D := D) (ci := 4) (v := .long y11) (ty := .long) (C := RX0) (T := TX0) (N := 20) hx hb hts inX0 tyX0 tyX0_ok nmX0 hown hK hP hD hS 0 rfl rfl 11 (by decide) (hts (.fieldLink RX0 57 "EscrowDesk$Account" "accruedParts" "J") (by decide +kernel)) (fun _ h9 => h9) rfl (by decide +kernel) rfl rfl (Nat.le_of_ble_eq_true rfl) dX0_copyFrom_124 (fun H locs hP hD hS => ?_)
  have hP : va_P D vwCl [(h0, .inr (4, [.ref p0, .ref h1, .ref h3, .ref h4, .ref h5, .ref h6, .int y6, .int y7, .int y8, .long y9, .long y10, .long y11, x12, x13, x14, x15, x16, x17, x18, x19])), (h3, .inl (cA 0, 10, .inl fn2)), (h4, .inl (cA 0, 10, .inl fn3)), (h5, .inl (cA 0, 10, .inl fn4)), (h6, .inl (cA 0, 10, .inl fn5)), (g0, .inr (4, [.ref p0, .ref g1, .ref g3, .ref g4, .ref g5, .ref g6, .int y6, .int y7, .int y8, .long y9, .long y10, .long y11, .int y12, .int y13, .int y14, .int y15, .int y16, .int y17, .int y18, .int y19])), (g3, .inl (cA 0, 10, .inl e3)), (g4, .inl (cA 0, 10, .inl e4)), (g5, .inl (cA 0, 10, .inl e5)), (g6, .inl (cA 0, 10, .inl e6)), (h1, .inr (6, [.ref h2, .int n1, .int k1])), (h2, .inl (cA 0, 240, .inl fn1)), (g1, .inr (6, [.ref g2, .int n1, .int k1])), (g2, .inl (cA 0, 240, .inl e2))] H := hP
  have hD : va_D A [(h0, .inr (4, [.ref p0, .ref h1, .ref h3, .ref h4, .ref h5, .ref h6, .int y6, .int y7, .int y8, .long y9, .long y10, .long y11, x12, x13, x14, x15, x16, x17, x18, x19])), (h3, .inl (cA 0, 10, .inl fn2)), (h4, .inl (cA 0, 10, .inl fn3)), (h5, .inl (cA 0, 10, .inl fn4)), (h6, .inl (cA 0, 10, .inl fn5)), (g0, .inr (4, [.ref p0, .ref g1, .ref g3, .ref g4, .ref g5, .ref g6, .int y6, .int y7, .int y8, .long y9, .long y10, .long y11, .int y12, .int y13, .int y14, .int y15, .int y16, .int y17, .int y18, .int y19])), (g3, .inl (cA 0, 10, .inl e3)), (g4, .inl (cA 0, 10, .inl e4)), (g5, .inl (cA 0, 10, .inl e5)), (g6, .inl (cA 0, 10, .inl e6)), (h1, .inr (6, [.ref h2, .int n1, .int k1])), (h2, .inl (cA 0, 240, .inl fn1)), (g1, .inr (6, [.ref g2, .int n1, .int k1])), (g2, .inl (cA 0, 240, .inl e2))] := hD
  refine lv_aload_n hx hb dX0_copyFrom_127 rfl (lv_at hl 0 rfl) ?_
  refine lv_aload_n hx hb dX0_copyFrom_128 rfl (lv_at hl 1 rfl) ?_
  refine va_get (D := D) (ci := 4) (v := .int y12) (C := RX0) (T := TX0) (N := 20) hx hb hts inX0 hown hK hP 5 rfl rfl 12 (by decide) (hts (.fieldLink RX0 60 "EscrowDesk$Account" "received" "I") (by decide +kernel)) (fun _ h9 => h9) rfl dX0_copyFrom_129 ?_
  refine va_put (D := D) (ci := 4) (v := .int y12) (ty := .int) (C := RX0) (T := TX0) (N := 20) hx hb hts inX0 tyX0 tyX0_ok nmX0 hown hK hP hD hS 0 rfl rfl 12 (by decide) (hts (.fieldLink RX0 60 "EscrowDesk$Account" "received" "I") (by decide +kernel)) (fun _ h9 => h9) rfl (by decide +kernel) rfl rfl (Nat.le_of_ble_eq_true rfl) dX0_copyFrom_132 (fun H locs hP hD hS => ?_)
  have hP : va_P D vwCl [(h0, .inr (4, [.ref p0, .ref h1, .ref h3, .ref h4, .ref h5, .ref h6, .int y6, .int y7, .int y8, .long y9, .long y10, .long y11, .int y12, x13, x14, x15, x16, x17, x18, x19])), (h3, .inl (cA 0, 10, .inl fn2)), (h4, .inl (cA 0, 10, .inl fn3)), (h5, .inl (cA 0, 10, .inl fn4)), (h6, .inl (cA 0, 10, .inl fn5)), (g0, .inr (4, [.ref p0, .ref g1, .ref g3, .ref g4, .ref g5, .ref g6, .int y6, .int y7, .int y8, .long y9, .long y10, .long y11, .int y12, .int y13, .int y14, .int y15, .int y16, .int y17, .int y18, .int y19])), (g3, .inl (cA 0, 10, .inl e3)), (g4, .inl (cA 0, 10, .inl e4)), (g5, .inl (cA 0, 10, .inl e5)), (g6, .inl (cA 0, 10, .inl e6)), (h1, .inr (6, [.ref h2, .int n1, .int k1])), (h2, .inl (cA 0, 240, .inl fn1)), (g1, .inr (6, [.ref g2, .int n1, .int k1])), (g2, .inl (cA 0, 240, .inl e2))] H := hP
  have hD : va_D A [(h0, .inr (4, [.ref p0, .ref h1, .ref h3, .ref h4, .ref h5, .ref h6, .int y6, .int y7, .int y8, .long y9, .long y10, .long y11, .int y12, x13, x14, x15, x16, x17, x18, x19])), (h3, .inl (cA 0, 10, .inl fn2)), (h4, .inl (cA 0, 10, .inl fn3)), (h5, .inl (cA 0, 10, .inl fn4)), (h6, .inl (cA 0, 10, .inl fn5)), (g0, .inr (4, [.ref p0, .ref g1, .ref g3, .ref g4, .ref g5, .ref g6, .int y6, .int y7, .int y8, .long y9, .long y10, .long y11, .int y12, .int y13, .int y14, .int y15, .int y16, .int y17, .int y18, .int y19])), (g3, .inl (cA 0, 10, .inl e3)), (g4, .inl (cA 0, 10, .inl e4)), (g5, .inl (cA 0, 10, .inl e5)), (g6, .inl (cA 0, 10, .inl e6)), (h1, .inr (6, [.ref h2, .int n1, .int k1])), (h2, .inl (cA 0, 240, .inl fn1)), (g1, .inr (6, [.ref g2, .int n1, .int k1])), (g2, .inl (cA 0, 240, .inl e2))] := hD
  refine lv_aload_n hx hb dX0_copyFrom_135 rfl (lv_at hl 0 rfl) ?_
  refine lv_aload_n hx hb dX0_copyFrom_136 rfl (lv_at hl 1 rfl) ?_
  refine va_get (D := D) (ci := 4) (v := .int y13) (C := RX0) (T := TX0) (N := 20) hx hb hts inX0 hown hK hP 5 rfl rfl 13 (by decide) (hts (.fieldLink RX0 63 "EscrowDesk$Account" "fees" "I") (by decide +kernel)) (fun _ h9 => h9) rfl dX0_copyFrom_137 ?_
  refine va_put (D := D) (ci := 4) (v := .int y13) (ty := .int) (C := RX0) (T := TX0) (N := 20) hx hb hts inX0 tyX0 tyX0_ok nmX0 hown hK hP hD hS 0 rfl rfl 13 (by decide) (hts (.fieldLink RX0 63 "EscrowDesk$Account" "fees" "I") (by decide +kernel)) (fun _ h9 => h9) rfl (by decide +kernel) rfl rfl (Nat.le_of_ble_eq_true rfl) dX0_copyFrom_140 (fun H locs hP hD hS => ?_)
  have hP : va_P D vwCl [(h0, .inr (4, [.ref p0, .ref h1, .ref h3, .ref h4, .ref h5, .ref h6, .int y6, .int y7, .int y8, .long y9, .long y10, .long y11, .int y12, .int y13, x14, x15, x16, x17, x18, x19])), (h3, .inl (cA 0, 10, .inl fn2)), (h4, .inl (cA 0, 10, .inl fn3)), (h5, .inl (cA 0, 10, .inl fn4)), (h6, .inl (cA 0, 10, .inl fn5)), (g0, .inr (4, [.ref p0, .ref g1, .ref g3, .ref g4, .ref g5, .ref g6, .int y6, .int y7, .int y8, .long y9, .long y10, .long y11, .int y12, .int y13, .int y14, .int y15, .int y16, .int y17, .int y18, .int y19])), (g3, .inl (cA 0, 10, .inl e3)), (g4, .inl (cA 0, 10, .inl e4)), (g5, .inl (cA 0, 10, .inl e5)), (g6, .inl (cA 0, 10, .inl e6)), (h1, .inr (6, [.ref h2, .int n1, .int k1])), (h2, .inl (cA 0, 240, .inl fn1)), (g1, .inr (6, [.ref g2, .int n1, .int k1])), (g2, .inl (cA 0, 240, .inl e2))] H := hP
  have hD : va_D A [(h0, .inr (4, [.ref p0, .ref h1, .ref h3, .ref h4, .ref h5, .ref h6, .int y6, .int y7, .int y8, .long y9, .long y10, .long y11, .int y12, .int y13, x14, x15, x16, x17, x18, x19])), (h3, .inl (cA 0, 10, .inl fn2)), (h4, .inl (cA 0, 10, .inl fn3)), (h5, .inl (cA 0, 10, .inl fn4)), (h6, .inl (cA 0, 10, .inl fn5)), (g0, .inr (4, [.ref p0, .ref g1, .ref g3, .ref g4, .ref g5, .ref g6, .int y6, .int y7, .int y8, .long y9, .long y10, .long y11, .int y12, .int y13, .int y14, .int y15, .int y16, .int y17, .int y18, .int y19])), (g3, .inl (cA 0, 10, .inl e3)), (g4, .inl (cA 0, 10, .inl e4)), (g5, .inl (cA 0, 10, .inl e5)), (g6, .inl (cA 0, 10, .inl e6)), (h1, .inr (6, [.ref h2, .int n1, .int k1])), (h2, .inl (cA 0, 240, .inl fn1)), (g1, .inr (6, [.ref g2, .int n1, .int k1])), (g2, .inl (cA 0, 240, .inl e2))] := hD
  refine lv_aload_n hx hb dX0_copyFrom_143 rfl (lv_at hl 0 rfl) ?_
  refine lv_aload_n hx hb dX0_copyFrom_144 rfl (lv_at hl 1 rfl) ?_
  refine va_get (D := D) (ci := 4) (v := .int y14) (C := RX0) (T := TX0) (N := 20) hx hb hts inX0 hown hK hP 5 rfl rfl 14 (by decide) (hts (.fieldLink RX0 66 "EscrowDesk$Account" "refunded" "I") (by decide +kernel)) (fun _ h9 => h9) rfl dX0_copyFrom_145 ?_
  refine va_put (D := D) (ci := 4) (v := .int y14) (ty := .int) (C := RX0) (T := TX0) (N := 20) hx hb hts inX0 tyX0 tyX0_ok nmX0 hown hK hP hD hS 0 rfl rfl 14 (by decide) (hts (.fieldLink RX0 66 "EscrowDesk$Account" "refunded" "I") (by decide +kernel)) (fun _ h9 => h9) rfl (by decide +kernel) rfl rfl (Nat.le_of_ble_eq_true rfl) dX0_copyFrom_148 (fun H locs hP hD hS => ?_)
  have hP : va_P D vwCl [(h0, .inr (4, [.ref p0, .ref h1, .ref h3, .ref h4, .ref h5, .ref h6, .int y6, .int y7, .int y8, .long y9, .long y10, .long y11, .int y12, .int y13, .int y14, x15, x16, x17, x18, x19])), (h3, .inl (cA 0, 10, .inl fn2)), (h4, .inl (cA 0, 10, .inl fn3)), (h5, .inl (cA 0, 10, .inl fn4)), (h6, .inl (cA 0, 10, .inl fn5)), (g0, .inr (4, [.ref p0, .ref g1, .ref g3, .ref g4, .ref g5, .ref g6, .int y6, .int y7, .int y8, .long y9, .long y10, .long y11, .int y12, .int y13, .int y14, .int y15, .int y16, .int y17, .int y18, .int y19])), (g3, .inl (cA 0, 10, .inl e3)), (g4, .inl (cA 0, 10, .inl e4)), (g5, .inl (cA 0, 10, .inl e5)), (g6, .inl (cA 0, 10, .inl e6)), (h1, .inr (6, [.ref h2, .int n1, .int k1])), (h2, .inl (cA 0, 240, .inl fn1)), (g1, .inr (6, [.ref g2, .int n1, .int k1])), (g2, .inl (cA 0, 240, .inl e2))] H := hP
  have hD : va_D A [(h0, .inr (4, [.ref p0, .ref h1, .ref h3, .ref h4, .ref h5, .ref h6, .int y6, .int y7, .int y8, .long y9, .long y10, .long y11, .int y12, .int y13, .int y14, x15, x16, x17, x18, x19])), (h3, .inl (cA 0, 10, .inl fn2)), (h4, .inl (cA 0, 10, .inl fn3)), (h5, .inl (cA 0, 10, .inl fn4)), (h6, .inl (cA 0, 10, .inl fn5)), (g0, .inr (4, [.ref p0, .ref g1, .ref g3, .ref g4, .ref g5, .ref g6, .int y6, .int y7, .int y8, .long y9, .long y10, .long y11, .int y12, .int y13, .int y14, .int y15, .int y16, .int y17, .int y18, .int y19])), (g3, .inl (cA 0, 10, .inl e3)), (g4, .inl (cA 0, 10, .inl e4)), (g5, .inl (cA 0, 10, .inl e5)), (g6, .inl (cA 0, 10, .inl e6)), (h1, .inr (6, [.ref h2, .int n1, .int k1])), (h2, .inl (cA 0, 240, .inl fn1)), (g1, .inr (6, [.ref g2, .int n1, .int k1])), (g2, .inl (cA 0, 240, .inl e2))] := hD
  refine lv_aload_n hx hb dX0_copyFrom_151 rfl (lv_at hl 0 rfl) ?_
  refine lv_aload_n hx hb dX0_copyFrom_152 rfl (lv_at hl 1 rfl) ?_
  refine va_get (D := D) (ci := 4) (v := .int y15) (C := RX0) (T := TX0) (N := 20) hx hb hts inX0 hown hK hP 5 rfl rfl 15 (by decide) (hts (.fieldLink RX0 74 "EscrowDesk$Account" "rate" "I") (by decide +kernel)) (fun _ h9 => h9) rfl dX0_copyFrom_153 ?_
  refine va_put (D := D) (ci := 4) (v := .int y15) (ty := .int) (C := RX0) (T := TX0) (N := 20) hx hb hts inX0 tyX0 tyX0_ok nmX0 hown hK hP hD hS 0 rfl rfl 15 (by decide) (hts (.fieldLink RX0 74 "EscrowDesk$Account" "rate" "I") (by decide +kernel)) (fun _ h9 => h9) rfl (by decide +kernel) rfl rfl (Nat.le_of_ble_eq_true rfl) dX0_copyFrom_156 (fun H locs hP hD hS => ?_)
  have hP : va_P D vwCl [(h0, .inr (4, [.ref p0, .ref h1, .ref h3, .ref h4, .ref h5, .ref h6, .int y6, .int y7, .int y8, .long y9, .long y10, .long y11, .int y12, .int y13, .int y14, .int y15, x16, x17, x18, x19])), (h3, .inl (cA 0, 10, .inl fn2)), (h4, .inl (cA 0, 10, .inl fn3)), (h5, .inl (cA 0, 10, .inl fn4)), (h6, .inl (cA 0, 10, .inl fn5)), (g0, .inr (4, [.ref p0, .ref g1, .ref g3, .ref g4, .ref g5, .ref g6, .int y6, .int y7, .int y8, .long y9, .long y10, .long y11, .int y12, .int y13, .int y14, .int y15, .int y16, .int y17, .int y18, .int y19])), (g3, .inl (cA 0, 10, .inl e3)), (g4, .inl (cA 0, 10, .inl e4)), (g5, .inl (cA 0, 10, .inl e5)), (g6, .inl (cA 0, 10, .inl e6)), (h1, .inr (6, [.ref h2, .int n1, .int k1])), (h2, .inl (cA 0, 240, .inl fn1)), (g1, .inr (6, [.ref g2, .int n1, .int k1])), (g2, .inl (cA 0, 240, .inl e2))] H := hP
  have hD : va_D A [(h0, .inr (4, [.ref p0, .ref h1, .ref h3, .ref h4, .ref h5, .ref h6, .int y6, .int y7, .int y8, .long y9, .long y10, .long y11, .int y12, .int y13, .int y14, .int y15, x16, x17, x18, x19])), (h3, .inl (cA 0, 10, .inl fn2)), (h4, .inl (cA 0, 10, .inl fn3)), (h5, .inl (cA 0, 10, .inl fn4)), (h6, .inl (cA 0, 10, .inl fn5)), (g0, .inr (4, [.ref p0, .ref g1, .ref g3, .ref g4, .ref g5, .ref g6, .int y6, .int y7, .int y8, .long y9, .long y10, .long y11, .int y12, .int y13, .int y14, .int y15, .int y16, .int y17, .int y18, .int y19])), (g3, .inl (cA 0, 10, .inl e3)), (g4, .inl (cA 0, 10, .inl e4)), (g5, .inl (cA 0, 10, .inl e5)), (g6, .inl (cA 0, 10, .inl e6)), (h1, .inr (6, [.ref h2, .int n1, .int k1])), (h2, .inl (cA 0, 240, .inl fn1)), (g1, .inr (6, [.ref g2, .int n1, .int k1])), (g2, .inl (cA 0, 240, .inl e2))] := hD
  refine lv_aload_n hx hb dX0_copyFrom_159 rfl (lv_at hl 0 rfl) ?_
  refine lv_aload_n hx hb dX0_copyFrom_160 rfl (lv_at hl 1 rfl) ?_
  refine va_get (D := D) (ci := 4) (v := .int y16) (C := RX0) (T := TX0) (N := 20) hx hb hts inX0 hown hK hP 5 rfl rfl 16 (by decide) (hts (.fieldLink RX0 78 "EscrowDesk$Account" "basis" "I") (by decide +kernel)) (fun _ h9 => h9) rfl dX0_copyFrom_161 ?_
  refine va_put (D := D) (ci := 4) (v := .int y16) (ty := .int) (C := RX0) (T := TX0) (N := 20) hx hb hts inX0 tyX0 tyX0_ok nmX0 hown hK hP hD hS 0 rfl rfl 16 (by decide) (hts (.fieldLink RX0 78 "EscrowDesk$Account" "basis" "I") (by decide +kernel)) (fun _ h9 => h9) rfl (by decide +kernel) rfl rfl (Nat.le_of_ble_eq_true rfl) dX0_copyFrom_164 (fun H locs hP hD hS => ?_)
  have hP : va_P D vwCl [(h0, .inr (4, [.ref p0, .ref h1, .ref h3, .ref h4, .ref h5, .ref h6, .int y6, .int y7, .int y8, .long y9, .long y10, .long y11, .int y12, .int y13, .int y14, .int y15, .int y16, x17, x18, x19])), (h3, .inl (cA 0, 10, .inl fn2)), (h4, .inl (cA 0, 10, .inl fn3)), (h5, .inl (cA 0, 10, .inl fn4)), (h6, .inl (cA 0, 10, .inl fn5)), (g0, .inr (4, [.ref p0, .ref g1, .ref g3, .ref g4, .ref g5, .ref g6, .int y6, .int y7, .int y8, .long y9, .long y10, .long y11, .int y12, .int y13, .int y14, .int y15, .int y16, .int y17, .int y18, .int y19])), (g3, .inl (cA 0, 10, .inl e3)), (g4, .inl (cA 0, 10, .inl e4)), (g5, .inl (cA 0, 10, .inl e5)), (g6, .inl (cA 0, 10, .inl e6)), (h1, .inr (6, [.ref h2, .int n1, .int k1])), (h2, .inl (cA 0, 240, .inl fn1)), (g1, .inr (6, [.ref g2, .int n1, .int k1])), (g2, .inl (cA 0, 240, .inl e2))] H := hP
  have hD : va_D A [(h0, .inr (4, [.ref p0, .ref h1, .ref h3, .ref h4, .ref h5, .ref h6, .int y6, .int y7, .int y8, .long y9, .long y10, .long y11, .int y12, .int y13, .int y14, .int y15, .int y16, x17, x18, x19])), (h3, .inl (cA 0, 10, .inl fn2)), (h4, .inl (cA 0, 10, .inl fn3)), (h5, .inl (cA 0, 10, .inl fn4)), (h6, .inl (cA 0, 10, .inl fn5)), (g0, .inr (4, [.ref p0, .ref g1, .ref g3, .ref g4, .ref g5, .ref g6, .int y6, .int y7, .int y8, .long y9, .long y10, .long y11, .int y12, .int y13, .int y14, .int y15, .int y16, .int y17, .int y18, .int y19])), (g3, .inl (cA 0, 10, .inl e3)), (g4, .inl (cA 0, 10, .inl e4)), (g5, .inl (cA 0, 10, .inl e5)), (g6, .inl (cA 0, 10, .inl e6)), (h1, .inr (6, [.ref h2, .int n1, .int k1])), (h2, .inl (cA 0, 240, .inl fn1)), (g1, .inr (6, [.ref g2, .int n1, .int k1])), (g2, .inl (cA 0, 240, .inl e2))] := hD
  refine lv_aload_n hx hb dX0_copyFrom_167 rfl (lv_at hl 0 rfl) ?_
  refine lv_aload_n hx hb dX0_copyFrom_168 rfl (lv_at hl 1 rfl) ?_
  refine va_get (D := D) (ci := 4) (v := .int y17) (C := RX0) (T := TX0) (N := 20) hx hb hts inX0 hown hK hP 5 rfl rfl 17 (by decide) (hts (.fieldLink RX0 82 "EscrowDesk$Account" "grace" "I") (by decide +kernel)) (fun _ h9 => h9) rfl dX0_copyFrom_169 ?_
  refine va_put (D := D) (ci := 4) (v := .int y17) (ty := .int) (C := RX0) (T := TX0) (N := 20) hx hb hts inX0 tyX0 tyX0_ok nmX0 hown hK hP hD hS 0 rfl rfl 17 (by decide) (hts (.fieldLink RX0 82 "EscrowDesk$Account" "grace" "I") (by decide +kernel)) (fun _ h9 => h9) rfl (by decide +kernel) rfl rfl (Nat.le_of_ble_eq_true rfl) dX0_copyFrom_172 (fun H locs hP hD hS => ?_)
  have hP : va_P D vwCl [(h0, .inr (4, [.ref p0, .ref h1, .ref h3, .ref h4, .ref h5, .ref h6, .int y6, .int y7, .int y8, .long y9, .long y10, .long y11, .int y12, .int y13, .int y14, .int y15, .int y16, .int y17, x18, x19])), (h3, .inl (cA 0, 10, .inl fn2)), (h4, .inl (cA 0, 10, .inl fn3)), (h5, .inl (cA 0, 10, .inl fn4)), (h6, .inl (cA 0, 10, .inl fn5)), (g0, .inr (4, [.ref p0, .ref g1, .ref g3, .ref g4, .ref g5, .ref g6, .int y6, .int y7, .int y8, .long y9, .long y10, .long y11, .int y12, .int y13, .int y14, .int y15, .int y16, .int y17, .int y18, .int y19])), (g3, .inl (cA 0, 10, .inl e3)), (g4, .inl (cA 0, 10, .inl e4)), (g5, .inl (cA 0, 10, .inl e5)), (g6, .inl (cA 0, 10, .inl e6)), (h1, .inr (6, [.ref h2, .int n1, .int k1])), (h2, .inl (cA 0, 240, .inl fn1)), (g1, .inr (6, [.ref g2, .int n1, .int k1])), (g2, .inl (cA 0, 240, .inl e2))] H := hP
  have hD : va_D A [(h0, .inr (4, [.ref p0, .ref h1, .ref h3, .ref h4, .ref h5, .ref h6, .int y6, .int y7, .int y8, .long y9, .long y10, .long y11, .int y12, .int y13, .int y14, .int y15, .int y16, .int y17, x18, x19])), (h3, .inl (cA 0, 10, .inl fn2)), (h4, .inl (cA 0, 10, .inl fn3)), (h5, .inl (cA 0, 10, .inl fn4)), (h6, .inl (cA 0, 10, .inl fn5)), (g0, .inr (4, [.ref p0, .ref g1, .ref g3, .ref g4, .ref g5, .ref g6, .int y6, .int y7, .int y8, .long y9, .long y10, .long y11, .int y12, .int y13, .int y14, .int y15, .int y16, .int y17, .int y18, .int y19])), (g3, .inl (cA 0, 10, .inl e3)), (g4, .inl (cA 0, 10, .inl e4)), (g5, .inl (cA 0, 10, .inl e5)), (g6, .inl (cA 0, 10, .inl e6)), (h1, .inr (6, [.ref h2, .int n1, .int k1])), (h2, .inl (cA 0, 240, .inl fn1)), (g1, .inr (6, [.ref g2, .int n1, .int k1])), (g2, .inl (cA 0, 240, .inl e2))] := hD
  refine lv_aload_n hx hb dX0_copyFrom_175 rfl (lv_at hl 0 rfl) ?_
  refine lv_aload_n hx hb dX0_copyFrom_176 rfl (lv_at hl 1 rfl) ?_
  refine va_get (D := D) (ci := 4) (v := .int y18) (C := RX0) (T := TX0) (N := 20) hx hb hts inX0 hown hK hP 5 rfl rfl 18 (by decide) (hts (.fieldLink RX0 83 "EscrowDesk$Account" "submittedSet" "I") (by decide +kernel)) (fun _ h9 => h9) rfl dX0_copyFrom_177 ?_
  refine va_put (D := D) (ci := 4) (v := .int y18) (ty := .int) (C := RX0) (T := TX0) (N := 20) hx hb hts inX0 tyX0 tyX0_ok nmX0 hown hK hP hD hS 0 rfl rfl 18 (by decide) (hts (.fieldLink RX0 83 "EscrowDesk$Account" "submittedSet" "I") (by decide +kernel)) (fun _ h9 => h9) rfl (by decide +kernel) rfl rfl (Nat.le_of_ble_eq_true rfl) dX0_copyFrom_180 (fun H locs hP hD hS => ?_)
  have hP : va_P D vwCl [(h0, .inr (4, [.ref p0, .ref h1, .ref h3, .ref h4, .ref h5, .ref h6, .int y6, .int y7, .int y8, .long y9, .long y10, .long y11, .int y12, .int y13, .int y14, .int y15, .int y16, .int y17, .int y18, x19])), (h3, .inl (cA 0, 10, .inl fn2)), (h4, .inl (cA 0, 10, .inl fn3)), (h5, .inl (cA 0, 10, .inl fn4)), (h6, .inl (cA 0, 10, .inl fn5)), (g0, .inr (4, [.ref p0, .ref g1, .ref g3, .ref g4, .ref g5, .ref g6, .int y6, .int y7, .int y8, .long y9, .long y10, .long y11, .int y12, .int y13, .int y14, .int y15, .int y16, .int y17, .int y18, .int y19])), (g3, .inl (cA 0, 10, .inl e3)), (g4, .inl (cA 0, 10, .inl e4)), (g5, .inl (cA 0, 10, .inl e5)), (g6, .inl (cA 0, 10, .inl e6)), (h1, .inr (6, [.ref h2, .int n1, .int k1])), (h2, .inl (cA 0, 240, .inl fn1)), (g1, .inr (6, [.ref g2, .int n1, .int k1])), (g2, .inl (cA 0, 240, .inl e2))] H := hP
  have hD : va_D A [(h0, .inr (4, [.ref p0, .ref h1, .ref h3, .ref h4, .ref h5, .ref h6, .int y6, .int y7, .int y8, .long y9, .long y10, .long y11, .int y12, .int y13, .int y14, .int y15, .int y16, .int y17, .int y18, x19])), (h3, .inl (cA 0, 10, .inl fn2)), (h4, .inl (cA 0, 10, .inl fn3)), (h5, .inl (cA 0, 10, .inl fn4)), (h6, .inl (cA 0, 10, .inl fn5)), (g0, .inr (4, [.ref p0, .ref g1, .ref g3, .ref g4, .ref g5, .ref g6, .int y6, .int y7, .int y8, .long y9, .long y10, .long y11, .int y12, .int y13, .int y14, .int y15, .int y16, .int y17, .int y18, .int y19])), (g3, .inl (cA 0, 10, .inl e3)), (g4, .inl (cA 0, 10, .inl e4)), (g5, .inl (cA 0, 10, .inl e5)), (g6, .inl (cA 0, 10, .inl e6)), (h1, .inr (6, [.ref h2, .int n1, .int k1])), (h2, .inl (cA 0, 240, .inl fn1)), (g1, .inr (6, [.ref g2, .int n1, .int k1])), (g2, .inl (cA 0, 240, .inl e2))] := hD
  refine lv_aload_n hx hb dX0_copyFrom_183 rfl (lv_at hl 0 rfl) ?_
  refine lv_aload_n hx hb dX0_copyFrom_184 rfl (lv_at hl 1 rfl) ?_
  refine va_get (D := D) (ci := 4) (v := .int y19) (C := RX0) (T := TX0) (N := 20) hx hb hts inX0 hown hK hP 5 rfl rfl 19 (by decide) (hts (.fieldLink RX0 86 "EscrowDesk$Account" "approvedSet" "I") (by decide +kernel)) (fun _ h9 => h9) rfl dX0_copyFrom_185 ?_
  refine va_put (D := D) (ci := 4) (v := .int y19) (ty := .int) (C := RX0) (T := TX0) (N := 20) hx hb hts inX0 tyX0 tyX0_ok nmX0 hown hK hP hD hS 0 rfl rfl 19 (by decide) (hts (.fieldLink RX0 86 "EscrowDesk$Account" "approvedSet" "I") (by decide +kernel)) (fun _ h9 => h9) rfl (by decide +kernel) rfl rfl (Nat.le_of_ble_eq_true rfl) dX0_copyFrom_188 (fun H locs hP hD hS => ?_)
  have hP : va_P D vwCl [(h0, .inr (4, [.ref p0, .ref h1, .ref h3, .ref h4, .ref h5, .ref h6, .int y6, .int y7, .int y8, .long y9, .long y10, .long y11, .int y12, .int y13, .int y14, .int y15, .int y16, .int y17, .int y18, .int y19])), (h3, .inl (cA 0, 10, .inl fn2)), (h4, .inl (cA 0, 10, .inl fn3)), (h5, .inl (cA 0, 10, .inl fn4)), (h6, .inl (cA 0, 10, .inl fn5)), (g0, .inr (4, [.ref p0, .ref g1, .ref g3, .ref g4, .ref g5, .ref g6, .int y6, .int y7, .int y8, .long y9, .long y10, .long y11, .int y12, .int y13, .int y14, .int y15, .int y16, .int y17, .int y18, .int y19])), (g3, .inl (cA 0, 10, .inl e3)), (g4, .inl (cA 0, 10, .inl e4)), (g5, .inl (cA 0, 10, .inl e5)), (g6, .inl (cA 0, 10, .inl e6)), (h1, .inr (6, [.ref h2, .int n1, .int k1])), (h2, .inl (cA 0, 240, .inl fn1)), (g1, .inr (6, [.ref g2, .int n1, .int k1])), (g2, .inl (cA 0, 240, .inl e2))] H := hP
  have hD : va_D A [(h0, .inr (4, [.ref p0, .ref h1, .ref h3, .ref h4, .ref h5, .ref h6, .int y6, .int y7, .int y8, .long y9, .long y10, .long y11, .int y12, .int y13, .int y14, .int y15, .int y16, .int y17, .int y18, .int y19])), (h3, .inl (cA 0, 10, .inl fn2)), (h4, .inl (cA 0, 10, .inl fn3)), (h5, .inl (cA 0, 10, .inl fn4)), (h6, .inl (cA 0, 10, .inl fn5)), (g0, .inr (4, [.ref p0, .ref g1, .ref g3, .ref g4, .ref g5, .ref g6, .int y6, .int y7, .int y8, .long y9, .long y10, .long y11, .int y12, .int y13, .int y14, .int y15, .int y16, .int y17, .int y18, .int y19])), (g3, .inl (cA 0, 10, .inl e3)), (g4, .inl (cA 0, 10, .inl e4)), (g5, .inl (cA 0, 10, .inl e5)), (g6, .inl (cA 0, 10, .inl e6)), (h1, .inr (6, [.ref h2, .int n1, .int k1])), (h2, .inl (cA 0, 240, .inl fn1)), (g1, .inr (6, [.ref g2, .int n1, .int k1])), (g2, .inl (cA 0, 240, .inl e2))] := hD
  have hP9 := hP.sub (ws' := [(h0, .inr (4, [.ref p0, .ref h1, .ref h3, .ref h4, .ref h5, .ref h6, .int y6, .int y7, .int y8, .long y9, .long y10, .long y11, .int y12, .int y13, .int y14, .int y15, .int y16, .int y17, .int y18, .int y19])), (h1, .inr (6, [.ref h2, .int n1, .int k1])), (h2, .inl (cA 0, 240, .inl fn1)), (h3, .inl (cA 0, 10, .inl fn2)), (h4, .inl (cA 0, 10, .inl fn3)), (h5, .inl (cA 0, 10, .inl fn4)), (h6, .inl (cA 0, 10, .inl fn5)), (g0, .inr (4, [.ref p0, .ref g1, .ref g3, .ref g4, .ref g5, .ref g6, .int y6, .int y7, .int y8, .long y9, .long y10, .long y11, .int y12, .int y13, .int y14, .int y15, .int y16, .int y17, .int y18, .int y19])), (g1, .inr (6, [.ref g2, .int n1, .int k1])), (g2, .inl (cA 0, 240, .inl e2)), (g3, .inl (cA 0, 10, .inl e3)), (g4, .inl (cA 0, 10, .inl e4)), (g5, .inl (cA 0, 10, .inl e5)), (g6, .inl (cA 0, 10, .inl e6))]) [0, 10, 11, 1, 2, 3, 4, 5, 12, 13, 6, 7, 8, 9] rfl
  have hD9 := hD.sub (ws' := [(h0, .inr (4, [.ref p0, .ref h1, .ref h3, .ref h4, .ref h5, .ref h6, .int y6, .int y7, .int y8, .long y9, .long y10, .long y11, .int y12, .int y13, .int y14, .int y15, .int y16, .int y17, .int y18, .int y19])), (h1, .inr (6, [.ref h2, .int n1, .int k1])), (h2, .inl (cA 0, 240, .inl fn1)), (h3, .inl (cA 0, 10, .inl fn2)), (h4, .inl (cA 0, 10, .inl fn3)), (h5, .inl (cA 0, 10, .inl fn4)), (h6, .inl (cA 0, 10, .inl fn5)), (g0, .inr (4, [.ref p0, .ref g1, .ref g3, .ref g4, .ref g5, .ref g6, .int y6, .int y7, .int y8, .long y9, .long y10, .long y11, .int y12, .int y13, .int y14, .int y15, .int y16, .int y17, .int y18, .int y19])), (g1, .inr (6, [.ref g2, .int n1, .int k1])), (g2, .inl (cA 0, 240, .inl e2)), (g3, .inl (cA 0, 10, .inl e3)), (g4, .inl (cA 0, 10, .inl e4)), (g5, .inl (cA 0, 10, .inl e5)), (g6, .inl (cA 0, 10, .inl e6))]) [0, 10, 11, 1, 2, 3, 4, 5, 12, 13, 6, 7, 8, 9] (by decide) rfl
  refine W.widen (k := 0) (n := 0) (Nat.le_of_ble_eq_true rfl) (Nat.le_of_ble_eq_true rfl) ?_
  exact W.vret hx hb hr (fun t ht hW => ⟨⟨(), rfl, trivial, fn1, fn2, fn3, fn4, fn5, by rw [ht]; exact hP9, hD9⟩, hS.F ht⟩) hS.2.2 dX0_copyFrom_191

set_option maxRecDepth 20000 in
theorem ggX0_takeDeposit_X2_enter : GoodIn wsX0_takeDeposit wsX2_enter := goodIn_r _ [9, 10, 11, 12, 13, 14, 15, 16, 37, 38, 39] rfl (by decide +kernel)
set_option maxRecDepth 20000 in
theorem gX0_takeDeposit_X2_enter : GoodIn wsX0_takeDeposit (wsV RX0 151 RX2 yX2_enter wsX2_enter) := goodIn_app (goodIn_r _ [5, 6, 7, 8] rfl (by decide +kernel)) ggX0_takeDeposit_X2_enter
set_option maxRecDepth 20000 in
theorem ggX0_refund_X2_enter : GoodIn wsX0_refund wsX2_enter := goodIn_r _ [9, 10, 11, 12, 13, 14, 15, 16, 37, 38, 39] rfl (by decide +kernel)
set_option maxRecDepth 20000 in
theorem gX0_refund_X2_enter : GoodIn wsX0_refund (wsV RX0 151 RX2 yX2_enter wsX2_enter) := goodIn_app (goodIn_r _ [5, 6, 7, 8] rfl (by decide +kernel)) ggX0_refund_X2_enter
set_option maxRecDepth 20000 in
theorem ggX1_remember_X0_copyFrom : GoodIn wsX1_remember wsX0_copyFrom := goodIn_r _ [12, 13, 14, 15, 16, 17, 18, 19, 20, 21, 22, 23, 24, 25, 26, 27, 28, 29, 30, 31, 32, 33, 34, 35, 36, 37, 38, 39, 40, 41, 42, 43, 44, 45, 49, 50, 51, 52, 53, 54, 55, 56, 57, 58, 59, 60, 61, 62, 63, 64, 65, 66, 67, 68, 69, 70, 71] rfl (by decide +kernel)
set_option maxRecDepth 20000 in
theorem gX1_remember_X0_copyFrom : GoodIn wsX1_remember (wsV RX1 24 RX0 yX0_copyFrom wsX0_copyFrom) := goodIn_app (goodIn_r _ [8, 9, 10, 11] rfl (by decide +kernel)) ggX1_remember_X0_copyFrom
set_option maxRecDepth 20000 in
theorem ggX9_feed_X9_appendBytes : GoodIn wsX9_feed wsX9_appendBytes := goodIn_r _ [6, 1, 7, 8, 9, 10, 11, 12, 13, 14, 15, 16] rfl (by decide +kernel)
set_option maxRecDepth 20000 in
theorem gX9_feed_X9_appendBytes : GoodIn wsX9_feed (wsV RX9 63 RX9 yX9_appendBytes wsX9_appendBytes) := goodIn_app (goodIn_r _ [2, 3, 4, 5] rfl (by decide +kernel)) ggX9_feed_X9_appendBytes
set_option maxRecDepth 20000 in
theorem ggX9_paymentsAfter_X9_needRange : GoodIn wsX9_paymentsAfter wsX9_needRange := goodIn_ca (goodIn_r _ [5, 6, 7] rfl (by decide +kernel)) (goodIn_sub (fun _ h => List.mem_cons_of_mem _ (List.mem_append_right _ h)) (by decide +kernel))
set_option maxRecDepth 20000 in
theorem gX9_paymentsAfter_X9_needRange : GoodIn wsX9_paymentsAfter (va_wsS RX9 67 yX9_needRange wsX9_needRange) := goodIn_app (goodIn_r _ [2, 3, 4] rfl (by decide +kernel)) ggX9_paymentsAfter_X9_needRange
set_option maxRecDepth 20000 in
theorem ggX9_paymentsAfter_X9_tryDays : GoodIn wsX9_paymentsAfter wsX9_tryDays := goodIn_r _ [11, 1, 12, 13, 14, 15, 16, 17, 18, 19, 20, 21, 22, 23, 24, 25, 26, 27, 28, 29, 30, 31, 32, 33, 34, 35, 36, 37, 38, 39, 40, 41, 42, 43, 44, 45, 46, 47, 48, 49, 50, 51, 52, 53, 54, 55, 56, 57, 58, 59, 60, 61, 62, 63, 64, 65, 66, 67, 68, 69, 70, 71, 72, 73, 74, 75, 76, 77, 78, 79, 80, 81, 82, 83, 84, 85, 86, 87, 88, 89, 90, 91, 92, 93, 94, 95, 96, 97, 98, 99, 100, 101, 102, 103, 104, 105, 106, 107, 108, 109, 110, 111, 112, 113, 114, 115, 116, 117, 118, 119, 120, 121, 122, 123, 124, 125, 126, 127, 128, 129, 130, 131, 132, 133, 134, 135, 136, 137, 138, 139, 140, 142, 143, 144, 145, 146, 147, 148, 149, 150, 151, 152, 153, 154, 155, 156, 157, 158, 159, 160, 161, 162, 163, 164, 165, 166, 167, 168, 169, 170, 171, 172, 173, 174, 175, 176, 177, 178, 179, 180, 181, 182, 183, 184, 185, 186, 187, 188, 189, 190] rfl (by decide +kernel)
set_option maxRecDepth 20000 in
theorem gX9_paymentsAfter_X9_tryDays : GoodIn wsX9_paymentsAfter (wsV RX9 217 RX9 yX9_tryDays wsX9_tryDays) := goodIn_app (goodIn_r _ [8, 9, 10, 4] rfl (by decide +kernel)) ggX9_paymentsAfter_X9_tryDays
set_option maxRecDepth 20000 in
theorem ggX9_paymentsAfter_X0_payments : GoodIn wsX9_paymentsAfter wsX0_payments := goodIn_r _ [91, 34, 35, 151, 152, 153, 154, 155, 156, 157, 158, 159, 160, 161, 162, 163, 164, 165, 166, 167, 168, 169, 170] rfl (by decide +kernel)
set_option maxRecDepth 20000 in
theorem gX9_paymentsAfter_X0_payments : GoodIn wsX9_paymentsAfter (wsV RX9 220 RX0 yX0_payments wsX0_payments) := goodIn_app (goodIn_r _ [141, 89, 90, 16] rfl (by decide +kernel)) ggX9_paymentsAfter_X0_payments
set_option maxRecDepth 20000 in
theorem ggX9_creditedAfter_X9_needRange : GoodIn wsX9_creditedAfter wsX9_needRange := goodIn_ca (goodIn_r _ [5, 6, 7] rfl (by decide +kernel)) (goodIn_sub (fun _ h => List.mem_cons_of_mem _ (List.mem_append_right _ h)) (by decide +kernel))
set_option maxRecDepth 20000 in
theorem gX9_creditedAfter_X9_needRange : GoodIn wsX9_creditedAfter (va_wsS RX9 67 yX9_needRange wsX9_needRange) := goodIn_app (goodIn_r _ [2, 3, 4] rfl (by decide +kernel)) ggX9_creditedAfter_X9_needRange
set_option maxRecDepth 20000 in
theorem ggX9_creditedAfter_X9_tryDays : GoodIn wsX9_creditedAfter wsX9_tryDays := goodIn_r _ [11, 1, 12, 13, 14, 15, 16, 17, 18, 19, 20, 21, 22, 23, 24, 25, 26, 27, 28, 29, 30, 31, 32, 33, 34, 35, 36, 37, 38, 39, 40, 41, 42, 43, 44, 45, 46, 47, 48, 49, 50, 51, 52, 53, 54, 55, 56, 57, 58, 59, 60, 61, 62, 63, 64, 65, 66, 67, 68, 69, 70, 71, 72, 73, 74, 75, 76, 77, 78, 79, 80, 81, 82, 83, 84, 85, 86, 87, 88, 89, 90, 91, 92, 93, 94, 95, 96, 97, 98, 99, 100, 101, 102, 103, 104, 105, 106, 107, 108, 109, 110, 111, 112, 113, 114, 115, 116, 117, 118, 119, 120, 121, 122, 123, 124, 125, 126, 127, 128, 129, 130, 131, 132, 133, 134, 135, 136, 137, 138, 139, 140, 141, 142, 143, 144, 145, 146, 147, 148, 149, 150, 151, 152, 153, 154, 155, 156, 157, 158, 159, 160, 161, 162, 163, 164, 165, 166, 167, 168, 169, 170, 171, 172, 173, 174, 175, 176, 177, 178, 179, 180, 181, 182, 183, 184, 185, 186, 187, 188, 189] rfl (by decide +kernel)
set_option maxRecDepth 20000 in
theorem gX9_creditedAfter_X9_tryDays : GoodIn wsX9_creditedAfter (wsV RX9 217 RX9 yX9_tryDays wsX9_tryDays) := goodIn_app (goodIn_r _ [8, 9, 10, 4] rfl (by decide +kernel)) ggX9_creditedAfter_X9_tryDays
set_option maxRecDepth 20000 in
theorem ggX9_shortDay_X9_needRange : GoodIn wsX9_shortDay wsX9_needRange := goodIn_ca (goodIn_r _ [6, 7, 8] rfl (by decide +kernel)) (goodIn_sub (fun _ h => List.mem_cons_of_mem _ (List.mem_append_right _ h)) (by decide +kernel))
set_option maxRecDepth 20000 in
theorem gX9_shortDay_X9_needRange : GoodIn wsX9_shortDay (va_wsS RX9 67 yX9_needRange wsX9_needRange) := goodIn_app (goodIn_r _ [3, 4, 5] rfl (by decide +kernel)) ggX9_shortDay_X9_needRange
set_option maxRecDepth 20000 in
theorem ggX9_shortDay_X0_copyFrom : GoodIn wsX9_shortDay wsX0_copyFrom := goodIn_r _ [13, 14, 15, 16, 17, 18, 19, 20, 21, 22, 23, 24, 25, 26, 27, 28, 29, 30, 31, 32, 33, 34, 35, 36, 37, 38, 39, 40, 41, 42, 43, 44, 45, 46, 146, 147, 148, 149, 150, 151, 152, 153, 154, 155, 156, 157, 158, 159, 160, 161, 162, 163, 164, 165, 166, 167, 168] rfl (by decide +kernel)
set_option maxRecDepth 20000 in
theorem gX9_shortDay_X0_copyFrom : GoodIn wsX9_shortDay (wsV RX9 223 RX0 yX0_copyFrom wsX0_copyFrom) := goodIn_app (goodIn_r _ [9, 10, 11, 12] rfl (by decide +kernel)) ggX9_shortDay_X0_copyFrom
set_option maxRecDepth 20000 in
theorem ggX9_shortDay_X0_liveDay : GoodIn wsX9_shortDay wsX0_liveDay := goodIn_r _ [50, 29, 26, 27, 33, 24, 51, 52, 53, 12, 54, 55, 34, 28, 15, 56, 57, 58, 41, 59, 45, 43, 46, 60, 61, 62, 63, 64, 65, 66, 67, 14, 16, 36, 23, 68, 69, 70, 71, 72, 73, 74, 75, 37, 76, 77, 78, 79, 80, 81, 82, 83, 30, 31, 84, 85, 86, 87, 88, 89, 90, 91, 92, 93, 94, 95, 96, 97, 98, 99, 100, 101, 102, 103, 104, 105, 106, 107, 21, 108, 109, 110, 111, 112, 113, 114, 115, 22, 116, 117, 118, 119, 120, 121, 122, 123, 35, 124, 125, 126, 127, 128, 129, 130, 131, 132, 146, 147, 148, 149, 150, 151, 152, 153, 154, 155, 156, 157, 158, 159, 160, 161, 162, 163, 164, 165, 166, 167, 168, 169, 170, 171, 172, 173, 174, 175, 176, 177, 178, 179, 180, 181, 182, 183, 184, 185] rfl (by decide +kernel)
set_option maxRecDepth 20000 in
theorem gX9_shortDay_X0_liveDay : GoodIn wsX9_shortDay (wsV RX9 227 RX0 yX0_liveDay wsX0_liveDay) := goodIn_app (goodIn_r _ [47, 48, 49, 12] rfl (by decide +kernel)) ggX9_shortDay_X0_liveDay
set_option maxRecDepth 20000 in
theorem ggX9_shortDay_X0_isShort : GoodIn wsX9_shortDay wsX0_isShort := goodIn_r _ [136, 14, 116, 117, 118, 12, 119, 16, 24, 120, 121, 122, 123, 23, 35, 104, 105, 106, 107, 21, 108, 109, 110, 111, 146, 147, 148, 149, 150, 151, 152, 153, 154, 155, 156, 157, 158, 159, 160, 161, 162, 163, 164, 165, 169, 170, 171, 172, 173, 174, 175, 176, 177, 178, 179, 180, 181, 182, 183, 184, 185] rfl (by decide +kernel)
set_option maxRecDepth 20000 in
theorem gX9_shortDay_X0_isShort : GoodIn wsX9_shortDay (wsV RX9 243 RX0 yX0_isShort wsX0_isShort) := goodIn_app (goodIn_r _ [133, 134, 135, 12] rfl (by decide +kernel)) ggX9_shortDay_X0_isShort
set_option maxRecDepth 20000 in
theorem ggX9_tryDays_X0_copyFrom : GoodIn wsX9_tryDays wsX0_copyFrom := goodIn_r _ [7, 8, 9, 10, 11, 12, 13, 14, 15, 16, 17, 18, 19, 20, 21, 22, 23, 24, 25, 26, 27, 28, 29, 30, 31, 32, 33, 34, 35, 36, 37, 38, 39, 40, 140, 141, 142, 143, 144, 145, 146, 147, 148, 149, 150, 151, 152, 153, 154, 155, 156, 157, 158, 159, 160, 161, 162] rfl (by decide +kernel)
set_option maxRecDepth 20000 in
theorem gX9_tryDays_X0_copyFrom : GoodIn wsX9_tryDays (wsV RX9 223 RX0 yX0_copyFrom wsX0_copyFrom) := goodIn_app (goodIn_r _ [3, 4, 5, 6] rfl (by decide +kernel)) ggX9_tryDays_X0_copyFrom
set_option maxRecDepth 20000 in
theorem ggX9_tryDays_X0_liveDays : GoodIn wsX9_tryDays wsX0_liveDays := goodIn_r _ [44, 45, 46, 47, 6, 48, 23, 20, 21, 27, 18, 49, 50, 51, 52, 53, 28, 22, 9, 54, 55, 56, 35, 57, 39, 37, 40, 58, 59, 60, 61, 62, 63, 64, 65, 8, 10, 30, 17, 66, 67, 68, 69, 70, 71, 72, 73, 31, 74, 75, 76, 77, 78, 79, 80, 81, 24, 25, 82, 83, 84, 85, 86, 87, 88, 89, 90, 91, 92, 93, 94, 95, 96, 97, 98, 99, 100, 101, 102, 103, 104, 105, 15, 106, 107, 108, 109, 110, 111, 112, 113, 16, 114, 115, 116, 117, 118, 119, 120, 121, 29, 122, 123, 124, 125, 126, 127, 128, 129, 130, 140, 141, 142, 143, 144, 145, 146, 147, 148, 149, 150, 151, 152, 153, 154, 155, 156, 157, 158, 159, 160, 161, 162, 163, 164, 165, 166, 167, 168, 169, 170, 171, 172, 173, 174, 175, 176, 177, 178, 179] rfl (by decide +kernel)
set_option maxRecDepth 20000 in
theorem gX9_tryDays_X0_liveDays : GoodIn wsX9_tryDays (wsV RX9 247 RX0 yX0_liveDays wsX0_liveDays) := goodIn_app (goodIn_r _ [41, 42, 43, 6] rfl (by decide +kernel)) ggX9_tryDays_X0_liveDays
set_option maxRecDepth 20000 in
theorem ggX9_deposit_X9_needRange : GoodIn wsX9_deposit wsX9_needRange := goodIn_ca (goodIn_r _ [8, 9, 10] rfl (by decide +kernel)) (goodIn_sub (fun _ h => List.mem_cons_of_mem _ (List.mem_append_left _ (List.mem_append_right _ h))) (by decide +kernel))
set_option maxRecDepth 20000 in
theorem gX9_deposit_X9_needRange : GoodIn wsX9_deposit (va_wsS RX9 67 yX9_needRange wsX9_needRange) := goodIn_app (goodIn_r _ [5, 6, 7] rfl (by decide +kernel)) ggX9_deposit_X9_needRange
set_option maxRecDepth 20000 in
theorem ggX9_deposit_X9_needPossible : GoodIn wsX9_deposit wsX9_needPossible := goodIn_ca (goodIn_r _ [13, 14, 15] rfl (by decide +kernel)) (goodIn_sub (fun _ h => List.mem_cons_of_mem _ (List.mem_append_right _ h)) (by decide +kernel))
set_option maxRecDepth 20000 in
theorem gX9_deposit_X9_needPossible : GoodIn wsX9_deposit (va_wsS RX9 251 yX9_needPossible wsX9_needPossible) := goodIn_app (goodIn_r _ [11, 12, 7] rfl (by decide +kernel)) ggX9_deposit_X9_needPossible
set_option maxRecDepth 20000 in
theorem ggX9_deposit_X1_remember : GoodIn wsX9_deposit wsX1_remember := goodIn_r _ [20, 21, 22, 23, 24, 25, 26, 27, 28, 29, 30, 31, 32, 33, 34, 35, 36, 37, 38, 39, 40, 41, 42, 43, 44, 45, 46, 47, 48, 49, 50, 51, 52, 53, 54, 55, 56, 57, 58, 59, 60, 61, 62, 63, 64, 65, 104, 105, 106, 84, 85, 86, 87, 88, 89, 90, 91, 92, 93, 94, 95, 96, 97, 98, 99, 100, 101, 102, 103, 107, 108, 109] rfl (by decide +kernel)
set_option maxRecDepth 20000 in
theorem gX9_deposit_X1_remember : GoodIn wsX9_deposit (wsV RX9 255 RX1 yX1_remember wsX1_remember) := goodIn_app (goodIn_r _ [16, 17, 18, 19] rfl (by decide +kernel)) ggX9_deposit_X1_remember
set_option maxRecDepth 20000 in
theorem ggX9_deposit_X0_takeDeposit : GoodIn wsX9_deposit wsX0_takeDeposit := goodIn_r _ [69, 44, 45, 34, 43, 70, 71, 72, 60, 73, 64, 62, 65, 74, 25, 26, 27, 84, 85, 86, 87, 88, 89, 90, 91, 92, 93, 94, 95, 96, 97, 98, 99, 100, 101, 102, 103, 107, 108, 109] rfl (by decide +kernel)
set_option maxRecDepth 20000 in
theorem gX9_deposit_X0_takeDeposit : GoodIn wsX9_deposit (wsV RX9 258 RX0 yX0_takeDeposit wsX0_takeDeposit) := goodIn_app (goodIn_r _ [66, 67, 68, 31] rfl (by decide +kernel)) ggX9_deposit_X0_takeDeposit
set_option maxRecDepth 20000 in
theorem ggX9_close_X9_closedCount : GoodIn wsX9_close wsX9_closedCount := goodIn_r _ [8, 1, 3, 9, 10, 11, 12, 13, 14, 77, 78, 79, 80, 81, 82, 83, 84, 85, 86, 87, 88, 89, 90, 91, 92, 93, 94, 95, 96, 97, 98, 99, 100, 101, 102, 103, 104, 105, 106, 107, 108, 109, 110, 111, 112, 113, 114, 115, 116, 117, 118, 119, 120, 121, 122] rfl (by decide +kernel)
set_option maxRecDepth 20000 in
theorem gX9_close_X9_closedCount : GoodIn wsX9_close (wsV RX9 287 RX9 yX9_closedCount wsX9_closedCount) := goodIn_app (goodIn_r _ [4, 5, 6, 7] rfl (by decide +kernel)) ggX9_close_X9_closedCount
set_option maxRecDepth 20000 in
theorem ggX9_close_X9_needPossible : GoodIn wsX9_close wsX9_needPossible := goodIn_ca (goodIn_r _ [17, 18, 19] rfl (by decide +kernel)) (goodIn_sub (fun _ h => List.mem_cons_of_mem _ (List.mem_append_right _ h)) (by decide +kernel))
set_option maxRecDepth 20000 in
theorem gX9_close_X9_needPossible : GoodIn wsX9_close (va_wsS RX9 251 yX9_needPossible wsX9_needPossible) := goodIn_app (goodIn_r _ [15, 16, 7] rfl (by decide +kernel)) ggX9_close_X9_needPossible
set_option maxRecDepth 20000 in
theorem ggX9_close_X1_remember : GoodIn wsX9_close wsX1_remember := goodIn_r _ [24, 25, 26, 27, 28, 29, 30, 31, 32, 33, 34, 12, 35, 36, 37, 14, 38, 39, 40, 41, 42, 43, 44, 45, 46, 47, 48, 49, 50, 51, 52, 53, 54, 55, 56, 57, 58, 59, 60, 61, 62, 63, 64, 65, 66, 67, 123, 124, 125, 103, 104, 105, 106, 107, 108, 109, 110, 111, 112, 113, 114, 115, 116, 117, 118, 119, 120, 121, 122, 126, 127, 128] rfl (by decide +kernel)
set_option maxRecDepth 20000 in
theorem gX9_close_X1_remember : GoodIn wsX9_close (wsV RX9 255 RX1 yX1_remember wsX1_remember) := goodIn_app (goodIn_r _ [20, 21, 22, 23] rfl (by decide +kernel)) ggX9_close_X1_remember
set_option maxRecDepth 20000 in
theorem ggX9_close_X0_refund : GoodIn wsX9_close wsX0_refund := goodIn_r _ [71, 47, 53, 37, 45, 72, 73, 74, 62, 75, 66, 64, 67, 76, 29, 30, 31, 103, 104, 105, 106, 107, 108, 109, 110, 111, 112, 113, 114, 115, 116, 117, 118, 119, 120, 121, 122, 126, 127, 128] rfl (by decide +kernel)
set_option maxRecDepth 20000 in
theorem gX9_close_X0_refund : GoodIn wsX9_close (wsV RX9 290 RX0 yX0_refund wsX0_refund) := goodIn_app (goodIn_r _ [68, 69, 70, 12] rfl (by decide +kernel)) ggX9_close_X0_refund
set_option maxRecDepth 20000 in
theorem ggX9_setRate_X9_needRange : GoodIn wsX9_setRate wsX9_needRange := goodIn_ca (goodIn_r _ [8, 1, 2] rfl (by decide +kernel)) (goodIn_sub (fun _ h => List.mem_cons_of_mem _ (List.mem_append_right _ h)) (by decide +kernel))
set_option maxRecDepth 20000 in
theorem gX9_setRate_X9_needRange : GoodIn wsX9_setRate (va_wsS RX9 67 yX9_needRange wsX9_needRange) := goodIn_app (goodIn_r _ [5, 6, 7] rfl (by decide +kernel)) ggX9_setRate_X9_needRange
set_option maxRecDepth 20000 in
theorem ggX9_setRate_X9_isBasis : GoodIn wsX9_setRate wsX9_isBasis := goodIn_r _ [11, 12, 13] rfl (by decide +kernel)
set_option maxRecDepth 20000 in
theorem gX9_setRate_X9_isBasis : GoodIn wsX9_setRate (va_wsS RX9 293 yX9_isBasis wsX9_isBasis) := goodIn_app (goodIn_r _ [9, 10, 7] rfl (by decide +kernel)) ggX9_setRate_X9_isBasis
set_option maxRecDepth 20000 in
theorem ggX9_setRate_X1_remember : GoodIn wsX9_setRate wsX1_remember := goodIn_r _ [18, 19, 20, 21, 22, 23, 24, 25, 26, 27, 28, 29, 30, 31, 32, 33, 34, 35, 36, 37, 38, 39, 40, 41, 42, 43, 44, 45, 46, 47, 48, 49, 50, 51, 52, 53, 54, 55, 56, 57, 58, 59, 60, 61, 62, 63, 93, 94, 95, 73, 74, 75, 76, 77, 78, 79, 80, 81, 82, 83, 84, 85, 86, 87, 88, 89, 90, 91, 92, 96, 97, 98] rfl (by decide +kernel)
set_option maxRecDepth 20000 in
theorem gX9_setRate_X1_remember : GoodIn wsX9_setRate (wsV RX9 255 RX1 yX1_remember wsX1_remember) := goodIn_app (goodIn_r _ [14, 15, 16, 17] rfl (by decide +kernel)) ggX9_setRate_X1_remember
set_option maxRecDepth 20000 in
theorem ggX9_setGrace_X9_needRange : GoodIn wsX9_setGrace wsX9_needRange := goodIn_ca (goodIn_r _ [6, 7, 8] rfl (by decide +kernel)) (goodIn_sub (fun _ h => List.mem_cons_of_mem _ (List.mem_append_right _ h)) (by decide +kernel))
set_option maxRecDepth 20000 in
theorem gX9_setGrace_X9_needRange : GoodIn wsX9_setGrace (va_wsS RX9 67 yX9_needRange wsX9_needRange) := goodIn_app (goodIn_r _ [3, 4, 5] rfl (by decide +kernel)) ggX9_setGrace_X9_needRange
set_option maxRecDepth 20000 in
theorem ggX9_setGrace_X1_remember : GoodIn wsX9_setGrace wsX1_remember := goodIn_r _ [13, 14, 15, 16, 17, 18, 19, 20, 21, 22, 23, 24, 25, 26, 27, 28, 29, 30, 31, 32, 33, 34, 35, 36, 37, 38, 39, 40, 41, 42, 43, 44, 45, 46, 47, 48, 49, 50, 51, 52, 53, 54, 55, 56, 57, 58, 88, 89, 90, 68, 69, 70, 71, 72, 73, 74, 75, 76, 77, 78, 79, 80, 81, 82, 83, 84, 85, 86, 87, 91, 92, 93] rfl (by decide +kernel)
set_option maxRecDepth 20000 in
theorem gX9_setGrace_X1_remember : GoodIn wsX9_setGrace (wsV RX9 255 RX1 yX1_remember wsX1_remember) := goodIn_app (goodIn_r _ [9, 10, 11, 12] rfl (by decide +kernel)) ggX9_setGrace_X1_remember
set_option maxRecDepth 20000 in
theorem ggX9_pass_X9_needRange : GoodIn wsX9_pass wsX9_needRange := goodIn_ca (goodIn_r _ [6, 7, 8] rfl (by decide +kernel)) (goodIn_sub (fun _ h => List.mem_cons_of_mem _ (List.mem_append_left _ (List.mem_append_right _ h))) (by decide +kernel))
set_option maxRecDepth 20000 in
theorem gX9_pass_X9_needRange : GoodIn wsX9_pass (va_wsS RX9 67 yX9_needRange wsX9_needRange) := goodIn_app (goodIn_r _ [3, 4, 5] rfl (by decide +kernel)) ggX9_pass_X9_needRange
set_option maxRecDepth 20000 in
theorem ggX9_pass_X9_needPossible : GoodIn wsX9_pass wsX9_needPossible := goodIn_ca (goodIn_r _ [11, 12, 13] rfl (by decide +kernel)) (goodIn_sub (fun _ h => List.mem_cons_of_mem _ (List.mem_append_right _ h)) (by decide +kernel))
set_option maxRecDepth 20000 in
theorem gX9_pass_X9_needPossible : GoodIn wsX9_pass (va_wsS RX9 251 yX9_needPossible wsX9_needPossible) := goodIn_app (goodIn_r _ [9, 10, 5] rfl (by decide +kernel)) ggX9_pass_X9_needPossible
set_option maxRecDepth 20000 in
theorem ggX9_pass_X1_remember : GoodIn wsX9_pass wsX1_remember := goodIn_r _ [18, 19, 20, 21, 22, 23, 24, 25, 26, 27, 28, 29, 30, 31, 32, 33, 34, 35, 36, 37, 38, 39, 40, 41, 42, 43, 44, 45, 46, 47, 48, 49, 50, 51, 52, 53, 54, 55, 56, 57, 58, 59, 60, 61, 62, 63, 181, 182, 183, 161, 162, 163, 164, 165, 166, 167, 168, 169, 170, 171, 172, 173, 174, 175, 176, 177, 178, 179, 180, 184, 185, 186] rfl (by decide +kernel)
set_option maxRecDepth 20000 in
theorem gX9_pass_X1_remember : GoodIn wsX9_pass (wsV RX9 255 RX1 yX1_remember wsX1_remember) := goodIn_app (goodIn_r _ [14, 15, 16, 17] rfl (by decide +kernel)) ggX9_pass_X1_remember
set_option maxRecDepth 20000 in
theorem ggX9_pass_X0_payments : GoodIn wsX9_pass wsX0_payments := goodIn_r _ [67, 47, 48, 161, 162, 163, 164, 165, 166, 167, 168, 169, 170, 171, 172, 173, 174, 175, 176, 177, 178, 179, 180] rfl (by decide +kernel)
set_option maxRecDepth 20000 in
theorem gX9_pass_X0_payments : GoodIn wsX9_pass (wsV RX9 220 RX0 yX0_payments wsX0_payments) := goodIn_app (goodIn_r _ [64, 65, 66, 29] rfl (by decide +kernel)) ggX9_pass_X0_payments
set_option maxRecDepth 20000 in
theorem ggX9_pass_X0_liveDays : GoodIn wsX9_pass wsX0_liveDays := goodIn_r _ [71, 72, 73, 74, 29, 75, 46, 43, 44, 50, 41, 76, 77, 78, 79, 80, 51, 45, 32, 81, 82, 83, 58, 84, 62, 60, 63, 85, 23, 24, 25, 86, 87, 88, 89, 31, 33, 53, 40, 90, 91, 92, 93, 94, 95, 96, 97, 54, 98, 99, 100, 101, 102, 65, 66, 67, 47, 48, 103, 104, 105, 106, 107, 108, 109, 110, 111, 112, 113, 114, 115, 116, 117, 118, 119, 120, 121, 122, 123, 124, 125, 126, 38, 127, 128, 129, 130, 131, 132, 133, 134, 39, 135, 136, 137, 138, 139, 140, 141, 142, 52, 143, 144, 145, 146, 147, 148, 149, 150, 151, 161, 162, 163, 164, 165, 166, 167, 168, 169, 170, 171, 172, 173, 174, 175, 176, 177, 178, 179, 180, 184, 185, 186, 187, 188, 189, 190, 191, 192, 193, 194, 195, 196, 197, 198, 199, 200, 201, 202, 203] rfl (by decide +kernel)
set_option maxRecDepth 20000 in
theorem gX9_pass_X0_liveDays : GoodIn wsX9_pass (wsV RX9 247 RX0 yX0_liveDays wsX0_liveDays) := goodIn_app (goodIn_r _ [68, 69, 70, 29] rfl (by decide +kernel)) ggX9_pass_X0_liveDays
theorem dX0_refund_0 : decode cX0_refund 0 = .ok (.aload_n 0, 1) := by decide +kernel
theorem dX0_refund_1 : decode cX0_refund 1 = .ok (.dup, 1) := by decide +kernel
theorem dX0_refund_2 : decode cX0_refund 2 = .ok (.getfield 47, 3) := by decide +kernel
theorem dX0_refund_5 : decode cX0_refund 5 = .ok (.iload_n 1, 1) := by decide +kernel
theorem dX0_refund_6 : decode cX0_refund 6 = .ok (.isub, 1) := by decide +kernel
theorem dX0_refund_7 : decode cX0_refund 7 = .ok (.putfield 47, 3) := by decide +kernel
theorem dX0_refund_10 : decode cX0_refund 10 = .ok (.aload_n 0, 1) := by decide +kernel
theorem dX0_refund_11 : decode cX0_refund 11 = .ok (.dup, 1) := by decide +kernel
theorem dX0_refund_12 : decode cX0_refund 12 = .ok (.getfield 66, 3) := by decide +kernel
theorem dX0_refund_15 : decode cX0_refund 15 = .ok (.iload_n 1, 1) := by decide +kernel
theorem dX0_refund_16 : decode cX0_refund 16 = .ok (.iadd, 1) := by decide +kernel
theorem dX0_refund_17 : decode cX0_refund 17 = .ok (.putfield 66, 3) := by decide +kernel
theorem dX0_refund_20 : decode cX0_refund 20 = .ok (.aload_n 0, 1) := by decide +kernel
theorem dX0_refund_21 : decode cX0_refund 21 = .ok (.getfield 12, 3) := by decide +kernel
theorem dX0_refund_24 : decode cX0_refund 24 = .ok (.iconst 2, 1) := by decide +kernel
theorem dX0_refund_25 : decode cX0_refund 25 = .ok (.aload_n 0, 1) := by decide +kernel
theorem dX0_refund_26 : decode cX0_refund 26 = .ok (.getfield 40, 3) := by decide +kernel
theorem dX0_refund_29 : decode cX0_refund 29 = .ok (.iload_n 1, 1) := by decide +kernel
theorem dX0_refund_30 : decode cX0_refund 30 = .ok (.iload_n 2, 1) := by decide +kernel
theorem dX0_refund_31 : decode cX0_refund 31 = .ok (.invokevirtual 151, 3) := by decide +kernel
theorem dX0_refund_34 : decode cX0_refund 34 = .ok (.return_, 1) := by decide +kernel
theorem dX0_takeDeposit_0 : decode cX0_takeDeposit 0 = .ok (.aload_n 0, 1) := by decide +kernel
theorem dX0_takeDeposit_1 : decode cX0_takeDeposit 1 = .ok (.dup, 1) := by decide +kernel
theorem dX0_takeDeposit_2 : decode cX0_takeDeposit 2 = .ok (.getfield 44, 3) := by decide +kernel
theorem dX0_takeDeposit_5 : decode cX0_takeDeposit 5 = .ok (.iload_n 1, 1) := by decide +kernel
theorem dX0_takeDeposit_6 : decode cX0_takeDeposit 6 = .ok (.iadd, 1) := by decide +kernel
theorem dX0_takeDeposit_7 : decode cX0_takeDeposit 7 = .ok (.putfield 44, 3) := by decide +kernel
theorem dX0_takeDeposit_10 : decode cX0_takeDeposit 10 = .ok (.aload_n 0, 1) := by decide +kernel
theorem dX0_takeDeposit_11 : decode cX0_takeDeposit 11 = .ok (.dup, 1) := by decide +kernel
theorem dX0_takeDeposit_12 : decode cX0_takeDeposit 12 = .ok (.getfield 47, 3) := by decide +kernel
theorem dX0_takeDeposit_15 : decode cX0_takeDeposit 15 = .ok (.iload_n 1, 1) := by decide +kernel
theorem dX0_takeDeposit_16 : decode cX0_takeDeposit 16 = .ok (.iadd, 1) := by decide +kernel
theorem dX0_takeDeposit_17 : decode cX0_takeDeposit 17 = .ok (.putfield 47, 3) := by decide +kernel
theorem dX0_takeDeposit_20 : decode cX0_takeDeposit 20 = .ok (.aload_n 0, 1) := by decide +kernel
theorem dX0_takeDeposit_21 : decode cX0_takeDeposit 21 = .ok (.getfield 12, 3) := by decide +kernel
theorem dX0_takeDeposit_24 : decode cX0_takeDeposit 24 = .ok (.iconst 0, 1) := by decide +kernel
theorem dX0_takeDeposit_25 : decode cX0_takeDeposit 25 = .ok (.aload_n 0, 1) := by decide +kernel
theorem dX0_takeDeposit_26 : decode cX0_takeDeposit 26 = .ok (.getfield 40, 3) := by decide +kernel
theorem dX0_takeDeposit_29 : decode cX0_takeDeposit 29 = .ok (.iload_n 1, 1) := by decide +kernel
theorem dX0_takeDeposit_30 : decode cX0_takeDeposit 30 = .ok (.iconst (-1), 1) := by decide +kernel
theorem dX0_takeDeposit_31 : decode cX0_takeDeposit 31 = .ok (.invokevirtual 151, 3) := by decide +kernel
theorem dX0_takeDeposit_34 : decode cX0_takeDeposit 34 = .ok (.return_, 1) := by decide +kernel
theorem dX1_remember_0 : decode cX1_remember 0 = .ok (.aload_n 0, 1) := by decide +kernel
theorem dX1_remember_1 : decode cX1_remember 1 = .ok (.getfield 13, 3) := by decide +kernel
theorem dX1_remember_4 : decode cX1_remember 4 = .ok (.aload_n 0, 1) := by decide +kernel
theorem dX1_remember_5 : decode cX1_remember 5 = .ok (.getfield 20, 3) := by decide +kernel
theorem dX1_remember_8 : decode cX1_remember 8 = .ok (.aaload, 1) := by decide +kernel
theorem dX1_remember_9 : decode cX1_remember 9 = .ok (.aload_n 1, 1) := by decide +kernel
theorem dX1_remember_10 : decode cX1_remember 10 = .ok (.invokevirtual 24, 3) := by decide +kernel
theorem dX1_remember_13 : decode cX1_remember 13 = .ok (.aload_n 0, 1) := by decide +kernel
theorem dX1_remember_14 : decode cX1_remember 14 = .ok (.aload_n 0, 1) := by decide +kernel
theorem dX1_remember_15 : decode cX1_remember 15 = .ok (.getfield 20, 3) := by decide +kernel
theorem dX1_remember_18 : decode cX1_remember 18 = .ok (.iconst 1, 1) := by decide +kernel
theorem dX1_remember_19 : decode cX1_remember 19 = .ok (.iadd, 1) := by decide +kernel
theorem dX1_remember_20 : decode cX1_remember 20 = .ok (.bipush 10, 2) := by decide +kernel
theorem dX1_remember_22 : decode cX1_remember 22 = .ok (.irem, 1) := by decide +kernel
theorem dX1_remember_23 : decode cX1_remember 23 = .ok (.putfield 20, 3) := by decide +kernel
theorem dX1_remember_26 : decode cX1_remember 26 = .ok (.aload_n 0, 1) := by decide +kernel
theorem dX1_remember_27 : decode cX1_remember 27 = .ok (.aload_n 0, 1) := by decide +kernel
theorem dX1_remember_28 : decode cX1_remember 28 = .ok (.getfield 28, 3) := by decide +kernel
theorem dX1_remember_31 : decode cX1_remember 31 = .ok (.iconst 1, 1) := by decide +kernel
theorem dX1_remember_32 : decode cX1_remember 32 = .ok (.iadd, 1) := by decide +kernel
theorem dX1_remember_33 : decode cX1_remember 33 = .ok (.bipush 10, 2) := by decide +kernel
theorem dX1_remember_35 : decode cX1_remember 35 = .ok (.invokestatic 31, 3) := by decide +kernel
theorem dX1_remember_38 : decode cX1_remember 38 = .ok (.putfield 28, 3) := by decide +kernel
theorem dX1_remember_41 : decode cX1_remember 41 = .ok (.return_, 1) := by decide +kernel
theorem dX9_appendBytes_0 : decode cX9_appendBytes 0 = .ok (.bipush 24, 2) := by decide +kernel
theorem dX9_appendBytes_2 : decode cX9_appendBytes 2 = .ok (.istore_n 2, 1) := by decide +kernel
theorem dX9_appendBytes_3 : decode cX9_appendBytes 3 = .ok (.iload_n 2, 1) := by decide +kernel
theorem dX9_appendBytes_4 : decode cX9_appendBytes 4 = .ok (.ifCond .lt 48, 3) := by decide +kernel
theorem dX9_appendBytes_7 : decode cX9_appendBytes 7 = .ok (.aload_n 0, 1) := by decide +kernel
theorem dX9_appendBytes_8 : decode cX9_appendBytes 8 = .ok (.getfield 59, 3) := by decide +kernel
theorem dX9_appendBytes_11 : decode cX9_appendBytes 11 = .ok (.aload_n 0, 1) := by decide +kernel
theorem dX9_appendBytes_12 : decode cX9_appendBytes 12 = .ok (.getfield 9, 3) := by decide +kernel
theorem dX9_appendBytes_15 : decode cX9_appendBytes 15 = .ok (.arraylength, 1) := by decide +kernel
theorem dX9_appendBytes_16 : decode cX9_appendBytes 16 = .ok (.if_icmp .ge 30, 3) := by decide +kernel
theorem dX9_appendBytes_19 : decode cX9_appendBytes 19 = .ok (.aload_n 0, 1) := by decide +kernel
theorem dX9_appendBytes_20 : decode cX9_appendBytes 20 = .ok (.getfield 9, 3) := by decide +kernel
theorem dX9_appendBytes_23 : decode cX9_appendBytes 23 = .ok (.aload_n 0, 1) := by decide +kernel
theorem dX9_appendBytes_24 : decode cX9_appendBytes 24 = .ok (.getfield 59, 3) := by decide +kernel
theorem dX9_appendBytes_27 : decode cX9_appendBytes 27 = .ok (.iload_n 1, 1) := by decide +kernel
theorem dX9_appendBytes_28 : decode cX9_appendBytes 28 = .ok (.iload_n 2, 1) := by decide +kernel
theorem dX9_appendBytes_29 : decode cX9_appendBytes 29 = .ok (.iushr, 1) := by decide +kernel
theorem dX9_appendBytes_30 : decode cX9_appendBytes 30 = .ok (.sipush 255, 3) := by decide +kernel
theorem dX9_appendBytes_33 : decode cX9_appendBytes 33 = .ok (.iand, 1) := by decide +kernel
theorem dX9_appendBytes_34 : decode cX9_appendBytes 34 = .ok (.i2c, 1) := by decide +kernel
theorem dX9_appendBytes_35 : decode cX9_appendBytes 35 = .ok (.castore, 1) := by decide +kernel
theorem dX9_appendBytes_36 : decode cX9_appendBytes 36 = .ok (.aload_n 0, 1) := by decide +kernel
theorem dX9_appendBytes_37 : decode cX9_appendBytes 37 = .ok (.dup, 1) := by decide +kernel
theorem dX9_appendBytes_38 : decode cX9_appendBytes 38 = .ok (.getfield 59, 3) := by decide +kernel
theorem dX9_appendBytes_41 : decode cX9_appendBytes 41 = .ok (.iconst 1, 1) := by decide +kernel
theorem dX9_appendBytes_42 : decode cX9_appendBytes 42 = .ok (.iadd, 1) := by decide +kernel
theorem dX9_appendBytes_43 : decode cX9_appendBytes 43 = .ok (.putfield 59, 3) := by decide +kernel
theorem dX9_appendBytes_46 : decode cX9_appendBytes 46 = .ok (.iinc 2 (-8), 3) := by decide +kernel
theorem dX9_appendBytes_49 : decode cX9_appendBytes 49 = .ok (.goto (-46), 3) := by decide +kernel
theorem dX9_appendBytes_52 : decode cX9_appendBytes 52 = .ok (.return_, 1) := by decide +kernel
theorem dX9_close_0 : decode cX9_close 0 = .ok (.aload_n 0, 1) := by decide +kernel
theorem dX9_close_1 : decode cX9_close 1 = .ok (.invokevirtual 287, 3) := by decide +kernel
theorem dX9_close_4 : decode cX9_close 4 = .ok (.aload_n 0, 1) := by decide +kernel
theorem dX9_close_5 : decode cX9_close 5 = .ok (.getfield 16, 3) := by decide +kernel
theorem dX9_close_8 : decode cX9_close 8 = .ok (.getfield 78, 3) := by decide +kernel
theorem dX9_close_11 : decode cX9_close 11 = .ok (.if_icmp .ne 7, 3) := by decide +kernel
theorem dX9_close_14 : decode cX9_close 14 = .ok (.iconst 1, 1) := by decide +kernel
theorem dX9_close_15 : decode cX9_close 15 = .ok (.goto 4, 3) := by decide +kernel
theorem dX9_close_18 : decode cX9_close 18 = .ok (.iconst 0, 1) := by decide +kernel
theorem dX9_close_19 : decode cX9_close 19 = .ok (.invokestatic 251, 3) := by decide +kernel
theorem dX9_close_22 : decode cX9_close 22 = .ok (.aload_n 0, 1) := by decide +kernel
theorem dX9_close_23 : decode cX9_close 23 = .ok (.getfield 45, 3) := by decide +kernel
theorem dX9_close_26 : decode cX9_close 26 = .ok (.aload_n 0, 1) := by decide +kernel
theorem dX9_close_27 : decode cX9_close 27 = .ok (.getfield 35, 3) := by decide +kernel
theorem dX9_close_30 : decode cX9_close 30 = .ok (.invokevirtual 255, 3) := by decide +kernel
theorem dX9_close_33 : decode cX9_close 33 = .ok (.aload_n 0, 1) := by decide +kernel
theorem dX9_close_34 : decode cX9_close 34 = .ok (.getfield 35, 3) := by decide +kernel
theorem dX9_close_37 : decode cX9_close 37 = .ok (.getfield 93, 3) := by decide +kernel
theorem dX9_close_40 : decode cX9_close 40 = .ok (.istore_n 1, 1) := by decide +kernel
theorem dX9_close_41 : decode cX9_close 41 = .ok (.aload_n 0, 1) := by decide +kernel
theorem dX9_close_42 : decode cX9_close 42 = .ok (.getfield 35, 3) := by decide +kernel
theorem dX9_close_45 : decode cX9_close 45 = .ok (.iload_n 1, 1) := by decide +kernel
theorem dX9_close_46 : decode cX9_close 46 = .ok (.iconst (-1), 1) := by decide +kernel
theorem dX9_close_47 : decode cX9_close 47 = .ok (.invokevirtual 290, 3) := by decide +kernel
theorem dX9_close_50 : decode cX9_close 50 = .ok (.iload_n 1, 1) := by decide +kernel
theorem dX9_close_51 : decode cX9_close 51 = .ok (.ireturn, 1) := by decide +kernel
theorem dX9_creditedAfter_0 : decode cX9_creditedAfter 0 = .ok (.iload_n 1, 1) := by decide +kernel
theorem dX9_creditedAfter_1 : decode cX9_creditedAfter 1 = .ok (.iconst 1, 1) := by decide +kernel
theorem dX9_creditedAfter_2 : decode cX9_creditedAfter 2 = .ok (.bipush 120, 2) := by decide +kernel
theorem dX9_creditedAfter_4 : decode cX9_creditedAfter 4 = .ok (.invokestatic 67, 3) := by decide +kernel
theorem dX9_creditedAfter_7 : decode cX9_creditedAfter 7 = .ok (.aload_n 0, 1) := by decide +kernel
theorem dX9_creditedAfter_8 : decode cX9_creditedAfter 8 = .ok (.iload_n 1, 1) := by decide +kernel
theorem dX9_creditedAfter_9 : decode cX9_creditedAfter 9 = .ok (.invokevirtual 217, 3) := by decide +kernel
theorem dX9_creditedAfter_12 : decode cX9_creditedAfter 12 = .ok (.aload_n 0, 1) := by decide +kernel
theorem dX9_creditedAfter_13 : decode cX9_creditedAfter 13 = .ok (.getfield 39, 3) := by decide +kernel
theorem dX9_creditedAfter_16 : decode cX9_creditedAfter 16 = .ok (.getfield 104, 3) := by decide +kernel
theorem dX9_creditedAfter_19 : decode cX9_creditedAfter 19 = .ok (.l2i, 1) := by decide +kernel
theorem dX9_creditedAfter_20 : decode cX9_creditedAfter 20 = .ok (.ireturn, 1) := by decide +kernel
theorem dX9_deposit_0 : decode cX9_deposit 0 = .ok (.iload_n 1, 1) := by decide +kernel
theorem dX9_deposit_1 : decode cX9_deposit 1 = .ok (.iconst 1, 1) := by decide +kernel
theorem dX9_deposit_2 : decode cX9_deposit 2 = .ok (.ldc 239, 2) := by decide +kernel
theorem dX9_deposit_4 : decode cX9_deposit 4 = .ok (.invokestatic 67, 3) := by decide +kernel
theorem dX9_deposit_7 : decode cX9_deposit 7 = .ok (.aload_n 0, 1) := by decide +kernel
theorem dX9_deposit_8 : decode cX9_deposit 8 = .ok (.getfield 35, 3) := by decide +kernel
theorem dX9_deposit_11 : decode cX9_deposit 11 = .ok (.getfield 90, 3) := by decide +kernel
theorem dX9_deposit_14 : decode cX9_deposit 14 = .ok (.iload_n 1, 1) := by decide +kernel
theorem dX9_deposit_15 : decode cX9_deposit 15 = .ok (.iadd, 1) := by decide +kernel
theorem dX9_deposit_16 : decode cX9_deposit 16 = .ok (.ldc 250, 2) := by decide +kernel
theorem dX9_deposit_18 : decode cX9_deposit 18 = .ok (.if_icmp .gt 7, 3) := by decide +kernel
theorem dX9_deposit_21 : decode cX9_deposit 21 = .ok (.iconst 1, 1) := by decide +kernel
theorem dX9_deposit_22 : decode cX9_deposit 22 = .ok (.goto 4, 3) := by decide +kernel
theorem dX9_deposit_25 : decode cX9_deposit 25 = .ok (.iconst 0, 1) := by decide +kernel
theorem dX9_deposit_26 : decode cX9_deposit 26 = .ok (.invokestatic 251, 3) := by decide +kernel
theorem dX9_deposit_29 : decode cX9_deposit 29 = .ok (.aload_n 0, 1) := by decide +kernel
theorem dX9_deposit_30 : decode cX9_deposit 30 = .ok (.getfield 45, 3) := by decide +kernel
theorem dX9_deposit_33 : decode cX9_deposit 33 = .ok (.aload_n 0, 1) := by decide +kernel
theorem dX9_deposit_34 : decode cX9_deposit 34 = .ok (.getfield 35, 3) := by decide +kernel
theorem dX9_deposit_37 : decode cX9_deposit 37 = .ok (.invokevirtual 255, 3) := by decide +kernel
theorem dX9_deposit_40 : decode cX9_deposit 40 = .ok (.aload_n 0, 1) := by decide +kernel
theorem dX9_deposit_41 : decode cX9_deposit 41 = .ok (.getfield 35, 3) := by decide +kernel
theorem dX9_deposit_44 : decode cX9_deposit 44 = .ok (.iload_n 1, 1) := by decide +kernel
theorem dX9_deposit_45 : decode cX9_deposit 45 = .ok (.invokevirtual 258, 3) := by decide +kernel
theorem dX9_deposit_48 : decode cX9_deposit 48 = .ok (.aload_n 0, 1) := by decide +kernel
theorem dX9_deposit_49 : decode cX9_deposit 49 = .ok (.getfield 35, 3) := by decide +kernel
theorem dX9_deposit_52 : decode cX9_deposit 52 = .ok (.getfield 93, 3) := by decide +kernel
theorem dX9_deposit_55 : decode cX9_deposit 55 = .ok (.ireturn, 1) := by decide +kernel
theorem dX9_feed_0 : decode cX9_feed 0 = .ok (.aload_n 0, 1) := by decide +kernel
theorem dX9_feed_1 : decode cX9_feed 1 = .ok (.getfield 59, 3) := by decide +kernel
theorem dX9_feed_4 : decode cX9_feed 4 = .ok (.bipush 20, 2) := by decide +kernel
theorem dX9_feed_6 : decode cX9_feed 6 = .ok (.iadd, 1) := by decide +kernel
theorem dX9_feed_7 : decode cX9_feed 7 = .ok (.sipush 700, 3) := by decide +kernel
theorem dX9_feed_10 : decode cX9_feed 10 = .ok (.if_icmp .le 6, 3) := by decide +kernel
theorem dX9_feed_13 : decode cX9_feed 13 = .ok (.bipush (-2), 2) := by decide +kernel
theorem dX9_feed_15 : decode cX9_feed 15 = .ok (.ireturn, 1) := by decide +kernel
theorem dX9_feed_16 : decode cX9_feed 16 = .ok (.aload_n 0, 1) := by decide +kernel
theorem dX9_feed_17 : decode cX9_feed 17 = .ok (.iload_n 1, 1) := by decide +kernel
theorem dX9_feed_18 : decode cX9_feed 18 = .ok (.invokevirtual 63, 3) := by decide +kernel
theorem dX9_feed_21 : decode cX9_feed 21 = .ok (.aload_n 0, 1) := by decide +kernel
theorem dX9_feed_22 : decode cX9_feed 22 = .ok (.iload_n 2, 1) := by decide +kernel
theorem dX9_feed_23 : decode cX9_feed 23 = .ok (.invokevirtual 63, 3) := by decide +kernel
theorem dX9_feed_26 : decode cX9_feed 26 = .ok (.aload_n 0, 1) := by decide +kernel
theorem dX9_feed_27 : decode cX9_feed 27 = .ok (.iload_n 3, 1) := by decide +kernel
theorem dX9_feed_28 : decode cX9_feed 28 = .ok (.invokevirtual 63, 3) := by decide +kernel
theorem dX9_feed_31 : decode cX9_feed 31 = .ok (.aload_n 0, 1) := by decide +kernel
theorem dX9_feed_32 : decode cX9_feed 32 = .ok (.iload 4, 2) := by decide +kernel
theorem dX9_feed_34 : decode cX9_feed 34 = .ok (.invokevirtual 63, 3) := by decide +kernel
theorem dX9_feed_37 : decode cX9_feed 37 = .ok (.aload_n 0, 1) := by decide +kernel
theorem dX9_feed_38 : decode cX9_feed 38 = .ok (.iload 5, 2) := by decide +kernel
theorem dX9_feed_40 : decode cX9_feed 40 = .ok (.invokevirtual 63, 3) := by decide +kernel
theorem dX9_feed_43 : decode cX9_feed 43 = .ok (.aload_n 0, 1) := by decide +kernel
theorem dX9_feed_44 : decode cX9_feed 44 = .ok (.getfield 59, 3) := by decide +kernel
theorem dX9_feed_47 : decode cX9_feed 47 = .ok (.ireturn, 1) := by decide +kernel
theorem dX9_isBasis_0 : decode cX9_isBasis 0 = .ok (.lload_n 0, 1) := by decide +kernel
theorem dX9_isBasis_1 : decode cX9_isBasis 1 = .ok (.ldc2_w 374, 3) := by decide +kernel
theorem dX9_isBasis_4 : decode cX9_isBasis 4 = .ok (.lcmp, 1) := by decide +kernel
theorem dX9_isBasis_5 : decode cX9_isBasis 5 = .ok (.ifCond .eq 11, 3) := by decide +kernel
theorem dX9_isBasis_8 : decode cX9_isBasis 8 = .ok (.lload_n 0, 1) := by decide +kernel
theorem dX9_isBasis_9 : decode cX9_isBasis 9 = .ok (.ldc2_w 376, 3) := by decide +kernel
theorem dX9_isBasis_12 : decode cX9_isBasis 12 = .ok (.lcmp, 1) := by decide +kernel
theorem dX9_isBasis_13 : decode cX9_isBasis 13 = .ok (.ifCond .ne 7, 3) := by decide +kernel
theorem dX9_isBasis_16 : decode cX9_isBasis 16 = .ok (.iconst 1, 1) := by decide +kernel
theorem dX9_isBasis_17 : decode cX9_isBasis 17 = .ok (.goto 4, 3) := by decide +kernel
theorem dX9_isBasis_20 : decode cX9_isBasis 20 = .ok (.iconst 0, 1) := by decide +kernel
theorem dX9_isBasis_21 : decode cX9_isBasis 21 = .ok (.ireturn, 1) := by decide +kernel
theorem dX9_pass_0 : decode cX9_pass 0 = .ok (.iload_n 1, 1) := by decide +kernel
theorem dX9_pass_1 : decode cX9_pass 1 = .ok (.iconst 1, 1) := by decide +kernel
theorem dX9_pass_2 : decode cX9_pass 2 = .ok (.bipush 120, 2) := by decide +kernel
theorem dX9_pass_4 : decode cX9_pass 4 = .ok (.invokestatic 67, 3) := by decide +kernel
theorem dX9_pass_7 : decode cX9_pass 7 = .ok (.aload_n 0, 1) := by decide +kernel
theorem dX9_pass_8 : decode cX9_pass 8 = .ok (.getfield 35, 3) := by decide +kernel
theorem dX9_pass_11 : decode cX9_pass 11 = .ok (.getfield 87, 3) := by decide +kernel
theorem dX9_pass_14 : decode cX9_pass 14 = .ok (.iload_n 1, 1) := by decide +kernel
theorem dX9_pass_15 : decode cX9_pass 15 = .ok (.iadd, 1) := by decide +kernel
theorem dX9_pass_16 : decode cX9_pass 16 = .ok (.sipush 9999, 3) := by decide +kernel
theorem dX9_pass_19 : decode cX9_pass 19 = .ok (.if_icmp .gt 7, 3) := by decide +kernel
theorem dX9_pass_22 : decode cX9_pass 22 = .ok (.iconst 1, 1) := by decide +kernel
theorem dX9_pass_23 : decode cX9_pass 23 = .ok (.goto 4, 3) := by decide +kernel
theorem dX9_pass_26 : decode cX9_pass 26 = .ok (.iconst 0, 1) := by decide +kernel
theorem dX9_pass_27 : decode cX9_pass 27 = .ok (.invokestatic 251, 3) := by decide +kernel
theorem dX9_pass_30 : decode cX9_pass 30 = .ok (.aload_n 0, 1) := by decide +kernel
theorem dX9_pass_31 : decode cX9_pass 31 = .ok (.getfield 45, 3) := by decide +kernel
theorem dX9_pass_34 : decode cX9_pass 34 = .ok (.aload_n 0, 1) := by decide +kernel
theorem dX9_pass_35 : decode cX9_pass 35 = .ok (.getfield 35, 3) := by decide +kernel
theorem dX9_pass_38 : decode cX9_pass 38 = .ok (.invokevirtual 255, 3) := by decide +kernel
theorem dX9_pass_41 : decode cX9_pass 41 = .ok (.aload_n 0, 1) := by decide +kernel
theorem dX9_pass_42 : decode cX9_pass 42 = .ok (.getfield 35, 3) := by decide +kernel
theorem dX9_pass_45 : decode cX9_pass 45 = .ok (.invokevirtual 220, 3) := by decide +kernel
theorem dX9_pass_48 : decode cX9_pass 48 = .ok (.istore_n 2, 1) := by decide +kernel
theorem dX9_pass_49 : decode cX9_pass 49 = .ok (.aload_n 0, 1) := by decide +kernel
theorem dX9_pass_50 : decode cX9_pass 50 = .ok (.getfield 35, 3) := by decide +kernel
theorem dX9_pass_53 : decode cX9_pass 53 = .ok (.iload_n 1, 1) := by decide +kernel
theorem dX9_pass_54 : decode cX9_pass 54 = .ok (.invokevirtual 247, 3) := by decide +kernel
theorem dX9_pass_57 : decode cX9_pass 57 = .ok (.aload_n 0, 1) := by decide +kernel
theorem dX9_pass_58 : decode cX9_pass 58 = .ok (.getfield 35, 3) := by decide +kernel
theorem dX9_pass_61 : decode cX9_pass 61 = .ok (.invokevirtual 220, 3) := by decide +kernel
theorem dX9_pass_64 : decode cX9_pass 64 = .ok (.iload_n 2, 1) := by decide +kernel
theorem dX9_pass_65 : decode cX9_pass 65 = .ok (.isub, 1) := by decide +kernel
theorem dX9_pass_66 : decode cX9_pass 66 = .ok (.ireturn, 1) := by decide +kernel
theorem dX9_payInterest_0 : decode cX9_payInterest 0 = .ok (.iload_n 1, 1) := by decide +kernel
theorem dX9_payInterest_1 : decode cX9_payInterest 1 = .ok (.iconst 1, 1) := by decide +kernel
theorem dX9_payInterest_2 : decode cX9_payInterest 2 = .ok (.if_icmp .lt 16, 3) := by decide +kernel
theorem dX9_payInterest_5 : decode cX9_payInterest 5 = .ok (.iload_n 1, 1) := by decide +kernel
theorem dX9_payInterest_6 : decode cX9_payInterest 6 = .ok (.i2l, 1) := by decide +kernel
theorem dX9_payInterest_7 : decode cX9_payInterest 7 = .ok (.aload_n 0, 1) := by decide +kernel
theorem dX9_payInterest_8 : decode cX9_payInterest 8 = .ok (.getfield 35, 3) := by decide +kernel
theorem dX9_payInterest_11 : decode cX9_payInterest 11 = .ok (.getfield 100, 3) := by decide +kernel
theorem dX9_payInterest_14 : decode cX9_payInterest 14 = .ok (.lcmp, 1) := by decide +kernel
theorem dX9_payInterest_15 : decode cX9_payInterest 15 = .ok (.ifCond .le 14, 3) := by decide +kernel
theorem dX9_payInterest_18 : decode cX9_payInterest 18 = .ok (.new 279, 3) := by decide +kernel
theorem dX9_payInterest_21 : decode cX9_payInterest 21 = .ok (.dup, 1) := by decide +kernel
theorem dX9_payInterest_22 : decode cX9_payInterest 22 = .ok (.ldc_w 281, 3) := by decide +kernel
theorem dX9_payInterest_25 : decode cX9_payInterest 25 = .ok (.invokespecial 283, 3) := by decide +kernel
theorem dX9_payInterest_28 : decode cX9_payInterest 28 = .ok (.athrow, 1) := by decide +kernel
theorem dX9_payInterest_29 : decode cX9_payInterest 29 = .ok (.aload_n 0, 1) := by decide +kernel
theorem dX9_payInterest_30 : decode cX9_payInterest 30 = .ok (.getfield 45, 3) := by decide +kernel
theorem dX9_payInterest_33 : decode cX9_payInterest 33 = .ok (.aload_n 0, 1) := by decide +kernel
theorem dX9_payInterest_34 : decode cX9_payInterest 34 = .ok (.getfield 35, 3) := by decide +kernel
theorem dX9_payInterest_37 : decode cX9_payInterest 37 = .ok (.invokevirtual 255, 3) := by decide +kernel
theorem dX9_payInterest_40 : decode cX9_payInterest 40 = .ok (.aload_n 0, 1) := by decide +kernel
theorem dX9_payInterest_41 : decode cX9_payInterest 41 = .ok (.getfield 35, 3) := by decide +kernel
theorem dX9_payInterest_44 : decode cX9_payInterest 44 = .ok (.iload_n 1, 1) := by decide +kernel
theorem dX9_payInterest_45 : decode cX9_payInterest 45 = .ok (.invokevirtual 284, 3) := by decide +kernel
theorem dX9_payInterest_48 : decode cX9_payInterest 48 = .ok (.aload_n 0, 1) := by decide +kernel
theorem dX9_payInterest_49 : decode cX9_payInterest 49 = .ok (.getfield 35, 3) := by decide +kernel
theorem dX9_payInterest_52 : decode cX9_payInterest 52 = .ok (.getfield 100, 3) := by decide +kernel
theorem dX9_payInterest_55 : decode cX9_payInterest 55 = .ok (.l2i, 1) := by decide +kernel
theorem dX9_payInterest_56 : decode cX9_payInterest 56 = .ok (.ireturn, 1) := by decide +kernel
theorem dX9_paymentsAfter_0 : decode cX9_paymentsAfter 0 = .ok (.iload_n 1, 1) := by decide +kernel
theorem dX9_paymentsAfter_1 : decode cX9_paymentsAfter 1 = .ok (.iconst 1, 1) := by decide +kernel
theorem dX9_paymentsAfter_2 : decode cX9_paymentsAfter 2 = .ok (.bipush 120, 2) := by decide +kernel
theorem dX9_paymentsAfter_4 : decode cX9_paymentsAfter 4 = .ok (.invokestatic 67, 3) := by decide +kernel
theorem dX9_paymentsAfter_7 : decode cX9_paymentsAfter 7 = .ok (.aload_n 0, 1) := by decide +kernel
theorem dX9_paymentsAfter_8 : decode cX9_paymentsAfter 8 = .ok (.iload_n 1, 1) := by decide +kernel
theorem dX9_paymentsAfter_9 : decode cX9_paymentsAfter 9 = .ok (.invokevirtual 217, 3) := by decide +kernel
theorem dX9_paymentsAfter_12 : decode cX9_paymentsAfter 12 = .ok (.aload_n 0, 1) := by decide +kernel
theorem dX9_paymentsAfter_13 : decode cX9_paymentsAfter 13 = .ok (.getfield 39, 3) := by decide +kernel
theorem dX9_paymentsAfter_16 : decode cX9_paymentsAfter 16 = .ok (.invokevirtual 220, 3) := by decide +kernel
theorem dX9_paymentsAfter_19 : decode cX9_paymentsAfter 19 = .ok (.ireturn, 1) := by decide +kernel
theorem dX9_setGrace_0 : decode cX9_setGrace 0 = .ok (.iload_n 1, 1) := by decide +kernel
theorem dX9_setGrace_1 : decode cX9_setGrace 1 = .ok (.iconst 0, 1) := by decide +kernel
theorem dX9_setGrace_2 : decode cX9_setGrace 2 = .ok (.bipush 60, 2) := by decide +kernel
theorem dX9_setGrace_4 : decode cX9_setGrace 4 = .ok (.invokestatic 67, 3) := by decide +kernel
theorem dX9_setGrace_7 : decode cX9_setGrace 7 = .ok (.aload_n 0, 1) := by decide +kernel
theorem dX9_setGrace_8 : decode cX9_setGrace 8 = .ok (.getfield 45, 3) := by decide +kernel
theorem dX9_setGrace_11 : decode cX9_setGrace 11 = .ok (.aload_n 0, 1) := by decide +kernel
theorem dX9_setGrace_12 : decode cX9_setGrace 12 = .ok (.getfield 35, 3) := by decide +kernel
theorem dX9_setGrace_15 : decode cX9_setGrace 15 = .ok (.invokevirtual 255, 3) := by decide +kernel
theorem dX9_setGrace_18 : decode cX9_setGrace 18 = .ok (.aload_n 0, 1) := by decide +kernel
theorem dX9_setGrace_19 : decode cX9_setGrace 19 = .ok (.getfield 35, 3) := by decide +kernel
theorem dX9_setGrace_22 : decode cX9_setGrace 22 = .ok (.getfield 305, 3) := by decide +kernel
theorem dX9_setGrace_25 : decode cX9_setGrace 25 = .ok (.istore_n 2, 1) := by decide +kernel
theorem dX9_setGrace_26 : decode cX9_setGrace 26 = .ok (.aload_n 0, 1) := by decide +kernel
theorem dX9_setGrace_27 : decode cX9_setGrace 27 = .ok (.getfield 35, 3) := by decide +kernel
theorem dX9_setGrace_30 : decode cX9_setGrace 30 = .ok (.iload_n 1, 1) := by decide +kernel
theorem dX9_setGrace_31 : decode cX9_setGrace 31 = .ok (.putfield 305, 3) := by decide +kernel
theorem dX9_setGrace_34 : decode cX9_setGrace 34 = .ok (.iload_n 2, 1) := by decide +kernel
theorem dX9_setGrace_35 : decode cX9_setGrace 35 = .ok (.ireturn, 1) := by decide +kernel
theorem dX9_setRate_0 : decode cX9_setRate 0 = .ok (.iload_n 1, 1) := by decide +kernel
theorem dX9_setRate_1 : decode cX9_setRate 1 = .ok (.iconst 0, 1) := by decide +kernel
theorem dX9_setRate_2 : decode cX9_setRate 2 = .ok (.sipush 3000, 3) := by decide +kernel
theorem dX9_setRate_5 : decode cX9_setRate 5 = .ok (.invokestatic 67, 3) := by decide +kernel
theorem dX9_setRate_8 : decode cX9_setRate 8 = .ok (.iload_n 2, 1) := by decide +kernel
theorem dX9_setRate_9 : decode cX9_setRate 9 = .ok (.i2l, 1) := by decide +kernel
theorem dX9_setRate_10 : decode cX9_setRate 10 = .ok (.invokestatic 293, 3) := by decide +kernel
theorem dX9_setRate_13 : decode cX9_setRate 13 = .ok (.ifCond .ne 14, 3) := by decide +kernel
theorem dX9_setRate_16 : decode cX9_setRate 16 = .ok (.new 279, 3) := by decide +kernel
theorem dX9_setRate_19 : decode cX9_setRate 19 = .ok (.dup, 1) := by decide +kernel
theorem dX9_setRate_20 : decode cX9_setRate 20 = .ok (.ldc_w 297, 3) := by decide +kernel
theorem dX9_setRate_23 : decode cX9_setRate 23 = .ok (.invokespecial 283, 3) := by decide +kernel
theorem dX9_setRate_26 : decode cX9_setRate 26 = .ok (.athrow, 1) := by decide +kernel
theorem dX9_setRate_27 : decode cX9_setRate 27 = .ok (.aload_n 0, 1) := by decide +kernel
theorem dX9_setRate_28 : decode cX9_setRate 28 = .ok (.getfield 45, 3) := by decide +kernel
theorem dX9_setRate_31 : decode cX9_setRate 31 = .ok (.aload_n 0, 1) := by decide +kernel
theorem dX9_setRate_32 : decode cX9_setRate 32 = .ok (.getfield 35, 3) := by decide +kernel
theorem dX9_setRate_35 : decode cX9_setRate 35 = .ok (.invokevirtual 255, 3) := by decide +kernel
theorem dX9_setRate_38 : decode cX9_setRate 38 = .ok (.aload_n 0, 1) := by decide +kernel
theorem dX9_setRate_39 : decode cX9_setRate 39 = .ok (.getfield 35, 3) := by decide +kernel
theorem dX9_setRate_42 : decode cX9_setRate 42 = .ok (.getfield 299, 3) := by decide +kernel
theorem dX9_setRate_45 : decode cX9_setRate 45 = .ok (.istore_n 3, 1) := by decide +kernel
theorem dX9_setRate_46 : decode cX9_setRate 46 = .ok (.aload_n 0, 1) := by decide +kernel
theorem dX9_setRate_47 : decode cX9_setRate 47 = .ok (.getfield 35, 3) := by decide +kernel
theorem dX9_setRate_50 : decode cX9_setRate 50 = .ok (.iload_n 1, 1) := by decide +kernel
theorem dX9_setRate_51 : decode cX9_setRate 51 = .ok (.putfield 299, 3) := by decide +kernel
theorem dX9_setRate_54 : decode cX9_setRate 54 = .ok (.aload_n 0, 1) := by decide +kernel
theorem dX9_setRate_55 : decode cX9_setRate 55 = .ok (.getfield 35, 3) := by decide +kernel
theorem dX9_setRate_58 : decode cX9_setRate 58 = .ok (.iload_n 2, 1) := by decide +kernel
theorem dX9_setRate_59 : decode cX9_setRate 59 = .ok (.putfield 302, 3) := by decide +kernel
theorem dX9_setRate_62 : decode cX9_setRate 62 = .ok (.iload_n 3, 1) := by decide +kernel
theorem dX9_setRate_63 : decode cX9_setRate 63 = .ok (.ireturn, 1) := by decide +kernel
theorem dX9_shortDay_0 : decode cX9_shortDay 0 = .ok (.iload_n 1, 1) := by decide +kernel
theorem dX9_shortDay_1 : decode cX9_shortDay 1 = .ok (.iconst 1, 1) := by decide +kernel
theorem dX9_shortDay_2 : decode cX9_shortDay 2 = .ok (.bipush 120, 2) := by decide +kernel
theorem dX9_shortDay_4 : decode cX9_shortDay 4 = .ok (.invokestatic 67, 3) := by decide +kernel
theorem dX9_shortDay_7 : decode cX9_shortDay 7 = .ok (.aload_n 0, 1) := by decide +kernel
theorem dX9_shortDay_8 : decode cX9_shortDay 8 = .ok (.getfield 39, 3) := by decide +kernel
theorem dX9_shortDay_11 : decode cX9_shortDay 11 = .ok (.aload_n 0, 1) := by decide +kernel
theorem dX9_shortDay_12 : decode cX9_shortDay 12 = .ok (.getfield 35, 3) := by decide +kernel
theorem dX9_shortDay_15 : decode cX9_shortDay 15 = .ok (.invokevirtual 223, 3) := by decide +kernel
theorem dX9_shortDay_18 : decode cX9_shortDay 18 = .ok (.iconst 0, 1) := by decide +kernel
theorem dX9_shortDay_19 : decode cX9_shortDay 19 = .ok (.istore_n 2, 1) := by decide +kernel
theorem dX9_shortDay_20 : decode cX9_shortDay 20 = .ok (.iload_n 2, 1) := by decide +kernel
theorem dX9_shortDay_21 : decode cX9_shortDay 21 = .ok (.iload_n 1, 1) := by decide +kernel
theorem dX9_shortDay_22 : decode cX9_shortDay 22 = .ok (.if_icmp .ge 34, 3) := by decide +kernel
theorem dX9_shortDay_25 : decode cX9_shortDay 25 = .ok (.aload_n 0, 1) := by decide +kernel
theorem dX9_shortDay_26 : decode cX9_shortDay 26 = .ok (.getfield 39, 3) := by decide +kernel
theorem dX9_shortDay_29 : decode cX9_shortDay 29 = .ok (.invokevirtual 227, 3) := by decide +kernel
theorem dX9_shortDay_32 : decode cX9_shortDay 32 = .ok (.aload_n 0, 1) := by decide +kernel
theorem dX9_shortDay_33 : decode cX9_shortDay 33 = .ok (.getfield 39, 3) := by decide +kernel
theorem dX9_shortDay_36 : decode cX9_shortDay 36 = .ok (.invokevirtual 243, 3) := by decide +kernel
theorem dX9_shortDay_39 : decode cX9_shortDay 39 = .ok (.ifCond .eq 11, 3) := by decide +kernel
theorem dX9_shortDay_42 : decode cX9_shortDay 42 = .ok (.aload_n 0, 1) := by decide +kernel
theorem dX9_shortDay_43 : decode cX9_shortDay 43 = .ok (.getfield 39, 3) := by decide +kernel
theorem dX9_shortDay_46 : decode cX9_shortDay 46 = .ok (.getfield 87, 3) := by decide +kernel
theorem dX9_shortDay_49 : decode cX9_shortDay 49 = .ok (.ireturn, 1) := by decide +kernel
theorem dX9_shortDay_50 : decode cX9_shortDay 50 = .ok (.iinc 2 1, 3) := by decide +kernel
theorem dX9_shortDay_53 : decode cX9_shortDay 53 = .ok (.goto (-33), 3) := by decide +kernel
theorem dX9_shortDay_56 : decode cX9_shortDay 56 = .ok (.iconst (-1), 1) := by decide +kernel
theorem dX9_shortDay_57 : decode cX9_shortDay 57 = .ok (.ireturn, 1) := by decide +kernel
theorem dX9_tryDays_0 : decode cX9_tryDays 0 = .ok (.aload_n 0, 1) := by decide +kernel
theorem dX9_tryDays_1 : decode cX9_tryDays 1 = .ok (.getfield 39, 3) := by decide +kernel
theorem dX9_tryDays_4 : decode cX9_tryDays 4 = .ok (.aload_n 0, 1) := by decide +kernel
theorem dX9_tryDays_5 : decode cX9_tryDays 5 = .ok (.getfield 35, 3) := by decide +kernel
theorem dX9_tryDays_8 : decode cX9_tryDays 8 = .ok (.invokevirtual 223, 3) := by decide +kernel
theorem dX9_tryDays_11 : decode cX9_tryDays 11 = .ok (.aload_n 0, 1) := by decide +kernel
theorem dX9_tryDays_12 : decode cX9_tryDays 12 = .ok (.getfield 39, 3) := by decide +kernel
theorem dX9_tryDays_15 : decode cX9_tryDays 15 = .ok (.iload_n 1, 1) := by decide +kernel
theorem dX9_tryDays_16 : decode cX9_tryDays 16 = .ok (.invokevirtual 247, 3) := by decide +kernel
theorem dX9_tryDays_19 : decode cX9_tryDays 19 = .ok (.return_, 1) := by decide +kernel

theorem lg_lt {x y : Int64} : lg_cmp x y < 0 ↔ x < y := by
  unfold lg_cmp
  simp only [gt_iff_lt, Int64.lt_iff_toInt_lt, ← Int64.toInt_inj]
  repeat' split
  all_goals first | (constructor <;> intro h <;> first | (exact absurd h (by decide)) | omega | decide) | skip
theorem lg_gt {x y : Int64} : 0 < lg_cmp x y ↔ y < x := by
  unfold lg_cmp
  simp only [gt_iff_lt, Int64.lt_iff_toInt_lt, ← Int64.toInt_inj]
  repeat' split
  all_goals first | (constructor <;> intro h <;> first | (exact absurd h (by decide)) | omega | decide) | skip
/-- the row of a fresh account -/
def Zs (f : Nat → Int32) : Prop := f 1 = 365 ∧ ∀ j, j < 326 → j ≠ 1 → f j = 0
/-- the same, on any day -/
def Zd (f : Nat → Int32) : Prop := f 1 = 365 ∧ ∀ j, j < 326 → j ≠ 1 → j ≠ 4 → f j = 0
def Nul (i : Nat) (f : Nat → Int32) : Prop := ∀ j, j < i → f j = 0
theorem Zs.d {f : Nat → Int32} (h : Zs f) : Zd f := ⟨h.1, fun j h1 h2 _ => h.2 j h1 h2⟩
theorem Zd.day {f : Nat → Int32} (h : Zd f) (y : Int32) : Zd (upd f 4 y) := ⟨(pk_un (by decide)).trans h.1, fun j h1 h2 h3 => (pk_un h3).trans (h.2 j h1 h2 h3)⟩
theorem Zd.zero {f : Nat → Int32} (h : Zd f) (k : Nat) (hk : 1 ≠ k) : Zd (upd f k 0) := ⟨(pk_un hk).trans h.1, fun j h1 h2 h3 => by
  by_cases e : j = k
  · subst e; exact pk_us
  · exact (pk_un e).trans (h.2 j h1 h2 h3)⟩
theorem Nul.step {i : Nat} {f : Nat → Int32} (hi : i < 326) (h : Nul i f) : Nul (i + 1) (upd f (nI i).toNatClampNeg 0) := by
  rw [nI_clamp (by omega)]
  intro j hj
  by_cases e : j = i
  · subst e; exact pk_us
  · exact (pk_un e).trans (h j (by omega))
theorem Nul.zs {f : Nat → Int32} (h : Nul 326 f) : Zs (upd f 1 365) := ⟨pk_us, fun j h1 h2 => (pk_un h2).trans (h j h1)⟩
set_option maxRecDepth 20000 in
theorem ggX10_isMilestone_X10_between : GoodIn wsX10_isMilestone wsX10_between := goodIn_r _ [5] rfl (by decide +kernel)
set_option maxRecDepth 20000 in
theorem gX10_isMilestone_X10_between : GoodIn wsX10_isMilestone (va_wsS RX10 152 yX10_between wsX10_between) := goodIn_app (goodIn_r _ [2, 3, 4] rfl (by decide +kernel)) ggX10_isMilestone_X10_between
set_option maxRecDepth 20000 in
theorem ggX10_becomeDue_X10_doneSet : GoodIn wsX10_becomeDue wsX10_doneSet := goodIn_r _ [6, 1, 7, 8, 9, 5, 10, 27, 28, 29, 30, 31, 32, 33, 34, 35, 36, 37, 38, 39, 40, 41, 42, 43, 44, 45, 46, 47, 48, 49, 50, 51, 52, 53, 54, 55, 56, 57, 58, 59, 60, 61, 62, 63, 64, 65] rfl (by decide +kernel)
set_option maxRecDepth 20000 in
theorem gX10_becomeDue_X10_doneSet : GoodIn wsX10_becomeDue (wsV RX10 284 RX10 yX10_doneSet wsX10_doneSet) := goodIn_app (goodIn_r _ [2, 3, 4, 5] rfl (by decide +kernel)) ggX10_becomeDue_X10_doneSet
set_option maxRecDepth 20000 in
theorem ggX10_payDue_X10_dueWith : GoodIn wsX10_payDue wsX10_dueWith := goodIn_r _ [10, 11, 12, 13, 14, 9, 15, 16, 17, 18, 19, 56, 57, 58, 59, 60, 61, 62, 63, 64, 65, 66, 67, 68, 69, 70, 71, 72, 73, 74, 75, 76, 77, 78, 79, 80, 81, 82, 83, 84, 85, 86, 87, 88, 89, 90, 91, 92, 93, 94] rfl (by decide +kernel)
set_option maxRecDepth 20000 in
theorem gX10_payDue_X10_dueWith : GoodIn wsX10_payDue (wsV RX10 295 RX10 yX10_dueWith wsX10_dueWith) := goodIn_app (goodIn_r _ [6, 7, 8, 9] rfl (by decide +kernel)) ggX10_payDue_X10_dueWith
set_option maxRecDepth 20000 in
theorem ggX10_available_X10_availableNow : GoodIn wsX10_available wsX10_availableNow := goodIn_r _ [6, 7, 8, 9, 10, 5, 11, 12, 13, 14, 15, 16, 17, 18, 19, 20, 21, 22, 23, 24, 25, 26, 27, 28, 29, 30, 31, 32, 33, 34, 35, 36, 37, 38, 39, 40, 41, 42, 43, 44, 45, 46, 47, 48, 49, 50] rfl (by decide +kernel)
set_option maxRecDepth 20000 in
theorem gX10_available_X10_availableNow : GoodIn wsX10_available (wsV RX10 298 RX10 yX10_availableNow wsX10_availableNow) := goodIn_app (goodIn_r _ [2, 3, 4, 5] rfl (by decide +kernel)) ggX10_available_X10_availableNow
set_option maxRecDepth 20000 in
theorem ggX10_state_X10_isMilestone : GoodIn wsX10_state wsX10_isMilestone := goodIn_r _ [5, 6, 7, 8, 4, 9, 19, 20, 21, 22, 23, 24, 25, 26, 27, 28, 29, 30, 31, 32, 33, 34, 35, 36, 37, 38, 39, 40, 41, 42, 43, 44, 45, 46, 47, 48, 49, 50, 51, 52, 53, 54, 55, 56, 57] rfl (by decide +kernel)
set_option maxRecDepth 20000 in
theorem gX10_state_X10_isMilestone : GoodIn wsX10_state (wsV RX10 330 RX10 yX10_isMilestone wsX10_isMilestone) := goodIn_app (goodIn_r _ [1, 2, 3, 4] rfl (by decide +kernel)) ggX10_state_X10_isMilestone
set_option maxRecDepth 20000 in
theorem ggX10_state_X10_good : GoodIn wsX10_state wsX10_good := goodIn_r _ [13, 14, 19, 20, 21, 22, 23, 24, 25, 26, 27, 28, 29, 30, 31, 32, 33, 34, 35, 36, 37, 38, 39, 40, 41, 42, 43, 44, 45, 46, 47, 48, 49, 50, 51, 52, 53, 54, 55, 56, 57] rfl (by decide +kernel)
set_option maxRecDepth 20000 in
theorem gX10_state_X10_good : GoodIn wsX10_state (wsV RX10 333 RX10 yX10_good wsX10_good) := goodIn_app (goodIn_r _ [10, 11, 12, 4] rfl (by decide +kernel)) ggX10_state_X10_good
set_option maxRecDepth 20000 in
theorem ggX10_paid_X10_isMilestone : GoodIn wsX10_paid wsX10_isMilestone := goodIn_r _ [5, 6, 7, 8, 4, 9, 19, 20, 21, 22, 23, 24, 25, 26, 27, 28, 29, 30, 31, 32, 33, 34, 35, 36, 37, 38, 39, 40, 41, 42, 43, 44, 45, 46, 47, 48, 49, 50, 51, 52, 53, 54, 55, 56, 57] rfl (by decide +kernel)
set_option maxRecDepth 20000 in
theorem gX10_paid_X10_isMilestone : GoodIn wsX10_paid (wsV RX10 330 RX10 yX10_isMilestone wsX10_isMilestone) := goodIn_app (goodIn_r _ [1, 2, 3, 4] rfl (by decide +kernel)) ggX10_paid_X10_isMilestone
set_option maxRecDepth 20000 in
theorem ggX10_paid_X10_good : GoodIn wsX10_paid wsX10_good := goodIn_r _ [13, 14, 19, 20, 21, 22, 23, 24, 25, 26, 27, 28, 29, 30, 31, 32, 33, 34, 35, 36, 37, 38, 39, 40, 41, 42, 43, 44, 45, 46, 47, 48, 49, 50, 51, 52, 53, 54, 55, 56, 57] rfl (by decide +kernel)
set_option maxRecDepth 20000 in
theorem gX10_paid_X10_good : GoodIn wsX10_paid (wsV RX10 333 RX10 yX10_good wsX10_good) := goodIn_app (goodIn_r _ [10, 11, 12, 4] rfl (by decide +kernel)) ggX10_paid_X10_good
set_option maxRecDepth 20000 in
theorem ggX10_remaining_X10_isMilestone : GoodIn wsX10_remaining wsX10_isMilestone := goodIn_r _ [5, 6, 7, 8, 4, 9, 27, 28, 29, 30, 31, 32, 33, 34, 35, 36, 37, 38, 39, 40, 41, 42, 43, 44, 45, 46, 47, 48, 49, 50, 51, 52, 53, 54, 55, 56, 57, 58, 59, 60, 61, 62, 63, 64, 65] rfl (by decide +kernel)
set_option maxRecDepth 20000 in
theorem gX10_remaining_X10_isMilestone : GoodIn wsX10_remaining (wsV RX10 330 RX10 yX10_isMilestone wsX10_isMilestone) := goodIn_app (goodIn_r _ [1, 2, 3, 4] rfl (by decide +kernel)) ggX10_remaining_X10_isMilestone
set_option maxRecDepth 20000 in
theorem ggX10_remaining_X10_good : GoodIn wsX10_remaining wsX10_good := goodIn_r _ [13, 14, 27, 28, 29, 30, 31, 32, 33, 34, 35, 36, 37, 38, 39, 40, 41, 42, 43, 44, 45, 46, 47, 48, 49, 50, 51, 52, 53, 54, 55, 56, 57, 58, 59, 60, 61, 62, 63, 64, 65] rfl (by decide +kernel)
set_option maxRecDepth 20000 in
theorem gX10_remaining_X10_good : GoodIn wsX10_remaining (wsV RX10 333 RX10 yX10_good wsX10_good) := goodIn_app (goodIn_r _ [10, 11, 12, 4] rfl (by decide +kernel)) ggX10_remaining_X10_good
set_option maxRecDepth 20000 in
theorem ggX10_frozen_X10_isMilestone : GoodIn wsX10_frozen wsX10_isMilestone := goodIn_r _ [5, 6, 7, 8, 4, 9, 19, 20, 21, 22, 23, 24, 25, 26, 27, 28, 29, 30, 31, 32, 33, 34, 35, 36, 37, 38, 39, 40, 41, 42, 43, 44, 45, 46, 47, 48, 49, 50, 51, 52, 53, 54, 55, 56, 57] rfl (by decide +kernel)
set_option maxRecDepth 20000 in
theorem gX10_frozen_X10_isMilestone : GoodIn wsX10_frozen (wsV RX10 330 RX10 yX10_isMilestone wsX10_isMilestone) := goodIn_app (goodIn_r _ [1, 2, 3, 4] rfl (by decide +kernel)) ggX10_frozen_X10_isMilestone
set_option maxRecDepth 20000 in
theorem ggX10_frozen_X10_good : GoodIn wsX10_frozen wsX10_good := goodIn_r _ [13, 14, 19, 20, 21, 22, 23, 24, 25, 26, 27, 28, 29, 30, 31, 32, 33, 34, 35, 36, 37, 38, 39, 40, 41, 42, 43, 44, 45, 46, 47, 48, 49, 50, 51, 52, 53, 54, 55, 56, 57] rfl (by decide +kernel)
set_option maxRecDepth 20000 in
theorem gX10_frozen_X10_good : GoodIn wsX10_frozen (wsV RX10 333 RX10 yX10_good wsX10_good) := goodIn_app (goodIn_r _ [10, 11, 12, 4] rfl (by decide +kernel)) ggX10_frozen_X10_good
set_option maxRecDepth 20000 in
theorem ggX10_dueDay_X10_isMilestone : GoodIn wsX10_dueDay wsX10_isMilestone := goodIn_r _ [5, 6, 7, 8, 4, 9, 19, 20, 21, 22, 23, 24, 25, 26, 27, 28, 29, 30, 31, 32, 33, 34, 35, 36, 37, 38, 39, 40, 41, 42, 43, 44, 45, 46, 47, 48, 49, 50, 51, 52, 53, 54, 55, 56, 57] rfl (by decide +kernel)
set_option maxRecDepth 20000 in
theorem gX10_dueDay_X10_isMilestone : GoodIn wsX10_dueDay (wsV RX10 330 RX10 yX10_isMilestone wsX10_isMilestone) := goodIn_app (goodIn_r _ [1, 2, 3, 4] rfl (by decide +kernel)) ggX10_dueDay_X10_isMilestone
set_option maxRecDepth 20000 in
theorem ggX10_dueDay_X10_good : GoodIn wsX10_dueDay wsX10_good := goodIn_r _ [13, 14, 19, 20, 21, 22, 23, 24, 25, 26, 27, 28, 29, 30, 31, 32, 33, 34, 35, 36, 37, 38, 39, 40, 41, 42, 43, 44, 45, 46, 47, 48, 49, 50, 51, 52, 53, 54, 55, 56, 57] rfl (by decide +kernel)
set_option maxRecDepth 20000 in
theorem gX10_dueDay_X10_good : GoodIn wsX10_dueDay (wsV RX10 333 RX10 yX10_good wsX10_good) := goodIn_app (goodIn_r _ [10, 11, 12, 4] rfl (by decide +kernel)) ggX10_dueDay_X10_good
set_option maxRecDepth 20000 in
theorem ggX10_holds_X10_isMilestone : GoodIn wsX10_holds wsX10_isMilestone := goodIn_r _ [5, 6, 7, 8, 4, 9, 39, 40, 41, 42, 43, 44, 45, 46, 47, 48, 49, 50, 51, 52, 53, 54, 55, 56, 57, 58, 59, 60, 61, 62, 63, 64, 65, 66, 67, 68, 69, 70, 71, 72, 73, 74, 75, 76, 77] rfl (by decide +kernel)
set_option maxRecDepth 20000 in
theorem gX10_holds_X10_isMilestone : GoodIn wsX10_holds (wsV RX10 330 RX10 yX10_isMilestone wsX10_isMilestone) := goodIn_app (goodIn_r _ [1, 2, 3, 4] rfl (by decide +kernel)) ggX10_holds_X10_isMilestone
set_option maxRecDepth 20000 in
theorem ggX10_holds_X10_good : GoodIn wsX10_holds wsX10_good := goodIn_r _ [13, 14, 39, 40, 41, 42, 43, 44, 45, 46, 47, 48, 49, 50, 51, 52, 53, 54, 55, 56, 57, 58, 59, 60, 61, 62, 63, 64, 65, 66, 67, 68, 69, 70, 71, 72, 73, 74, 75, 76, 77] rfl (by decide +kernel)
set_option maxRecDepth 20000 in
theorem gX10_holds_X10_good : GoodIn wsX10_holds (wsV RX10 333 RX10 yX10_good wsX10_good) := goodIn_app (goodIn_r _ [10, 11, 12, 4] rfl (by decide +kernel)) ggX10_holds_X10_good
set_option maxRecDepth 20000 in
theorem ggX10_dayByClock_X10_isMilestone : GoodIn wsX10_dayByClock wsX10_isMilestone := goodIn_r _ [6, 1, 7, 8, 5, 9, 35, 36, 37, 38, 39, 40, 41, 42, 43, 44, 45, 46, 47, 48, 49, 50, 51, 52, 53, 54, 55, 56, 57, 58, 59, 60, 61, 62, 63, 64, 65, 66, 67, 68, 69, 70, 71, 72, 73] rfl (by decide +kernel)
set_option maxRecDepth 20000 in
theorem gX10_dayByClock_X10_isMilestone : GoodIn wsX10_dayByClock (wsV RX10 330 RX10 yX10_isMilestone wsX10_isMilestone) := goodIn_app (goodIn_r _ [2, 3, 4, 5] rfl (by decide +kernel)) ggX10_dayByClock_X10_isMilestone
set_option maxRecDepth 20000 in
theorem ggX10_dayByClock_X10_good : GoodIn wsX10_dayByClock wsX10_good := goodIn_r _ [13, 14, 35, 36, 37, 38, 39, 40, 41, 42, 43, 44, 45, 46, 47, 48, 49, 50, 51, 52, 53, 54, 55, 56, 57, 58, 59, 60, 61, 62, 63, 64, 65, 66, 67, 68, 69, 70, 71, 72, 73] rfl (by decide +kernel)
set_option maxRecDepth 20000 in
theorem gX10_dayByClock_X10_good : GoodIn wsX10_dayByClock (wsV RX10 333 RX10 yX10_good wsX10_good) := goodIn_app (goodIn_r _ [10, 11, 12, 5] rfl (by decide +kernel)) ggX10_dayByClock_X10_good
set_option maxRecDepth 20000 in
theorem ggX10_missingProofs_X10_isMilestone : GoodIn wsX10_missingProofs wsX10_isMilestone := goodIn_r _ [6, 1, 7, 8, 5, 9, 38, 39, 40, 41, 42, 43, 44, 45, 46, 47, 48, 49, 50, 51, 52, 53, 54, 55, 56, 57, 58, 59, 60, 61, 62, 63, 64, 65, 66, 67, 68, 69, 70, 71, 72, 73, 74, 75, 76] rfl (by decide +kernel)
set_option maxRecDepth 20000 in
theorem gX10_missingProofs_X10_isMilestone : GoodIn wsX10_missingProofs (wsV RX10 330 RX10 yX10_isMilestone wsX10_isMilestone) := goodIn_app (goodIn_r _ [2, 3, 4, 5] rfl (by decide +kernel)) ggX10_missingProofs_X10_isMilestone
set_option maxRecDepth 20000 in
theorem ggX10_missingProofs_X10_good : GoodIn wsX10_missingProofs wsX10_good := goodIn_r _ [13, 14, 38, 39, 40, 41, 42, 43, 44, 45, 46, 47, 48, 49, 50, 51, 52, 53, 54, 55, 56, 57, 58, 59, 60, 61, 62, 63, 64, 65, 66, 67, 68, 69, 70, 71, 72, 73, 74, 75, 76] rfl (by decide +kernel)
set_option maxRecDepth 20000 in
theorem gX10_missingProofs_X10_good : GoodIn wsX10_missingProofs (wsV RX10 333 RX10 yX10_good wsX10_good) := goodIn_app (goodIn_r _ [10, 11, 12, 5] rfl (by decide +kernel)) ggX10_missingProofs_X10_good
set_option maxRecDepth 20000 in
theorem ggX10_graceLeft_X10_isMilestone : GoodIn wsX10_graceLeft wsX10_isMilestone := goodIn_r _ [10, 1, 11, 12, 9, 13, 23, 24, 25, 26, 27, 28, 29, 30, 31, 32, 33, 34, 35, 36, 37, 38, 39, 40, 41, 42, 43, 44, 45, 46, 47, 48, 49, 50, 51, 52, 53, 54, 55, 56, 57, 58, 59, 60, 61] rfl (by decide +kernel)
set_option maxRecDepth 20000 in
theorem gX10_graceLeft_X10_isMilestone : GoodIn wsX10_graceLeft (wsV RX10 330 RX10 yX10_isMilestone wsX10_isMilestone) := goodIn_app (goodIn_r _ [6, 7, 8, 9] rfl (by decide +kernel)) ggX10_graceLeft_X10_isMilestone
set_option maxRecDepth 20000 in
theorem ggX10_graceLeft_X10_good : GoodIn wsX10_graceLeft wsX10_good := goodIn_r _ [17, 18, 23, 24, 25, 26, 27, 28, 29, 30, 31, 32, 33, 34, 35, 36, 37, 38, 39, 40, 41, 42, 43, 44, 45, 46, 47, 48, 49, 50, 51, 52, 53, 54, 55, 56, 57, 58, 59, 60, 61] rfl (by decide +kernel)
set_option maxRecDepth 20000 in
theorem gX10_graceLeft_X10_good : GoodIn wsX10_graceLeft (wsV RX10 333 RX10 yX10_good wsX10_good) := goodIn_app (goodIn_r _ [14, 15, 16, 9] rfl (by decide +kernel)) ggX10_graceLeft_X10_good
set_option maxRecDepth 20000 in
theorem ggX10_isProof_X10_between : GoodIn wsX10_isProof wsX10_between := goodIn_r _ [5] rfl (by decide +kernel)
set_option maxRecDepth 20000 in
theorem gX10_isProof_X10_between : GoodIn wsX10_isProof (va_wsS RX10 152 yX10_between wsX10_between) := goodIn_app (goodIn_r _ [2, 3, 4] rfl (by decide +kernel)) ggX10_isProof_X10_between
set_option maxRecDepth 20000 in
theorem ggX10_isSubmitted_X10_isProof : GoodIn wsX10_isSubmitted wsX10_isProof := goodIn_r _ [6, 1, 7, 8, 5, 9, 15, 16, 17, 18, 19, 20, 21, 22, 23, 24, 25, 26, 27, 28, 29, 30, 31, 32, 33, 34, 35, 36, 37, 38, 39, 40, 41, 42, 43, 44, 45, 46, 47, 48, 49, 50, 51, 52, 53] rfl (by decide +kernel)
set_option maxRecDepth 20000 in
theorem gX10_isSubmitted_X10_isProof : GoodIn wsX10_isSubmitted (wsV RX10 348 RX10 yX10_isProof wsX10_isProof) := goodIn_app (goodIn_r _ [2, 3, 4, 5] rfl (by decide +kernel)) ggX10_isSubmitted_X10_isProof
set_option maxRecDepth 20000 in
theorem ggX10_isSubmitted_X10_good : GoodIn wsX10_isSubmitted wsX10_good := goodIn_r _ [13, 14, 15, 16, 17, 18, 19, 20, 21, 22, 23, 24, 25, 26, 27, 28, 29, 30, 31, 32, 33, 34, 35, 36, 37, 38, 39, 40, 41, 42, 43, 44, 45, 46, 47, 48, 49, 50, 51, 52, 53] rfl (by decide +kernel)
set_option maxRecDepth 20000 in
theorem gX10_isSubmitted_X10_good : GoodIn wsX10_isSubmitted (wsV RX10 333 RX10 yX10_good wsX10_good) := goodIn_app (goodIn_r _ [10, 11, 12, 5] rfl (by decide +kernel)) ggX10_isSubmitted_X10_good
set_option maxRecDepth 20000 in
theorem ggX10_proofCharacter_X10_isProof : GoodIn wsX10_proofCharacter wsX10_isProof := goodIn_r _ [7, 8, 9, 10, 6, 11, 19, 20, 21, 22, 23, 24, 25, 26, 27, 28, 29, 30, 31, 32, 33, 34, 35, 36, 37, 38, 39, 40, 41, 42, 43, 44, 45, 46, 47, 48, 49, 50, 51, 52, 53, 54, 55, 56, 57] rfl (by decide +kernel)
set_option maxRecDepth 20000 in
theorem gX10_proofCharacter_X10_isProof : GoodIn wsX10_proofCharacter (wsV RX10 348 RX10 yX10_isProof wsX10_isProof) := goodIn_app (goodIn_r _ [3, 4, 5, 6] rfl (by decide +kernel)) ggX10_proofCharacter_X10_isProof
set_option maxRecDepth 20000 in
theorem ggX10_wouldHold_X10_between : GoodIn wsX10_wouldHold wsX10_between := goodIn_r _ [5] rfl (by decide +kernel)
set_option maxRecDepth 20000 in
theorem gX10_wouldHold_X10_between : GoodIn wsX10_wouldHold (va_wsS RX10 152 yX10_between wsX10_between) := goodIn_app (goodIn_r _ [2, 3, 4] rfl (by decide +kernel)) ggX10_wouldHold_X10_between
set_option maxRecDepth 20000 in
theorem ggX10_wouldHold_X10_isMilestone : GoodIn wsX10_wouldHold wsX10_isMilestone := goodIn_r _ [9, 1, 2, 3, 4, 5, 35, 36, 37, 38, 39, 40, 41, 42, 43, 44, 45, 46, 47, 48, 49, 50, 51, 52, 53, 54, 55, 56, 57, 58, 59, 60, 61, 62, 63, 64, 65, 66, 67, 68, 69, 70, 71, 72, 73] rfl (by decide +kernel)
set_option maxRecDepth 20000 in
theorem gX10_wouldHold_X10_isMilestone : GoodIn wsX10_wouldHold (wsV RX10 330 RX10 yX10_isMilestone wsX10_isMilestone) := goodIn_app (goodIn_r _ [6, 7, 8, 4] rfl (by decide +kernel)) ggX10_wouldHold_X10_isMilestone
set_option maxRecDepth 20000 in
theorem ggX10_wouldHold_X10_good_ : GoodIn wsX10_wouldHold wsX10_good_ := goodIn_r _ [13, 14, 35, 36, 37, 38, 39, 40, 41, 42, 43, 44, 45, 46, 47, 48, 49, 50, 51, 52, 53, 54, 55, 56, 57, 58, 59, 60, 61, 62, 63, 64, 65, 66, 67, 68, 69, 70, 71, 72, 73] rfl (by decide +kernel)
set_option maxRecDepth 20000 in
theorem gX10_wouldHold_X10_good_ : GoodIn wsX10_wouldHold (wsV RX10 358 RX10 yX10_good_ wsX10_good_) := goodIn_app (goodIn_r _ [10, 11, 12, 4] rfl (by decide +kernel)) ggX10_wouldHold_X10_good_
set_option maxRecDepth 20000 in
theorem ggX10_dueAt_X10_dueWith : GoodIn wsX10_dueAt wsX10_dueWith := goodIn_r _ [5, 6, 7, 8, 9, 4, 10, 11, 12, 13, 14, 20, 21, 22, 23, 24, 25, 26, 27, 28, 29, 30, 31, 32, 33, 34, 35, 36, 37, 38, 39, 40, 41, 42, 43, 44, 45, 46, 47, 48, 49, 50, 51, 52, 53, 54, 55, 56, 57, 58] rfl (by decide +kernel)
set_option maxRecDepth 20000 in
theorem gX10_dueAt_X10_dueWith : GoodIn wsX10_dueAt (wsV RX10 295 RX10 yX10_dueWith wsX10_dueWith) := goodIn_app (goodIn_r _ [1, 2, 3, 4] rfl (by decide +kernel)) ggX10_dueAt_X10_dueWith
set_option maxRecDepth 20000 in
theorem ggX10_dueAt_X10_good : GoodIn wsX10_dueAt wsX10_good := goodIn_r _ [18, 19, 20, 21, 22, 23, 24, 25, 26, 27, 28, 29, 30, 31, 32, 33, 34, 35, 36, 37, 38, 39, 40, 41, 42, 43, 44, 45, 46, 47, 48, 49, 50, 51, 52, 53, 54, 55, 56, 57, 58] rfl (by decide +kernel)
set_option maxRecDepth 20000 in
theorem gX10_dueAt_X10_good : GoodIn wsX10_dueAt (wsV RX10 333 RX10 yX10_good wsX10_good) := goodIn_app (goodIn_r _ [15, 16, 17, 4] rfl (by decide +kernel)) ggX10_dueAt_X10_good
set_option maxRecDepth 20000 in
theorem ggX10_nextDue_X10_dueWith : GoodIn wsX10_nextDue wsX10_dueWith := goodIn_r _ [6, 7, 8, 9, 10, 5, 11, 12, 13, 14, 15, 16, 17, 18, 19, 20, 21, 22, 23, 24, 25, 26, 27, 28, 29, 30, 31, 32, 33, 34, 35, 36, 37, 38, 39, 40, 41, 42, 43, 44, 45, 46, 47, 48, 49, 50, 51, 52, 53, 54] rfl (by decide +kernel)
set_option maxRecDepth 20000 in
theorem gX10_nextDue_X10_dueWith : GoodIn wsX10_nextDue (wsV RX10 295 RX10 yX10_dueWith wsX10_dueWith) := goodIn_app (goodIn_r _ [2, 3, 4, 5] rfl (by decide +kernel)) ggX10_nextDue_X10_dueWith
set_option maxRecDepth 20000 in
theorem ggX10_isTrial_X10_between : GoodIn wsX10_isTrial wsX10_between := goodIn_r _ [5] rfl (by decide +kernel)
set_option maxRecDepth 20000 in
theorem gX10_isTrial_X10_between : GoodIn wsX10_isTrial (va_wsS RX10 152 yX10_between wsX10_between) := goodIn_app (goodIn_r _ [2, 3, 4] rfl (by decide +kernel)) ggX10_isTrial_X10_between
set_option maxRecDepth 20000 in
theorem ggX10_paidAfter_X10_isMilestone : GoodIn wsX10_paidAfter wsX10_isMilestone := goodIn_r _ [5, 6, 7, 8, 4, 9, 122, 123, 124, 125, 126, 127, 128, 129, 130, 131, 132, 133, 134, 135, 136, 137, 138, 139, 140, 141, 142, 143, 144, 145, 146, 147, 148, 149, 150, 151, 152, 153, 154, 155, 156, 157, 158, 159, 160] rfl (by decide +kernel)
set_option maxRecDepth 20000 in
theorem gX10_paidAfter_X10_isMilestone : GoodIn wsX10_paidAfter (wsV RX10 330 RX10 yX10_isMilestone wsX10_isMilestone) := goodIn_app (goodIn_r _ [1, 2, 3, 4] rfl (by decide +kernel)) ggX10_paidAfter_X10_isMilestone
set_option maxRecDepth 20000 in
theorem ggX10_paidAfter_X10_isTrial : GoodIn wsX10_paidAfter wsX10_isTrial := goodIn_r _ [12, 13, 7, 8, 4, 9] rfl (by decide +kernel)
set_option maxRecDepth 20000 in
theorem gX10_paidAfter_X10_isTrial : GoodIn wsX10_paidAfter (va_wsS RX10 363 yX10_isTrial wsX10_isTrial) := goodIn_app (goodIn_r _ [10, 11, 4] rfl (by decide +kernel)) ggX10_paidAfter_X10_isTrial
set_option maxRecDepth 20000 in
theorem ggX10_paidAfter_X10_good_ : GoodIn wsX10_paidAfter wsX10_good_ := goodIn_r _ [17, 18, 122, 123, 124, 125, 126, 127, 128, 129, 130, 131, 132, 133, 134, 135, 136, 137, 138, 139, 140, 141, 142, 143, 144, 145, 146, 147, 148, 149, 150, 151, 152, 153, 154, 155, 156, 157, 158, 159, 160] rfl (by decide +kernel)
set_option maxRecDepth 20000 in
theorem gX10_paidAfter_X10_good_ : GoodIn wsX10_paidAfter (wsV RX10 358 RX10 yX10_good_ wsX10_good_) := goodIn_app (goodIn_r _ [14, 15, 16, 4] rfl (by decide +kernel)) ggX10_paidAfter_X10_good_
set_option maxRecDepth 20000 in
theorem ggX10_daysUntilClosed_X10_isMilestone : GoodIn wsX10_daysUntilClosed wsX10_isMilestone := goodIn_r _ [5, 6, 7, 8, 4, 9, 114, 115, 116, 117, 118, 119, 120, 121, 122, 123, 124, 125, 126, 127, 128, 129, 130, 131, 132, 133, 134, 135, 136, 137, 138, 139, 140, 141, 142, 143, 144, 145, 146, 147, 148, 149, 150, 151, 152] rfl (by decide +kernel)
set_option maxRecDepth 20000 in
theorem gX10_daysUntilClosed_X10_isMilestone : GoodIn wsX10_daysUntilClosed (wsV RX10 330 RX10 yX10_isMilestone wsX10_isMilestone) := goodIn_app (goodIn_r _ [1, 2, 3, 4] rfl (by decide +kernel)) ggX10_daysUntilClosed_X10_isMilestone
set_option maxRecDepth 20000 in
theorem ggX10_daysUntilClosed_X10_good : GoodIn wsX10_daysUntilClosed wsX10_good := goodIn_r _ [13, 14, 114, 115, 116, 117, 118, 119, 120, 121, 122, 123, 124, 125, 126, 127, 128, 129, 130, 131, 132, 133, 134, 135, 136, 137, 138, 139, 140, 141, 142, 143, 144, 145, 146, 147, 148, 149, 150, 151, 152] rfl (by decide +kernel)
set_option maxRecDepth 20000 in
theorem gX10_daysUntilClosed_X10_good : GoodIn wsX10_daysUntilClosed (wsV RX10 333 RX10 yX10_good wsX10_good) := goodIn_app (goodIn_r _ [10, 11, 12, 4] rfl (by decide +kernel)) ggX10_daysUntilClosed_X10_good
set_option maxRecDepth 20000 in
theorem ggX10_canSplit_X10_isMilestone : GoodIn wsX10_canSplit wsX10_isMilestone := goodIn_r _ [6, 7, 8, 9, 5, 10, 19, 20, 21, 22, 23, 24, 25, 26, 27, 28, 29, 30, 31, 32, 33, 34, 35, 36, 37, 38, 39, 40, 41, 42, 43, 44, 45, 46, 47, 48, 49, 50, 51, 52, 53, 54, 55, 56, 57] rfl (by decide +kernel)
set_option maxRecDepth 20000 in
theorem gX10_canSplit_X10_isMilestone : GoodIn wsX10_canSplit (wsV RX10 330 RX10 yX10_isMilestone wsX10_isMilestone) := goodIn_app (goodIn_r _ [2, 3, 4, 5] rfl (by decide +kernel)) ggX10_canSplit_X10_isMilestone
set_option maxRecDepth 20000 in
theorem ggX10_canSplit_X10_good_ : GoodIn wsX10_canSplit wsX10_good_ := goodIn_r _ [14, 1, 19, 20, 21, 22, 23, 24, 25, 26, 27, 28, 29, 30, 31, 32, 33, 34, 35, 36, 37, 38, 39, 40, 41, 42, 43, 44, 45, 46, 47, 48, 49, 50, 51, 52, 53, 54, 55, 56, 57] rfl (by decide +kernel)
set_option maxRecDepth 20000 in
theorem gX10_canSplit_X10_good_ : GoodIn wsX10_canSplit (wsV RX10 358 RX10 yX10_good_ wsX10_good_) := goodIn_app (goodIn_r _ [11, 12, 13, 5] rfl (by decide +kernel)) ggX10_canSplit_X10_good_
set_option maxRecDepth 20000 in
theorem ggX10_isShare_X10_between : GoodIn wsX10_isShare wsX10_between := goodIn_r _ [5] rfl (by decide +kernel)
set_option maxRecDepth 20000 in
theorem gX10_isShare_X10_between : GoodIn wsX10_isShare (va_wsS RX10 152 yX10_between wsX10_between) := goodIn_app (goodIn_r _ [2, 3, 4] rfl (by decide +kernel)) ggX10_isShare_X10_between
set_option maxRecDepth 20000 in
theorem ggX10_splitPayment_X10_isShare : GoodIn wsX10_splitPayment wsX10_isShare := goodIn_r _ [4, 5, 6, 7, 3, 8] rfl (by decide +kernel)
set_option maxRecDepth 20000 in
theorem gX10_splitPayment_X10_isShare : GoodIn wsX10_splitPayment (va_wsS RX10 378 yX10_isShare wsX10_isShare) := goodIn_app (goodIn_r _ [1, 2, 3] rfl (by decide +kernel)) ggX10_splitPayment_X10_isShare
set_option maxRecDepth 20000 in
theorem ggX10_splitPayment_X10_canSplit : GoodIn wsX10_splitPayment wsX10_canSplit := goodIn_r _ [12, 13, 14, 15, 16, 3, 17, 18, 6, 7, 8, 19, 20, 21, 22, 23, 24, 25, 26, 51, 52, 53, 54, 55, 56, 57, 58, 59, 60, 61, 62, 63, 64, 65, 66, 67, 68, 69, 70, 71, 72, 73, 74, 75, 76, 77, 78, 79, 80, 81, 82, 83, 84, 85, 86, 87, 88, 89] rfl (by decide +kernel)
set_option maxRecDepth 20000 in
theorem gX10_splitPayment_X10_canSplit : GoodIn wsX10_splitPayment (wsV RX10 381 RX10 yX10_canSplit wsX10_canSplit) := goodIn_app (goodIn_r _ [9, 10, 11, 3] rfl (by decide +kernel)) ggX10_splitPayment_X10_canSplit
set_option maxRecDepth 20000 in
theorem ggX10_shareFor_X10_between : GoodIn wsX10_shareFor wsX10_between := goodIn_r _ [5] rfl (by decide +kernel)
set_option maxRecDepth 20000 in
theorem gX10_shareFor_X10_between : GoodIn wsX10_shareFor (va_wsS RX10 152 yX10_between wsX10_between) := goodIn_app (goodIn_r _ [2, 3, 4] rfl (by decide +kernel)) ggX10_shareFor_X10_between
set_option maxRecDepth 20000 in
theorem ggX10_shareFor_X10_canSplit : GoodIn wsX10_shareFor wsX10_canSplit := goodIn_r _ [9, 10, 11, 12, 13, 4, 14, 15, 2, 3, 5, 16, 17, 18, 19, 20, 21, 22, 23, 54, 55, 56, 57, 58, 59, 60, 61, 62, 63, 64, 65, 66, 67, 68, 69, 70, 71, 72, 73, 74, 75, 76, 77, 78, 79, 80, 81, 82, 83, 84, 85, 86, 87, 88, 89, 90, 91, 92] rfl (by decide +kernel)
set_option maxRecDepth 20000 in
theorem gX10_shareFor_X10_canSplit : GoodIn wsX10_shareFor (wsV RX10 381 RX10 yX10_canSplit wsX10_canSplit) := goodIn_app (goodIn_r _ [6, 7, 8, 4] rfl (by decide +kernel)) ggX10_shareFor_X10_canSplit
set_option maxRecDepth 20000 in
theorem ggX10_submit_X10_isProof : GoodIn wsX10_submit wsX10_isProof := goodIn_r _ [6, 1, 7, 8, 5, 9, 23, 24, 25, 26, 27, 28, 29, 30, 31, 32, 33, 34, 35, 36, 37, 38, 39, 40, 41, 42, 43, 44, 45, 46, 47, 48, 49, 50, 51, 52, 53, 54, 55, 56, 57, 58, 59, 60, 61] rfl (by decide +kernel)
set_option maxRecDepth 20000 in
theorem gX10_submit_X10_isProof : GoodIn wsX10_submit (wsV RX10 348 RX10 yX10_isProof wsX10_isProof) := goodIn_app (goodIn_r _ [2, 3, 4, 5] rfl (by decide +kernel)) ggX10_submit_X10_isProof
set_option maxRecDepth 20000 in
theorem ggX10_submit_X10_good : GoodIn wsX10_submit wsX10_good := goodIn_r _ [13, 14, 23, 24, 25, 26, 27, 28, 29, 30, 31, 32, 33, 34, 35, 36, 37, 38, 39, 40, 41, 42, 43, 44, 45, 46, 47, 48, 49, 50, 51, 52, 53, 54, 55, 56, 57, 58, 59, 60, 61] rfl (by decide +kernel)
set_option maxRecDepth 20000 in
theorem gX10_submit_X10_good : GoodIn wsX10_submit (wsV RX10 333 RX10 yX10_good wsX10_good) := goodIn_app (goodIn_r _ [10, 11, 12, 5] rfl (by decide +kernel)) ggX10_submit_X10_good
set_option maxRecDepth 20000 in
theorem ggX10_approve_X10_isMilestone : GoodIn wsX10_approve wsX10_isMilestone := goodIn_r _ [5, 6, 7, 8, 4, 9, 55, 56, 57, 58, 59, 60, 61, 62, 63, 64, 65, 66, 67, 68, 69, 70, 71, 72, 73, 74, 75, 76, 77, 78, 79, 80, 81, 82, 83, 84, 85, 86, 87, 88, 89, 90, 91, 92, 93] rfl (by decide +kernel)
set_option maxRecDepth 20000 in
theorem gX10_approve_X10_isMilestone : GoodIn wsX10_approve (wsV RX10 330 RX10 yX10_isMilestone wsX10_isMilestone) := goodIn_app (goodIn_r _ [1, 2, 3, 4] rfl (by decide +kernel)) ggX10_approve_X10_isMilestone
set_option maxRecDepth 20000 in
theorem ggX10_approve_X10_good_ : GoodIn wsX10_approve wsX10_good_ := goodIn_r _ [21, 22, 55, 56, 57, 58, 59, 60, 61, 62, 63, 64, 65, 66, 67, 68, 69, 70, 71, 72, 73, 74, 75, 76, 77, 78, 79, 80, 81, 82, 83, 84, 85, 86, 87, 88, 89, 90, 91, 92, 93] rfl (by decide +kernel)
set_option maxRecDepth 20000 in
theorem gX10_approve_X10_good_ : GoodIn wsX10_approve (wsV RX10 358 RX10 yX10_good_ wsX10_good_) := goodIn_app (goodIn_r _ [18, 19, 20, 4] rfl (by decide +kernel)) ggX10_approve_X10_good_
set_option maxRecDepth 20000 in
theorem ggX10_pay_X10_isMilestone : GoodIn wsX10_pay wsX10_isMilestone := goodIn_r _ [6, 7, 8, 9, 5, 10, 63, 64, 65, 66, 67, 68, 69, 70, 71, 72, 73, 74, 75, 76, 77, 78, 79, 80, 81, 82, 83, 84, 85, 86, 87, 88, 89, 90, 91, 92, 93, 94, 95, 96, 97, 98, 99, 100, 101] rfl (by decide +kernel)
set_option maxRecDepth 20000 in
theorem gX10_pay_X10_isMilestone : GoodIn wsX10_pay (wsV RX10 330 RX10 yX10_isMilestone wsX10_isMilestone) := goodIn_app (goodIn_r _ [2, 3, 4, 5] rfl (by decide +kernel)) ggX10_pay_X10_isMilestone
set_option maxRecDepth 20000 in
theorem ggX10_pay_X10_good_ : GoodIn wsX10_pay wsX10_good_ := goodIn_r _ [26, 1, 63, 64, 65, 66, 67, 68, 69, 70, 71, 72, 73, 74, 75, 76, 77, 78, 79, 80, 81, 82, 83, 84, 85, 86, 87, 88, 89, 90, 91, 92, 93, 94, 95, 96, 97, 98, 99, 100, 101] rfl (by decide +kernel)
set_option maxRecDepth 20000 in
theorem gX10_pay_X10_good_ : GoodIn wsX10_pay (wsV RX10 358 RX10 yX10_good_ wsX10_good_) := goodIn_app (goodIn_r _ [23, 24, 25, 5] rfl (by decide +kernel)) ggX10_pay_X10_good_
set_option maxRecDepth 20000 in
theorem ggX10_dispute_X10_isMilestone : GoodIn wsX10_dispute wsX10_isMilestone := goodIn_r _ [9, 10, 11, 12, 8, 13, 51, 52, 53, 54, 55, 56, 57, 58, 59, 60, 61, 62, 63, 64, 65, 66, 67, 68, 69, 70, 71, 72, 73, 74, 75, 76, 77, 78, 79, 80, 81, 82, 83, 84, 85, 86, 87, 88, 89] rfl (by decide +kernel)
set_option maxRecDepth 20000 in
theorem gX10_dispute_X10_isMilestone : GoodIn wsX10_dispute (wsV RX10 330 RX10 yX10_isMilestone wsX10_isMilestone) := goodIn_app (goodIn_r _ [5, 6, 7, 8] rfl (by decide +kernel)) ggX10_dispute_X10_isMilestone
set_option maxRecDepth 20000 in
theorem ggX10_dispute_X10_good_ : GoodIn wsX10_dispute wsX10_good_ := goodIn_r _ [25, 26, 51, 52, 53, 54, 55, 56, 57, 58, 59, 60, 61, 62, 63, 64, 65, 66, 67, 68, 69, 70, 71, 72, 73, 74, 75, 76, 77, 78, 79, 80, 81, 82, 83, 84, 85, 86, 87, 88, 89] rfl (by decide +kernel)
set_option maxRecDepth 20000 in
theorem gX10_dispute_X10_good_ : GoodIn wsX10_dispute (wsV RX10 358 RX10 yX10_good_ wsX10_good_) := goodIn_app (goodIn_r _ [22, 23, 24, 8] rfl (by decide +kernel)) ggX10_dispute_X10_good_
set_option maxRecDepth 20000 in
theorem ggX10_withdraw_X10_isMilestone : GoodIn wsX10_withdraw wsX10_isMilestone := goodIn_r _ [5, 6, 7, 8, 4, 9, 35, 36, 37, 38, 39, 40, 41, 42, 43, 44, 45, 46, 47, 48, 49, 50, 51, 52, 53, 54, 55, 56, 57, 58, 59, 60, 61, 62, 63, 64, 65, 66, 67, 68, 69, 70, 71, 72, 73] rfl (by decide +kernel)
set_option maxRecDepth 20000 in
theorem gX10_withdraw_X10_isMilestone : GoodIn wsX10_withdraw (wsV RX10 330 RX10 yX10_isMilestone wsX10_isMilestone) := goodIn_app (goodIn_r _ [1, 2, 3, 4] rfl (by decide +kernel)) ggX10_withdraw_X10_isMilestone
set_option maxRecDepth 20000 in
theorem ggX10_withdraw_X10_good_ : GoodIn wsX10_withdraw wsX10_good_ := goodIn_r _ [17, 18, 35, 36, 37, 38, 39, 40, 41, 42, 43, 44, 45, 46, 47, 48, 49, 50, 51, 52, 53, 54, 55, 56, 57, 58, 59, 60, 61, 62, 63, 64, 65, 66, 67, 68, 69, 70, 71, 72, 73] rfl (by decide +kernel)
set_option maxRecDepth 20000 in
theorem gX10_withdraw_X10_good_ : GoodIn wsX10_withdraw (wsV RX10 358 RX10 yX10_good_ wsX10_good_) := goodIn_app (goodIn_r _ [14, 15, 16, 4] rfl (by decide +kernel)) ggX10_withdraw_X10_good_
set_option maxRecDepth 20000 in
theorem ggX10_resolve_X10_isShare : GoodIn wsX10_resolve wsX10_isShare := goodIn_r _ [4, 5, 6, 7, 3, 8] rfl (by decide +kernel)
set_option maxRecDepth 20000 in
theorem gX10_resolve_X10_isShare : GoodIn wsX10_resolve (va_wsS RX10 378 yX10_isShare wsX10_isShare) := goodIn_app (goodIn_r _ [1, 2, 3] rfl (by decide +kernel)) ggX10_resolve_X10_isShare
set_option maxRecDepth 20000 in
theorem ggX10_resolve_X10_canSplit : GoodIn wsX10_resolve wsX10_canSplit := goodIn_r _ [12, 13, 14, 15, 16, 3, 17, 18, 6, 7, 8, 19, 20, 21, 22, 23, 24, 25, 26, 79, 80, 81, 82, 83, 84, 85, 86, 87, 88, 89, 90, 91, 92, 93, 94, 95, 96, 97, 98, 99, 100, 101, 102, 103, 104, 105, 106, 107, 108, 109, 110, 111, 112, 113, 114, 115, 116, 117] rfl (by decide +kernel)
set_option maxRecDepth 20000 in
theorem gX10_resolve_X10_canSplit : GoodIn wsX10_resolve (wsV RX10 381 RX10 yX10_canSplit wsX10_canSplit) := goodIn_app (goodIn_r _ [9, 10, 11, 3] rfl (by decide +kernel)) ggX10_resolve_X10_canSplit
set_option maxRecDepth 20000 in
theorem ggX10_cancel_X10_isMilestone : GoodIn wsX10_cancel wsX10_isMilestone := goodIn_r _ [5, 6, 7, 8, 4, 9, 43, 44, 45, 46, 47, 48, 49, 50, 51, 52, 53, 54, 55, 56, 57, 58, 59, 60, 61, 62, 63, 64, 65, 66, 67, 68, 69, 70, 71, 72, 73, 74, 75, 76, 77, 78, 79, 80, 81] rfl (by decide +kernel)
set_option maxRecDepth 20000 in
theorem gX10_cancel_X10_isMilestone : GoodIn wsX10_cancel (wsV RX10 330 RX10 yX10_isMilestone wsX10_isMilestone) := goodIn_app (goodIn_r _ [1, 2, 3, 4] rfl (by decide +kernel)) ggX10_cancel_X10_isMilestone
set_option maxRecDepth 20000 in
theorem ggX10_cancel_X10_good_ : GoodIn wsX10_cancel wsX10_good_ := goodIn_r _ [21, 22, 43, 44, 45, 46, 47, 48, 49, 50, 51, 52, 53, 54, 55, 56, 57, 58, 59, 60, 61, 62, 63, 64, 65, 66, 67, 68, 69, 70, 71, 72, 73, 74, 75, 76, 77, 78, 79, 80, 81] rfl (by decide +kernel)
set_option maxRecDepth 20000 in
theorem gX10_cancel_X10_good_ : GoodIn wsX10_cancel (wsV RX10 358 RX10 yX10_good_ wsX10_good_) := goodIn_app (goodIn_r _ [18, 19, 20, 4] rfl (by decide +kernel)) ggX10_cancel_X10_good_
set_option maxRecDepth 20000 in
theorem ggX10_payInterest_X10_between : GoodIn wsX10_payInterest wsX10_between := goodIn_r _ [5] rfl (by decide +kernel)
set_option maxRecDepth 20000 in
theorem gX10_payInterest_X10_between : GoodIn wsX10_payInterest (va_wsS RX10 152 yX10_between wsX10_between) := goodIn_app (goodIn_r _ [2, 3, 4] rfl (by decide +kernel)) ggX10_payInterest_X10_between
set_option maxRecDepth 20000 in
theorem ggX10_payInterest_X10_good : GoodIn wsX10_payInterest wsX10_good := goodIn_r _ [9, 10, 22, 23, 24, 25, 26, 27, 28, 29, 30, 31, 32, 33, 34, 35, 36, 37, 38, 39, 40, 41, 42, 43, 44, 45, 46, 47, 48, 49, 50, 51, 52, 53, 54, 55, 56, 57, 58, 59, 60] rfl (by decide +kernel)
set_option maxRecDepth 20000 in
theorem gX10_payInterest_X10_good : GoodIn wsX10_payInterest (wsV RX10 333 RX10 yX10_good wsX10_good) := goodIn_app (goodIn_r _ [6, 7, 8, 4] rfl (by decide +kernel)) ggX10_payInterest_X10_good
set_option maxRecDepth 20000 in
theorem ggX10_write_X10_isMilestone : GoodIn wsX10_write wsX10_isMilestone := goodIn_r _ [7, 8, 9, 10, 6, 11, 93, 94, 95, 96, 97, 98, 99, 100, 101, 102, 103, 104, 105, 106, 107, 108, 109, 110, 111, 112, 113, 114, 115, 116, 117, 118, 119, 120, 121, 122, 123, 124, 125, 126, 127, 128, 129, 130, 131] rfl (by decide +kernel)
set_option maxRecDepth 20000 in
theorem gX10_write_X10_isMilestone : GoodIn wsX10_write (wsV RX10 330 RX10 yX10_isMilestone wsX10_isMilestone) := goodIn_app (goodIn_r _ [3, 4, 5, 6] rfl (by decide +kernel)) ggX10_write_X10_isMilestone
set_option maxRecDepth 20000 in
theorem ggX10_write_X10_good : GoodIn wsX10_write wsX10_good := goodIn_r _ [15, 16, 93, 94, 95, 96, 97, 98, 99, 100, 101, 102, 103, 104, 105, 106, 107, 108, 109, 110, 111, 112, 113, 114, 115, 116, 117, 118, 119, 120, 121, 122, 123, 124, 125, 126, 127, 128, 129, 130, 131] rfl (by decide +kernel)
set_option maxRecDepth 20000 in
theorem gX10_write_X10_good : GoodIn wsX10_write (wsV RX10 333 RX10 yX10_good wsX10_good) := goodIn_app (goodIn_r _ [12, 13, 14, 6] rfl (by decide +kernel)) ggX10_write_X10_good
set_option maxRecDepth 20000 in
theorem ggX10_written_X10_between : GoodIn wsX10_written wsX10_between := goodIn_r _ [6] rfl (by decide +kernel)
set_option maxRecDepth 20000 in
theorem gX10_written_X10_between : GoodIn wsX10_written (va_wsS RX10 152 yX10_between wsX10_between) := goodIn_app (goodIn_r _ [3, 4, 5] rfl (by decide +kernel)) ggX10_written_X10_between
set_option maxRecDepth 20000 in
theorem ggX10_written_X10_good : GoodIn wsX10_written wsX10_good := goodIn_r _ [10, 11, 12, 13, 14, 15, 16, 17, 18, 19, 20, 21, 22, 23, 24, 25, 26, 27, 28, 29, 30, 31, 32, 33, 34, 35, 36, 37, 38, 39, 40, 41, 42, 43, 44, 45, 46, 47, 48, 49, 50] rfl (by decide +kernel)
set_option maxRecDepth 20000 in
theorem gX10_written_X10_good : GoodIn wsX10_written (wsV RX10 333 RX10 yX10_good wsX10_good) := goodIn_app (goodIn_r _ [7, 8, 9, 5] rfl (by decide +kernel)) ggX10_written_X10_good
set_option maxRecDepth 20000 in
theorem ggX10_entry_X10_between : GoodIn wsX10_entry wsX10_between := goodIn_r _ [6] rfl (by decide +kernel)
set_option maxRecDepth 20000 in
theorem gX10_entry_X10_between : GoodIn wsX10_entry (va_wsS RX10 152 yX10_between wsX10_between) := goodIn_app (goodIn_r _ [3, 4, 5] rfl (by decide +kernel)) ggX10_entry_X10_between
set_option maxRecDepth 20000 in
theorem ggX10_entry_X10_good_ : GoodIn wsX10_entry wsX10_good_ := goodIn_r _ [10, 11, 16, 17, 18, 19, 20, 21, 22, 23, 24, 25, 26, 27, 28, 29, 30, 31, 32, 33, 34, 35, 36, 37, 38, 39, 40, 41, 42, 43, 44, 45, 46, 47, 48, 49, 50, 51, 52, 53, 54] rfl (by decide +kernel)
set_option maxRecDepth 20000 in
theorem gX10_entry_X10_good_ : GoodIn wsX10_entry (wsV RX10 358 RX10 yX10_good_ wsX10_good_) := goodIn_app (goodIn_r _ [7, 8, 9, 5] rfl (by decide +kernel)) ggX10_entry_X10_good_
set_option maxRecDepth 20000 in
theorem ggX10_totalOn_X10_between : GoodIn wsX10_totalOn wsX10_between := goodIn_r _ [5] rfl (by decide +kernel)
set_option maxRecDepth 20000 in
theorem gX10_totalOn_X10_between : GoodIn wsX10_totalOn (va_wsS RX10 152 yX10_between wsX10_between) := goodIn_app (goodIn_r _ [2, 3, 4] rfl (by decide +kernel)) ggX10_totalOn_X10_between
set_option maxRecDepth 20000 in
theorem ggX10_totalOn_X10_good : GoodIn wsX10_totalOn wsX10_good := goodIn_r _ [9, 10, 20, 21, 22, 23, 24, 25, 26, 27, 28, 29, 30, 31, 32, 33, 34, 35, 36, 37, 38, 39, 40, 41, 42, 43, 44, 45, 46, 47, 48, 49, 50, 51, 52, 53, 54, 55, 56, 57, 58] rfl (by decide +kernel)
set_option maxRecDepth 20000 in
theorem gX10_totalOn_X10_good : GoodIn wsX10_totalOn (wsV RX10 333 RX10 yX10_good wsX10_good) := goodIn_app (goodIn_r _ [6, 7, 8, 4] rfl (by decide +kernel)) ggX10_totalOn_X10_good
set_option maxRecDepth 20000 in
theorem ggX10_totalOn_X10_sumOn : GoodIn wsX10_totalOn wsX10_sumOn := goodIn_r _ [14, 15, 16, 17, 18, 4, 19, 20, 21, 22, 23, 24, 25, 26, 27, 28, 29, 30, 31, 32, 33, 34, 35, 36, 37, 38, 39, 40, 41, 42, 43, 44, 45, 46, 47, 48, 49, 50, 51, 52, 53, 54, 55, 56, 57, 58] rfl (by decide +kernel)
set_option maxRecDepth 20000 in
theorem gX10_totalOn_X10_sumOn : GoodIn wsX10_totalOn (wsV RX10 453 RX10 yX10_sumOn wsX10_sumOn) := goodIn_app (goodIn_r _ [11, 12, 13, 4] rfl (by decide +kernel)) ggX10_totalOn_X10_sumOn
theorem dX10_accruedParts_0 : decode cX10_accruedParts 0 = .ok (.aload_n 0, 1) := by decide +kernel
theorem dX10_accruedParts_1 : decode cX10_accruedParts 1 = .ok (.iconst 0, 1) := by decide +kernel
theorem dX10_accruedParts_2 : decode cX10_accruedParts 2 = .ok (.putfield 80, 3) := by decide +kernel
theorem dX10_accruedParts_5 : decode cX10_accruedParts 5 = .ok (.aload_n 0, 1) := by decide +kernel
theorem dX10_accruedParts_6 : decode cX10_accruedParts 6 = .ok (.getfield 86, 3) := by decide +kernel
theorem dX10_accruedParts_9 : decode cX10_accruedParts 9 = .ok (.lreturn, 1) := by decide +kernel
theorem dX10_approve_0 : decode cX10_approve 0 = .ok (.aload_n 0, 1) := by decide +kernel
theorem dX10_approve_1 : decode cX10_approve 1 = .ok (.aload_n 0, 1) := by decide +kernel
theorem dX10_approve_2 : decode cX10_approve 2 = .ok (.iload_n 1, 1) := by decide +kernel
theorem dX10_approve_3 : decode cX10_approve 3 = .ok (.invokevirtual 330, 3) := by decide +kernel
theorem dX10_approve_6 : decode cX10_approve 6 = .ok (.aload_n 0, 1) := by decide +kernel
theorem dX10_approve_7 : decode cX10_approve 7 = .ok (.iload_n 1, 1) := by decide +kernel
theorem dX10_approve_8 : decode cX10_approve 8 = .ok (.invokevirtual 330, 3) := by decide +kernel
theorem dX10_approve_11 : decode cX10_approve 11 = .ok (.ifCond .eq 15, 3) := by decide +kernel
theorem dX10_approve_14 : decode cX10_approve 14 = .ok (.aload_n 0, 1) := by decide +kernel
theorem dX10_approve_15 : decode cX10_approve 15 = .ok (.iload_n 1, 1) := by decide +kernel
theorem dX10_approve_16 : decode cX10_approve 16 = .ok (.invokevirtual 265, 3) := by decide +kernel
theorem dX10_approve_19 : decode cX10_approve 19 = .ok (.ifCond .ne 7, 3) := by decide +kernel
theorem dX10_approve_22 : decode cX10_approve 22 = .ok (.iconst 1, 1) := by decide +kernel
theorem dX10_approve_23 : decode cX10_approve 23 = .ok (.goto 4, 3) := by decide +kernel
theorem dX10_approve_26 : decode cX10_approve 26 = .ok (.iconst 0, 1) := by decide +kernel
theorem dX10_approve_27 : decode cX10_approve 27 = .ok (.invokevirtual 358, 3) := by decide +kernel
theorem dX10_approve_30 : decode cX10_approve 30 = .ok (.ifCond .ne 5, 3) := by decide +kernel
theorem dX10_approve_33 : decode cX10_approve 33 = .ok (.iconst 0, 1) := by decide +kernel
theorem dX10_approve_34 : decode cX10_approve 34 = .ok (.ireturn, 1) := by decide +kernel
theorem dX10_approve_35 : decode cX10_approve 35 = .ok (.aload_n 0, 1) := by decide +kernel
theorem dX10_approve_36 : decode cX10_approve 36 = .ok (.invokevirtual 395, 3) := by decide +kernel
theorem dX10_approve_39 : decode cX10_approve 39 = .ok (.aload_n 0, 1) := by decide +kernel
theorem dX10_approve_40 : decode cX10_approve 40 = .ok (.iload_n 1, 1) := by decide +kernel
theorem dX10_approve_41 : decode cX10_approve 41 = .ok (.iconst 5, 1) := by decide +kernel
theorem dX10_approve_42 : decode cX10_approve 42 = .ok (.iconst 1, 1) := by decide +kernel
theorem dX10_approve_43 : decode cX10_approve 43 = .ok (.invokevirtual 273, 3) := by decide +kernel
theorem dX10_approve_46 : decode cX10_approve 46 = .ok (.aload_n 0, 1) := by decide +kernel
theorem dX10_approve_47 : decode cX10_approve 47 = .ok (.iload_n 1, 1) := by decide +kernel
theorem dX10_approve_48 : decode cX10_approve 48 = .ok (.invokevirtual 337, 3) := by decide +kernel
theorem dX10_approve_51 : decode cX10_approve 51 = .ok (.ireturn, 1) := by decide +kernel
theorem dX10_areAllClosed_0 : decode cX10_areAllClosed 0 = .ok (.iconst 1, 1) := by decide +kernel
theorem dX10_areAllClosed_1 : decode cX10_areAllClosed 1 = .ok (.istore_n 1, 1) := by decide +kernel
theorem dX10_areAllClosed_2 : decode cX10_areAllClosed 2 = .ok (.iconst 0, 1) := by decide +kernel
theorem dX10_areAllClosed_3 : decode cX10_areAllClosed 3 = .ok (.istore_n 2, 1) := by decide +kernel
theorem dX10_areAllClosed_4 : decode cX10_areAllClosed 4 = .ok (.iload_n 2, 1) := by decide +kernel
theorem dX10_areAllClosed_5 : decode cX10_areAllClosed 5 = .ok (.aload_n 0, 1) := by decide +kernel
theorem dX10_areAllClosed_6 : decode cX10_areAllClosed 6 = .ok (.getfield 7, 3) := by decide +kernel
theorem dX10_areAllClosed_9 : decode cX10_areAllClosed 9 = .ok (.bipush 13, 2) := by decide +kernel
theorem dX10_areAllClosed_11 : decode cX10_areAllClosed 11 = .ok (.iaload, 1) := by decide +kernel
theorem dX10_areAllClosed_12 : decode cX10_areAllClosed 12 = .ok (.if_icmp .ge 27, 3) := by decide +kernel
theorem dX10_areAllClosed_15 : decode cX10_areAllClosed 15 = .ok (.iload_n 1, 1) := by decide +kernel
theorem dX10_areAllClosed_16 : decode cX10_areAllClosed 16 = .ok (.ifCond .eq 15, 3) := by decide +kernel
theorem dX10_areAllClosed_19 : decode cX10_areAllClosed 19 = .ok (.aload_n 0, 1) := by decide +kernel
theorem dX10_areAllClosed_20 : decode cX10_areAllClosed 20 = .ok (.iload_n 2, 1) := by decide +kernel
theorem dX10_areAllClosed_21 : decode cX10_areAllClosed 21 = .ok (.invokevirtual 265, 3) := by decide +kernel
theorem dX10_areAllClosed_24 : decode cX10_areAllClosed 24 = .ok (.ifCond .eq 7, 3) := by decide +kernel
theorem dX10_areAllClosed_27 : decode cX10_areAllClosed 27 = .ok (.iconst 1, 1) := by decide +kernel
theorem dX10_areAllClosed_28 : decode cX10_areAllClosed 28 = .ok (.goto 4, 3) := by decide +kernel
theorem dX10_areAllClosed_31 : decode cX10_areAllClosed 31 = .ok (.iconst 0, 1) := by decide +kernel
theorem dX10_areAllClosed_32 : decode cX10_areAllClosed 32 = .ok (.istore_n 1, 1) := by decide +kernel
theorem dX10_areAllClosed_33 : decode cX10_areAllClosed 33 = .ok (.iinc 2 1, 3) := by decide +kernel
theorem dX10_areAllClosed_36 : decode cX10_areAllClosed 36 = .ok (.goto (-32), 3) := by decide +kernel
theorem dX10_areAllClosed_39 : decode cX10_areAllClosed 39 = .ok (.iload_n 1, 1) := by decide +kernel
theorem dX10_areAllClosed_40 : decode cX10_areAllClosed 40 = .ok (.ireturn, 1) := by decide +kernel
theorem dX10_available_0 : decode cX10_available 0 = .ok (.aload_n 0, 1) := by decide +kernel
theorem dX10_available_1 : decode cX10_available 1 = .ok (.iconst 0, 1) := by decide +kernel
theorem dX10_available_2 : decode cX10_available 2 = .ok (.putfield 80, 3) := by decide +kernel
theorem dX10_available_5 : decode cX10_available 5 = .ok (.aload_n 0, 1) := by decide +kernel
theorem dX10_available_6 : decode cX10_available 6 = .ok (.invokevirtual 298, 3) := by decide +kernel
theorem dX10_available_9 : decode cX10_available 9 = .ok (.ireturn, 1) := by decide +kernel
theorem dX10_availableNow_0 : decode cX10_availableNow 0 = .ok (.aload_n 0, 1) := by decide +kernel
theorem dX10_availableNow_1 : decode cX10_availableNow 1 = .ok (.getfield 7, 3) := by decide +kernel
theorem dX10_availableNow_4 : decode cX10_availableNow 4 = .ok (.bipush 6, 2) := by decide +kernel
theorem dX10_availableNow_6 : decode cX10_availableNow 6 = .ok (.iaload, 1) := by decide +kernel
theorem dX10_availableNow_7 : decode cX10_availableNow 7 = .ok (.istore_n 1, 1) := by decide +kernel
theorem dX10_availableNow_8 : decode cX10_availableNow 8 = .ok (.iconst 0, 1) := by decide +kernel
theorem dX10_availableNow_9 : decode cX10_availableNow 9 = .ok (.istore_n 2, 1) := by decide +kernel
theorem dX10_availableNow_10 : decode cX10_availableNow 10 = .ok (.iload_n 2, 1) := by decide +kernel
theorem dX10_availableNow_11 : decode cX10_availableNow 11 = .ok (.aload_n 0, 1) := by decide +kernel
theorem dX10_availableNow_12 : decode cX10_availableNow 12 = .ok (.getfield 7, 3) := by decide +kernel
theorem dX10_availableNow_15 : decode cX10_availableNow 15 = .ok (.bipush 13, 2) := by decide +kernel
theorem dX10_availableNow_17 : decode cX10_availableNow 17 = .ok (.iaload, 1) := by decide +kernel
theorem dX10_availableNow_18 : decode cX10_availableNow 18 = .ok (.if_icmp .ge 18, 3) := by decide +kernel
theorem dX10_availableNow_21 : decode cX10_availableNow 21 = .ok (.iload_n 1, 1) := by decide +kernel
theorem dX10_availableNow_22 : decode cX10_availableNow 22 = .ok (.aload_n 0, 1) := by decide +kernel
theorem dX10_availableNow_23 : decode cX10_availableNow 23 = .ok (.iload_n 2, 1) := by decide +kernel
theorem dX10_availableNow_24 : decode cX10_availableNow 24 = .ok (.iconst 3, 1) := by decide +kernel
theorem dX10_availableNow_25 : decode cX10_availableNow 25 = .ok (.invokevirtual 261, 3) := by decide +kernel
theorem dX10_availableNow_28 : decode cX10_availableNow 28 = .ok (.isub, 1) := by decide +kernel
theorem dX10_availableNow_29 : decode cX10_availableNow 29 = .ok (.istore_n 1, 1) := by decide +kernel
theorem dX10_availableNow_30 : decode cX10_availableNow 30 = .ok (.iinc 2 1, 3) := by decide +kernel
theorem dX10_availableNow_33 : decode cX10_availableNow 33 = .ok (.goto (-23), 3) := by decide +kernel
theorem dX10_availableNow_36 : decode cX10_availableNow 36 = .ok (.iload_n 1, 1) := by decide +kernel
theorem dX10_availableNow_37 : decode cX10_availableNow 37 = .ok (.ireturn, 1) := by decide +kernel
theorem dX10_becomeDue_0 : decode cX10_becomeDue 0 = .ok (.aload_n 0, 1) := by decide +kernel
theorem dX10_becomeDue_1 : decode cX10_becomeDue 1 = .ok (.invokevirtual 284, 3) := by decide +kernel
theorem dX10_becomeDue_4 : decode cX10_becomeDue 4 = .ok (.istore_n 1, 1) := by decide +kernel
theorem dX10_becomeDue_5 : decode cX10_becomeDue 5 = .ok (.iconst 0, 1) := by decide +kernel
theorem dX10_becomeDue_6 : decode cX10_becomeDue 6 = .ok (.istore_n 2, 1) := by decide +kernel
theorem dX10_becomeDue_7 : decode cX10_becomeDue 7 = .ok (.iload_n 2, 1) := by decide +kernel
theorem dX10_becomeDue_8 : decode cX10_becomeDue 8 = .ok (.aload_n 0, 1) := by decide +kernel
theorem dX10_becomeDue_9 : decode cX10_becomeDue 9 = .ok (.getfield 7, 3) := by decide +kernel
theorem dX10_becomeDue_12 : decode cX10_becomeDue 12 = .ok (.bipush 13, 2) := by decide +kernel
theorem dX10_becomeDue_14 : decode cX10_becomeDue 14 = .ok (.iaload, 1) := by decide +kernel
theorem dX10_becomeDue_15 : decode cX10_becomeDue 15 = .ok (.if_icmp .ge 59, 3) := by decide +kernel
theorem dX10_becomeDue_18 : decode cX10_becomeDue 18 = .ok (.aload_n 0, 1) := by decide +kernel
theorem dX10_becomeDue_19 : decode cX10_becomeDue 19 = .ok (.iload_n 2, 1) := by decide +kernel
theorem dX10_becomeDue_20 : decode cX10_becomeDue 20 = .ok (.iconst 2, 1) := by decide +kernel
theorem dX10_becomeDue_21 : decode cX10_becomeDue 21 = .ok (.invokevirtual 261, 3) := by decide +kernel
theorem dX10_becomeDue_24 : decode cX10_becomeDue 24 = .ok (.ifCond .ne 44, 3) := by decide +kernel
theorem dX10_becomeDue_27 : decode cX10_becomeDue 27 = .ok (.aload_n 0, 1) := by decide +kernel
theorem dX10_becomeDue_28 : decode cX10_becomeDue 28 = .ok (.iload_n 2, 1) := by decide +kernel
theorem dX10_becomeDue_29 : decode cX10_becomeDue 29 = .ok (.aload_n 0, 1) := by decide +kernel
theorem dX10_becomeDue_30 : decode cX10_becomeDue 30 = .ok (.getfield 7, 3) := by decide +kernel
theorem dX10_becomeDue_33 : decode cX10_becomeDue 33 = .ok (.iconst 4, 1) := by decide +kernel
theorem dX10_becomeDue_34 : decode cX10_becomeDue 34 = .ok (.iaload, 1) := by decide +kernel
theorem dX10_becomeDue_35 : decode cX10_becomeDue 35 = .ok (.aload_n 0, 1) := by decide +kernel
theorem dX10_becomeDue_36 : decode cX10_becomeDue 36 = .ok (.getfield 7, 3) := by decide +kernel
theorem dX10_becomeDue_39 : decode cX10_becomeDue 39 = .ok (.bipush 12, 2) := by decide +kernel
theorem dX10_becomeDue_41 : decode cX10_becomeDue 41 = .ok (.iaload, 1) := by decide +kernel
theorem dX10_becomeDue_42 : decode cX10_becomeDue 42 = .ok (.iload_n 1, 1) := by decide +kernel
theorem dX10_becomeDue_43 : decode cX10_becomeDue 43 = .ok (.invokevirtual 288, 3) := by decide +kernel
theorem dX10_becomeDue_46 : decode cX10_becomeDue 46 = .ok (.ifCond .eq 22, 3) := by decide +kernel
theorem dX10_becomeDue_49 : decode cX10_becomeDue 49 = .ok (.aload_n 0, 1) := by decide +kernel
theorem dX10_becomeDue_50 : decode cX10_becomeDue 50 = .ok (.iload_n 2, 1) := by decide +kernel
theorem dX10_becomeDue_51 : decode cX10_becomeDue 51 = .ok (.iconst 2, 1) := by decide +kernel
theorem dX10_becomeDue_52 : decode cX10_becomeDue 52 = .ok (.iconst 1, 1) := by decide +kernel
theorem dX10_becomeDue_53 : decode cX10_becomeDue 53 = .ok (.invokevirtual 273, 3) := by decide +kernel
theorem dX10_becomeDue_56 : decode cX10_becomeDue 56 = .ok (.aload_n 0, 1) := by decide +kernel
theorem dX10_becomeDue_57 : decode cX10_becomeDue 57 = .ok (.iload_n 2, 1) := by decide +kernel
theorem dX10_becomeDue_58 : decode cX10_becomeDue 58 = .ok (.iconst 4, 1) := by decide +kernel
theorem dX10_becomeDue_59 : decode cX10_becomeDue 59 = .ok (.aload_n 0, 1) := by decide +kernel
theorem dX10_becomeDue_60 : decode cX10_becomeDue 60 = .ok (.getfield 7, 3) := by decide +kernel
theorem dX10_becomeDue_63 : decode cX10_becomeDue 63 = .ok (.iconst 4, 1) := by decide +kernel
theorem dX10_becomeDue_64 : decode cX10_becomeDue 64 = .ok (.iaload, 1) := by decide +kernel
theorem dX10_becomeDue_65 : decode cX10_becomeDue 65 = .ok (.invokevirtual 273, 3) := by decide +kernel
theorem dX10_becomeDue_68 : decode cX10_becomeDue 68 = .ok (.iinc 2 1, 3) := by decide +kernel
theorem dX10_becomeDue_71 : decode cX10_becomeDue 71 = .ok (.goto (-64), 3) := by decide +kernel
theorem dX10_becomeDue_74 : decode cX10_becomeDue 74 = .ok (.return_, 1) := by decide +kernel
theorem dX10_between_0 : decode cX10_between 0 = .ok (.lload_n 0, 1) := by decide +kernel
theorem dX10_between_1 : decode cX10_between 1 = .ok (.lload_n 2, 1) := by decide +kernel
theorem dX10_between_2 : decode cX10_between 2 = .ok (.lcmp, 1) := by decide +kernel
theorem dX10_between_3 : decode cX10_between 3 = .ok (.ifCond .lt 14, 3) := by decide +kernel
theorem dX10_between_6 : decode cX10_between 6 = .ok (.lload_n 0, 1) := by decide +kernel
theorem dX10_between_7 : decode cX10_between 7 = .ok (.lload 4, 2) := by decide +kernel
theorem dX10_between_9 : decode cX10_between 9 = .ok (.lcmp, 1) := by decide +kernel
theorem dX10_between_10 : decode cX10_between 10 = .ok (.ifCond .gt 7, 3) := by decide +kernel
theorem dX10_between_13 : decode cX10_between 13 = .ok (.iconst 1, 1) := by decide +kernel
theorem dX10_between_14 : decode cX10_between 14 = .ok (.goto 4, 3) := by decide +kernel
theorem dX10_between_17 : decode cX10_between 17 = .ok (.iconst 0, 1) := by decide +kernel
theorem dX10_between_18 : decode cX10_between 18 = .ok (.ireturn, 1) := by decide +kernel
theorem dX10_busiestDay_0 : decode cX10_busiestDay 0 = .ok (.aload_n 0, 1) := by decide +kernel
theorem dX10_busiestDay_1 : decode cX10_busiestDay 1 = .ok (.iconst 0, 1) := by decide +kernel
theorem dX10_busiestDay_2 : decode cX10_busiestDay 2 = .ok (.putfield 80, 3) := by decide +kernel
theorem dX10_busiestDay_5 : decode cX10_busiestDay 5 = .ok (.iconst (-1), 1) := by decide +kernel
theorem dX10_busiestDay_6 : decode cX10_busiestDay 6 = .ok (.istore_n 1, 1) := by decide +kernel
theorem dX10_busiestDay_7 : decode cX10_busiestDay 7 = .ok (.lconst 0, 1) := by decide +kernel
theorem dX10_busiestDay_8 : decode cX10_busiestDay 8 = .ok (.lstore_n 2, 1) := by decide +kernel
theorem dX10_busiestDay_9 : decode cX10_busiestDay 9 = .ok (.iconst 0, 1) := by decide +kernel
theorem dX10_busiestDay_10 : decode cX10_busiestDay 10 = .ok (.istore 4, 2) := by decide +kernel
theorem dX10_busiestDay_12 : decode cX10_busiestDay 12 = .ok (.iload 4, 2) := by decide +kernel
theorem dX10_busiestDay_14 : decode cX10_busiestDay 14 = .ok (.aload_n 0, 1) := by decide +kernel
theorem dX10_busiestDay_15 : decode cX10_busiestDay 15 = .ok (.getfield 7, 3) := by decide +kernel
theorem dX10_busiestDay_18 : decode cX10_busiestDay 18 = .ok (.bipush 15, 2) := by decide +kernel
theorem dX10_busiestDay_20 : decode cX10_busiestDay 20 = .ok (.iaload, 1) := by decide +kernel
theorem dX10_busiestDay_21 : decode cX10_busiestDay 21 = .ok (.if_icmp .ge 40, 3) := by decide +kernel
theorem dX10_busiestDay_24 : decode cX10_busiestDay 24 = .ok (.aload_n 0, 1) := by decide +kernel
theorem dX10_busiestDay_25 : decode cX10_busiestDay 25 = .ok (.iload 4, 2) := by decide +kernel
theorem dX10_busiestDay_27 : decode cX10_busiestDay 27 = .ok (.iconst 1, 1) := by decide +kernel
theorem dX10_busiestDay_28 : decode cX10_busiestDay 28 = .ok (.invokevirtual 448, 3) := by decide +kernel
theorem dX10_busiestDay_31 : decode cX10_busiestDay 31 = .ok (.istore 5, 2) := by decide +kernel
theorem dX10_busiestDay_33 : decode cX10_busiestDay 33 = .ok (.aload_n 0, 1) := by decide +kernel
theorem dX10_busiestDay_34 : decode cX10_busiestDay 34 = .ok (.iload 5, 2) := by decide +kernel
theorem dX10_busiestDay_36 : decode cX10_busiestDay 36 = .ok (.iconst 1, 1) := by decide +kernel
theorem dX10_busiestDay_37 : decode cX10_busiestDay 37 = .ok (.invokevirtual 453, 3) := by decide +kernel
theorem dX10_busiestDay_40 : decode cX10_busiestDay 40 = .ok (.lstore 6, 2) := by decide +kernel
theorem dX10_busiestDay_42 : decode cX10_busiestDay 42 = .ok (.lload 6, 2) := by decide +kernel
theorem dX10_busiestDay_44 : decode cX10_busiestDay 44 = .ok (.lload_n 2, 1) := by decide +kernel
theorem dX10_busiestDay_45 : decode cX10_busiestDay 45 = .ok (.lcmp, 1) := by decide +kernel
theorem dX10_busiestDay_46 : decode cX10_busiestDay 46 = .ok (.ifCond .le 9, 3) := by decide +kernel
theorem dX10_busiestDay_49 : decode cX10_busiestDay 49 = .ok (.iload 5, 2) := by decide +kernel
theorem dX10_busiestDay_51 : decode cX10_busiestDay 51 = .ok (.istore_n 1, 1) := by decide +kernel
theorem dX10_busiestDay_52 : decode cX10_busiestDay 52 = .ok (.lload 6, 2) := by decide +kernel
theorem dX10_busiestDay_54 : decode cX10_busiestDay 54 = .ok (.lstore_n 2, 1) := by decide +kernel
theorem dX10_busiestDay_55 : decode cX10_busiestDay 55 = .ok (.iinc 4 1, 3) := by decide +kernel
theorem dX10_busiestDay_58 : decode cX10_busiestDay 58 = .ok (.goto (-46), 3) := by decide +kernel
theorem dX10_busiestDay_61 : decode cX10_busiestDay 61 = .ok (.iload_n 1, 1) := by decide +kernel
theorem dX10_busiestDay_62 : decode cX10_busiestDay 62 = .ok (.ireturn, 1) := by decide +kernel
theorem dX10_canSplit_0 : decode cX10_canSplit 0 = .ok (.aload_n 0, 1) := by decide +kernel
theorem dX10_canSplit_1 : decode cX10_canSplit 1 = .ok (.aload_n 0, 1) := by decide +kernel
theorem dX10_canSplit_2 : decode cX10_canSplit 2 = .ok (.iload_n 1, 1) := by decide +kernel
theorem dX10_canSplit_3 : decode cX10_canSplit 3 = .ok (.invokevirtual 330, 3) := by decide +kernel
theorem dX10_canSplit_6 : decode cX10_canSplit 6 = .ok (.iload_n 2, 1) := by decide +kernel
theorem dX10_canSplit_7 : decode cX10_canSplit 7 = .ok (.invokevirtual 358, 3) := by decide +kernel
theorem dX10_canSplit_10 : decode cX10_canSplit 10 = .ok (.ifCond .eq 22, 3) := by decide +kernel
theorem dX10_canSplit_13 : decode cX10_canSplit 13 = .ok (.aload_n 0, 1) := by decide +kernel
theorem dX10_canSplit_14 : decode cX10_canSplit 14 = .ok (.aload_n 0, 1) := by decide +kernel
theorem dX10_canSplit_15 : decode cX10_canSplit 15 = .ok (.iload_n 1, 1) := by decide +kernel
theorem dX10_canSplit_16 : decode cX10_canSplit 16 = .ok (.iconst 2, 1) := by decide +kernel
theorem dX10_canSplit_17 : decode cX10_canSplit 17 = .ok (.invokevirtual 261, 3) := by decide +kernel
theorem dX10_canSplit_20 : decode cX10_canSplit 20 = .ok (.iconst 2, 1) := by decide +kernel
theorem dX10_canSplit_21 : decode cX10_canSplit 21 = .ok (.if_icmp .ne 7, 3) := by decide +kernel
theorem dX10_canSplit_24 : decode cX10_canSplit 24 = .ok (.iconst 0, 1) := by decide +kernel
theorem dX10_canSplit_25 : decode cX10_canSplit 25 = .ok (.goto 4, 3) := by decide +kernel
theorem dX10_canSplit_28 : decode cX10_canSplit 28 = .ok (.iconst 3, 1) := by decide +kernel
theorem dX10_canSplit_29 : decode cX10_canSplit 29 = .ok (.putfield 80, 3) := by decide +kernel
theorem dX10_canSplit_32 : decode cX10_canSplit 32 = .ok (.aload_n 0, 1) := by decide +kernel
theorem dX10_canSplit_33 : decode cX10_canSplit 33 = .ok (.getfield 80, 3) := by decide +kernel
theorem dX10_canSplit_36 : decode cX10_canSplit 36 = .ok (.ifCond .ne 7, 3) := by decide +kernel
theorem dX10_canSplit_39 : decode cX10_canSplit 39 = .ok (.iconst 1, 1) := by decide +kernel
theorem dX10_canSplit_40 : decode cX10_canSplit 40 = .ok (.goto 4, 3) := by decide +kernel
theorem dX10_canSplit_43 : decode cX10_canSplit 43 = .ok (.iconst 0, 1) := by decide +kernel
theorem dX10_canSplit_44 : decode cX10_canSplit 44 = .ok (.ireturn, 1) := by decide +kernel
theorem dX10_cancel_0 : decode cX10_cancel 0 = .ok (.aload_n 0, 1) := by decide +kernel
theorem dX10_cancel_1 : decode cX10_cancel 1 = .ok (.iload_n 1, 1) := by decide +kernel
theorem dX10_cancel_2 : decode cX10_cancel 2 = .ok (.invokevirtual 330, 3) := by decide +kernel
theorem dX10_cancel_5 : decode cX10_cancel 5 = .ok (.istore_n 2, 1) := by decide +kernel
theorem dX10_cancel_6 : decode cX10_cancel 6 = .ok (.aload_n 0, 1) := by decide +kernel
theorem dX10_cancel_7 : decode cX10_cancel 7 = .ok (.iload_n 2, 1) := by decide +kernel
theorem dX10_cancel_8 : decode cX10_cancel 8 = .ok (.iload_n 2, 1) := by decide +kernel
theorem dX10_cancel_9 : decode cX10_cancel 9 = .ok (.ifCond .eq 15, 3) := by decide +kernel
theorem dX10_cancel_12 : decode cX10_cancel 12 = .ok (.aload_n 0, 1) := by decide +kernel
theorem dX10_cancel_13 : decode cX10_cancel 13 = .ok (.iload_n 1, 1) := by decide +kernel
theorem dX10_cancel_14 : decode cX10_cancel 14 = .ok (.invokevirtual 398, 3) := by decide +kernel
theorem dX10_cancel_17 : decode cX10_cancel 17 = .ok (.ifCond .eq 7, 3) := by decide +kernel
theorem dX10_cancel_20 : decode cX10_cancel 20 = .ok (.iconst 1, 1) := by decide +kernel
theorem dX10_cancel_21 : decode cX10_cancel 21 = .ok (.goto 4, 3) := by decide +kernel
theorem dX10_cancel_24 : decode cX10_cancel 24 = .ok (.iconst 0, 1) := by decide +kernel
theorem dX10_cancel_25 : decode cX10_cancel 25 = .ok (.invokevirtual 358, 3) := by decide +kernel
theorem dX10_cancel_28 : decode cX10_cancel 28 = .ok (.ifCond .ne 5, 3) := by decide +kernel
theorem dX10_cancel_31 : decode cX10_cancel 31 = .ok (.iconst 0, 1) := by decide +kernel
theorem dX10_cancel_32 : decode cX10_cancel 32 = .ok (.ireturn, 1) := by decide +kernel
theorem dX10_cancel_33 : decode cX10_cancel 33 = .ok (.aload_n 0, 1) := by decide +kernel
theorem dX10_cancel_34 : decode cX10_cancel 34 = .ok (.invokevirtual 395, 3) := by decide +kernel
theorem dX10_cancel_37 : decode cX10_cancel 37 = .ok (.aload_n 0, 1) := by decide +kernel
theorem dX10_cancel_38 : decode cX10_cancel 38 = .ok (.iload_n 1, 1) := by decide +kernel
theorem dX10_cancel_39 : decode cX10_cancel 39 = .ok (.invokevirtual 277, 3) := by decide +kernel
theorem dX10_cancel_42 : decode cX10_cancel 42 = .ok (.istore_n 3, 1) := by decide +kernel
theorem dX10_cancel_43 : decode cX10_cancel 43 = .ok (.aload_n 0, 1) := by decide +kernel
theorem dX10_cancel_44 : decode cX10_cancel 44 = .ok (.iload_n 1, 1) := by decide +kernel
theorem dX10_cancel_45 : decode cX10_cancel 45 = .ok (.iconst 2, 1) := by decide +kernel
theorem dX10_cancel_46 : decode cX10_cancel 46 = .ok (.iconst 5, 1) := by decide +kernel
theorem dX10_cancel_47 : decode cX10_cancel 47 = .ok (.invokevirtual 273, 3) := by decide +kernel
theorem dX10_cancel_50 : decode cX10_cancel 50 = .ok (.iload_n 3, 1) := by decide +kernel
theorem dX10_cancel_51 : decode cX10_cancel 51 = .ok (.ireturn, 1) := by decide +kernel
theorem dX10_closedCount_0 : decode cX10_closedCount 0 = .ok (.aload_n 0, 1) := by decide +kernel
theorem dX10_closedCount_1 : decode cX10_closedCount 1 = .ok (.iconst 0, 1) := by decide +kernel
theorem dX10_closedCount_2 : decode cX10_closedCount 2 = .ok (.putfield 80, 3) := by decide +kernel
theorem dX10_closedCount_5 : decode cX10_closedCount 5 = .ok (.iconst 0, 1) := by decide +kernel
theorem dX10_closedCount_6 : decode cX10_closedCount 6 = .ok (.istore_n 1, 1) := by decide +kernel
theorem dX10_closedCount_7 : decode cX10_closedCount 7 = .ok (.iconst 0, 1) := by decide +kernel
theorem dX10_closedCount_8 : decode cX10_closedCount 8 = .ok (.istore_n 2, 1) := by decide +kernel
theorem dX10_closedCount_9 : decode cX10_closedCount 9 = .ok (.iload_n 2, 1) := by decide +kernel
theorem dX10_closedCount_10 : decode cX10_closedCount 10 = .ok (.aload_n 0, 1) := by decide +kernel
theorem dX10_closedCount_11 : decode cX10_closedCount 11 = .ok (.getfield 7, 3) := by decide +kernel
theorem dX10_closedCount_14 : decode cX10_closedCount 14 = .ok (.bipush 13, 2) := by decide +kernel
