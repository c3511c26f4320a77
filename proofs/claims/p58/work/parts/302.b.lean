set_option maxHeartbeats 4000000 in
set_option maxRecDepth 100000 in
/-- split -/
theorem x_split (l : Launch) (D : va_G) (cA : Nat → ClassId) (sa : Nat → Nat) (r1 : Nat) (k1 : Nat) (k2 : Nat) (k3 : Nat) (ct : Nat) (fk : Nat → Int32) (ft : Nat → Int32) (fv : Nat → Int64) (b0 : Nat) (ln : Nat) (fb : Nat → Int32) (sz : Nat) (hct : ct ≤ 701) (hln : ln ≤ 700) : Met l yX5_split wsX5_split ({ frames := 6, cells := 0, slots := 0, locals := 132 }) (va_Pc [.ref r1, .ref b0, .int (nI ln)] (Wd D cA sa [(oX5 r1 k1 k2 k3 (nI ct)), (k1, .inl (cA 0, 701, .inl fk)), (k2, .inl (cA 0, 701, .inl ft)), (k3, .inl (cA 1, 701, .inr (.inl fv))), (b0, .inl (cA 2, 700, .inl fb))] sz)) (va_Qv (fun _ : Unit => True) (fun (_ : Unit) t => ∃ cy : Nat, ∃ zk : Nat → Int32, ∃ zt : Nat → Int32, ∃ zv : Nat → Int64, cy ≤ 701 ∧ TXE fb ln cy zt zv zk ∧ Wq D (va_A [(oX5 r1 k1 k2 k3 (nI ct)), (k1, .inl (cA 0, 701, .inl fk)), (k2, .inl (cA 0, 701, .inl ft)), (k3, .inl (cA 1, 701, .inr (.inl fv))), (b0, .inl (cA 2, 700, .inl fb))] sz) [(oX5 r1 k1 k2 k3 (nI cy)), (k1, .inl (cA 0, 701, .inl zk)), (k2, .inl (cA 0, 701, .inl zt)), (k3, .inl (cA 1, 701, .inr (.inl zv))), (b0, .inl (cA 2, 700, .inl fb))] t) (va_A [(oX5 r1 k1 k2 k3 (nI ct)), (k1, .inl (cA 0, 701, .inl fk)), (k2, .inl (cA 0, 701, .inl ft)), (k3, .inl (cA 1, 701, .inr (.inl fv))), (b0, .inl (cA 2, 700, .inl fb))] sz)) 0 0 (va_A [(oX5 r1 k1 k2 k3 (nI ct)), (k1, .inl (cA 0, 701, .inl fk)), (k2, .inl (cA 0, 701, .inl ft)), (k3, .inl (cA 1, 701, .inr (.inl fv))), (b0, .inl (cA 2, 700, .inl fb))] sz) := by
  refine Met.ofW (cc := cX5_split) (maxL := 8) (ret := none) (by decide) rfl ?_
  intro p e s m args below meth c s₁ B hml hv
  obtain ⟨rfl, hsz, hP, hK, hD0, hC, hZ⟩ := hv
  have hx := B.exec
  have hb := B.bytes
  have hr := B.returns
  have hts := atoms_spec (ws := wsX5_split) B.pre
  have hown : s.vm.findClass RX5 = some m.cls := findClass_of_methodNamed B.named
  have hlocks := B.notSynchronized
  subst hsz
  have hD := hD0.self (sz := s.heap.size)
  generalize hAe : va_A [(oX5 r1 k1 k2 k3 (nI ct)), (k1, .inl (cA 0, 701, .inl fk)), (k2, .inl (cA 0, 701, .inl ft)), (k3, .inl (cA 1, 701, .inr (.inl fv))), (b0, .inl (cA 2, 700, .inl fb))] s.heap.size = A at hD hZ ⊢
  have hA : ∀ q : Nat, s.heap.size ≤ q → A q := fun q h => by rw [← hAe]; exact Or.inr h
  have hS : va_S A s.heap s.heap [] := va_S.rf
  have hP : va_P D vwCl [(oX5 r1 k1 k2 k3 (nI ct)), (k1, .inl (cA 0, 701, .inl fk)), (k2, .inl (cA 0, 701, .inl ft)), (k3, .inl (cA 1, 701, .inr (.inl fv))), (b0, .inl (cA 2, 700, .inl fb))] s.heap := hP
  have hl := lv_entry ([.ref r1, .ref b0, .int (nI ln)]) (n := 8) (Nat.le_of_ble_eq_true rfl)
  rw [lg_entry_eq]
  generalize (lg_sl ([.ref r1, .ref b0, .int (nI ln)]) ++ List.replicate (8 - (lg_sl ([.ref r1, .ref b0, .int (nI ln)])).length) Slot.unset).toArray = ls at hl ⊢
  have hl : lv_has ls 8 [(0, .ref r1), (1, .ref b0), (2, .int (nI ln))] := hl
  have inX5 : ∀ w ∈ u_ws RX5 TX5 4, w ∈ wsX5_split := by decide +kernel
  refine lv_aload_n hx hb dX5_split_0 rfl (lv_at hl 0 rfl) ?_
  refine lv_iconst (v := 0) hx hb dX5_split_1 (by decide) ?_
  refine va_put (D := D) (ci := 9) (v := .int 0) (ty := .int) (C := RX5) (T := TX5) (N := 4) hx hb hts inX5 tyX5 tyX5_ok nmX5 hown hK hP hD hS 0 rfl rfl 3 (by decide) (hts (.fieldLink RX5 22 "EscrowDesk$Scanner" "count" "I") (by decide +kernel)) (fun _ h9 => h9) rfl (by decide +kernel) rfl rfl (Nat.le_of_ble_eq_true rfl) dX5_split_2 (fun H locs hP hD hS => ?_)
  obtain ⟨hP, hD⟩ : PDq D A [(oX5 r1 k1 k2 k3 0), (k1, .inl (cA 0, 701, .inl fk)), (k2, .inl (cA 0, 701, .inl ft)), (k3, .inl (cA 1, 701, .inr (.inl fv))), (b0, .inl (cA 2, 700, .inl fb))] H := ⟨hP, hD⟩
  refine lv_iconst (v := 0) hx hb dX5_split_5 (by decide) ?_
  refine lv_istore_n (lv' := [(3, .int 0), (0, .ref r1), (1, .ref b0), (2, .int (nI ln))]) hx hb dX5_split_6 rfl hl (by decide) rfl (fun ls hl => ?_)
  refine lv_iconst (v := 0) hx hb dX5_split_7 (by decide) ?_
  refine lv_istore (lv' := [(4, .int 0), (3, .int 0), (0, .ref r1), (1, .ref b0), (2, .int (nI ln))]) hx hb dX5_split_8 hl (by decide) rfl (fun ls hl => ?_)
  refine lv_iconst (v := 0) hx hb dX5_split_10 (by decide) ?_
  refine lv_istore (lv' := [(5, .int 0), (4, .int 0), (3, .int 0), (0, .ref r1), (1, .ref b0), (2, .int (nI ln))]) hx hb dX5_split_11 hl (by decide) rfl (fun ls hl => ?_)
  have loop1 : ∀ (n1 i1 : Nat) (rni : Nat) (x4_1 : Int32) (ci : Nat) (f1_1 : Nat → Int32) (f2_1 : Nat → Int32) (f3_1 : Nat → Int64) (H : Heap) (locs : List Loc) (ls : Array Slot), i1 + n1 = ln → ci ≤ i1 → rni ≤ i1 + 1 → Sp fb i1 ci rni x4_1 f1_1 f2_1 f3_1 → va_P D vwCl [(oX5 r1 k1 k2 k3 (nI ci)), (k1, .inl (cA 0, 701, .inl f1_1)), (k2, .inl (cA 0, 701, .inl f2_1)), (k3, .inl (cA 1, 701, .inr (.inl f3_1))), (b0, .inl (cA 2, 700, .inl fb))] H → va_D A [(oX5 r1 k1 k2 k3 (nI ci)), (k1, .inl (cA 0, 701, .inl f1_1)), (k2, .inl (cA 0, 701, .inl f2_1)), (k3, .inl (cA 1, 701, .inr (.inl f3_1))), (b0, .inl (cA 2, 700, .inl fb))] → va_S A s.heap H locs → lv_has ls 8 [(5, .int (nI i1)), (4, .int x4_1), (3, .int (nI rni)), (0, .ref r1), (1, .ref b0), (2, .int (nI ln))] → W p l e (headSpec wsX5_split ({ frames := 6, cells := 0, slots := 0, locals := 132 } : Room)).room s m ([.ref r1, .ref b0, .int (nI ln)] : List Value).toArray below meth c H locs 0 0 (MQ below (va_Qv (fun _ : Unit => True) (fun (_ : Unit) t => ∃ cy : Nat, ∃ zk : Nat → Int32, ∃ zt : Nat → Int32, ∃ zv : Nat → Int64, cy ≤ 701 ∧ TXE fb ln cy zt zv zk ∧ Wq D A [(oX5 r1 k1 k2 k3 (nI cy)), (k1, .inl (cA 0, 701, .inl zk)), (k2, .inl (cA 0, 701, .inl zt)), (k3, .inl (cA 1, 701, .inr (.inl zv))), (b0, .inl (cA 2, 700, .inl fb))] t) A) ([.ref r1, .ref b0, .int (nI ln)] : List Value).toArray s 0 0 A) (F0 m 13 ls []) := by
    intro n1
    induction n1 with
    | zero =>
      intro i1 rni x4_1 ci f1_1 f2_1 f3_1 H locs ls hi1 hv0_1 hv1_1 hv2_1 hP hD hS hl
      obtain rfl : ln = i1 := by omega
      refine lv_iload hx hb dX5_split_13 (lv_at hl 0 rfl) ?_
      refine lv_iload_n hx hb dX5_split_15 rfl (lv_at hl 5 rfl) ?_
      refine lv_icmp_ge (tgt := 126) hx hb dX5_split_16 (by decide) (fun c1 => ?_) (fun c9 => absurd (nI_le (a := ln) (b := ln) (show ln ≤ ln by omega) (by omega)) c9)
      refine lv_aload_n hx hb dX5_split_126 rfl (lv_at hl 3 rfl) ?_
      refine lv_iconst (v := 1) hx hb dX5_split_127 (by decide) ?_
      refine lv_iload_n hx hb dX5_split_128 rfl (lv_at hl 5 rfl) ?_
      refine lv_lconst (v := 0) hx hb dX5_split_129 (by decide) ?_
      obtain ⟨hPc, hDc, hFc⟩ := PDq.cut (wc := [(oX5 r1 k1 k2 k3 (nI ci)), (k1, .inl (cA 0, 701, .inl f1_1)), (k2, .inl (cA 0, 701, .inl f2_1)), (k3, .inl (cA 1, 701, .inr (.inl f3_1)))]) hP hD hS hA [0, 1, 2, 3] (by decide) rfl
      refine va_callv (va_runV (As := [.int 1, .int (nI ln), .long 0]) (rest := []) ⟨hx, hb, hml, hown, hts⟩ (x_addTok l D cA sa r1 k1 k2 k3 ci f1_1 f2_1 f3_1 1 (nI ln) 0 H.size (by omega)) (cwV 3 hts gX5_split_X5_add rfl rfl rfl (by decide +kernel) ⟨(Nat.le_of_ble_eq_true rfl), (Nat.le_of_ble_eq_true rfl)⟩) ⟨Wd.blind, va_recv hK hPc (ci := 9) (q0 := 0) rfl rfl, fun U hU hW => ⟨rfl, Wd.call hPc hDc hK hC hZ hS hFc U hU hW⟩⟩ rfl rfl hl.1 rfl (lv_room (Nat.le_of_ble_eq_true rfl)) dX5_split_130 ⟨(Nat.le_of_ble_eq_true rfl), (Nat.le_of_ble_eq_true rfl)⟩) hS (fun q _ h => hFc q h) hFc (fun u t H1 locs ht hvm hw hB hz1 hk1 hS => ?_)
      obtain ⟨fn2, fn3, fn4, hn5, hn6, hn7, hP1, hD1⟩ := hB
      rw [ht] at hP1
      obtain ⟨hP, hD⟩ := PDq.join (w := [(b0, .inl (cA 2, 700, .inl fb)), (oX5 r1 k1 k2 k3 (nI (ci + 1))), (k1, .inl (cA 0, 701, .inl fn2)), (k2, .inl (cA 0, 701, .inl fn3)), (k3, .inl (cA 1, 701, .inr (.inl fn4)))]) 1 hP hD [0, 1, 2, 3] [4] rfl rfl (by decide) (by decide) hk1 hFc hP1 hD1 rfl
      generalize H1 = H at hP hS ⊢
      refine lv_aload_n hx hb dX5_split_133 rfl (lv_at hl 3 rfl) ?_
      obtain ⟨hPc, hDc, hFc⟩ := PDq.cut (wc := [(oX5 r1 k1 k2 k3 (nI (ci + 1))), (k1, .inl (cA 0, 701, .inl fn2)), (k2, .inl (cA 0, 701, .inl fn3)), (k3, .inl (cA 1, 701, .inr (.inl fn4)))]) hP hD hS hA [1, 2, 3, 4] (by decide) rfl
      refine va_callv (va_runV (As := []) (rest := []) ⟨hx, hb, hml, hown, hts⟩ (x_markKeywords l D cA sa r1 k1 k2 k3 (ci + 1) fn2 fn3 fn4 H.size (by omega)) (cwV 0 hts gX5_split_X5_markKeywords rfl rfl rfl (by decide +kernel) ⟨(Nat.le_of_ble_eq_true rfl), (Nat.le_of_ble_eq_true rfl)⟩) ⟨Wd.blind, va_recv hK hPc (ci := 9) (q0 := 0) rfl rfl, fun U hU hW => ⟨rfl, Wd.call hPc hDc hK hC hZ hS hFc U hU hW⟩⟩ rfl rfl hl.1 rfl (lv_room (Nat.le_of_ble_eq_true rfl)) dX5_split_134 ⟨(Nat.le_of_ble_eq_true rfl), (Nat.le_of_ble_eq_true rfl)⟩) hS (fun q _ h => hFc q h) hFc (fun u t H1 locs ht hvm hw hB hz1 hk1 hS => ?_)
      obtain ⟨fn8, hn9, hP1, hD1⟩ := hB
      rw [ht] at hP1
      obtain ⟨hP, hD⟩ := PDq.join (w := [(b0, .inl (cA 2, 700, .inl fb)), (oX5 r1 k1 k2 k3 (nI (ci + 1))), (k1, .inl (cA 0, 701, .inl fn8)), (k2, .inl (cA 0, 701, .inl fn3)), (k3, .inl (cA 1, 701, .inr (.inl fn4)))]) 1 hP hD [1, 2, 3, 4] [0] rfl rfl (by decide) (by decide) hk1 hFc hP1 hD1 rfl
      generalize H1 = H at hP hS ⊢
      obtain ⟨hP9, hD9⟩ := PDq.sub (ws' := [(oX5 r1 k1 k2 k3 (nI (ci + 1))), (k1, .inl (cA 0, 701, .inl fn8)), (k2, .inl (cA 0, 701, .inl fn3)), (k3, .inl (cA 1, 701, .inr (.inl fn4))), (b0, .inl (cA 2, 700, .inl fb))]) hP hD [1, 2, 3, 4, 0] (by decide) rfl
      refine W.widen (k := 0) (n := 0) (Nat.le_of_ble_eq_true rfl) (Nat.le_of_ble_eq_true rfl) ?_
      exact (W.vret hx hb hr (fun t ht hW => ⟨⟨(), rfl, trivial, (ci + 1), fn8, fn3, fn4, (by omega), (Sp.finx hv2_1 hn5 hn6 hn7 hn9), by rw [ht]; exact hP9, hD9⟩, hS.F ht⟩) hS.2.2 dX5_split_137)
    | succ n1 ih1 =>
      intro i1 rni x4_1 ci f1_1 f2_1 f3_1 H locs ls hi1 hv0_1 hv1_1 hv2_1 hP hD hS hl
      refine lv_iload hx hb dX5_split_13 (lv_at hl 0 rfl) ?_
      refine lv_iload_n hx hb dX5_split_15 rfl (lv_at hl 5 rfl) ?_
      refine lv_icmp_ge (tgt := 126) hx hb dX5_split_16 (by decide) (fun c9 => absurd c9 (nI_ge (a := i1) (b := ln) (show i1 < ln by omega) (by omega))) (fun c10 => ?_)
      refine lv_iload hx hb dX5_split_19 (lv_at hl 0 rfl) ?_
      refine lv_aload_n hx hb dX5_split_21 rfl (lv_at hl 4 rfl) ?_
      refine va_alen (v := 700) hx hb hK hP 4 2 rfl rfl rfl dX5_split_22 ?_
      refine lv_icmp_ge (tgt := 126) hx hb dX5_split_23 (by decide) (fun c9 => absurd c9 (nI_ge (a := i1) (b := 700) (show i1 < 700 by omega) (by omega))) (fun c11 => ?_)
      refine lv_aload_n hx hb dX5_split_26 rfl (lv_at hl 4 rfl) ?_
      refine lv_iload hx hb dX5_split_27 (lv_at hl 0 rfl) ?_
      refine va_cald hx hb hK hP 4 2 rfl rfl (vp_in_nI (n := i1) (N := 700) (show i1 < 700 by omega) (by decide)) dX5_split_29 ?_
      refine lv_topi (fun yn12 eyn12 => ?_)
      obtain rfl : yn12 = (fb i1) := eyn12.trans (by rw [nI_clamp (by omega)])
      obtain ⟨hPc, hDc, hFc⟩ := PDq.cut (wc := []) hP hD hS hA [] (by decide) rfl
      refine va_calli (va_runS (As := [.int (fb i1)]) (rest := []) ⟨hx, hb, hml, hown, hts⟩ (x_kindOf l D cA sa (fb i1) H.size) (va_cwS 1 hts gX5_split_X5_kindOf rfl rfl rfl (by decide +kernel) ⟨(Nat.le_of_ble_eq_true rfl), (Nat.le_of_ble_eq_true rfl)⟩) ⟨Wd.blind, fun U hU hW => ⟨rfl, Wd.call hPc hDc hK hC hZ hS hFc U hU hW⟩⟩ rfl rfl hl.1 rfl (lv_room (Nat.le_of_ble_eq_true rfl)) dX5_split_30 ⟨(Nat.le_of_ble_eq_true rfl), (Nat.le_of_ble_eq_true rfl)⟩) hS (fun q _ h => hFc q h) hFc (fun rn13 u t H1 locs ht hvm hw hB hz1 hk1 hS => ?_)
      obtain ⟨hP1, hD1⟩ := hB
      rw [ht] at hP1
      obtain ⟨hP, hD⟩ := PDq.join (w := [(oX5 r1 k1 k2 k3 (nI ci)), (k1, .inl (cA 0, 701, .inl f1_1)), (k2, .inl (cA 0, 701, .inl f2_1)), (k3, .inl (cA 1, 701, .inr (.inl f3_1))), (b0, .inl (cA 2, 700, .inl fb))]) 5 hP hD [] [0, 1, 2, 3, 4] rfl rfl (by decide) (by decide) hk1 hFc hP1 hD1 rfl
      generalize H1 = H at hP hS ⊢
      obtain rfl : rn13 = (ckd (fb i1)) := hw
      refine lv_istore (lv' := [(6, .int (ckd (fb i1))), (5, .int (nI i1)), (4, .int x4_1), (3, .int (nI rni)), (0, .ref r1), (1, .ref b0), (2, .int (nI ln))]) hx hb dX5_split_33 hl (by decide) rfl (fun ls hl => ?_)
      refine lv_iload hx hb dX5_split_35 (lv_at hl 0 rfl) ?_
      refine lv_iload hx hb dX5_split_37 (lv_at hl 2 rfl) ?_
      refine lv_icmp_ne (tgt := 58) hx hb dX5_split_39 (by decide) (fun c14 => ?_) (fun c14 => ?_)
      · skip
        refine lv_iconst (v := 0) hx hb dX5_split_58 (by decide) ?_
        refine lv_istore (lv' := [(7, .int 0), (6, .int (ckd (fb i1))), (5, .int (nI i1)), (4, .int x4_1), (3, .int (nI rni)), (0, .ref r1), (1, .ref b0), (2, .int (nI ln))]) hx hb dX5_split_59 hl (by decide) rfl (fun ls hl => ?_)
        refine lv_iload hx hb dX5_split_61 (lv_at hl 0 rfl) ?_
        refine lv_if_eq (tgt := 72) hx hb dX5_split_63 (by decide) (fun c15 => ?_) (fun c9 => absurd c9 (by decide))
        refine lv_iconst (v := 1) hx hb dX5_split_72 (by decide) ?_
        refine lv_istore_n (lv' := [(3, .int 1), (7, .int 0), (6, .int (ckd (fb i1))), (5, .int (nI i1)), (4, .int x4_1), (0, .ref r1), (1, .ref b0), (2, .int (nI ln))]) hx hb dX5_split_73 rfl hl (by decide) rfl (fun ls hl => ?_)
        refine lv_iload hx hb dX5_split_74 (lv_at hl 1 rfl) ?_
        refine lv_if_eq (tgt := 93) hx hb dX5_split_76 (by decide) (fun c16 => ?_) (fun c9 => absurd c9 (by decide))
        refine lv_iload hx hb dX5_split_93 (lv_at hl 2 rfl) ?_
        refine lv_if_eq (tgt := 116) hx hb dX5_split_95 (by decide) (fun c17 => ?_) (fun c17 => ?_)
        · skip
          refine lv_iload hx hb dX5_split_116 (lv_at hl 2 rfl) ?_
          refine lv_istore (lv' := [(4, .int (ckd (fb i1))), (3, .int 1), (7, .int 0), (6, .int (ckd (fb i1))), (5, .int (nI i1)), (0, .ref r1), (1, .ref b0), (2, .int (nI ln))]) hx hb dX5_split_118 hl (by decide) rfl (fun ls hl => ?_)
          refine lv_iinc (v := (nI (i1 + 1))) (lv' := [(5, .int (nI (i1 + 1))), (4, .int (ckd (fb i1))), (3, .int 1), (7, .int 0), (6, .int (ckd (fb i1))), (0, .ref r1), (1, .ref b0), (2, .int (nI ln))]) hx hb dX5_split_120 hl (k := 4) rfl (nI_1 _) (by decide) rfl (fun ls hl => ?_)
          refine lv_goto (tgt := 13) hx hb dX5_split_123 (by decide) ?_
          obtain ⟨hP9, hD9⟩ := PDq.sub (ws' := [(oX5 r1 k1 k2 k3 (nI ci)), (k1, .inl (cA 0, 701, .inl f1_1)), (k2, .inl (cA 0, 701, .inl f2_1)), (k3, .inl (cA 1, 701, .inr (.inl f3_1))), (b0, .inl (cA 2, 700, .inl fb))]) hP hD [0, 1, 2, 3, 4] (by decide) rfl
          exact ih1 (i1 + 1) 1 (ckd (fb i1)) ci f1_1 f2_1 f3_1 H _ ls (by omega) (by omega) (by omega) (Sp.blankx 1 hv2_1 c17) hP9 hD9 hS (lv_sub hl [0, 1, 2, 5, 6, 7] rfl)
        · skip
          refine lv_aload_n hx hb dX5_split_98 rfl (lv_at hl 5 rfl) ?_
          refine lv_iload hx hb dX5_split_99 (lv_at hl 2 rfl) ?_
          refine lv_iload hx hb dX5_split_101 (lv_at hl 3 rfl) ?_
          refine lv_iload hx hb dX5_split_103 (lv_at hl 2 rfl) ?_
          refine lv_lconst (v := 0) hx hb dX5_split_105 (by decide) ?_
          refine lv_aload_n hx hb dX5_split_106 rfl (lv_at hl 6 rfl) ?_
          refine lv_iload hx hb dX5_split_107 (lv_at hl 3 rfl) ?_
          refine va_cald hx hb hK hP 4 2 rfl rfl (vp_in_nI (n := i1) (N := 700) (show i1 < 700 by omega) (by decide)) dX5_split_109 ?_
          refine lv_topi (fun yn18 eyn18 => ?_)
          obtain rfl : yn18 = (fb i1) := eyn18.trans (by rw [nI_clamp (by omega)])
          obtain ⟨hPc, hDc, hFc⟩ := PDq.cut (wc := []) hP hD hS hA [] (by decide) rfl
          refine va_calll (va_runS (As := [.int (ckd (fb i1)), .long 0, .int (fb i1)]) (rest := [.int (nI i1), .int (ckd (fb i1)), .ref r1]) ⟨hx, hb, hml, hown, hts⟩ (x_extended l D cA sa 0 (ckd (fb i1)) (fb i1) H.size (fun h9 => h9)) (va_cwS 3 hts gX5_split_X5_extended rfl rfl rfl (by decide +kernel) ⟨(Nat.le_of_ble_eq_true rfl), (Nat.le_of_ble_eq_true rfl)⟩) ⟨Wd.blind, fun U hU hW => ⟨rfl, Wd.call hPc hDc hK hC hZ hS hFc U hU hW⟩⟩ rfl rfl hl.1 rfl (lv_room (Nat.le_of_ble_eq_true rfl)) dX5_split_110 ⟨(Nat.le_of_ble_eq_true rfl), (Nat.le_of_ble_eq_true rfl)⟩) hS (fun q _ h => hFc q h) hFc (fun rn19 u t H1 locs ht hvm hw hB hz1 hk1 hS => ?_)
          obtain ⟨hP1, hD1⟩ := hB
          rw [ht] at hP1
          obtain ⟨hP, hD⟩ := PDq.join (w := [(oX5 r1 k1 k2 k3 (nI ci)), (k1, .inl (cA 0, 701, .inl f1_1)), (k2, .inl (cA 0, 701, .inl f2_1)), (k3, .inl (cA 1, 701, .inr (.inl f3_1))), (b0, .inl (cA 2, 700, .inl fb))]) 5 hP hD [] [0, 1, 2, 3, 4] rfl rfl (by decide) (by decide) hk1 hFc hP1 hD1 rfl
          generalize H1 = H at hP hS ⊢
          obtain rfl : rn19 = (if (ckd (fb i1)) = 4 then 32 * 0 + (fb i1).toInt64 - 96 else if (ckd (fb i1)) = 3 then 0 * 10 + ((fb i1) - 48).toInt64 else 0) := hw
          obtain ⟨hPc, hDc, hFc⟩ := PDq.cut (wc := [(oX5 r1 k1 k2 k3 (nI ci)), (k1, .inl (cA 0, 701, .inl f1_1)), (k2, .inl (cA 0, 701, .inl f2_1)), (k3, .inl (cA 1, 701, .inr (.inl f3_1)))]) hP hD hS hA [0, 1, 2, 3] (by decide) rfl
          refine va_callv (va_runV (As := [.int (ckd (fb i1)), .int (nI i1), .long (if (ckd (fb i1)) = 4 then 32 * 0 + (fb i1).toInt64 - 96 else if (ckd (fb i1)) = 3 then 0 * 10 + ((fb i1) - 48).toInt64 else 0)]) (rest := []) ⟨hx, hb, hml, hown, hts⟩ (x_addTok l D cA sa r1 k1 k2 k3 ci f1_1 f2_1 f3_1 (ckd (fb i1)) (nI i1) (if (ckd (fb i1)) = 4 then 32 * 0 + (fb i1).toInt64 - 96 else if (ckd (fb i1)) = 3 then 0 * 10 + ((fb i1) - 48).toInt64 else 0) H.size (by omega)) (cwV 3 hts gX5_split_X5_add rfl rfl rfl (by decide +kernel) ⟨(Nat.le_of_ble_eq_true rfl), (Nat.le_of_ble_eq_true rfl)⟩) ⟨Wd.blind, va_recv hK hPc (ci := 9) (q0 := 0) rfl rfl, fun U hU hW => ⟨rfl, Wd.call hPc hDc hK hC hZ hS hFc U hU hW⟩⟩ rfl rfl hl.1 rfl (lv_room (Nat.le_of_ble_eq_true rfl)) dX5_split_113 ⟨(Nat.le_of_ble_eq_true rfl), (Nat.le_of_ble_eq_true rfl)⟩) hS (fun q _ h => hFc q h) hFc (fun u t H1 locs ht hvm hw hB hz1 hk1 hS => ?_)
          obtain ⟨fn20, fn21, fn22, hn23, hn24, hn25, hP1, hD1⟩ := hB
          rw [ht] at hP1
          obtain ⟨hP, hD⟩ := PDq.join (w := [(b0, .inl (cA 2, 700, .inl fb)), (oX5 r1 k1 k2 k3 (nI (ci + 1))), (k1, .inl (cA 0, 701, .inl fn20)), (k2, .inl (cA 0, 701, .inl fn21)), (k3, .inl (cA 1, 701, .inr (.inl fn22)))]) 1 hP hD [0, 1, 2, 3] [4] rfl rfl (by decide) (by decide) hk1 hFc hP1 hD1 rfl
          generalize H1 = H at hP hS ⊢
          refine lv_iload hx hb dX5_split_116 (lv_at hl 2 rfl) ?_
          refine lv_istore (lv' := [(4, .int (ckd (fb i1))), (3, .int 1), (7, .int 0), (6, .int (ckd (fb i1))), (5, .int (nI i1)), (0, .ref r1), (1, .ref b0), (2, .int (nI ln))]) hx hb dX5_split_118 hl (by decide) rfl (fun ls hl => ?_)
          refine lv_iinc (v := (nI (i1 + 1))) (lv' := [(5, .int (nI (i1 + 1))), (4, .int (ckd (fb i1))), (3, .int 1), (7, .int 0), (6, .int (ckd (fb i1))), (0, .ref r1), (1, .ref b0), (2, .int (nI ln))]) hx hb dX5_split_120 hl (k := 4) rfl (nI_1 _) (by decide) rfl (fun ls hl => ?_)
          refine lv_goto (tgt := 13) hx hb dX5_split_123 (by decide) ?_
          obtain ⟨hP9, hD9⟩ := PDq.sub (ws' := [(oX5 r1 k1 k2 k3 (nI (ci + 1))), (k1, .inl (cA 0, 701, .inl fn20)), (k2, .inl (cA 0, 701, .inl fn21)), (k3, .inl (cA 1, 701, .inr (.inl fn22))), (b0, .inl (cA 2, 700, .inl fb))]) hP hD [1, 2, 3, 4, 0] (by decide) rfl
          exact ih1 (i1 + 1) 1 (ckd (fb i1)) (ci + 1) fn20 fn21 fn22 H _ ls (by omega) (by omega) (by omega) (Sp.newx hv2_1 (fun q => c14 q.1) c17 hn23 hn24 hn25) hP9 hD9 hS (lv_sub hl [0, 1, 2, 5, 6, 7] rfl)
      · skip
        refine lv_iload hx hb dX5_split_42 (lv_at hl 0 rfl) ?_
        refine lv_iconst (v := 4) hx hb dX5_split_44 (by decide) ?_
        refine lv_icmp_eq (tgt := 54) hx hb dX5_split_45 (by decide) (fun c26 => ?_) (fun c26 => ?_)
        · skip
          refine lv_iconst (v := 1) hx hb dX5_split_54 (by decide) ?_
          refine lv_goto (tgt := 59) hx hb dX5_split_55 (by decide) ?_
          refine lv_istore (lv' := [(7, .int 1), (6, .int (ckd (fb i1))), (5, .int (nI i1)), (4, .int x4_1), (3, .int (nI rni)), (0, .ref r1), (1, .ref b0), (2, .int (nI ln))]) hx hb dX5_split_59 hl (by decide) rfl (fun ls hl => ?_)
          refine lv_iload hx hb dX5_split_61 (lv_at hl 0 rfl) ?_
          refine lv_if_eq (tgt := 72) hx hb dX5_split_63 (by decide) (fun c9 => absurd c9 (by decide)) (fun c27 => ?_)
          refine lv_iload_n hx hb dX5_split_66 rfl (lv_at hl 4 rfl) ?_
          refine lv_iconst (v := 1) hx hb dX5_split_67 (by decide) ?_
          refine lv_iadd hx hb dX5_split_68 ?_
          refine lv_topi (fun yn28 eyn28 => ?_)
          obtain rfl : yn28 = (nI (rni + 1)) := eyn28.trans (nI_add rni 1)
          refine lv_goto (tgt := 73) hx hb dX5_split_69 (by decide) ?_
          refine lv_istore_n (lv' := [(3, .int (nI (rni + 1))), (7, .int 1), (6, .int (ckd (fb i1))), (5, .int (nI i1)), (4, .int x4_1), (0, .ref r1), (1, .ref b0), (2, .int (nI ln))]) hx hb dX5_split_73 rfl hl (by decide) rfl (fun ls hl => ?_)
          refine lv_iload hx hb dX5_split_74 (lv_at hl 1 rfl) ?_
          refine lv_if_eq (tgt := 93) hx hb dX5_split_76 (by decide) (fun c9 => absurd c9 (by decide)) (fun c29 => ?_)
          have hn30 : 0 < ci := Sp.pos hv2_1 c14 (Or.inl c26)
          refine lv_aload_n hx hb dX5_split_79 rfl (lv_at hl 5 rfl) ?_
          refine lv_iload hx hb dX5_split_80 (lv_at hl 2 rfl) ?_
          refine lv_aload_n hx hb dX5_split_82 rfl (lv_at hl 6 rfl) ?_
          refine lv_iload hx hb dX5_split_83 (lv_at hl 3 rfl) ?_
          refine va_cald hx hb hK hP 4 2 rfl rfl (vp_in_nI (n := i1) (N := 700) (show i1 < 700 by omega) (by decide)) dX5_split_85 ?_
          refine lv_topi (fun yn31 eyn31 => ?_)
          obtain rfl : yn31 = (fb i1) := eyn31.trans (by rw [nI_clamp (by omega)])
          refine lv_iload_n hx hb dX5_split_86 rfl (lv_at hl 0 rfl) ?_
          obtain ⟨hPc, hDc, hFc⟩ := PDq.cut (wc := [(oX5 r1 k1 k2 k3 (nI ci)), (k1, .inl (cA 0, 701, .inl f1_1)), (k2, .inl (cA 0, 701, .inl f2_1)), (k3, .inl (cA 1, 701, .inr (.inl f3_1)))]) hP hD hS hA [0, 1, 2, 3] (by decide) rfl
          refine va_callv (va_runV (As := [.int (ckd (fb i1)), .int (fb i1), .int (nI (rni + 1))]) (rest := []) ⟨hx, hb, hml, hown, hts⟩ (x_extendLast l D cA sa r1 k1 k2 k3 ci f1_1 f2_1 f3_1 (ckd (fb i1)) (fb i1) (rni + 1) H.size (by omega) hn30 (fun h9 => h9) (by omega)) (cwV 3 hts gX5_split_X5_extendLast rfl rfl rfl (by decide +kernel) ⟨(Nat.le_of_ble_eq_true rfl), (Nat.le_of_ble_eq_true rfl)⟩) ⟨Wd.blind, va_recv hK hPc (ci := 9) (q0 := 0) rfl rfl, fun U hU hW => ⟨rfl, Wd.call hPc hDc hK hC hZ hS hFc U hU hW⟩⟩ rfl rfl hl.1 rfl (lv_room (Nat.le_of_ble_eq_true rfl)) dX5_split_87 ⟨(Nat.le_of_ble_eq_true rfl), (Nat.le_of_ble_eq_true rfl)⟩) hS (fun q _ h => hFc q h) hFc (fun u t H1 locs ht hvm hw hB hz1 hk1 hS => ?_)
          obtain ⟨fn32, fn33, hn34, hn35, hP1, hD1⟩ := hB
          rw [ht] at hP1
          obtain ⟨hP, hD⟩ := PDq.join (w := [(b0, .inl (cA 2, 700, .inl fb)), (oX5 r1 k1 k2 k3 (nI ci)), (k1, .inl (cA 0, 701, .inl fn32)), (k2, .inl (cA 0, 701, .inl f2_1)), (k3, .inl (cA 1, 701, .inr (.inl fn33)))]) 1 hP hD [0, 1, 2, 3] [4] rfl rfl (by decide) (by decide) hk1 hFc hP1 hD1 rfl
          generalize H1 = H at hP hS ⊢
          refine lv_goto (tgt := 116) hx hb dX5_split_90 (by decide) ?_
          refine lv_iload hx hb dX5_split_116 (lv_at hl 2 rfl) ?_
          refine lv_istore (lv' := [(4, .int (ckd (fb i1))), (3, .int (nI (rni + 1))), (7, .int 1), (6, .int (ckd (fb i1))), (5, .int (nI i1)), (0, .ref r1), (1, .ref b0), (2, .int (nI ln))]) hx hb dX5_split_118 hl (by decide) rfl (fun ls hl => ?_)
          refine lv_iinc (v := (nI (i1 + 1))) (lv' := [(5, .int (nI (i1 + 1))), (4, .int (ckd (fb i1))), (3, .int (nI (rni + 1))), (7, .int 1), (6, .int (ckd (fb i1))), (0, .ref r1), (1, .ref b0), (2, .int (nI ln))]) hx hb dX5_split_120 hl (k := 4) rfl (nI_1 _) (by decide) rfl (fun ls hl => ?_)
          refine lv_goto (tgt := 13) hx hb dX5_split_123 (by decide) ?_
          obtain ⟨hP9, hD9⟩ := PDq.sub (ws' := [(oX5 r1 k1 k2 k3 (nI ci)), (k1, .inl (cA 0, 701, .inl fn32)), (k2, .inl (cA 0, 701, .inl f2_1)), (k3, .inl (cA 1, 701, .inr (.inl fn33))), (b0, .inl (cA 2, 700, .inl fb))]) hP hD [1, 2, 3, 4, 0] (by decide) rfl
          exact ih1 (i1 + 1) (rni + 1) (ckd (fb i1)) ci fn32 f2_1 fn33 H _ ls (by omega) (by omega) (by omega) (Sp.extx hv2_1 c14 (Or.inl c26) hn34 hn35) hP9 hD9 hS (lv_sub hl [0, 1, 2, 5, 6, 7] rfl)
        · skip
          refine lv_iload hx hb dX5_split_48 (lv_at hl 0 rfl) ?_
          refine lv_iconst (v := 3) hx hb dX5_split_50 (by decide) ?_
          refine lv_icmp_ne (tgt := 58) hx hb dX5_split_51 (by decide) (fun c36 => ?_) (fun c36 => ?_)
          · skip
            refine lv_iconst (v := 0) hx hb dX5_split_58 (by decide) ?_
            refine lv_istore (lv' := [(7, .int 0), (6, .int (ckd (fb i1))), (5, .int (nI i1)), (4, .int x4_1), (3, .int (nI rni)), (0, .ref r1), (1, .ref b0), (2, .int (nI ln))]) hx hb dX5_split_59 hl (by decide) rfl (fun ls hl => ?_)
            refine lv_iload hx hb dX5_split_61 (lv_at hl 0 rfl) ?_
            refine lv_if_eq (tgt := 72) hx hb dX5_split_63 (by decide) (fun c37 => ?_) (fun c9 => absurd c9 (by decide))
            refine lv_iconst (v := 1) hx hb dX5_split_72 (by decide) ?_
            refine lv_istore_n (lv' := [(3, .int 1), (7, .int 0), (6, .int (ckd (fb i1))), (5, .int (nI i1)), (4, .int x4_1), (0, .ref r1), (1, .ref b0), (2, .int (nI ln))]) hx hb dX5_split_73 rfl hl (by decide) rfl (fun ls hl => ?_)
            refine lv_iload hx hb dX5_split_74 (lv_at hl 1 rfl) ?_
            refine lv_if_eq (tgt := 93) hx hb dX5_split_76 (by decide) (fun c38 => ?_) (fun c9 => absurd c9 (by decide))
            refine lv_iload hx hb dX5_split_93 (lv_at hl 2 rfl) ?_
            refine lv_if_eq (tgt := 116) hx hb dX5_split_95 (by decide) (fun c39 => ?_) (fun c39 => ?_)
            · skip
              refine lv_iload hx hb dX5_split_116 (lv_at hl 2 rfl) ?_
              refine lv_istore (lv' := [(4, .int (ckd (fb i1))), (3, .int 1), (7, .int 0), (6, .int (ckd (fb i1))), (5, .int (nI i1)), (0, .ref r1), (1, .ref b0), (2, .int (nI ln))]) hx hb dX5_split_118 hl (by decide) rfl (fun ls hl => ?_)
              refine lv_iinc (v := (nI (i1 + 1))) (lv' := [(5, .int (nI (i1 + 1))), (4, .int (ckd (fb i1))), (3, .int 1), (7, .int 0), (6, .int (ckd (fb i1))), (0, .ref r1), (1, .ref b0), (2, .int (nI ln))]) hx hb dX5_split_120 hl (k := 4) rfl (nI_1 _) (by decide) rfl (fun ls hl => ?_)
              refine lv_goto (tgt := 13) hx hb dX5_split_123 (by decide) ?_
              obtain ⟨hP9, hD9⟩ := PDq.sub (ws' := [(oX5 r1 k1 k2 k3 (nI ci)), (k1, .inl (cA 0, 701, .inl f1_1)), (k2, .inl (cA 0, 701, .inl f2_1)), (k3, .inl (cA 1, 701, .inr (.inl f3_1))), (b0, .inl (cA 2, 700, .inl fb))]) hP hD [0, 1, 2, 3, 4] (by decide) rfl
              exact ih1 (i1 + 1) 1 (ckd (fb i1)) ci f1_1 f2_1 f3_1 H _ ls (by omega) (by omega) (by omega) (Sp.blankx 1 hv2_1 c39) hP9 hD9 hS (lv_sub hl [0, 1, 2, 5, 6, 7] rfl)
            · skip
              refine lv_aload_n hx hb dX5_split_98 rfl (lv_at hl 5 rfl) ?_
              refine lv_iload hx hb dX5_split_99 (lv_at hl 2 rfl) ?_
              refine lv_iload hx hb dX5_split_101 (lv_at hl 3 rfl) ?_
              refine lv_iload hx hb dX5_split_103 (lv_at hl 2 rfl) ?_
              refine lv_lconst (v := 0) hx hb dX5_split_105 (by decide) ?_
              refine lv_aload_n hx hb dX5_split_106 rfl (lv_at hl 6 rfl) ?_
              refine lv_iload hx hb dX5_split_107 (lv_at hl 3 rfl) ?_
              refine va_cald hx hb hK hP 4 2 rfl rfl (vp_in_nI (n := i1) (N := 700) (show i1 < 700 by omega) (by decide)) dX5_split_109 ?_
              refine lv_topi (fun yn40 eyn40 => ?_)
              obtain rfl : yn40 = (fb i1) := eyn40.trans (by rw [nI_clamp (by omega)])
              obtain ⟨hPc, hDc, hFc⟩ := PDq.cut (wc := []) hP hD hS hA [] (by decide) rfl
              refine va_calll (va_runS (As := [.int (ckd (fb i1)), .long 0, .int (fb i1)]) (rest := [.int (nI i1), .int (ckd (fb i1)), .ref r1]) ⟨hx, hb, hml, hown, hts⟩ (x_extended l D cA sa 0 (ckd (fb i1)) (fb i1) H.size (fun h9 => h9)) (va_cwS 3 hts gX5_split_X5_extended rfl rfl rfl (by decide +kernel) ⟨(Nat.le_of_ble_eq_true rfl), (Nat.le_of_ble_eq_true rfl)⟩) ⟨Wd.blind, fun U hU hW => ⟨rfl, Wd.call hPc hDc hK hC hZ hS hFc U hU hW⟩⟩ rfl rfl hl.1 rfl (lv_room (Nat.le_of_ble_eq_true rfl)) dX5_split_110 ⟨(Nat.le_of_ble_eq_true rfl), (Nat.le_of_ble_eq_true rfl)⟩) hS (fun q _ h => hFc q h) hFc (fun rn41 u t H1 locs ht hvm hw hB hz1 hk1 hS => ?_)
              obtain ⟨hP1, hD1⟩ := hB
              rw [ht] at hP1
              obtain ⟨hP, hD⟩ := PDq.join (w := [(oX5 r1 k1 k2 k3 (nI ci)), (k1, .inl (cA 0, 701, .inl f1_1)), (k2, .inl (cA 0, 701, .inl f2_1)), (k3, .inl (cA 1, 701, .inr (.inl f3_1))), (b0, .inl (cA 2, 700, .inl fb))]) 5 hP hD [] [0, 1, 2, 3, 4] rfl rfl (by decide) (by decide) hk1 hFc hP1 hD1 rfl
              generalize H1 = H at hP hS ⊢
              obtain rfl : rn41 = (if (ckd (fb i1)) = 4 then 32 * 0 + (fb i1).toInt64 - 96 else if (ckd (fb i1)) = 3 then 0 * 10 + ((fb i1) - 48).toInt64 else 0) := hw
              obtain ⟨hPc, hDc, hFc⟩ := PDq.cut (wc := [(oX5 r1 k1 k2 k3 (nI ci)), (k1, .inl (cA 0, 701, .inl f1_1)), (k2, .inl (cA 0, 701, .inl f2_1)), (k3, .inl (cA 1, 701, .inr (.inl f3_1)))]) hP hD hS hA [0, 1, 2, 3] (by decide) rfl
              refine va_callv (va_runV (As := [.int (ckd (fb i1)), .int (nI i1), .long (if (ckd (fb i1)) = 4 then 32 * 0 + (fb i1).toInt64 - 96 else if (ckd (fb i1)) = 3 then 0 * 10 + ((fb i1) - 48).toInt64 else 0)]) (rest := []) ⟨hx, hb, hml, hown, hts⟩ (x_addTok l D cA sa r1 k1 k2 k3 ci f1_1 f2_1 f3_1 (ckd (fb i1)) (nI i1) (if (ckd (fb i1)) = 4 then 32 * 0 + (fb i1).toInt64 - 96 else if (ckd (fb i1)) = 3 then 0 * 10 + ((fb i1) - 48).toInt64 else 0) H.size (by omega)) (cwV 3 hts gX5_split_X5_add rfl rfl rfl (by decide +kernel) ⟨(Nat.le_of_ble_eq_true rfl), (Nat.le_of_ble_eq_true rfl)⟩) ⟨Wd.blind, va_recv hK hPc (ci := 9) (q0 := 0) rfl rfl, fun U hU hW => ⟨rfl, Wd.call hPc hDc hK hC hZ hS hFc U hU hW⟩⟩ rfl rfl hl.1 rfl (lv_room (Nat.le_of_ble_eq_true rfl)) dX5_split_113 ⟨(Nat.le_of_ble_eq_true rfl), (Nat.le_of_ble_eq_true rfl)⟩) hS (fun q _ h => hFc q h) hFc (fun u t H1 locs ht hvm hw hB hz1 hk1 hS => ?_)
              obtain ⟨fn42, fn43, fn44, hn45, hn46, hn47, hP1, hD1⟩ := hB
              rw [ht] at hP1
              obtain ⟨hP, hD⟩ := PDq.join (w := [(b0, .inl (cA 2, 700, .inl fb)), (oX5 r1 k1 k2 k3 (nI (ci + 1))), (k1, .inl (cA 0, 701, .inl fn42)), (k2, .inl (cA 0, 701, .inl fn43)), (k3, .inl (cA 1, 701, .inr (.inl fn44)))]) 1 hP hD [0, 1, 2, 3] [4] rfl rfl (by decide) (by decide) hk1 hFc hP1 hD1 rfl
              generalize H1 = H at hP hS ⊢
              refine lv_iload hx hb dX5_split_116 (lv_at hl 2 rfl) ?_
              refine lv_istore (lv' := [(4, .int (ckd (fb i1))), (3, .int 1), (7, .int 0), (6, .int (ckd (fb i1))), (5, .int (nI i1)), (0, .ref r1), (1, .ref b0), (2, .int (nI ln))]) hx hb dX5_split_118 hl (by decide) rfl (fun ls hl => ?_)
              refine lv_iinc (v := (nI (i1 + 1))) (lv' := [(5, .int (nI (i1 + 1))), (4, .int (ckd (fb i1))), (3, .int 1), (7, .int 0), (6, .int (ckd (fb i1))), (0, .ref r1), (1, .ref b0), (2, .int (nI ln))]) hx hb dX5_split_120 hl (k := 4) rfl (nI_1 _) (by decide) rfl (fun ls hl => ?_)
              refine lv_goto (tgt := 13) hx hb dX5_split_123 (by decide) ?_
              obtain ⟨hP9, hD9⟩ := PDq.sub (ws' := [(oX5 r1 k1 k2 k3 (nI (ci + 1))), (k1, .inl (cA 0, 701, .inl fn42)), (k2, .inl (cA 0, 701, .inl fn43)), (k3, .inl (cA 1, 701, .inr (.inl fn44))), (b0, .inl (cA 2, 700, .inl fb))]) hP hD [1, 2, 3, 4, 0] (by decide) rfl
              exact ih1 (i1 + 1) 1 (ckd (fb i1)) (ci + 1) fn42 fn43 fn44 H _ ls (by omega) (by omega) (by omega) (Sp.newx hv2_1 (fun q => q.2.elim c26 c36) c39 hn45 hn46 hn47) hP9 hD9 hS (lv_sub hl [0, 1, 2, 5, 6, 7] rfl)
          · skip
            refine lv_iconst (v := 1) hx hb dX5_split_54 (by decide) ?_
            refine lv_goto (tgt := 59) hx hb dX5_split_55 (by decide) ?_
            refine lv_istore (lv' := [(7, .int 1), (6, .int (ckd (fb i1))), (5, .int (nI i1)), (4, .int x4_1), (3, .int (nI rni)), (0, .ref r1), (1, .ref b0), (2, .int (nI ln))]) hx hb dX5_split_59 hl (by decide) rfl (fun ls hl => ?_)
            refine lv_iload hx hb dX5_split_61 (lv_at hl 0 rfl) ?_
            refine lv_if_eq (tgt := 72) hx hb dX5_split_63 (by decide) (fun c9 => absurd c9 (by decide)) (fun c48 => ?_)
            refine lv_iload_n hx hb dX5_split_66 rfl (lv_at hl 4 rfl) ?_
            refine lv_iconst (v := 1) hx hb dX5_split_67 (by decide) ?_
            refine lv_iadd hx hb dX5_split_68 ?_
            refine lv_topi (fun yn49 eyn49 => ?_)
            obtain rfl : yn49 = (nI (rni + 1)) := eyn49.trans (nI_add rni 1)
            refine lv_goto (tgt := 73) hx hb dX5_split_69 (by decide) ?_
            refine lv_istore_n (lv' := [(3, .int (nI (rni + 1))), (7, .int 1), (6, .int (ckd (fb i1))), (5, .int (nI i1)), (4, .int x4_1), (0, .ref r1), (1, .ref b0), (2, .int (nI ln))]) hx hb dX5_split_73 rfl hl (by decide) rfl (fun ls hl => ?_)
            refine lv_iload hx hb dX5_split_74 (lv_at hl 1 rfl) ?_
            refine lv_if_eq (tgt := 93) hx hb dX5_split_76 (by decide) (fun c9 => absurd c9 (by decide)) (fun c50 => ?_)
            have hn51 : 0 < ci := Sp.pos hv2_1 c14 (Or.inr c36)
            refine lv_aload_n hx hb dX5_split_79 rfl (lv_at hl 5 rfl) ?_
            refine lv_iload hx hb dX5_split_80 (lv_at hl 2 rfl) ?_
            refine lv_aload_n hx hb dX5_split_82 rfl (lv_at hl 6 rfl) ?_
            refine lv_iload hx hb dX5_split_83 (lv_at hl 3 rfl) ?_
            refine va_cald hx hb hK hP 4 2 rfl rfl (vp_in_nI (n := i1) (N := 700) (show i1 < 700 by omega) (by decide)) dX5_split_85 ?_
            refine lv_topi (fun yn52 eyn52 => ?_)
            obtain rfl : yn52 = (fb i1) := eyn52.trans (by rw [nI_clamp (by omega)])
            refine lv_iload_n hx hb dX5_split_86 rfl (lv_at hl 0 rfl) ?_
            obtain ⟨hPc, hDc, hFc⟩ := PDq.cut (wc := [(oX5 r1 k1 k2 k3 (nI ci)), (k1, .inl (cA 0, 701, .inl f1_1)), (k2, .inl (cA 0, 701, .inl f2_1)), (k3, .inl (cA 1, 701, .inr (.inl f3_1)))]) hP hD hS hA [0, 1, 2, 3] (by decide) rfl
            refine va_callv (va_runV (As := [.int (ckd (fb i1)), .int (fb i1), .int (nI (rni + 1))]) (rest := []) ⟨hx, hb, hml, hown, hts⟩ (x_extendLast l D cA sa r1 k1 k2 k3 ci f1_1 f2_1 f3_1 (ckd (fb i1)) (fb i1) (rni + 1) H.size (by omega) hn51 (fun h9 => h9) (by omega)) (cwV 3 hts gX5_split_X5_extendLast rfl rfl rfl (by decide +kernel) ⟨(Nat.le_of_ble_eq_true rfl), (Nat.le_of_ble_eq_true rfl)⟩) ⟨Wd.blind, va_recv hK hPc (ci := 9) (q0 := 0) rfl rfl, fun U hU hW => ⟨rfl, Wd.call hPc hDc hK hC hZ hS hFc U hU hW⟩⟩ rfl rfl hl.1 rfl (lv_room (Nat.le_of_ble_eq_true rfl)) dX5_split_87 ⟨(Nat.le_of_ble_eq_true rfl), (Nat.le_of_ble_eq_true rfl)⟩) hS (fun q _ h => hFc q h) hFc (fun u t H1 locs ht hvm hw hB hz1 hk1 hS => ?_)
            obtain ⟨fn53, fn54, hn55, hn56, hP1, hD1⟩ := hB
            rw [ht] at hP1
            obtain ⟨hP, hD⟩ := PDq.join (w := [(b0, .inl (cA 2, 700, .inl fb)), (oX5 r1 k1 k2 k3 (nI ci)), (k1, .inl (cA 0, 701, .inl fn53)), (k2, .inl (cA 0, 701, .inl f2_1)), (k3, .inl (cA 1, 701, .inr (.inl fn54)))]) 1 hP hD [0, 1, 2, 3] [4] rfl rfl (by decide) (by decide) hk1 hFc hP1 hD1 rfl
            generalize H1 = H at hP hS ⊢
            refine lv_goto (tgt := 116) hx hb dX5_split_90 (by decide) ?_
            refine lv_iload hx hb dX5_split_116 (lv_at hl 2 rfl) ?_
            refine lv_istore (lv' := [(4, .int (ckd (fb i1))), (3, .int (nI (rni + 1))), (7, .int 1), (6, .int (ckd (fb i1))), (5, .int (nI i1)), (0, .ref r1), (1, .ref b0), (2, .int (nI ln))]) hx hb dX5_split_118 hl (by decide) rfl (fun ls hl => ?_)
            refine lv_iinc (v := (nI (i1 + 1))) (lv' := [(5, .int (nI (i1 + 1))), (4, .int (ckd (fb i1))), (3, .int (nI (rni + 1))), (7, .int 1), (6, .int (ckd (fb i1))), (0, .ref r1), (1, .ref b0), (2, .int (nI ln))]) hx hb dX5_split_120 hl (k := 4) rfl (nI_1 _) (by decide) rfl (fun ls hl => ?_)
            refine lv_goto (tgt := 13) hx hb dX5_split_123 (by decide) ?_
            obtain ⟨hP9, hD9⟩ := PDq.sub (ws' := [(oX5 r1 k1 k2 k3 (nI ci)), (k1, .inl (cA 0, 701, .inl fn53)), (k2, .inl (cA 0, 701, .inl f2_1)), (k3, .inl (cA 1, 701, .inr (.inl fn54))), (b0, .inl (cA 2, 700, .inl fb))]) hP hD [1, 2, 3, 4, 0] (by decide) rfl
            exact ih1 (i1 + 1) (rni + 1) (ckd (fb i1)) ci fn53 f2_1 fn54 H _ ls (by omega) (by omega) (by omega) (Sp.extx hv2_1 c14 (Or.inr c36) hn55 hn56) hP9 hD9 hS (lv_sub hl [0, 1, 2, 5, 6, 7] rfl)
  obtain ⟨hP9, hD9⟩ := PDq.sub (ws' := [(oX5 r1 k1 k2 k3 0), (k1, .inl (cA 0, 701, .inl fk)), (k2, .inl (cA 0, 701, .inl ft)), (k3, .inl (cA 1, 701, .inr (.inl fv))), (b0, .inl (cA 2, 700, .inl fb))]) hP hD [0, 1, 2, 3, 4] (by decide) rfl
  exact loop1 (ln - 0) 0 0 0 0 fk ft fv _ _ ls (by omega) (by omega) (by omega) (Sp.zero fb fk ft fv) hP9 hD9 hS (lv_sub hl [0, 1, 2, 3, 4, 5] rfl)

set_option maxHeartbeats 4000000 in
set_option maxRecDepth 100000 in
/-- lookAt -/
theorem x_lookAt (l : Launch) (D : va_G) (cA : Nat → ClassId) (sa : Nat → Nat) (r0 : Nat) (p0 : Nat) (tn : Nat) (ir2 : Int32) (ir3 : Int32) (ir4 : Int32) (ir6 : Int32) (ir7 : Int32) (ir8 : Int32) (ir5 : Int64) (r1 : Nat) (k1 : Nat) (k2 : Nat) (k3 : Nat) (ct : Nat) (fk : Nat → Int32) (ft : Nat → Int32) (fv : Nat → Int64) (sz : Nat) (hct : ct ≤ 701) (htn : tn < ct) : Met l yX4_lookAt wsX4_lookAt ({ frames := 0, cells := 0, slots := 0, locals := 0 }) (va_Pc [.ref r0, .int (nI tn)] (Wd D cA sa [(oX4 r0 r1 p0 ir2 ir3 ir4 ir5 ir6 ir7 ir8), (oX5 r1 k1 k2 k3 (nI ct)), (k1, .inl (cA 0, 701, .inl fk)), (k2, .inl (cA 0, 701, .inl ft)), (k3, .inl (cA 1, 701, .inr (.inl fv)))] sz)) (va_Qv (fun _ : Unit => True) (fun (_ : Unit) t => Wq D (va_A [(oX4 r0 r1 p0 ir2 ir3 ir4 ir5 ir6 ir7 ir8), (oX5 r1 k1 k2 k3 (nI ct)), (k1, .inl (cA 0, 701, .inl fk)), (k2, .inl (cA 0, 701, .inl ft)), (k3, .inl (cA 1, 701, .inr (.inl fv)))] sz) [(oX4 r0 r1 p0 (nI tn) (fk tn) (ft tn) (fv tn) ir6 ir7 ir8), (oX5 r1 k1 k2 k3 (nI ct)), (k1, .inl (cA 0, 701, .inl fk)), (k2, .inl (cA 0, 701, .inl ft)), (k3, .inl (cA 1, 701, .inr (.inl fv)))] t) (va_A [(oX4 r0 r1 p0 ir2 ir3 ir4 ir5 ir6 ir7 ir8), (oX5 r1 k1 k2 k3 (nI ct)), (k1, .inl (cA 0, 701, .inl fk)), (k2, .inl (cA 0, 701, .inl ft)), (k3, .inl (cA 1, 701, .inr (.inl fv)))] sz)) 0 0 (va_A [(oX4 r0 r1 p0 ir2 ir3 ir4 ir5 ir6 ir7 ir8), (oX5 r1 k1 k2 k3 (nI ct)), (k1, .inl (cA 0, 701, .inl fk)), (k2, .inl (cA 0, 701, .inl ft)), (k3, .inl (cA 1, 701, .inr (.inl fv)))] sz) := by
  refine Met.ofW (cc := cX4_lookAt) (maxL := 2) (ret := none) (by decide) rfl ?_
  intro p e s m args below meth c s₁ B hml hv
  obtain ⟨rfl, hsz, hP, hK, hD0, hC, hZ⟩ := hv
  have hx := B.exec
  have hb := B.bytes
  have hr := B.returns
  have hts := atoms_spec (ws := wsX4_lookAt) B.pre
  have hown : s.vm.findClass RX4 = some m.cls := findClass_of_methodNamed B.named
  have hlocks := B.notSynchronized
  subst hsz
  have hD := hD0.self (sz := s.heap.size)
  generalize hAe : va_A [(oX4 r0 r1 p0 ir2 ir3 ir4 ir5 ir6 ir7 ir8), (oX5 r1 k1 k2 k3 (nI ct)), (k1, .inl (cA 0, 701, .inl fk)), (k2, .inl (cA 0, 701, .inl ft)), (k3, .inl (cA 1, 701, .inr (.inl fv)))] s.heap.size = A at hD hZ ⊢
  have hA : ∀ q : Nat, s.heap.size ≤ q → A q := fun q h => by rw [← hAe]; exact Or.inr h
  have hS : va_S A s.heap s.heap [] := va_S.rf
  have hP : va_P D vwCl [(oX4 r0 r1 p0 ir2 ir3 ir4 ir5 ir6 ir7 ir8), (oX5 r1 k1 k2 k3 (nI ct)), (k1, .inl (cA 0, 701, .inl fk)), (k2, .inl (cA 0, 701, .inl ft)), (k3, .inl (cA 1, 701, .inr (.inl fv)))] s.heap := hP
  have hl := lv_entry ([.ref r0, .int (nI tn)]) (n := 2) (Nat.le_of_ble_eq_true rfl)
  rw [lg_entry_eq]
  generalize (lg_sl ([.ref r0, .int (nI tn)]) ++ List.replicate (2 - (lg_sl ([.ref r0, .int (nI tn)])).length) Slot.unset).toArray = ls at hl ⊢
  have hl : lv_has ls 2 [(0, .ref r0), (1, .int (nI tn))] := hl
  have inX4 : ∀ w ∈ u_ws RX4 TX4 9, w ∈ wsX4_lookAt := by decide +kernel
  have inX5 : ∀ w ∈ u_ws RX5 TX5 4, w ∈ wsX4_lookAt := by decide +kernel
  refine lv_iload_n hx hb dX4_lookAt_0 rfl (lv_at hl 1 rfl) ?_
  refine lv_if_lt (tgt := 59) hx hb dX4_lookAt_1 (by decide) (fun c9 => absurd c9 (nI_pos (n := tn) (by omega))) (fun c1 => ?_)
  refine lv_iload_n hx hb dX4_lookAt_4 rfl (lv_at hl 1 rfl) ?_
  refine lv_aload_n hx hb dX4_lookAt_5 rfl (lv_at hl 0 rfl) ?_
  refine va_get (D := D) (ci := 8) (v := .ref r1) (C := RX4) (T := TX4) (N := 9) hx hb hts inX4 hown hK hP 0 rfl rfl 0 (by decide) (hts (.fieldLink RX4 12 "EscrowDesk$Reader" "scanner" "LEscrowDesk$Scanner;") (by decide +kernel)) (fun _ h9 => h9) rfl dX4_lookAt_6 ?_
  refine va_getN (D := D) (ci := 9) (v := .int (nI ct)) (C := RX5) (T := TX5) (N := 4) hx hb hts inX5 hown hK hP 1 rfl rfl 3 (by decide) (hC.f (A := _) (a := RX4) (i := 67) (b := "EscrowDesk$Scanner") (n := "count") (d := "I") (x := "EscrowDesk") (by decide +kernel)) (fun _ h9 => h9) rfl dX4_lookAt_9 ?_
  refine lv_icmp_ge (tgt := 59) hx hb dX4_lookAt_12 (by decide) (fun c9 => absurd c9 (nI_ge (a := tn) (b := ct) (show tn < ct by omega) (by omega))) (fun c2 => ?_)
  refine lv_aload_n hx hb dX4_lookAt_15 rfl (lv_at hl 0 rfl) ?_
  refine lv_iload_n hx hb dX4_lookAt_16 rfl (lv_at hl 1 rfl) ?_
  refine va_put (D := D) (ci := 8) (v := .int (nI tn)) (ty := .int) (C := RX4) (T := TX4) (N := 9) hx hb hts inX4 tyX4 tyX4_ok nmX4 hown hK hP hD hS 0 rfl rfl 2 (by decide) (hts (.fieldLink RX4 70 "EscrowDesk$Reader" "token" "I") (by decide +kernel)) (fun _ h9 => h9) rfl (by decide +kernel) rfl rfl (Nat.le_of_ble_eq_true rfl) dX4_lookAt_17 (fun H locs hP hD hS => ?_)
  obtain ⟨hP, hD⟩ : PDq D A [(oX4 r0 r1 p0 (nI tn) ir3 ir4 ir5 ir6 ir7 ir8), (oX5 r1 k1 k2 k3 (nI ct)), (k1, .inl (cA 0, 701, .inl fk)), (k2, .inl (cA 0, 701, .inl ft)), (k3, .inl (cA 1, 701, .inr (.inl fv)))] H := ⟨hP, hD⟩
  refine lv_aload_n hx hb dX4_lookAt_20 rfl (lv_at hl 0 rfl) ?_
  refine lv_aload_n hx hb dX4_lookAt_21 rfl (lv_at hl 0 rfl) ?_
  refine va_get (D := D) (ci := 8) (v := .ref r1) (C := RX4) (T := TX4) (N := 9) hx hb hts inX4 hown hK hP 0 rfl rfl 0 (by decide) (hts (.fieldLink RX4 12 "EscrowDesk$Reader" "scanner" "LEscrowDesk$Scanner;") (by decide +kernel)) (fun _ h9 => h9) rfl dX4_lookAt_22 ?_
  refine va_getN (D := D) (ci := 9) (v := .ref k1) (C := RX5) (T := TX5) (N := 4) hx hb hts inX5 hown hK hP 1 rfl rfl 0 (by decide) (hC.f (A := _) (a := RX4) (i := 73) (b := "EscrowDesk$Scanner") (n := "kinds") (d := "[I") (x := "EscrowDesk") (by decide +kernel)) (fun _ h9 => h9) rfl dX4_lookAt_25 ?_
  refine lv_iload_n hx hb dX4_lookAt_28 rfl (lv_at hl 1 rfl) ?_
  refine va_iald hx hb hK hP 2 0 rfl rfl (vp_in_nI (n := tn) (N := 701) (show tn < 701 by omega) (by decide)) dX4_lookAt_29 ?_
  refine lv_topi (fun yn3 eyn3 => ?_)
  obtain rfl : yn3 = (fk tn) := eyn3.trans (by rw [nI_clamp (by omega)])
  refine va_put (D := D) (ci := 8) (v := .int (fk tn)) (ty := .int) (C := RX4) (T := TX4) (N := 9) hx hb hts inX4 tyX4 tyX4_ok nmX4 hown hK hP hD hS 0 rfl rfl 3 (by decide) (hts (.fieldLink RX4 42 "EscrowDesk$Reader" "kind" "I") (by decide +kernel)) (fun _ h9 => h9) rfl (by decide +kernel) rfl rfl (Nat.le_of_ble_eq_true rfl) dX4_lookAt_30 (fun H locs hP hD hS => ?_)
  obtain ⟨hP, hD⟩ : PDq D A [(oX4 r0 r1 p0 (nI tn) (fk tn) ir4 ir5 ir6 ir7 ir8), (oX5 r1 k1 k2 k3 (nI ct)), (k1, .inl (cA 0, 701, .inl fk)), (k2, .inl (cA 0, 701, .inl ft)), (k3, .inl (cA 1, 701, .inr (.inl fv)))] H := ⟨hP, hD⟩
  refine lv_aload_n hx hb dX4_lookAt_33 rfl (lv_at hl 0 rfl) ?_
  refine lv_aload_n hx hb dX4_lookAt_34 rfl (lv_at hl 0 rfl) ?_
  refine va_get (D := D) (ci := 8) (v := .ref r1) (C := RX4) (T := TX4) (N := 9) hx hb hts inX4 hown hK hP 0 rfl rfl 0 (by decide) (hts (.fieldLink RX4 12 "EscrowDesk$Reader" "scanner" "LEscrowDesk$Scanner;") (by decide +kernel)) (fun _ h9 => h9) rfl dX4_lookAt_35 ?_
  refine va_getN (D := D) (ci := 9) (v := .ref k2) (C := RX5) (T := TX5) (N := 4) hx hb hts inX5 hown hK hP 1 rfl rfl 1 (by decide) (hC.f (A := _) (a := RX4) (i := 77) (b := "EscrowDesk$Scanner") (n := "starts") (d := "[I") (x := "EscrowDesk") (by decide +kernel)) (fun _ h9 => h9) rfl dX4_lookAt_38 ?_
  refine lv_iload_n hx hb dX4_lookAt_41 rfl (lv_at hl 1 rfl) ?_
  refine va_iald hx hb hK hP 3 0 rfl rfl (vp_in_nI (n := tn) (N := 701) (show tn < 701 by omega) (by decide)) dX4_lookAt_42 ?_
  refine lv_topi (fun yn4 eyn4 => ?_)
  obtain rfl : yn4 = (ft tn) := eyn4.trans (by rw [nI_clamp (by omega)])
  refine va_put (D := D) (ci := 8) (v := .int (ft tn)) (ty := .int) (C := RX4) (T := TX4) (N := 9) hx hb hts inX4 tyX4 tyX4_ok nmX4 hown hK hP hD hS 0 rfl rfl 4 (by decide) (hts (.fieldLink RX4 80 "EscrowDesk$Reader" "start" "I") (by decide +kernel)) (fun _ h9 => h9) rfl (by decide +kernel) rfl rfl (Nat.le_of_ble_eq_true rfl) dX4_lookAt_43 (fun H locs hP hD hS => ?_)
  obtain ⟨hP, hD⟩ : PDq D A [(oX4 r0 r1 p0 (nI tn) (fk tn) (ft tn) ir5 ir6 ir7 ir8), (oX5 r1 k1 k2 k3 (nI ct)), (k1, .inl (cA 0, 701, .inl fk)), (k2, .inl (cA 0, 701, .inl ft)), (k3, .inl (cA 1, 701, .inr (.inl fv)))] H := ⟨hP, hD⟩
  refine lv_aload_n hx hb dX4_lookAt_46 rfl (lv_at hl 0 rfl) ?_
  refine lv_aload_n hx hb dX4_lookAt_47 rfl (lv_at hl 0 rfl) ?_
  refine va_get (D := D) (ci := 8) (v := .ref r1) (C := RX4) (T := TX4) (N := 9) hx hb hts inX4 hown hK hP 0 rfl rfl 0 (by decide) (hts (.fieldLink RX4 12 "EscrowDesk$Reader" "scanner" "LEscrowDesk$Scanner;") (by decide +kernel)) (fun _ h9 => h9) rfl dX4_lookAt_48 ?_
  refine va_getN (D := D) (ci := 9) (v := .ref k3) (C := RX5) (T := TX5) (N := 4) hx hb hts inX5 hown hK hP 1 rfl rfl 2 (by decide) (hC.f (A := _) (a := RX4) (i := 83) (b := "EscrowDesk$Scanner") (n := "values") (d := "[J") (x := "EscrowDesk") (by decide +kernel)) (fun _ h9 => h9) rfl dX4_lookAt_51 ?_
  refine lv_iload_n hx hb dX4_lookAt_54 rfl (lv_at hl 1 rfl) ?_
  refine va_lald hx hb hK hP 4 1 rfl rfl (vp_in_nI (n := tn) (N := 701) (show tn < 701 by omega) (by decide)) dX4_lookAt_55 ?_
  refine lv_topl (fun yn5 eyn5 => ?_)
  obtain rfl : yn5 = (fv tn) := eyn5.trans (by rw [nI_clamp (by omega)])
  refine va_put (D := D) (ci := 8) (v := .long (fv tn)) (ty := .long) (C := RX4) (T := TX4) (N := 9) hx hb hts inX4 tyX4 tyX4_ok nmX4 hown hK hP hD hS 0 rfl rfl 5 (by decide) (hts (.fieldLink RX4 87 "EscrowDesk$Reader" "value" "J") (by decide +kernel)) (fun _ h9 => h9) rfl (by decide +kernel) rfl rfl (Nat.le_of_ble_eq_true rfl) dX4_lookAt_56 (fun H locs hP hD hS => ?_)
  obtain ⟨hP, hD⟩ : PDq D A [(oX4 r0 r1 p0 (nI tn) (fk tn) (ft tn) (fv tn) ir6 ir7 ir8), (oX5 r1 k1 k2 k3 (nI ct)), (k1, .inl (cA 0, 701, .inl fk)), (k2, .inl (cA 0, 701, .inl ft)), (k3, .inl (cA 1, 701, .inr (.inl fv)))] H := ⟨hP, hD⟩
  obtain ⟨hP9, hD9⟩ := PDq.sub (ws' := [(oX4 r0 r1 p0 (nI tn) (fk tn) (ft tn) (fv tn) ir6 ir7 ir8), (oX5 r1 k1 k2 k3 (nI ct)), (k1, .inl (cA 0, 701, .inl fk)), (k2, .inl (cA 0, 701, .inl ft)), (k3, .inl (cA 1, 701, .inr (.inl fv)))]) hP hD [0, 1, 2, 3, 4] (by decide) rfl
  refine W.widen (k := 0) (n := 0) (Nat.le_of_ble_eq_true rfl) (Nat.le_of_ble_eq_true rfl) ?_
  exact (W.vret hx hb hr (fun t ht hW => ⟨⟨(), rfl, trivial, by rw [ht]; exact hP9, hD9⟩, hS.F ht⟩) hS.2.2 dX4_lookAt_59)

set_option maxHeartbeats 4000000 in
set_option maxRecDepth 100000 in
/-- fail -/
theorem x_fail (l : Launch) (D : va_G) (cA : Nat → ClassId) (sa : Nat → Nat) (r0 : Nat) (r1 : Nat) (p0 : Nat) (ir2 : Int32) (ir3 : Int32) (ir4 : Int32) (ir6 : Int32) (ir7 : Int32) (ir8 : Int32) (ir5 : Int64) (a : Int32) (sz : Nat) : Met l yX4_fail wsX4_fail ({ frames := 0, cells := 0, slots := 0, locals := 0 }) (va_Pc [.ref r0, .int a] (Wd D cA sa [(oX4 r0 r1 p0 ir2 ir3 ir4 ir5 ir6 ir7 ir8)] sz)) (va_Qi (fun (r : Int32) (_ : Unit) => r = 0) (fun (_ : Unit) t => ∃ zek : Int32, zek = fek ir3 a ∧ Wq D (va_A [(oX4 r0 r1 p0 ir2 ir3 ir4 ir5 ir6 ir7 ir8)] sz) [(oX4 r0 r1 p0 ir2 ir3 ir4 ir5 ir6 zek ir4)] t) (va_A [(oX4 r0 r1 p0 ir2 ir3 ir4 ir5 ir6 ir7 ir8)] sz)) 0 0 (va_A [(oX4 r0 r1 p0 ir2 ir3 ir4 ir5 ir6 ir7 ir8)] sz) := by
  refine Met.ofW (cc := cX4_fail) (maxL := 2) (ret := (some .boolean)) (by decide) rfl ?_
  intro p e s m args below meth c s₁ B hml hv
  obtain ⟨rfl, hsz, hP, hK, hD0, hC, hZ⟩ := hv
  have hx := B.exec
  have hb := B.bytes
  have hr := B.returns
  have hts := atoms_spec (ws := wsX4_fail) B.pre
  have hown : s.vm.findClass RX4 = some m.cls := findClass_of_methodNamed B.named
  have hlocks := B.notSynchronized
  subst hsz
  have hD := hD0.self (sz := s.heap.size)
  generalize hAe : va_A [(oX4 r0 r1 p0 ir2 ir3 ir4 ir5 ir6 ir7 ir8)] s.heap.size = A at hD hZ ⊢
  have hA : ∀ q : Nat, s.heap.size ≤ q → A q := fun q h => by rw [← hAe]; exact Or.inr h
  have hS : va_S A s.heap s.heap [] := va_S.rf
  have hP : va_P D vwCl [(oX4 r0 r1 p0 ir2 ir3 ir4 ir5 ir6 ir7 ir8)] s.heap := hP
  have hl := lv_entry ([.ref r0, .int a]) (n := 2) (Nat.le_of_ble_eq_true rfl)
  rw [lg_entry_eq]
  generalize (lg_sl ([.ref r0, .int a]) ++ List.replicate (2 - (lg_sl ([.ref r0, .int a])).length) Slot.unset).toArray = ls at hl ⊢
  have hl : lv_has ls 2 [(0, .ref r0), (1, .int a)] := hl
  have inX4 : ∀ w ∈ u_ws RX4 TX4 9, w ∈ wsX4_fail := by decide +kernel
  refine lv_aload_n hx hb dX4_fail_0 rfl (lv_at hl 0 rfl) ?_
  refine lv_aload_n hx hb dX4_fail_1 rfl (lv_at hl 0 rfl) ?_
  refine va_get (D := D) (ci := 8) (v := .int ir3) (C := RX4) (T := TX4) (N := 9) hx hb hts inX4 hown hK hP 0 rfl rfl 3 (by decide) (hts (.fieldLink RX4 42 "EscrowDesk$Reader" "kind" "I") (by decide +kernel)) (fun _ h9 => h9) rfl dX4_fail_2 ?_
  refine lv_iconst (v := 2) hx hb dX4_fail_5 (by decide) ?_
  refine lv_icmp_ne (tgt := 13) hx hb dX4_fail_6 (by decide) (fun c1 => ?_) (fun c1 => ?_)
  · skip
    refine lv_iload_n hx hb dX4_fail_13 rfl (lv_at hl 1 rfl) ?_
    refine va_put (D := D) (ci := 8) (v := .int a) (ty := .int) (C := RX4) (T := TX4) (N := 9) hx hb hts inX4 tyX4 tyX4_ok nmX4 hown hK hP hD hS 0 rfl rfl 7 (by decide) (hts (.fieldLink RX4 18 "EscrowDesk$Reader" "errorKind" "I") (by decide +kernel)) (fun _ h9 => h9) rfl (by decide +kernel) rfl rfl (Nat.le_of_ble_eq_true rfl) dX4_fail_14 (fun H locs hP hD hS => ?_)
    obtain ⟨hP, hD⟩ : PDq D A [(oX4 r0 r1 p0 ir2 ir3 ir4 ir5 ir6 a ir8)] H := ⟨hP, hD⟩
    refine lv_aload_n hx hb dX4_fail_17 rfl (lv_at hl 0 rfl) ?_
    refine lv_aload_n hx hb dX4_fail_18 rfl (lv_at hl 0 rfl) ?_
    refine va_get (D := D) (ci := 8) (v := .int ir4) (C := RX4) (T := TX4) (N := 9) hx hb hts inX4 hown hK hP 0 rfl rfl 4 (by decide) (hts (.fieldLink RX4 80 "EscrowDesk$Reader" "start" "I") (by decide +kernel)) (fun _ h9 => h9) rfl dX4_fail_19 ?_
    refine va_put (D := D) (ci := 8) (v := .int ir4) (ty := .int) (C := RX4) (T := TX4) (N := 9) hx hb hts inX4 tyX4 tyX4_ok nmX4 hown hK hP hD hS 0 rfl rfl 8 (by decide) (hts (.fieldLink RX4 22 "EscrowDesk$Reader" "errorPosition" "I") (by decide +kernel)) (fun _ h9 => h9) rfl (by decide +kernel) rfl rfl (Nat.le_of_ble_eq_true rfl) dX4_fail_22 (fun H locs hP hD hS => ?_)
    obtain ⟨hP, hD⟩ : PDq D A [(oX4 r0 r1 p0 ir2 ir3 ir4 ir5 ir6 a ir4)] H := ⟨hP, hD⟩
    refine lv_iconst (v := 0) hx hb dX4_fail_25 (by decide) ?_
    obtain ⟨hP9, hD9⟩ := PDq.sub (ws' := [(oX4 r0 r1 p0 ir2 ir3 ir4 ir5 ir6 a ir4)]) hP hD [0] (by decide) rfl
    refine W.widen (k := 0) (n := 0) (Nat.le_of_ble_eq_true rfl) (Nat.le_of_ble_eq_true rfl) ?_
    exact (W.zret (v := 0) hx hb hr (by first | rfl | decide) (fun t ht hW => ⟨⟨0, (), rfl, rfl, a, (fek_n c1 a), by rw [ht]; exact hP9, hD9⟩, hS.F ht⟩) hS.2.2 dX4_fail_26)
  · skip
    refine lv_iconst (v := 1) hx hb dX4_fail_9 (by decide) ?_
    refine lv_goto (tgt := 14) hx hb dX4_fail_10 (by decide) ?_
    refine va_put (D := D) (ci := 8) (v := .int 1) (ty := .int) (C := RX4) (T := TX4) (N := 9) hx hb hts inX4 tyX4 tyX4_ok nmX4 hown hK hP hD hS 0 rfl rfl 7 (by decide) (hts (.fieldLink RX4 18 "EscrowDesk$Reader" "errorKind" "I") (by decide +kernel)) (fun _ h9 => h9) rfl (by decide +kernel) rfl rfl (Nat.le_of_ble_eq_true rfl) dX4_fail_14 (fun H locs hP hD hS => ?_)
    obtain ⟨hP, hD⟩ : PDq D A [(oX4 r0 r1 p0 ir2 ir3 ir4 ir5 ir6 1 ir8)] H := ⟨hP, hD⟩
    refine lv_aload_n hx hb dX4_fail_17 rfl (lv_at hl 0 rfl) ?_
    refine lv_aload_n hx hb dX4_fail_18 rfl (lv_at hl 0 rfl) ?_
    refine va_get (D := D) (ci := 8) (v := .int ir4) (C := RX4) (T := TX4) (N := 9) hx hb hts inX4 hown hK hP 0 rfl rfl 4 (by decide) (hts (.fieldLink RX4 80 "EscrowDesk$Reader" "start" "I") (by decide +kernel)) (fun _ h9 => h9) rfl dX4_fail_19 ?_
    refine va_put (D := D) (ci := 8) (v := .int ir4) (ty := .int) (C := RX4) (T := TX4) (N := 9) hx hb hts inX4 tyX4 tyX4_ok nmX4 hown hK hP hD hS 0 rfl rfl 8 (by decide) (hts (.fieldLink RX4 22 "EscrowDesk$Reader" "errorPosition" "I") (by decide +kernel)) (fun _ h9 => h9) rfl (by decide +kernel) rfl rfl (Nat.le_of_ble_eq_true rfl) dX4_fail_22 (fun H locs hP hD hS => ?_)
    obtain ⟨hP, hD⟩ : PDq D A [(oX4 r0 r1 p0 ir2 ir3 ir4 ir5 ir6 1 ir4)] H := ⟨hP, hD⟩
    refine lv_iconst (v := 0) hx hb dX4_fail_25 (by decide) ?_
    obtain ⟨hP9, hD9⟩ := PDq.sub (ws' := [(oX4 r0 r1 p0 ir2 ir3 ir4 ir5 ir6 1 ir4)]) hP hD [0] (by decide) rfl
    refine W.widen (k := 0) (n := 0) (Nat.le_of_ble_eq_true rfl) (Nat.le_of_ble_eq_true rfl) ?_
    exact (W.zret (v := 0) hx hb hr (by first | rfl | decide) (fun t ht hW => ⟨⟨0, (), rfl, rfl, 1, (fek_2 c1 a), by rw [ht]; exact hP9, hD9⟩, hS.F ht⟩) hS.2.2 dX4_fail_26)

set_option maxHeartbeats 4000000 in
set_option maxRecDepth 100000 in
/-- take -/
theorem x_take (l : Launch) (D : va_G) (cA : Nat → ClassId) (sa : Nat → Nat) (r0 : Nat) (p0 : Nat) (ti : Nat) (ln : Nat) (inb : Int32) (iek : Int32) (iep : Int32) (r1 : Nat) (k1 : Nat) (k2 : Nat) (k3 : Nat) (ct : Nat) (fk : Nat → Int32) (ft : Nat → Int32) (fv : Nat → Int64) (fb : Nat → Int32) (gP : Nat → Nat) (gR : Nat → Nat) (a : Int32) (sz : Nat) (hct : ct ≤ 701) (hln : ln ≤ 700) (hti : ti < ct) (hTX : TX fb ln ct gP gR ft fv fk) (ha : a ≠ 1) : Met l yX4_take wsX4_take ({ frames := 1, cells := 0, slots := 0, locals := 21 }) (va_Pc [.ref r0, .int a] (Wd D cA sa [(oX4 r0 r1 p0 (nI ti) (fk ti) (ft ti) (fv ti) inb iek iep), (oX5 r1 k1 k2 k3 (nI ct)), (k1, .inl (cA 0, 701, .inl fk)), (k2, .inl (cA 0, 701, .inl ft)), (k3, .inl (cA 1, 701, .inr (.inl fv)))] sz)) (va_Qi (fun (r : Int32) (u9 : Int32) => u9 = r ∧ (r = 0 ∨ r = 1)) (fun (u9 : Int32) t => ∃ tj : Nat, ∃ zek : Int32, ∃ zep : Int32, tj < ct ∧ gP tj ≤ ln ∧ ti ≤ tj ∧ (u9 = 1 → tj = ti + 1) ∧ (u9 = 1 → zek = iek) ∧ (u9 = 1 → zep = iep) ∧ (u9 = 1 → gP ti + 1 ≤ gP tj) ∧ (u9 = 1 → fk ti = a) ∧ (u9 = 0 → zek = fek (fk ti) 2) ∧ (u9 = 0 → zep = (ft ti)) ∧ (u9 = 0 → ¬ fk ti = a) ∧ Wq D (va_A [(oX4 r0 r1 p0 (nI ti) (fk ti) (ft ti) (fv ti) inb iek iep), (oX5 r1 k1 k2 k3 (nI ct)), (k1, .inl (cA 0, 701, .inl fk)), (k2, .inl (cA 0, 701, .inl ft)), (k3, .inl (cA 1, 701, .inr (.inl fv)))] sz) [(oX4 r0 r1 p0 (nI tj) (fk tj) (ft tj) (fv tj) inb zek zep), (oX5 r1 k1 k2 k3 (nI ct)), (k1, .inl (cA 0, 701, .inl fk)), (k2, .inl (cA 0, 701, .inl ft)), (k3, .inl (cA 1, 701, .inr (.inl fv)))] t) (va_A [(oX4 r0 r1 p0 (nI ti) (fk ti) (ft ti) (fv ti) inb iek iep), (oX5 r1 k1 k2 k3 (nI ct)), (k1, .inl (cA 0, 701, .inl fk)), (k2, .inl (cA 0, 701, .inl ft)), (k3, .inl (cA 1, 701, .inr (.inl fv)))] sz)) 0 0 (va_A [(oX4 r0 r1 p0 (nI ti) (fk ti) (ft ti) (fv ti) inb iek iep), (oX5 r1 k1 k2 k3 (nI ct)), (k1, .inl (cA 0, 701, .inl fk)), (k2, .inl (cA 0, 701, .inl ft)), (k3, .inl (cA 1, 701, .inr (.inl fv)))] sz) := by
  refine Met.ofW (cc := cX4_take) (maxL := 2) (ret := (some .boolean)) (by decide) rfl ?_
  intro p e s m args below meth c s₁ B hml hv
  obtain ⟨rfl, hsz, hP, hK, hD0, hC, hZ⟩ := hv
  have hx := B.exec
  have hb := B.bytes
  have hr := B.returns
  have hts := atoms_spec (ws := wsX4_take) B.pre
  have hown : s.vm.findClass RX4 = some m.cls := findClass_of_methodNamed B.named
  have hlocks := B.notSynchronized
  subst hsz
  have hD := hD0.self (sz := s.heap.size)
  generalize hAe : va_A [(oX4 r0 r1 p0 (nI ti) (fk ti) (ft ti) (fv ti) inb iek iep), (oX5 r1 k1 k2 k3 (nI ct)), (k1, .inl (cA 0, 701, .inl fk)), (k2, .inl (cA 0, 701, .inl ft)), (k3, .inl (cA 1, 701, .inr (.inl fv)))] s.heap.size = A at hD hZ ⊢
  have hA : ∀ q : Nat, s.heap.size ≤ q → A q := fun q h => by rw [← hAe]; exact Or.inr h
  have hS : va_S A s.heap s.heap [] := va_S.rf
  have hP : va_P D vwCl [(oX4 r0 r1 p0 (nI ti) (fk ti) (ft ti) (fv ti) inb iek iep), (oX5 r1 k1 k2 k3 (nI ct)), (k1, .inl (cA 0, 701, .inl fk)), (k2, .inl (cA 0, 701, .inl ft)), (k3, .inl (cA 1, 701, .inr (.inl fv)))] s.heap := hP
  have hl := lv_entry ([.ref r0, .int a]) (n := 2) (Nat.le_of_ble_eq_true rfl)
  rw [lg_entry_eq]
  generalize (lg_sl ([.ref r0, .int a]) ++ List.replicate (2 - (lg_sl ([.ref r0, .int a])).length) Slot.unset).toArray = ls at hl ⊢
  have hl : lv_has ls 2 [(0, .ref r0), (1, .int a)] := hl
  have inX4 : ∀ w ∈ u_ws RX4 TX4 9, w ∈ wsX4_take := by decide +kernel
  have hle9 := TX.le hTX hti
  refine lv_aload_n hx hb dX4_take_0 rfl (lv_at hl 0 rfl) ?_
  refine va_get (D := D) (ci := 8) (v := .int (fk ti)) (C := RX4) (T := TX4) (N := 9) hx hb hts inX4 hown hK hP 0 rfl rfl 3 (by decide) (hts (.fieldLink RX4 42 "EscrowDesk$Reader" "kind" "I") (by decide +kernel)) (fun _ h9 => h9) rfl dX4_take_1 ?_
  refine lv_iload_n hx hb dX4_take_4 rfl (lv_at hl 1 rfl) ?_
  refine lv_icmp_eq (tgt := 14) hx hb dX4_take_5 (by decide) (fun c1 => ?_) (fun c1 => ?_)
  · skip
    have hn2 := TX.go hTX hti (by rw [c1]; exact ha)
    refine lv_aload_n hx hb dX4_take_14 rfl (lv_at hl 0 rfl) ?_
    refine lv_aload_n hx hb dX4_take_15 rfl (lv_at hl 0 rfl) ?_
    refine va_get (D := D) (ci := 8) (v := .int (nI ti)) (C := RX4) (T := TX4) (N := 9) hx hb hts inX4 hown hK hP 0 rfl rfl 2 (by decide) (hts (.fieldLink RX4 70 "EscrowDesk$Reader" "token" "I") (by decide +kernel)) (fun _ h9 => h9) rfl dX4_take_16 ?_
    refine lv_iconst (v := 1) hx hb dX4_take_19 (by decide) ?_
    refine lv_iadd hx hb dX4_take_20 ?_
    refine lv_topi (fun yn3 eyn3 => ?_)
    obtain rfl : yn3 = (nI (ti + 1)) := eyn3.trans (nI_add ti 1)
    obtain ⟨hPc, hDc, hFc⟩ := PDq.cut (wc := [(oX4 r0 r1 p0 (nI ti) (fk ti) (ft ti) (fv ti) inb iek iep), (oX5 r1 k1 k2 k3 (nI ct)), (k1, .inl (cA 0, 701, .inl fk)), (k2, .inl (cA 0, 701, .inl ft)), (k3, .inl (cA 1, 701, .inr (.inl fv)))]) hP hD hS hA [0, 1, 2, 3, 4] (by decide) rfl
    refine va_callv (va_runV (As := [.int (nI (ti + 1))]) (rest := []) ⟨hx, hb, hml, hown, hts⟩ (x_lookAt l D cA sa r0 p0 (ti + 1) (nI ti) (fk ti) (ft ti) inb iek iep (fv ti) r1 k1 k2 k3 ct fk ft fv s.heap.size hct (by omega)) (cwV 1 hts gX4_take_X4_lookAt rfl rfl rfl (by decide +kernel) ⟨(Nat.le_of_ble_eq_true rfl), (Nat.le_of_ble_eq_true rfl)⟩) ⟨Wd.blind, va_recv hK hPc (ci := 8) (q0 := 0) rfl rfl, fun U hU hW => ⟨rfl, Wd.call hPc hDc hK hC hZ hS hFc U hU hW⟩⟩ rfl rfl hl.1 rfl (lv_room (Nat.le_of_ble_eq_true rfl)) dX4_take_21 ⟨(Nat.le_of_ble_eq_true rfl), (Nat.le_of_ble_eq_true rfl)⟩) hS (fun q _ h => hFc q h) hFc (fun u t H1 locs ht hvm hw hB hz1 hk1 hS => ?_)
    obtain ⟨hP1, hD1⟩ := hB
    rw [ht] at hP1
    obtain ⟨hP, hD⟩ := PDq.join (w := [(oX4 r0 r1 p0 (nI (ti + 1)) (fk (ti + 1)) (ft (ti + 1)) (fv (ti + 1)) inb iek iep), (oX5 r1 k1 k2 k3 (nI ct)), (k1, .inl (cA 0, 701, .inl fk)), (k2, .inl (cA 0, 701, .inl ft)), (k3, .inl (cA 1, 701, .inr (.inl fv)))]) 0 hP hD [0, 1, 2, 3, 4] [] rfl rfl (by decide) (by decide) hk1 hFc hP1 hD1 rfl
    generalize H1 = H at hP hS ⊢
    refine lv_iconst (v := 1) hx hb dX4_take_24 (by decide) ?_
    obtain ⟨hP9, hD9⟩ := PDq.sub (ws' := [(oX4 r0 r1 p0 (nI (ti + 1)) (fk (ti + 1)) (ft (ti + 1)) (fv (ti + 1)) inb iek iep), (oX5 r1 k1 k2 k3 (nI ct)), (k1, .inl (cA 0, 701, .inl fk)), (k2, .inl (cA 0, 701, .inl ft)), (k3, .inl (cA 1, 701, .inr (.inl fv)))]) hP hD [0, 1, 2, 3, 4] (by decide) rfl
    refine W.widen (k := 0) (n := 0) (Nat.le_of_ble_eq_true rfl) (Nat.le_of_ble_eq_true rfl) ?_
    exact (W.zret (v := 1) hx hb hr (by first | rfl | decide) (fun t ht hW => ⟨⟨1, 1, rfl, ⟨rfl, by decide⟩, (ti + 1), iek, iep, (by omega), (by omega), (by omega), (fun _ => rfl), (fun _ => rfl), (fun _ => rfl), (fun _ => (by omega)), (fun _ => c1), (fun h9 => absurd h9 (by decide)), (fun h9 => absurd h9 (by decide)), (fun h9 => absurd h9 (by decide)), by rw [ht]; exact hP9, hD9⟩, hS.F ht⟩) hS.2.2 dX4_take_25)
  · skip
    refine lv_aload_n hx hb dX4_take_8 rfl (lv_at hl 0 rfl) ?_
    refine lv_iconst (v := 2) hx hb dX4_take_9 (by decide) ?_
    obtain ⟨hPc, hDc, hFc⟩ := PDq.cut (wc := [(oX4 r0 r1 p0 (nI ti) (fk ti) (ft ti) (fv ti) inb iek iep)]) hP hD hS hA [0] (by decide) rfl
    refine va_calli (va_runV (As := [.int 2]) (rest := []) ⟨hx, hb, hml, hown, hts⟩ (x_fail l D cA sa r0 r1 p0 (nI ti) (fk ti) (ft ti) inb iek iep (fv ti) 2 s.heap.size) (cwV 1 hts gX4_take_X4_fail rfl rfl rfl (by decide +kernel) ⟨(Nat.le_of_ble_eq_true rfl), (Nat.le_of_ble_eq_true rfl)⟩) ⟨Wd.blind, va_recv hK hPc (ci := 8) (q0 := 0) rfl rfl, fun U hU hW => ⟨rfl, Wd.call hPc hDc hK hC hZ hS hFc U hU hW⟩⟩ rfl rfl hl.1 rfl (lv_room (Nat.le_of_ble_eq_true rfl)) dX4_take_10 ⟨(Nat.le_of_ble_eq_true rfl), (Nat.le_of_ble_eq_true rfl)⟩) hS (fun q _ h => hFc q h) hFc (fun rn4 u t H1 locs ht hvm hw hB hz1 hk1 hS => ?_)
    obtain ⟨zn5, hn6, hP1, hD1⟩ := hB
    rw [ht] at hP1
    obtain ⟨hP, hD⟩ := PDq.join (w := [(oX5 r1 k1 k2 k3 (nI ct)), (k1, .inl (cA 0, 701, .inl fk)), (k2, .inl (cA 0, 701, .inl ft)), (k3, .inl (cA 1, 701, .inr (.inl fv))), (oX4 r0 r1 p0 (nI ti) (fk ti) (ft ti) (fv ti) inb zn5 (ft ti))]) 4 hP hD [0] [1, 2, 3, 4] rfl rfl (by decide) (by decide) hk1 hFc hP1 hD1 rfl
    generalize H1 = H at hP hS ⊢
    obtain rfl : rn4 = 0 := hw
    obtain ⟨hP9, hD9⟩ := PDq.sub (ws' := [(oX4 r0 r1 p0 (nI ti) (fk ti) (ft ti) (fv ti) inb zn5 (ft ti)), (oX5 r1 k1 k2 k3 (nI ct)), (k1, .inl (cA 0, 701, .inl fk)), (k2, .inl (cA 0, 701, .inl ft)), (k3, .inl (cA 1, 701, .inr (.inl fv)))]) hP hD [4, 0, 1, 2, 3] (by decide) rfl
    refine W.widen (k := 0) (n := 0) (Nat.le_of_ble_eq_true rfl) (Nat.le_of_ble_eq_true rfl) ?_
    exact (W.zret (v := 0) hx hb hr (by first | rfl | decide) (fun t ht hW => ⟨⟨0, 0, rfl, ⟨rfl, by decide⟩, ti, zn5, (ft ti), hti, (by omega), (by omega), (fun h9 => absurd h9 (by decide)), (fun h9 => absurd h9 (by decide)), (fun h9 => absurd h9 (by decide)), (fun h9 => absurd h9 (by decide)), (fun h9 => absurd h9 (by decide)), (fun _ => hn6), (fun _ => rfl), (fun _ => c1), by rw [ht]; exact hP9, hD9⟩, hS.F ht⟩) hS.2.2 dX4_take_13)

set_option maxHeartbeats 4000000 in
set_option maxRecDepth 100000 in
/-- takeNumber -/
theorem x_takeNumber (l : Launch) (D : va_G) (cA : Nat → ClassId) (sa : Nat → Nat) (r0 : Nat) (p0 : Nat) (ti : Nat) (ln : Nat) (inb : Int32) (iek : Int32) (iep : Int32) (r1 : Nat) (k1 : Nat) (k2 : Nat) (k3 : Nat) (ct : Nat) (fk : Nat → Int32) (ft : Nat → Int32) (fv : Nat → Int64) (fb : Nat → Int32) (gP : Nat → Nat) (gR : Nat → Nat) (lo : Nat) (hi : Nat) (sz : Nat) (hct : ct ≤ 701) (hln : ln ≤ 700) (hti : ti < ct) (hTX : TX fb ln ct gP gR ft fv fk) (hlo : lo < 2147483648) (hhi : hi < 2147483648) : Met l yX4_takeNumber wsX4_takeNumber ({ frames := 1, cells := 0, slots := 0, locals := 21 }) (va_Pc [.ref r0, .int (nI lo), .int (nI hi)] (Wd D cA sa [(oX4 r0 r1 p0 (nI ti) (fk ti) (ft ti) (fv ti) inb iek iep), (oX5 r1 k1 k2 k3 (nI ct)), (k1, .inl (cA 0, 701, .inl fk)), (k2, .inl (cA 0, 701, .inl ft)), (k3, .inl (cA 1, 701, .inr (.inl fv)))] sz)) (va_Qi (fun (r : Int32) (u9 : Int32) => u9 = r ∧ (r = 0 ∨ r = 1)) (fun (u9 : Int32) t => ∃ tj : Nat, ∃ znr : Int32, ∃ zek : Int32, ∃ zep : Int32, tj < ct ∧ gP tj ≤ ln ∧ ti ≤ tj ∧ (u9 = 1 → tj = ti + 1) ∧ (u9 = 1 → zek = iek) ∧ (u9 = 1 → zep = iep) ∧ (u9 = 1 → gP ti + 1 ≤ gP tj) ∧ (u9 = 1 → nmE (lN lo) (lN hi) (fk ti) (fv ti) = none) ∧ (u9 = 1 → znr = (fv ti).toInt32) ∧ (u9 = 0 → NmF lo hi (fk ti) (fv ti) zek) ∧ (u9 = 0 → zep = (ft ti)) ∧ Wq D (va_A [(oX4 r0 r1 p0 (nI ti) (fk ti) (ft ti) (fv ti) inb iek iep), (oX5 r1 k1 k2 k3 (nI ct)), (k1, .inl (cA 0, 701, .inl fk)), (k2, .inl (cA 0, 701, .inl ft)), (k3, .inl (cA 1, 701, .inr (.inl fv)))] sz) [(oX4 r0 r1 p0 (nI tj) (fk tj) (ft tj) (fv tj) znr zek zep), (oX5 r1 k1 k2 k3 (nI ct)), (k1, .inl (cA 0, 701, .inl fk)), (k2, .inl (cA 0, 701, .inl ft)), (k3, .inl (cA 1, 701, .inr (.inl fv)))] t) (va_A [(oX4 r0 r1 p0 (nI ti) (fk ti) (ft ti) (fv ti) inb iek iep), (oX5 r1 k1 k2 k3 (nI ct)), (k1, .inl (cA 0, 701, .inl fk)), (k2, .inl (cA 0, 701, .inl ft)), (k3, .inl (cA 1, 701, .inr (.inl fv)))] sz)) 0 0 (va_A [(oX4 r0 r1 p0 (nI ti) (fk ti) (ft ti) (fv ti) inb iek iep), (oX5 r1 k1 k2 k3 (nI ct)), (k1, .inl (cA 0, 701, .inl fk)), (k2, .inl (cA 0, 701, .inl ft)), (k3, .inl (cA 1, 701, .inr (.inl fv)))] sz) := by
  refine Met.ofW (cc := cX4_takeNumber) (maxL := 3) (ret := (some .boolean)) (by decide) rfl ?_
  intro p e s m args below meth c s₁ B hml hv
  obtain ⟨rfl, hsz, hP, hK, hD0, hC, hZ⟩ := hv
  have hx := B.exec
  have hb := B.bytes
  have hr := B.returns
  have hts := atoms_spec (ws := wsX4_takeNumber) B.pre
  have hown : s.vm.findClass RX4 = some m.cls := findClass_of_methodNamed B.named
  have hlocks := B.notSynchronized
  subst hsz
  have hD := hD0.self (sz := s.heap.size)
  generalize hAe : va_A [(oX4 r0 r1 p0 (nI ti) (fk ti) (ft ti) (fv ti) inb iek iep), (oX5 r1 k1 k2 k3 (nI ct)), (k1, .inl (cA 0, 701, .inl fk)), (k2, .inl (cA 0, 701, .inl ft)), (k3, .inl (cA 1, 701, .inr (.inl fv)))] s.heap.size = A at hD hZ ⊢
  have hA : ∀ q : Nat, s.heap.size ≤ q → A q := fun q h => by rw [← hAe]; exact Or.inr h
  have hS : va_S A s.heap s.heap [] := va_S.rf
  have hP : va_P D vwCl [(oX4 r0 r1 p0 (nI ti) (fk ti) (ft ti) (fv ti) inb iek iep), (oX5 r1 k1 k2 k3 (nI ct)), (k1, .inl (cA 0, 701, .inl fk)), (k2, .inl (cA 0, 701, .inl ft)), (k3, .inl (cA 1, 701, .inr (.inl fv)))] s.heap := hP
  have hl := lv_entry ([.ref r0, .int (nI lo), .int (nI hi)]) (n := 3) (Nat.le_of_ble_eq_true rfl)
  rw [lg_entry_eq]
  generalize (lg_sl ([.ref r0, .int (nI lo), .int (nI hi)]) ++ List.replicate (3 - (lg_sl ([.ref r0, .int (nI lo), .int (nI hi)])).length) Slot.unset).toArray = ls at hl ⊢
  have hl : lv_has ls 3 [(0, .ref r0), (1, .int (nI lo)), (2, .int (nI hi))] := hl
  have inX4 : ∀ w ∈ u_ws RX4 TX4 9, w ∈ wsX4_takeNumber := by decide +kernel
  have hle9 := TX.le hTX hti
  refine lv_aload_n hx hb dX4_takeNumber_0 rfl (lv_at hl 0 rfl) ?_
  refine va_get (D := D) (ci := 8) (v := .int (fk ti)) (C := RX4) (T := TX4) (N := 9) hx hb hts inX4 hown hK hP 0 rfl rfl 3 (by decide) (hts (.fieldLink RX4 42 "EscrowDesk$Reader" "kind" "I") (by decide +kernel)) (fun _ h9 => h9) rfl dX4_takeNumber_1 ?_
  refine lv_iconst (v := 3) hx hb dX4_takeNumber_4 (by decide) ?_
  refine lv_icmp_eq (tgt := 14) hx hb dX4_takeNumber_5 (by decide) (fun c1 => ?_) (fun c1 => ?_)
  · skip
    refine lv_aload_n hx hb dX4_takeNumber_14 rfl (lv_at hl 0 rfl) ?_
    refine va_get (D := D) (ci := 8) (v := .long (fv ti)) (C := RX4) (T := TX4) (N := 9) hx hb hts inX4 hown hK hP 0 rfl rfl 5 (by decide) (hts (.fieldLink RX4 87 "EscrowDesk$Reader" "value" "J") (by decide +kernel)) (fun _ h9 => h9) rfl dX4_takeNumber_15 ?_
    refine lv_iload_n hx hb dX4_takeNumber_18 rfl (lv_at hl 1 rfl) ?_
    refine lv_i2l (v := ((nI lo).toInt64)) hx hb dX4_takeNumber_19 rfl ?_
    refine W.lcmp hx hb dX4_takeNumber_20 ?_
    refine lv_if_lt (tgt := 34) hx hb dX4_takeNumber_21 (by decide) (fun c2 => ?_) (fun c2 => ?_)
    · skip
      refine lv_aload_n hx hb dX4_takeNumber_34 rfl (lv_at hl 0 rfl) ?_
      refine lv_iconst (v := 3) hx hb dX4_takeNumber_35 (by decide) ?_
      obtain ⟨hPc, hDc, hFc⟩ := PDq.cut (wc := [(oX4 r0 r1 p0 (nI ti) (fk ti) (ft ti) (fv ti) inb iek iep)]) hP hD hS hA [0] (by decide) rfl
      refine va_calli (va_runV (As := [.int 3]) (rest := []) ⟨hx, hb, hml, hown, hts⟩ (x_fail l D cA sa r0 r1 p0 (nI ti) (fk ti) (ft ti) inb iek iep (fv ti) 3 s.heap.size) (cwV 1 hts gX4_takeNumber_X4_fail rfl rfl rfl (by decide +kernel) ⟨(Nat.le_of_ble_eq_true rfl), (Nat.le_of_ble_eq_true rfl)⟩) ⟨Wd.blind, va_recv hK hPc (ci := 8) (q0 := 0) rfl rfl, fun U hU hW => ⟨rfl, Wd.call hPc hDc hK hC hZ hS hFc U hU hW⟩⟩ rfl rfl hl.1 rfl (lv_room (Nat.le_of_ble_eq_true rfl)) dX4_takeNumber_36 ⟨(Nat.le_of_ble_eq_true rfl), (Nat.le_of_ble_eq_true rfl)⟩) hS (fun q _ h => hFc q h) hFc (fun rn3 u t H1 locs ht hvm hw hB hz1 hk1 hS => ?_)
      obtain ⟨zn4, hn5, hP1, hD1⟩ := hB
      rw [ht] at hP1
      obtain ⟨hP, hD⟩ := PDq.join (w := [(oX5 r1 k1 k2 k3 (nI ct)), (k1, .inl (cA 0, 701, .inl fk)), (k2, .inl (cA 0, 701, .inl ft)), (k3, .inl (cA 1, 701, .inr (.inl fv))), (oX4 r0 r1 p0 (nI ti) (fk ti) (ft ti) (fv ti) inb zn4 (ft ti))]) 4 hP hD [0] [1, 2, 3, 4] rfl rfl (by decide) (by decide) hk1 hFc hP1 hD1 rfl
      generalize H1 = H at hP hS ⊢
      obtain rfl : rn3 = 0 := hw
      obtain ⟨hP9, hD9⟩ := PDq.sub (ws' := [(oX4 r0 r1 p0 (nI ti) (fk ti) (ft ti) (fv ti) inb zn4 (ft ti)), (oX5 r1 k1 k2 k3 (nI ct)), (k1, .inl (cA 0, 701, .inl fk)), (k2, .inl (cA 0, 701, .inl ft)), (k3, .inl (cA 1, 701, .inr (.inl fv)))]) hP hD [4, 0, 1, 2, 3] (by decide) rfl
      refine W.widen (k := 0) (n := 0) (Nat.le_of_ble_eq_true rfl) (Nat.le_of_ble_eq_true rfl) ?_
      exact (W.zret (v := 0) hx hb hr (by first | rfl | decide) (fun t ht hW => ⟨⟨0, 0, rfl, ⟨rfl, by decide⟩, ti, inb, zn4, (ft ti), hti, (by omega), (by omega), (fun h9 => absurd h9 (by decide)), (fun h9 => absurd h9 (by decide)), (fun h9 => absurd h9 (by decide)), (fun h9 => absurd h9 (by decide)), (fun h9 => absurd h9 (by decide)), (fun h9 => absurd h9 (by decide)), (fun _ => ⟨3, nm_lo c1 (by omega) c2, hn5⟩), (fun _ => rfl), by rw [ht]; exact hP9, hD9⟩, hS.F ht⟩) hS.2.2 dX4_takeNumber_39)
    · skip
      refine lv_aload_n hx hb dX4_takeNumber_24 rfl (lv_at hl 0 rfl) ?_
      refine va_get (D := D) (ci := 8) (v := .long (fv ti)) (C := RX4) (T := TX4) (N := 9) hx hb hts inX4 hown hK hP 0 rfl rfl 5 (by decide) (hts (.fieldLink RX4 87 "EscrowDesk$Reader" "value" "J") (by decide +kernel)) (fun _ h9 => h9) rfl dX4_takeNumber_25 ?_
      refine lv_iload_n hx hb dX4_takeNumber_28 rfl (lv_at hl 2 rfl) ?_
      refine lv_i2l (v := ((nI hi).toInt64)) hx hb dX4_takeNumber_29 rfl ?_
      refine W.lcmp hx hb dX4_takeNumber_30 ?_
      refine lv_if_le (tgt := 40) hx hb dX4_takeNumber_31 (by decide) (fun c6 => ?_) (fun c6 => ?_)
      · skip
        have hn7 := TX.go hTX hti (by rw [c1]; decide)
        refine lv_aload_n hx hb dX4_takeNumber_40 rfl (lv_at hl 0 rfl) ?_
        refine lv_aload_n hx hb dX4_takeNumber_41 rfl (lv_at hl 0 rfl) ?_
        refine va_get (D := D) (ci := 8) (v := .long (fv ti)) (C := RX4) (T := TX4) (N := 9) hx hb hts inX4 hown hK hP 0 rfl rfl 5 (by decide) (hts (.fieldLink RX4 87 "EscrowDesk$Reader" "value" "J") (by decide +kernel)) (fun _ h9 => h9) rfl dX4_takeNumber_42 ?_
        refine lv_l2i (v := (fv ti).toInt32) hx hb dX4_takeNumber_45 rfl ?_
        refine lv_topi (fun yn8 eyn8 => ?_)
        refine va_put (D := D) (ci := 8) (v := .int yn8) (ty := .int) (C := RX4) (T := TX4) (N := 9) hx hb hts inX4 tyX4 tyX4_ok nmX4 hown hK hP hD hS 0 rfl rfl 6 (by decide) (hts (.fieldLink RX4 91 "EscrowDesk$Reader" "number" "I") (by decide +kernel)) (fun _ h9 => h9) rfl (by decide +kernel) rfl rfl (Nat.le_of_ble_eq_true rfl) dX4_takeNumber_46 (fun H locs hP hD hS => ?_)
        obtain ⟨hP, hD⟩ : PDq D A [(oX4 r0 r1 p0 (nI ti) (fk ti) (ft ti) (fv ti) yn8 iek iep), (oX5 r1 k1 k2 k3 (nI ct)), (k1, .inl (cA 0, 701, .inl fk)), (k2, .inl (cA 0, 701, .inl ft)), (k3, .inl (cA 1, 701, .inr (.inl fv)))] H := ⟨hP, hD⟩
        refine lv_aload_n hx hb dX4_takeNumber_49 rfl (lv_at hl 0 rfl) ?_
        refine lv_aload_n hx hb dX4_takeNumber_50 rfl (lv_at hl 0 rfl) ?_
        refine va_get (D := D) (ci := 8) (v := .int (nI ti)) (C := RX4) (T := TX4) (N := 9) hx hb hts inX4 hown hK hP 0 rfl rfl 2 (by decide) (hts (.fieldLink RX4 70 "EscrowDesk$Reader" "token" "I") (by decide +kernel)) (fun _ h9 => h9) rfl dX4_takeNumber_51 ?_
        refine lv_iconst (v := 1) hx hb dX4_takeNumber_54 (by decide) ?_
        refine lv_iadd hx hb dX4_takeNumber_55 ?_
        refine lv_topi (fun yn9 eyn9 => ?_)
        obtain rfl : yn9 = (nI (ti + 1)) := eyn9.trans (nI_add ti 1)
        obtain ⟨hPc, hDc, hFc⟩ := PDq.cut (wc := [(oX4 r0 r1 p0 (nI ti) (fk ti) (ft ti) (fv ti) yn8 iek iep), (oX5 r1 k1 k2 k3 (nI ct)), (k1, .inl (cA 0, 701, .inl fk)), (k2, .inl (cA 0, 701, .inl ft)), (k3, .inl (cA 1, 701, .inr (.inl fv)))]) hP hD hS hA [0, 1, 2, 3, 4] (by decide) rfl
        refine va_callv (va_runV (As := [.int (nI (ti + 1))]) (rest := []) ⟨hx, hb, hml, hown, hts⟩ (x_lookAt l D cA sa r0 p0 (ti + 1) (nI ti) (fk ti) (ft ti) yn8 iek iep (fv ti) r1 k1 k2 k3 ct fk ft fv H.size hct (by omega)) (cwV 1 hts gX4_takeNumber_X4_lookAt rfl rfl rfl (by decide +kernel) ⟨(Nat.le_of_ble_eq_true rfl), (Nat.le_of_ble_eq_true rfl)⟩) ⟨Wd.blind, va_recv hK hPc (ci := 8) (q0 := 0) rfl rfl, fun U hU hW => ⟨rfl, Wd.call hPc hDc hK hC hZ hS hFc U hU hW⟩⟩ rfl rfl hl.1 rfl (lv_room (Nat.le_of_ble_eq_true rfl)) dX4_takeNumber_56 ⟨(Nat.le_of_ble_eq_true rfl), (Nat.le_of_ble_eq_true rfl)⟩) hS (fun q _ h => hFc q h) hFc (fun u t H1 locs ht hvm hw hB hz1 hk1 hS => ?_)
        obtain ⟨hP1, hD1⟩ := hB
        rw [ht] at hP1
        obtain ⟨hP, hD⟩ := PDq.join (w := [(oX4 r0 r1 p0 (nI (ti + 1)) (fk (ti + 1)) (ft (ti + 1)) (fv (ti + 1)) yn8 iek iep), (oX5 r1 k1 k2 k3 (nI ct)), (k1, .inl (cA 0, 701, .inl fk)), (k2, .inl (cA 0, 701, .inl ft)), (k3, .inl (cA 1, 701, .inr (.inl fv)))]) 0 hP hD [0, 1, 2, 3, 4] [] rfl rfl (by decide) (by decide) hk1 hFc hP1 hD1 rfl
        generalize H1 = H at hP hS ⊢
        refine lv_iconst (v := 1) hx hb dX4_takeNumber_59 (by decide) ?_
        obtain ⟨hP9, hD9⟩ := PDq.sub (ws' := [(oX4 r0 r1 p0 (nI (ti + 1)) (fk (ti + 1)) (ft (ti + 1)) (fv (ti + 1)) yn8 iek iep), (oX5 r1 k1 k2 k3 (nI ct)), (k1, .inl (cA 0, 701, .inl fk)), (k2, .inl (cA 0, 701, .inl ft)), (k3, .inl (cA 1, 701, .inr (.inl fv)))]) hP hD [0, 1, 2, 3, 4] (by decide) rfl
        refine W.widen (k := 0) (n := 0) (Nat.le_of_ble_eq_true rfl) (Nat.le_of_ble_eq_true rfl) ?_
        exact (W.zret (v := 1) hx hb hr (by first | rfl | decide) (fun t ht hW => ⟨⟨1, 1, rfl, ⟨rfl, by decide⟩, (ti + 1), yn8, iek, iep, (by omega), (by omega), (by omega), (fun _ => rfl), (fun _ => rfl), (fun _ => rfl), (fun _ => (by omega)), (fun _ => (nm_ok c1 (by omega) (by omega) c2 c6)), (fun _ => eyn8), (fun h9 => absurd h9 (by decide)), (fun h9 => absurd h9 (by decide)), by rw [ht]; exact hP9, hD9⟩, hS.F ht⟩) hS.2.2 dX4_takeNumber_60)
      · skip
        refine lv_aload_n hx hb dX4_takeNumber_34 rfl (lv_at hl 0 rfl) ?_
        refine lv_iconst (v := 3) hx hb dX4_takeNumber_35 (by decide) ?_
        obtain ⟨hPc, hDc, hFc⟩ := PDq.cut (wc := [(oX4 r0 r1 p0 (nI ti) (fk ti) (ft ti) (fv ti) inb iek iep)]) hP hD hS hA [0] (by decide) rfl
        refine va_calli (va_runV (As := [.int 3]) (rest := []) ⟨hx, hb, hml, hown, hts⟩ (x_fail l D cA sa r0 r1 p0 (nI ti) (fk ti) (ft ti) inb iek iep (fv ti) 3 s.heap.size) (cwV 1 hts gX4_takeNumber_X4_fail rfl rfl rfl (by decide +kernel) ⟨(Nat.le_of_ble_eq_true rfl), (Nat.le_of_ble_eq_true rfl)⟩) ⟨Wd.blind, va_recv hK hPc (ci := 8) (q0 := 0) rfl rfl, fun U hU hW => ⟨rfl, Wd.call hPc hDc hK hC hZ hS hFc U hU hW⟩⟩ rfl rfl hl.1 rfl (lv_room (Nat.le_of_ble_eq_true rfl)) dX4_takeNumber_36 ⟨(Nat.le_of_ble_eq_true rfl), (Nat.le_of_ble_eq_true rfl)⟩) hS (fun q _ h => hFc q h) hFc (fun rn10 u t H1 locs ht hvm hw hB hz1 hk1 hS => ?_)
        obtain ⟨zn11, hn12, hP1, hD1⟩ := hB
        rw [ht] at hP1
        obtain ⟨hP, hD⟩ := PDq.join (w := [(oX5 r1 k1 k2 k3 (nI ct)), (k1, .inl (cA 0, 701, .inl fk)), (k2, .inl (cA 0, 701, .inl ft)), (k3, .inl (cA 1, 701, .inr (.inl fv))), (oX4 r0 r1 p0 (nI ti) (fk ti) (ft ti) (fv ti) inb zn11 (ft ti))]) 4 hP hD [0] [1, 2, 3, 4] rfl rfl (by decide) (by decide) hk1 hFc hP1 hD1 rfl
        generalize H1 = H at hP hS ⊢
        obtain rfl : rn10 = 0 := hw
        obtain ⟨hP9, hD9⟩ := PDq.sub (ws' := [(oX4 r0 r1 p0 (nI ti) (fk ti) (ft ti) (fv ti) inb zn11 (ft ti)), (oX5 r1 k1 k2 k3 (nI ct)), (k1, .inl (cA 0, 701, .inl fk)), (k2, .inl (cA 0, 701, .inl ft)), (k3, .inl (cA 1, 701, .inr (.inl fv)))]) hP hD [4, 0, 1, 2, 3] (by decide) rfl
        refine W.widen (k := 0) (n := 0) (Nat.le_of_ble_eq_true rfl) (Nat.le_of_ble_eq_true rfl) ?_
        exact (W.zret (v := 0) hx hb hr (by first | rfl | decide) (fun t ht hW => ⟨⟨0, 0, rfl, ⟨rfl, by decide⟩, ti, inb, zn11, (ft ti), hti, (by omega), (by omega), (fun h9 => absurd h9 (by decide)), (fun h9 => absurd h9 (by decide)), (fun h9 => absurd h9 (by decide)), (fun h9 => absurd h9 (by decide)), (fun h9 => absurd h9 (by decide)), (fun h9 => absurd h9 (by decide)), (fun _ => ⟨3, nm_hi c1 (by omega) c6, hn12⟩), (fun _ => rfl), by rw [ht]; exact hP9, hD9⟩, hS.F ht⟩) hS.2.2 dX4_takeNumber_39)
  · skip
    refine lv_aload_n hx hb dX4_takeNumber_8 rfl (lv_at hl 0 rfl) ?_
    refine lv_iconst (v := 2) hx hb dX4_takeNumber_9 (by decide) ?_
    obtain ⟨hPc, hDc, hFc⟩ := PDq.cut (wc := [(oX4 r0 r1 p0 (nI ti) (fk ti) (ft ti) (fv ti) inb iek iep)]) hP hD hS hA [0] (by decide) rfl
    refine va_calli (va_runV (As := [.int 2]) (rest := []) ⟨hx, hb, hml, hown, hts⟩ (x_fail l D cA sa r0 r1 p0 (nI ti) (fk ti) (ft ti) inb iek iep (fv ti) 2 s.heap.size) (cwV 1 hts gX4_takeNumber_X4_fail rfl rfl rfl (by decide +kernel) ⟨(Nat.le_of_ble_eq_true rfl), (Nat.le_of_ble_eq_true rfl)⟩) ⟨Wd.blind, va_recv hK hPc (ci := 8) (q0 := 0) rfl rfl, fun U hU hW => ⟨rfl, Wd.call hPc hDc hK hC hZ hS hFc U hU hW⟩⟩ rfl rfl hl.1 rfl (lv_room (Nat.le_of_ble_eq_true rfl)) dX4_takeNumber_10 ⟨(Nat.le_of_ble_eq_true rfl), (Nat.le_of_ble_eq_true rfl)⟩) hS (fun q _ h => hFc q h) hFc (fun rn13 u t H1 locs ht hvm hw hB hz1 hk1 hS => ?_)
    obtain ⟨zn14, hn15, hP1, hD1⟩ := hB
    rw [ht] at hP1
    obtain ⟨hP, hD⟩ := PDq.join (w := [(oX5 r1 k1 k2 k3 (nI ct)), (k1, .inl (cA 0, 701, .inl fk)), (k2, .inl (cA 0, 701, .inl ft)), (k3, .inl (cA 1, 701, .inr (.inl fv))), (oX4 r0 r1 p0 (nI ti) (fk ti) (ft ti) (fv ti) inb zn14 (ft ti))]) 4 hP hD [0] [1, 2, 3, 4] rfl rfl (by decide) (by decide) hk1 hFc hP1 hD1 rfl
    generalize H1 = H at hP hS ⊢
    obtain rfl : rn13 = 0 := hw
    obtain ⟨hP9, hD9⟩ := PDq.sub (ws' := [(oX4 r0 r1 p0 (nI ti) (fk ti) (ft ti) (fv ti) inb zn14 (ft ti)), (oX5 r1 k1 k2 k3 (nI ct)), (k1, .inl (cA 0, 701, .inl fk)), (k2, .inl (cA 0, 701, .inl ft)), (k3, .inl (cA 1, 701, .inr (.inl fv)))]) hP hD [4, 0, 1, 2, 3] (by decide) rfl
    refine W.widen (k := 0) (n := 0) (Nat.le_of_ble_eq_true rfl) (Nat.le_of_ble_eq_true rfl) ?_
    exact (W.zret (v := 0) hx hb hr (by first | rfl | decide) (fun t ht hW => ⟨⟨0, 0, rfl, ⟨rfl, by decide⟩, ti, inb, zn14, (ft ti), hti, (by omega), (by omega), (fun h9 => absurd h9 (by decide)), (fun h9 => absurd h9 (by decide)), (fun h9 => absurd h9 (by decide)), (fun h9 => absurd h9 (by decide)), (fun h9 => absurd h9 (by decide)), (fun h9 => absurd h9 (by decide)), (fun _ => ⟨2, nm_k _ c1, hn15⟩), (fun _ => rfl), by rw [ht]; exact hP9, hD9⟩, hS.F ht⟩) hS.2.2 dX4_takeNumber_13)

set_option maxHeartbeats 4000000 in
set_option maxRecDepth 100000 in
/-- beginsFact -/
theorem x_beginsFact (l : Launch) (D : va_G) (cA : Nat → ClassId) (sa : Nat → Nat) (a : Int32) (sz : Nat) : Met l yX7_beginsFact wsX7_beginsFact ({ frames := 0, cells := 0, slots := 0, locals := 0 }) (va_Pc [.int a] (Wd D cA sa [] sz)) (va_Qi (fun (r : Int32) (_ : Unit) => (r = 1 ∧ (a = 5 ∨ (16 ≤ a ∧ a ≤ 22))) ∨ (r = 0 ∧ ¬ (a = 5 ∨ (16 ≤ a ∧ a ≤ 22)))) (fun (_ : Unit) t => Wq D (va_A [] sz) [] t) (va_A [] sz)) 0 0 (va_A [] sz) := by
  refine Met.ofW (cc := cX7_beginsFact) (maxL := 1) (ret := (some .boolean)) (by decide) rfl ?_
  intro p e s m args below meth c s₁ B hml hv
  obtain ⟨rfl, hsz, hP, hK, hD0, hC, hZ⟩ := hv
  have hx := B.exec
  have hb := B.bytes
  have hr := B.returns
  have hts := atoms_spec (ws := wsX7_beginsFact) B.pre
  have hown : s.vm.findClass RX7 = some m.cls := findClass_of_methodNamed B.named
  have hlocks := B.notSynchronized
  subst hsz
  have hD := hD0.self (sz := s.heap.size)
  generalize hAe : va_A [] s.heap.size = A at hD hZ ⊢
  have hA : ∀ q : Nat, s.heap.size ≤ q → A q := fun q h => by rw [← hAe]; exact Or.inr h
  have hS : va_S A s.heap s.heap [] := va_S.rf
  have hP : va_P D vwCl [] s.heap := hP
  have hl := lv_entry ([.int a]) (n := 1) (Nat.le_of_ble_eq_true rfl)
  rw [lg_entry_eq]
  generalize (lg_sl ([.int a]) ++ List.replicate (1 - (lg_sl ([.int a])).length) Slot.unset).toArray = ls at hl ⊢
  have hl : lv_has ls 1 [(0, .int a)] := hl
  refine lv_iload_n hx hb dX7_beginsFact_0 rfl (lv_at hl 0 rfl) ?_
  refine lv_iconst (v := 5) hx hb dX7_beginsFact_1 (by decide) ?_
  refine lv_icmp_eq (tgt := 17) hx hb dX7_beginsFact_2 (by decide) (fun c1 => ?_) (fun c1 => ?_)
  · skip
    rw [c1] at hl
    have hl : lv_has ls 1 [(0, .int 5)] := hl
    refine lv_iconst (v := 1) hx hb dX7_beginsFact_17 (by decide) ?_
    refine lv_goto (tgt := 22) hx hb dX7_beginsFact_18 (by decide) ?_
    obtain ⟨hP9, hD9⟩ := PDq.sub (ws' := []) hP hD [] (by decide) rfl
    refine W.widen (k := 0) (n := 0) (Nat.le_of_ble_eq_true rfl) (Nat.le_of_ble_eq_true rfl) ?_
    exact (W.zret (v := 1) hx hb hr (by first | rfl | decide) (fun t ht hW => ⟨⟨1, (), rfl, (Or.inl ⟨rfl, (Or.inl c1)⟩), by rw [ht]; exact hP9, hD9⟩, hS.F ht⟩) hS.2.2 dX7_beginsFact_22)
  · skip
    refine lv_iload_n hx hb dX7_beginsFact_5 rfl (lv_at hl 0 rfl) ?_
    refine lv_bipush (v := 16) hx hb dX7_beginsFact_6 (by decide) ?_
    refine lv_icmp_lt (tgt := 21) hx hb dX7_beginsFact_8 (by decide) (fun c2 => ?_) (fun c2 => ?_)
    · skip
      refine lv_iconst (v := 0) hx hb dX7_beginsFact_21 (by decide) ?_
      obtain ⟨hP9, hD9⟩ := PDq.sub (ws' := []) hP hD [] (by decide) rfl
      refine W.widen (k := 0) (n := 0) (Nat.le_of_ble_eq_true rfl) (Nat.le_of_ble_eq_true rfl) ?_
      exact (W.zret (v := 0) hx hb hr (by first | rfl | decide) (fun t ht hW => ⟨⟨0, (), rfl, (Or.inr ⟨rfl, (fun q => q.elim c1 (fun z => absurd z.1 (Int32.not_le.mpr c2)))⟩), by rw [ht]; exact hP9, hD9⟩, hS.F ht⟩) hS.2.2 dX7_beginsFact_22)
    · skip
      refine lv_iload_n hx hb dX7_beginsFact_11 rfl (lv_at hl 0 rfl) ?_
      refine lv_bipush (v := 22) hx hb dX7_beginsFact_12 (by decide) ?_
      refine lv_icmp_gt (tgt := 21) hx hb dX7_beginsFact_14 (by decide) (fun c3 => ?_) (fun c3 => ?_)
      · skip
        refine lv_iconst (v := 0) hx hb dX7_beginsFact_21 (by decide) ?_
        obtain ⟨hP9, hD9⟩ := PDq.sub (ws' := []) hP hD [] (by decide) rfl
        refine W.widen (k := 0) (n := 0) (Nat.le_of_ble_eq_true rfl) (Nat.le_of_ble_eq_true rfl) ?_
        exact (W.zret (v := 0) hx hb hr (by first | rfl | decide) (fun t ht hW => ⟨⟨0, (), rfl, (Or.inr ⟨rfl, (fun q => q.elim c1 (fun z => absurd z.2 (Int32.not_le.mpr c3)))⟩), by rw [ht]; exact hP9, hD9⟩, hS.F ht⟩) hS.2.2 dX7_beginsFact_22)
      · skip
        refine lv_iconst (v := 1) hx hb dX7_beginsFact_17 (by decide) ?_
        refine lv_goto (tgt := 22) hx hb dX7_beginsFact_18 (by decide) ?_
        obtain ⟨hP9, hD9⟩ := PDq.sub (ws' := []) hP hD [] (by decide) rfl
        refine W.widen (k := 0) (n := 0) (Nat.le_of_ble_eq_true rfl) (Nat.le_of_ble_eq_true rfl) ?_
        exact (W.zret (v := 1) hx hb hr (by first | rfl | decide) (fun t ht hW => ⟨⟨1, (), rfl, (Or.inl ⟨rfl, (Or.inr ⟨Int32.not_lt.mp c2, Int32.not_lt.mp c3⟩)⟩), by rw [ht]; exact hP9, hD9⟩, hS.F ht⟩) hS.2.2 dX7_beginsFact_22)

set_option maxHeartbeats 4000000 in
set_option maxRecDepth 100000 in
/-- isBasis -/
theorem x_isBasis (l : Launch) (D : va_G) (cA : Nat → ClassId) (sa : Nat → Nat) (a : Int64) (sz : Nat) : Met l yX9_isBasis wsX9_isBasis ({ frames := 0, cells := 0, slots := 0, locals := 0 }) (va_Pc [.long a] (Wd D cA sa [] sz)) (va_Qi (fun (r : Int32) (_ : Unit) => (r = 1 ∧ (a = 360 ∨ a = 365)) ∨ (r = 0 ∧ ¬ (a = 360 ∨ a = 365))) (fun (_ : Unit) t => Wq D (va_A [] sz) [] t) (va_A [] sz)) 0 0 (va_A [] sz) := by
  refine Met.ofW (cc := cX9_isBasis) (maxL := 2) (ret := (some .boolean)) (by decide) rfl ?_
  intro p e s m args below meth c s₁ B hml hv
  obtain ⟨rfl, hsz, hP, hK, hD0, hC, hZ⟩ := hv
  have hx := B.exec
  have hb := B.bytes
  have hr := B.returns
  have hts := atoms_spec (ws := wsX9_isBasis) B.pre
  have hown : s.vm.findClass RX9 = some m.cls := findClass_of_methodNamed B.named
  have hlocks := B.notSynchronized
  subst hsz
  have hD := hD0.self (sz := s.heap.size)
  generalize hAe : va_A [] s.heap.size = A at hD hZ ⊢
  have hA : ∀ q : Nat, s.heap.size ≤ q → A q := fun q h => by rw [← hAe]; exact Or.inr h
  have hS : va_S A s.heap s.heap [] := va_S.rf
  have hP : va_P D vwCl [] s.heap := hP
  have hl := lv_entry ([.long a]) (n := 2) (Nat.le_of_ble_eq_true rfl)
  rw [lg_entry_eq]
  generalize (lg_sl ([.long a]) ++ List.replicate (2 - (lg_sl ([.long a])).length) Slot.unset).toArray = ls at hl ⊢
  have hl : lv_has ls 2 [(0, .long a)] := hl
  refine lv_lload_n hx hb dX9_isBasis_0 rfl (lv_at hl 0 rfl) ?_
  refine lv_ldc2 (v := 360) hx hb hown (hts (.constantLong RX9 374 360) (by decide +kernel)) dX9_isBasis_1 ?_
  refine W.lcmp hx hb dX9_isBasis_4 ?_
  refine lv_if_eq (tgt := 16) hx hb dX9_isBasis_5 (by decide) (fun c1 => ?_) (fun c1 => ?_)
  · skip
    refine lv_iconst (v := 1) hx hb dX9_isBasis_16 (by decide) ?_
    refine lv_goto (tgt := 21) hx hb dX9_isBasis_17 (by decide) ?_
    obtain ⟨hP9, hD9⟩ := PDq.sub (ws' := []) hP hD [] (by decide) rfl
    refine W.widen (k := 0) (n := 0) (Nat.le_of_ble_eq_true rfl) (Nat.le_of_ble_eq_true rfl) ?_
    exact (W.zret (v := 1) hx hb hr (by first | rfl | decide) (fun t ht hW => ⟨⟨1, (), rfl, (Or.inl ⟨rfl, (Or.inl (lg_eq0 c1))⟩), by rw [ht]; exact hP9, hD9⟩, hS.F ht⟩) hS.2.2 dX9_isBasis_21)
  · skip
    refine lv_lload_n hx hb dX9_isBasis_8 rfl (lv_at hl 0 rfl) ?_
    refine lv_ldc2 (v := 365) hx hb hown (hts (.constantLong RX9 376 365) (by decide +kernel)) dX9_isBasis_9 ?_
    refine W.lcmp hx hb dX9_isBasis_12 ?_
    refine lv_if_ne (tgt := 20) hx hb dX9_isBasis_13 (by decide) (fun c2 => ?_) (fun c2 => ?_)
    · skip
      refine lv_iconst (v := 0) hx hb dX9_isBasis_20 (by decide) ?_
      obtain ⟨hP9, hD9⟩ := PDq.sub (ws' := []) hP hD [] (by decide) rfl
      refine W.widen (k := 0) (n := 0) (Nat.le_of_ble_eq_true rfl) (Nat.le_of_ble_eq_true rfl) ?_
      exact (W.zret (v := 0) hx hb hr (by first | rfl | decide) (fun t ht hW => ⟨⟨0, (), rfl, (Or.inr ⟨rfl, (fun q => q.elim (fun z => c1 (lg_0eq z)) (fun z => c2 (lg_0eq z)))⟩), by rw [ht]; exact hP9, hD9⟩, hS.F ht⟩) hS.2.2 dX9_isBasis_21)
    · skip
      refine lv_iconst (v := 1) hx hb dX9_isBasis_16 (by decide) ?_
      refine lv_goto (tgt := 21) hx hb dX9_isBasis_17 (by decide) ?_
      obtain ⟨hP9, hD9⟩ := PDq.sub (ws' := []) hP hD [] (by decide) rfl
      refine W.widen (k := 0) (n := 0) (Nat.le_of_ble_eq_true rfl) (Nat.le_of_ble_eq_true rfl) ?_
      exact (W.zret (v := 1) hx hb hr (by first | rfl | decide) (fun t ht hW => ⟨⟨1, (), rfl, (Or.inl ⟨rfl, (Or.inr (lg_eq0 c2))⟩), by rw [ht]; exact hP9, hD9⟩, hS.F ht⟩) hS.2.2 dX9_isBasis_21)

set_option maxHeartbeats 4000000 in
set_option maxRecDepth 100000 in
/-- milestoneNamed -/
theorem x_milNamed (l : Launch) (D : va_G) (cA : Nat → ClassId) (sa : Nat → Nat) (p0 : Nat) (p1 : Nat) (p2 : Nat) (p3 : Nat) (p4 : Nat) (p5 : Nat) (p6 : Nat) (p7 : Nat) (p8 : Nat) (p9 : Nat) (cn : Nat) (pq : Nat) (nd : Nat) (sc : Nat) (pr : Int32) (pb : Int32) (pe : Int32) (pg : Int32) (w : Int64) (fna : Nat → Int64) (sz : Nat) (hcn : cn ≤ 10) (hpq : pq ≤ 8) (hnd : nd ≤ 6) (hsc : sc ≤ 350) : Met l yX3_milestoneNamed wsX3_milestoneNamed ({ frames := 0, cells := 0, slots := 0, locals := 0 }) (va_Pc [.ref p0, .long w] (Wd D cA sa [(oX3 p0 pr pb pe pg p1 (nI nd) p2 p3 p4 p5 (nI cn) p6 (nI pq) p7 p8 p9 (nI sc)), (p2, .inl (cA 1, 10, .inr (.inl fna)))] sz)) (va_Qi (fun (r : Int32) (_ : Unit) => (r = -1 ∧ ∀ j, j < cn → fna j ≠ w) ∨ ∃ n, n < cn ∧ r = nI n ∧ fna n = w ∧ Nof n w fna) (fun (_ : Unit) t => Wq D (va_A [(oX3 p0 pr pb pe pg p1 (nI nd) p2 p3 p4 p5 (nI cn) p6 (nI pq) p7 p8 p9 (nI sc)), (p2, .inl (cA 1, 10, .inr (.inl fna)))] sz) [(oX3 p0 pr pb pe pg p1 (nI nd) p2 p3 p4 p5 (nI cn) p6 (nI pq) p7 p8 p9 (nI sc)), (p2, .inl (cA 1, 10, .inr (.inl fna)))] t) (va_A [(oX3 p0 pr pb pe pg p1 (nI nd) p2 p3 p4 p5 (nI cn) p6 (nI pq) p7 p8 p9 (nI sc)), (p2, .inl (cA 1, 10, .inr (.inl fna)))] sz)) 0 0 (va_A [(oX3 p0 pr pb pe pg p1 (nI nd) p2 p3 p4 p5 (nI cn) p6 (nI pq) p7 p8 p9 (nI sc)), (p2, .inl (cA 1, 10, .inr (.inl fna)))] sz) := by
  refine Met.ofW (cc := cX3_milestoneNamed) (maxL := 4) (ret := (some .int)) (by decide) rfl ?_
  intro p e s m args below meth c s₁ B hml hv
  obtain ⟨rfl, hsz, hP, hK, hD0, hC, hZ⟩ := hv
  have hx := B.exec
  have hb := B.bytes
  have hr := B.returns
  have hts := atoms_spec (ws := wsX3_milestoneNamed) B.pre
  have hown : s.vm.findClass RX3 = some m.cls := findClass_of_methodNamed B.named
  have hlocks := B.notSynchronized
  subst hsz
  have hD := hD0.self (sz := s.heap.size)
  generalize hAe : va_A [(oX3 p0 pr pb pe pg p1 (nI nd) p2 p3 p4 p5 (nI cn) p6 (nI pq) p7 p8 p9 (nI sc)), (p2, .inl (cA 1, 10, .inr (.inl fna)))] s.heap.size = A at hD hZ ⊢
  have hA : ∀ q : Nat, s.heap.size ≤ q → A q := fun q h => by rw [← hAe]; exact Or.inr h
  have hS : va_S A s.heap s.heap [] := va_S.rf
  have hP : va_P D vwCl [(oX3 p0 pr pb pe pg p1 (nI nd) p2 p3 p4 p5 (nI cn) p6 (nI pq) p7 p8 p9 (nI sc)), (p2, .inl (cA 1, 10, .inr (.inl fna)))] s.heap := hP
  have hl := lv_entry ([.ref p0, .long w]) (n := 4) (Nat.le_of_ble_eq_true rfl)
  rw [lg_entry_eq]
  generalize (lg_sl ([.ref p0, .long w]) ++ List.replicate (4 - (lg_sl ([.ref p0, .long w])).length) Slot.unset).toArray = ls at hl ⊢
  have hl : lv_has ls 4 [(0, .ref p0), (1, .long w)] := hl
  have inX3 : ∀ w ∈ u_ws RX3 TX3 17, w ∈ wsX3_milestoneNamed := by decide +kernel
  refine lv_iconst (v := 0) hx hb dX3_milestoneNamed_0 (by decide) ?_
  refine lv_istore_n (lv' := [(3, .int 0), (0, .ref p0), (1, .long w)]) hx hb dX3_milestoneNamed_1 rfl hl (by decide) rfl (fun ls hl => ?_)
  have loop1 : ∀ (n1 i1 : Nat) (H : Heap) (locs : List Loc) (ls : Array Slot), i1 + n1 = cn → Nof i1 w fna → va_P D vwCl [(oX3 p0 pr pb pe pg p1 (nI nd) p2 p3 p4 p5 (nI cn) p6 (nI pq) p7 p8 p9 (nI sc)), (p2, .inl (cA 1, 10, .inr (.inl fna)))] H → va_D A [(oX3 p0 pr pb pe pg p1 (nI nd) p2 p3 p4 p5 (nI cn) p6 (nI pq) p7 p8 p9 (nI sc)), (p2, .inl (cA 1, 10, .inr (.inl fna)))] → va_S A s.heap H locs → lv_has ls 4 [(3, .int (nI i1)), (0, .ref p0), (1, .long w)] → W p l e (headSpec wsX3_milestoneNamed ({ frames := 0, cells := 0, slots := 0, locals := 0 } : Room)).room s m ([.ref p0, .long w] : List Value).toArray below meth c H locs 0 0 (MQ below (va_Qi (fun (r : Int32) (_ : Unit) => (r = -1 ∧ ∀ j, j < cn → fna j ≠ w) ∨ ∃ n, n < cn ∧ r = nI n ∧ fna n = w ∧ Nof n w fna) (fun (_ : Unit) t => Wq D A [(oX3 p0 pr pb pe pg p1 (nI nd) p2 p3 p4 p5 (nI cn) p6 (nI pq) p7 p8 p9 (nI sc)), (p2, .inl (cA 1, 10, .inr (.inl fna)))] t) A) ([.ref p0, .long w] : List Value).toArray s 0 0 A) (F0 m 2 ls []) := by
    intro n1
    induction n1 with
    | zero =>
      intro i1 H locs ls hi1 hv0_1 hP hD hS hl
      obtain rfl : cn = i1 := by omega
      refine lv_iload_n hx hb dX3_milestoneNamed_2 rfl (lv_at hl 0 rfl) ?_
      refine lv_aload_n hx hb dX3_milestoneNamed_3 rfl (lv_at hl 1 rfl) ?_
      refine va_get (D := D) (ci := 7) (v := .int (nI cn)) (C := RX3) (T := TX3) (N := 17) hx hb hts inX3 hown hK hP 0 rfl rfl 10 (by decide) (hts (.fieldLink RX3 56 "EscrowDesk$Plan" "milestoneCount" "I") (by decide +kernel)) (fun _ h9 => h9) rfl dX3_milestoneNamed_4 ?_
      refine lv_icmp_ge (tgt := 29) hx hb dX3_milestoneNamed_7 (by decide) (fun c1 => ?_) (fun c9 => absurd (nI_le (a := cn) (b := cn) (show cn ≤ cn by omega) (by omega)) c9)
      refine lv_iconst (v := (-1)) hx hb dX3_milestoneNamed_29 (by decide) ?_
      obtain ⟨hP9, hD9⟩ := PDq.sub (ws' := [(oX3 p0 pr pb pe pg p1 (nI nd) p2 p3 p4 p5 (nI cn) p6 (nI pq) p7 p8 p9 (nI sc)), (p2, .inl (cA 1, 10, .inr (.inl fna)))]) hP hD [0, 1] (by decide) rfl
      refine W.widen (k := 0) (n := 0) (Nat.le_of_ble_eq_true rfl) (Nat.le_of_ble_eq_true rfl) ?_
      exact (W.iret (v := (-1)) hx hb hr (fun t ht hW => ⟨⟨(-1), (), rfl, (Or.inl ⟨rfl, hv0_1⟩), by rw [ht]; exact hP9, hD9⟩, hS.F ht⟩) hS.2.2 dX3_milestoneNamed_30)
    | succ n1 ih1 =>
      intro i1 H locs ls hi1 hv0_1 hP hD hS hl
      refine lv_iload_n hx hb dX3_milestoneNamed_2 rfl (lv_at hl 0 rfl) ?_
      refine lv_aload_n hx hb dX3_milestoneNamed_3 rfl (lv_at hl 1 rfl) ?_
      refine va_get (D := D) (ci := 7) (v := .int (nI cn)) (C := RX3) (T := TX3) (N := 17) hx hb hts inX3 hown hK hP 0 rfl rfl 10 (by decide) (hts (.fieldLink RX3 56 "EscrowDesk$Plan" "milestoneCount" "I") (by decide +kernel)) (fun _ h9 => h9) rfl dX3_milestoneNamed_4 ?_
      refine lv_icmp_ge (tgt := 29) hx hb dX3_milestoneNamed_7 (by decide) (fun c9 => absurd c9 (nI_ge (a := i1) (b := cn) (show i1 < cn by omega) (by omega))) (fun c2 => ?_)
      refine lv_aload_n hx hb dX3_milestoneNamed_10 rfl (lv_at hl 1 rfl) ?_
      refine va_get (D := D) (ci := 7) (v := .ref p2) (C := RX3) (T := TX3) (N := 17) hx hb hts inX3 hown hK hP 0 rfl rfl 6 (by decide) (hts (.fieldLink RX3 19 "EscrowDesk$Plan" "names" "[J") (by decide +kernel)) (fun _ h9 => h9) rfl dX3_milestoneNamed_11 ?_
      refine lv_iload_n hx hb dX3_milestoneNamed_14 rfl (lv_at hl 0 rfl) ?_
      refine va_lald hx hb hK hP 1 1 rfl rfl (vp_in_nI (n := i1) (N := 10) (show i1 < 10 by omega) (by decide)) dX3_milestoneNamed_15 ?_
      refine lv_topl (fun yn3 eyn3 => ?_)
      obtain rfl : yn3 = (fna i1) := eyn3.trans (by rw [nI_clamp (by omega)])
      refine lv_lload_n hx hb dX3_milestoneNamed_16 rfl (lv_at hl 2 rfl) ?_
      refine W.lcmp hx hb dX3_milestoneNamed_17 ?_
      refine lv_if_ne (tgt := 23) hx hb dX3_milestoneNamed_18 (by decide) (fun c4 => ?_) (fun c4 => ?_)
      · skip
        refine lv_iinc (v := (nI (i1 + 1))) (lv' := [(3, .int (nI (i1 + 1))), (0, .ref p0), (1, .long w)]) hx hb dX3_milestoneNamed_23 hl (k := 0) rfl (nI_1 _) (by decide) rfl (fun ls hl => ?_)
        refine lv_goto (tgt := 2) hx hb dX3_milestoneNamed_26 (by decide) ?_
        obtain ⟨hP9, hD9⟩ := PDq.sub (ws' := [(oX3 p0 pr pb pe pg p1 (nI nd) p2 p3 p4 p5 (nI cn) p6 (nI pq) p7 p8 p9 (nI sc)), (p2, .inl (cA 1, 10, .inr (.inl fna)))]) hP hD [0, 1] (by decide) rfl
        exact ih1 (i1 + 1)  H _ ls (by omega) (Nof.step hv0_1 c4) hP9 hD9 hS (lv_sub hl [0, 1, 2] rfl)
      · skip
        refine lv_iload_n hx hb dX3_milestoneNamed_21 rfl (lv_at hl 0 rfl) ?_
        obtain ⟨hP9, hD9⟩ := PDq.sub (ws' := [(oX3 p0 pr pb pe pg p1 (nI nd) p2 p3 p4 p5 (nI cn) p6 (nI pq) p7 p8 p9 (nI sc)), (p2, .inl (cA 1, 10, .inr (.inl fna)))]) hP hD [0, 1] (by decide) rfl
        refine W.widen (k := 0) (n := 0) (Nat.le_of_ble_eq_true rfl) (Nat.le_of_ble_eq_true rfl) ?_
        exact (W.iret (v := (nI i1)) hx hb hr (fun t ht hW => ⟨⟨(nI i1), (), rfl, (Or.inr ⟨i1, by omega, rfl, lg_eq0 c4, hv0_1⟩), by rw [ht]; exact hP9, hD9⟩, hS.F ht⟩) hS.2.2 dX3_milestoneNamed_22)
  obtain ⟨hP9, hD9⟩ := PDq.sub (ws' := [(oX3 p0 pr pb pe pg p1 (nI nd) p2 p3 p4 p5 (nI cn) p6 (nI pq) p7 p8 p9 (nI sc)), (p2, .inl (cA 1, 10, .inr (.inl fna)))]) hP hD [0, 1] (by decide) rfl
  exact loop1 (cn - 0) 0  _ _ ls (by omega) (Nof.zero w fna) hP9 hD9 hS (lv_sub hl [0, 1, 2] rfl)

set_option maxHeartbeats 4000000 in
set_option maxRecDepth 100000 in
/-- proofNamed: an old one -/
theorem x_proofOld (l : Launch) (D : va_G) (cA : Nat → ClassId) (sa : Nat → Nat) (p0 : Nat) (p1 : Nat) (p2 : Nat) (p3 : Nat) (p4 : Nat) (p5 : Nat) (p6 : Nat) (p7 : Nat) (p8 : Nat) (p9 : Nat) (cn : Nat) (pq : Nat) (nd : Nat) (sc : Nat) (pr : Int32) (pb : Int32) (pe : Int32) (pg : Int32) (w : Int64) (fpn : Nat → Int64) (pl : List Int64) (sz : Nat) (hcn : cn ≤ 10) (hpq : pq ≤ 8) (hnd : nd ≤ 6) (hsc : sc ≤ 350) (hNP : NL pl pq fpn) (hm : w ∈ pl) : Met l yX3_proofNamed wsX3_proofNamed ({ frames := 0, cells := 0, slots := 0, locals := 0 }) (va_Pc [.ref p0, .long w] (Wd D cA sa [(oX3 p0 pr pb pe pg p1 (nI nd) p2 p3 p4 p5 (nI cn) p6 (nI pq) p7 p8 p9 (nI sc)), (p6, .inl (cA 1, 8, .inr (.inl fpn)))] sz)) (va_Qi (fun (r : Int32) (_ : Unit) => r = nI (fi9 pl w)) (fun (_ : Unit) t => Wq D (va_A [(oX3 p0 pr pb pe pg p1 (nI nd) p2 p3 p4 p5 (nI cn) p6 (nI pq) p7 p8 p9 (nI sc)), (p6, .inl (cA 1, 8, .inr (.inl fpn)))] sz) [(oX3 p0 pr pb pe pg p1 (nI nd) p2 p3 p4 p5 (nI cn) p6 (nI pq) p7 p8 p9 (nI sc)), (p6, .inl (cA 1, 8, .inr (.inl fpn)))] t) (va_A [(oX3 p0 pr pb pe pg p1 (nI nd) p2 p3 p4 p5 (nI cn) p6 (nI pq) p7 p8 p9 (nI sc)), (p6, .inl (cA 1, 8, .inr (.inl fpn)))] sz)) 0 0 (va_A [(oX3 p0 pr pb pe pg p1 (nI nd) p2 p3 p4 p5 (nI cn) p6 (nI pq) p7 p8 p9 (nI sc)), (p6, .inl (cA 1, 8, .inr (.inl fpn)))] sz) := by
  refine Met.ofW (cc := cX3_proofNamed) (maxL := 4) (ret := (some .int)) (by decide) rfl ?_
  intro p e s m args below meth c s₁ B hml hv
  obtain ⟨rfl, hsz, hP, hK, hD0, hC, hZ⟩ := hv
  have hx := B.exec
  have hb := B.bytes
  have hr := B.returns
  have hts := atoms_spec (ws := wsX3_proofNamed) B.pre
  have hown : s.vm.findClass RX3 = some m.cls := findClass_of_methodNamed B.named
  have hlocks := B.notSynchronized
  subst hsz
  have hD := hD0.self (sz := s.heap.size)
  generalize hAe : va_A [(oX3 p0 pr pb pe pg p1 (nI nd) p2 p3 p4 p5 (nI cn) p6 (nI pq) p7 p8 p9 (nI sc)), (p6, .inl (cA 1, 8, .inr (.inl fpn)))] s.heap.size = A at hD hZ ⊢
  have hA : ∀ q : Nat, s.heap.size ≤ q → A q := fun q h => by rw [← hAe]; exact Or.inr h
  have hS : va_S A s.heap s.heap [] := va_S.rf
  have hP : va_P D vwCl [(oX3 p0 pr pb pe pg p1 (nI nd) p2 p3 p4 p5 (nI cn) p6 (nI pq) p7 p8 p9 (nI sc)), (p6, .inl (cA 1, 8, .inr (.inl fpn)))] s.heap := hP
  have hl := lv_entry ([.ref p0, .long w]) (n := 4) (Nat.le_of_ble_eq_true rfl)
  rw [lg_entry_eq]
  generalize (lg_sl ([.ref p0, .long w]) ++ List.replicate (4 - (lg_sl ([.ref p0, .long w])).length) Slot.unset).toArray = ls at hl ⊢
  have hl : lv_has ls 4 [(0, .ref p0), (1, .long w)] := hl
  have inX3 : ∀ w ∈ u_ws RX3 TX3 17, w ∈ wsX3_proofNamed := by decide +kernel
  refine lv_iconst (v := 0) hx hb dX3_proofNamed_0 (by decide) ?_
  refine lv_istore_n (lv' := [(3, .int 0), (0, .ref p0), (1, .long w)]) hx hb dX3_proofNamed_1 rfl hl (by decide) rfl (fun ls hl => ?_)
  have loop1 : ∀ (n1 i1 : Nat) (H : Heap) (locs : List Loc) (ls : Array Slot), i1 + n1 = pq → Nof i1 w fpn → va_P D vwCl [(oX3 p0 pr pb pe pg p1 (nI nd) p2 p3 p4 p5 (nI cn) p6 (nI pq) p7 p8 p9 (nI sc)), (p6, .inl (cA 1, 8, .inr (.inl fpn)))] H → va_D A [(oX3 p0 pr pb pe pg p1 (nI nd) p2 p3 p4 p5 (nI cn) p6 (nI pq) p7 p8 p9 (nI sc)), (p6, .inl (cA 1, 8, .inr (.inl fpn)))] → va_S A s.heap H locs → lv_has ls 4 [(3, .int (nI i1)), (0, .ref p0), (1, .long w)] → W p l e (headSpec wsX3_proofNamed ({ frames := 0, cells := 0, slots := 0, locals := 0 } : Room)).room s m ([.ref p0, .long w] : List Value).toArray below meth c H locs 0 0 (MQ below (va_Qi (fun (r : Int32) (_ : Unit) => r = nI (fi9 pl w)) (fun (_ : Unit) t => Wq D A [(oX3 p0 pr pb pe pg p1 (nI nd) p2 p3 p4 p5 (nI cn) p6 (nI pq) p7 p8 p9 (nI sc)), (p6, .inl (cA 1, 8, .inr (.inl fpn)))] t) A) ([.ref p0, .long w] : List Value).toArray s 0 0 A) (F0 m 2 ls []) := by
    intro n1
    induction n1 with
    | zero =>
      intro i1 H locs ls hi1 hv0_1 hP hD hS hl
      obtain rfl : pq = i1 := by omega
      exact absurd hm (NL.not hNP hv0_1)
    | succ n1 ih1 =>
      intro i1 H locs ls hi1 hv0_1 hP hD hS hl
      refine lv_iload_n hx hb dX3_proofNamed_2 rfl (lv_at hl 0 rfl) ?_
      refine lv_aload_n hx hb dX3_proofNamed_3 rfl (lv_at hl 1 rfl) ?_
      refine va_get (D := D) (ci := 7) (v := .int (nI pq)) (C := RX3) (T := TX3) (N := 17) hx hb hts inX3 hown hK hP 0 rfl rfl 12 (by decide) (hts (.fieldLink RX3 59 "EscrowDesk$Plan" "proofCount" "I") (by decide +kernel)) (fun _ h9 => h9) rfl dX3_proofNamed_4 ?_
      refine lv_icmp_ge (tgt := 29) hx hb dX3_proofNamed_7 (by decide) (fun c9 => absurd c9 (nI_ge (a := i1) (b := pq) (show i1 < pq by omega) (by omega))) (fun c1 => ?_)
      refine lv_aload_n hx hb dX3_proofNamed_10 rfl (lv_at hl 1 rfl) ?_
      refine va_get (D := D) (ci := 7) (v := .ref p6) (C := RX3) (T := TX3) (N := 17) hx hb hts inX3 hown hK hP 0 rfl rfl 11 (by decide) (hts (.fieldLink RX3 32 "EscrowDesk$Plan" "proofNames" "[J") (by decide +kernel)) (fun _ h9 => h9) rfl dX3_proofNamed_11 ?_
      refine lv_iload_n hx hb dX3_proofNamed_14 rfl (lv_at hl 0 rfl) ?_
      refine va_lald hx hb hK hP 1 1 rfl rfl (vp_in_nI (n := i1) (N := 8) (show i1 < 8 by omega) (by decide)) dX3_proofNamed_15 ?_
      refine lv_topl (fun yn2 eyn2 => ?_)
      obtain rfl : yn2 = (fpn i1) := eyn2.trans (by rw [nI_clamp (by omega)])
      refine lv_lload_n hx hb dX3_proofNamed_16 rfl (lv_at hl 2 rfl) ?_
      refine W.lcmp hx hb dX3_proofNamed_17 ?_
      refine lv_if_ne (tgt := 23) hx hb dX3_proofNamed_18 (by decide) (fun c3 => ?_) (fun c3 => ?_)
      · skip
        refine lv_iinc (v := (nI (i1 + 1))) (lv' := [(3, .int (nI (i1 + 1))), (0, .ref p0), (1, .long w)]) hx hb dX3_proofNamed_23 hl (k := 0) rfl (nI_1 _) (by decide) rfl (fun ls hl => ?_)
        refine lv_goto (tgt := 2) hx hb dX3_proofNamed_26 (by decide) ?_
        obtain ⟨hP9, hD9⟩ := PDq.sub (ws' := [(oX3 p0 pr pb pe pg p1 (nI nd) p2 p3 p4 p5 (nI cn) p6 (nI pq) p7 p8 p9 (nI sc)), (p6, .inl (cA 1, 8, .inr (.inl fpn)))]) hP hD [0, 1] (by decide) rfl
        exact ih1 (i1 + 1)  H _ ls (by omega) (Nof.step hv0_1 c3) hP9 hD9 hS (lv_sub hl [0, 1, 2] rfl)
      · skip
        refine lv_iload_n hx hb dX3_proofNamed_21 rfl (lv_at hl 0 rfl) ?_
        obtain ⟨hP9, hD9⟩ := PDq.sub (ws' := [(oX3 p0 pr pb pe pg p1 (nI nd) p2 p3 p4 p5 (nI cn) p6 (nI pq) p7 p8 p9 (nI sc)), (p6, .inl (cA 1, 8, .inr (.inl fpn)))]) hP hD [0, 1] (by decide) rfl
        refine W.widen (k := 0) (n := 0) (Nat.le_of_ble_eq_true rfl) (Nat.le_of_ble_eq_true rfl) ?_
        exact (W.iret (v := (nI i1)) hx hb hr (fun t ht hW => ⟨⟨(nI i1), (), rfl, (congrArg nI (NL.fi hNP (show i1 < pq by omega) (lg_eq0 c3) hv0_1).symm), by rw [ht]; exact hP9, hD9⟩, hS.F ht⟩) hS.2.2 dX3_proofNamed_22)
  obtain ⟨hP9, hD9⟩ := PDq.sub (ws' := [(oX3 p0 pr pb pe pg p1 (nI nd) p2 p3 p4 p5 (nI cn) p6 (nI pq) p7 p8 p9 (nI sc)), (p6, .inl (cA 1, 8, .inr (.inl fpn)))]) hP hD [0, 1] (by decide) rfl
  exact loop1 (pq - 0) 0  _ _ ls (by omega) (Nof.zero w fpn) hP9 hD9 hS (lv_sub hl [0, 1, 2] rfl)

set_option maxHeartbeats 4000000 in
set_option maxRecDepth 100000 in
/-- proofNamed: one too many -/
theorem x_proofFull (l : Launch) (D : va_G) (cA : Nat → ClassId) (sa : Nat → Nat) (p0 : Nat) (p1 : Nat) (p2 : Nat) (p3 : Nat) (p4 : Nat) (p5 : Nat) (p6 : Nat) (p7 : Nat) (p8 : Nat) (p9 : Nat) (cn : Nat) (pq : Nat) (nd : Nat) (sc : Nat) (pr : Int32) (pb : Int32) (pe : Int32) (pg : Int32) (w : Int64) (fpn : Nat → Int64) (pl : List Int64) (sz : Nat) (hcn : cn ≤ 10) (hpq : pq ≤ 8) (hnd : nd ≤ 6) (hsc : sc ≤ 350) (hNP : NL pl pq fpn) (hnm : ¬ w ∈ pl) (h8 : pq = 8) : Met l yX3_proofNamed wsX3_proofNamed ({ frames := 0, cells := 0, slots := 0, locals := 0 }) (va_Pc [.ref p0, .long w] (Wd D cA sa [(oX3 p0 pr pb pe pg p1 (nI nd) p2 p3 p4 p5 (nI cn) p6 (nI pq) p7 p8 p9 (nI sc)), (p6, .inl (cA 1, 8, .inr (.inl fpn)))] sz)) (va_Qi (fun (r : Int32) (_ : Unit) => r = (-1)) (fun (_ : Unit) t => Wq D (va_A [(oX3 p0 pr pb pe pg p1 (nI nd) p2 p3 p4 p5 (nI cn) p6 (nI pq) p7 p8 p9 (nI sc)), (p6, .inl (cA 1, 8, .inr (.inl fpn)))] sz) [(oX3 p0 pr pb pe pg p1 (nI nd) p2 p3 p4 p5 (nI cn) p6 (nI pq) p7 p8 p9 (nI sc)), (p6, .inl (cA 1, 8, .inr (.inl fpn)))] t) (va_A [(oX3 p0 pr pb pe pg p1 (nI nd) p2 p3 p4 p5 (nI cn) p6 (nI pq) p7 p8 p9 (nI sc)), (p6, .inl (cA 1, 8, .inr (.inl fpn)))] sz)) 0 0 (va_A [(oX3 p0 pr pb pe pg p1 (nI nd) p2 p3 p4 p5 (nI cn) p6 (nI pq) p7 p8 p9 (nI sc)), (p6, .inl (cA 1, 8, .inr (.inl fpn)))] sz) := by
  refine Met.ofW (cc := cX3_proofNamed) (maxL := 4) (ret := (some .int)) (by decide) rfl ?_
  intro p e s m args below meth c s₁ B hml hv
  obtain ⟨rfl, hsz, hP, hK, hD0, hC, hZ⟩ := hv
  have hx := B.exec
  have hb := B.bytes
  have hr := B.returns
  have hts := atoms_spec (ws := wsX3_proofNamed) B.pre
  have hown : s.vm.findClass RX3 = some m.cls := findClass_of_methodNamed B.named
  have hlocks := B.notSynchronized
  subst hsz
  have hD := hD0.self (sz := s.heap.size)
  generalize hAe : va_A [(oX3 p0 pr pb pe pg p1 (nI nd) p2 p3 p4 p5 (nI cn) p6 (nI pq) p7 p8 p9 (nI sc)), (p6, .inl (cA 1, 8, .inr (.inl fpn)))] s.heap.size = A at hD hZ ⊢
  have hA : ∀ q : Nat, s.heap.size ≤ q → A q := fun q h => by rw [← hAe]; exact Or.inr h
  have hS : va_S A s.heap s.heap [] := va_S.rf
  have hP : va_P D vwCl [(oX3 p0 pr pb pe pg p1 (nI nd) p2 p3 p4 p5 (nI cn) p6 (nI pq) p7 p8 p9 (nI sc)), (p6, .inl (cA 1, 8, .inr (.inl fpn)))] s.heap := hP
  have hl := lv_entry ([.ref p0, .long w]) (n := 4) (Nat.le_of_ble_eq_true rfl)
  rw [lg_entry_eq]
  generalize (lg_sl ([.ref p0, .long w]) ++ List.replicate (4 - (lg_sl ([.ref p0, .long w])).length) Slot.unset).toArray = ls at hl ⊢
  have hl : lv_has ls 4 [(0, .ref p0), (1, .long w)] := hl
  have inX3 : ∀ w ∈ u_ws RX3 TX3 17, w ∈ wsX3_proofNamed := by decide +kernel
  refine lv_iconst (v := 0) hx hb dX3_proofNamed_0 (by decide) ?_
  refine lv_istore_n (lv' := [(3, .int 0), (0, .ref p0), (1, .long w)]) hx hb dX3_proofNamed_1 rfl hl (by decide) rfl (fun ls hl => ?_)
  have loop1 : ∀ (n1 i1 : Nat) (H : Heap) (locs : List Loc) (ls : Array Slot), i1 + n1 = pq → Nof i1 w fpn → va_P D vwCl [(oX3 p0 pr pb pe pg p1 (nI nd) p2 p3 p4 p5 (nI cn) p6 (nI pq) p7 p8 p9 (nI sc)), (p6, .inl (cA 1, 8, .inr (.inl fpn)))] H → va_D A [(oX3 p0 pr pb pe pg p1 (nI nd) p2 p3 p4 p5 (nI cn) p6 (nI pq) p7 p8 p9 (nI sc)), (p6, .inl (cA 1, 8, .inr (.inl fpn)))] → va_S A s.heap H locs → lv_has ls 4 [(3, .int (nI i1)), (0, .ref p0), (1, .long w)] → W p l e (headSpec wsX3_proofNamed ({ frames := 0, cells := 0, slots := 0, locals := 0 } : Room)).room s m ([.ref p0, .long w] : List Value).toArray below meth c H locs 0 0 (MQ below (va_Qi (fun (r : Int32) (_ : Unit) => r = (-1)) (fun (_ : Unit) t => Wq D A [(oX3 p0 pr pb pe pg p1 (nI nd) p2 p3 p4 p5 (nI cn) p6 (nI pq) p7 p8 p9 (nI sc)), (p6, .inl (cA 1, 8, .inr (.inl fpn)))] t) A) ([.ref p0, .long w] : List Value).toArray s 0 0 A) (F0 m 2 ls []) := by
    intro n1
    induction n1 with
    | zero =>
      intro i1 H locs ls hi1 hv0_1 hP hD hS hl
      obtain rfl : pq = i1 := by omega
      refine lv_iload_n hx hb dX3_proofNamed_2 rfl (lv_at hl 0 rfl) ?_
      refine lv_aload_n hx hb dX3_proofNamed_3 rfl (lv_at hl 1 rfl) ?_
      refine va_get (D := D) (ci := 7) (v := .int (nI pq)) (C := RX3) (T := TX3) (N := 17) hx hb hts inX3 hown hK hP 0 rfl rfl 12 (by decide) (hts (.fieldLink RX3 59 "EscrowDesk$Plan" "proofCount" "I") (by decide +kernel)) (fun _ h9 => h9) rfl dX3_proofNamed_4 ?_
      refine lv_icmp_ge (tgt := 29) hx hb dX3_proofNamed_7 (by decide) (fun c1 => ?_) (fun c9 => absurd (nI_le (a := pq) (b := pq) (show pq ≤ pq by omega) (by omega)) c9)
      refine lv_aload_n hx hb dX3_proofNamed_29 rfl (lv_at hl 1 rfl) ?_
      refine va_get (D := D) (ci := 7) (v := .int (nI pq)) (C := RX3) (T := TX3) (N := 17) hx hb hts inX3 hown hK hP 0 rfl rfl 12 (by decide) (hts (.fieldLink RX3 59 "EscrowDesk$Plan" "proofCount" "I") (by decide +kernel)) (fun _ h9 => h9) rfl dX3_proofNamed_30 ?_
      refine lv_bipush (v := 8) hx hb dX3_proofNamed_33 (by decide) ?_
      refine lv_icmp_lt (tgt := 40) hx hb dX3_proofNamed_35 (by decide) (fun c9 => absurd c9 (nI_nlt (a := pq) (b := 8) (show 8 ≤ pq by omega) (by omega))) (fun c2 => ?_)
      refine lv_iconst (v := (-1)) hx hb dX3_proofNamed_38 (by decide) ?_
      obtain ⟨hP9, hD9⟩ := PDq.sub (ws' := [(oX3 p0 pr pb pe pg p1 (nI nd) p2 p3 p4 p5 (nI cn) p6 (nI pq) p7 p8 p9 (nI sc)), (p6, .inl (cA 1, 8, .inr (.inl fpn)))]) hP hD [0, 1] (by decide) rfl
      refine W.widen (k := 0) (n := 0) (Nat.le_of_ble_eq_true rfl) (Nat.le_of_ble_eq_true rfl) ?_
      exact (W.iret (v := (-1)) hx hb hr (fun t ht hW => ⟨⟨(-1), (), rfl, rfl, by rw [ht]; exact hP9, hD9⟩, hS.F ht⟩) hS.2.2 dX3_proofNamed_39)
    | succ n1 ih1 =>
      intro i1 H locs ls hi1 hv0_1 hP hD hS hl
      refine lv_iload_n hx hb dX3_proofNamed_2 rfl (lv_at hl 0 rfl) ?_
      refine lv_aload_n hx hb dX3_proofNamed_3 rfl (lv_at hl 1 rfl) ?_
      refine va_get (D := D) (ci := 7) (v := .int (nI pq)) (C := RX3) (T := TX3) (N := 17) hx hb hts inX3 hown hK hP 0 rfl rfl 12 (by decide) (hts (.fieldLink RX3 59 "EscrowDesk$Plan" "proofCount" "I") (by decide +kernel)) (fun _ h9 => h9) rfl dX3_proofNamed_4 ?_
      refine lv_icmp_ge (tgt := 29) hx hb dX3_proofNamed_7 (by decide) (fun c9 => absurd c9 (nI_ge (a := i1) (b := pq) (show i1 < pq by omega) (by omega))) (fun c3 => ?_)
      refine lv_aload_n hx hb dX3_proofNamed_10 rfl (lv_at hl 1 rfl) ?_
      refine va_get (D := D) (ci := 7) (v := .ref p6) (C := RX3) (T := TX3) (N := 17) hx hb hts inX3 hown hK hP 0 rfl rfl 11 (by decide) (hts (.fieldLink RX3 32 "EscrowDesk$Plan" "proofNames" "[J") (by decide +kernel)) (fun _ h9 => h9) rfl dX3_proofNamed_11 ?_
      refine lv_iload_n hx hb dX3_proofNamed_14 rfl (lv_at hl 0 rfl) ?_
      refine va_lald hx hb hK hP 1 1 rfl rfl (vp_in_nI (n := i1) (N := 8) (show i1 < 8 by omega) (by decide)) dX3_proofNamed_15 ?_
      refine lv_topl (fun yn4 eyn4 => ?_)
      obtain rfl : yn4 = (fpn i1) := eyn4.trans (by rw [nI_clamp (by omega)])
      refine lv_lload_n hx hb dX3_proofNamed_16 rfl (lv_at hl 2 rfl) ?_
      refine W.lcmp hx hb dX3_proofNamed_17 ?_
      refine lv_if_ne (tgt := 23) hx hb dX3_proofNamed_18 (by decide) (fun c5 => ?_) (fun c5 => ?_)
      · skip
        refine lv_iinc (v := (nI (i1 + 1))) (lv' := [(3, .int (nI (i1 + 1))), (0, .ref p0), (1, .long w)]) hx hb dX3_proofNamed_23 hl (k := 0) rfl (nI_1 _) (by decide) rfl (fun ls hl => ?_)
        refine lv_goto (tgt := 2) hx hb dX3_proofNamed_26 (by decide) ?_
        obtain ⟨hP9, hD9⟩ := PDq.sub (ws' := [(oX3 p0 pr pb pe pg p1 (nI nd) p2 p3 p4 p5 (nI cn) p6 (nI pq) p7 p8 p9 (nI sc)), (p6, .inl (cA 1, 8, .inr (.inl fpn)))]) hP hD [0, 1] (by decide) rfl
        exact ih1 (i1 + 1)  H _ ls (by omega) (Nof.step hv0_1 c5) hP9 hD9 hS (lv_sub hl [0, 1, 2] rfl)
      · skip
        exact absurd (NL.mem hNP (show i1 < pq by omega) (lg_eq0 c5)) hnm
  obtain ⟨hP9, hD9⟩ := PDq.sub (ws' := [(oX3 p0 pr pb pe pg p1 (nI nd) p2 p3 p4 p5 (nI cn) p6 (nI pq) p7 p8 p9 (nI sc)), (p6, .inl (cA 1, 8, .inr (.inl fpn)))]) hP hD [0, 1] (by decide) rfl
  exact loop1 (pq - 0) 0  _ _ ls (by omega) (Nof.zero w fpn) hP9 hD9 hS (lv_sub hl [0, 1, 2] rfl)

set_option maxHeartbeats 4000000 in
set_option maxRecDepth 100000 in
/-- proofNamed: a new one -/
theorem x_proofNew (l : Launch) (D : va_G) (cA : Nat → ClassId) (sa : Nat → Nat) (p0 : Nat) (p1 : Nat) (p2 : Nat) (p3 : Nat) (p4 : Nat) (p5 : Nat) (p6 : Nat) (p7 : Nat) (p8 : Nat) (p9 : Nat) (cn : Nat) (pq : Nat) (nd : Nat) (sc : Nat) (pr : Int32) (pb : Int32) (pe : Int32) (pg : Int32) (w : Int64) (fpn : Nat → Int64) (pl : List Int64) (sz : Nat) (hcn : cn ≤ 10) (hpq : pq ≤ 8) (hnd : nd ≤ 6) (hsc : sc ≤ 350) (hNP : NL pl pq fpn) (hnm : ¬ w ∈ pl) (h8 : pq < 8) : Met l yX3_proofNamed wsX3_proofNamed ({ frames := 0, cells := 0, slots := 0, locals := 0 }) (va_Pc [.ref p0, .long w] (Wd D cA sa [(oX3 p0 pr pb pe pg p1 (nI nd) p2 p3 p4 p5 (nI cn) p6 (nI pq) p7 p8 p9 (nI sc)), (p6, .inl (cA 1, 8, .inr (.inl fpn)))] sz)) (va_Qi (fun (r : Int32) (_ : Unit) => r = nI pq) (fun (_ : Unit) t => ∃ zpn : Nat → Int64, NL (pl ++ [w]) (pq + 1) zpn ∧ Wq D (va_A [(oX3 p0 pr pb pe pg p1 (nI nd) p2 p3 p4 p5 (nI cn) p6 (nI pq) p7 p8 p9 (nI sc)), (p6, .inl (cA 1, 8, .inr (.inl fpn)))] sz) [(oX3 p0 pr pb pe pg p1 (nI nd) p2 p3 p4 p5 (nI cn) p6 (nI (pq + 1)) p7 p8 p9 (nI sc)), (p6, .inl (cA 1, 8, .inr (.inl zpn)))] t) (va_A [(oX3 p0 pr pb pe pg p1 (nI nd) p2 p3 p4 p5 (nI cn) p6 (nI pq) p7 p8 p9 (nI sc)), (p6, .inl (cA 1, 8, .inr (.inl fpn)))] sz)) 0 0 (va_A [(oX3 p0 pr pb pe pg p1 (nI nd) p2 p3 p4 p5 (nI cn) p6 (nI pq) p7 p8 p9 (nI sc)), (p6, .inl (cA 1, 8, .inr (.inl fpn)))] sz) := by
  refine Met.ofW (cc := cX3_proofNamed) (maxL := 4) (ret := (some .int)) (by decide) rfl ?_
  intro p e s m args below meth c s₁ B hml hv
  obtain ⟨rfl, hsz, hP, hK, hD0, hC, hZ⟩ := hv
  have hx := B.exec
  have hb := B.bytes
  have hr := B.returns
  have hts := atoms_spec (ws := wsX3_proofNamed) B.pre
  have hown : s.vm.findClass RX3 = some m.cls := findClass_of_methodNamed B.named
  have hlocks := B.notSynchronized
  subst hsz
  have hD := hD0.self (sz := s.heap.size)
  generalize hAe : va_A [(oX3 p0 pr pb pe pg p1 (nI nd) p2 p3 p4 p5 (nI cn) p6 (nI pq) p7 p8 p9 (nI sc)), (p6, .inl (cA 1, 8, .inr (.inl fpn)))] s.heap.size = A at hD hZ ⊢
  have hA : ∀ q : Nat, s.heap.size ≤ q → A q := fun q h => by rw [← hAe]; exact Or.inr h
  have hS : va_S A s.heap s.heap [] := va_S.rf
  have hP : va_P D vwCl [(oX3 p0 pr pb pe pg p1 (nI nd) p2 p3 p4 p5 (nI cn) p6 (nI pq) p7 p8 p9 (nI sc)), (p6, .inl (cA 1, 8, .inr (.inl fpn)))] s.heap := hP
  have hl := lv_entry ([.ref p0, .long w]) (n := 4) (Nat.le_of_ble_eq_true rfl)
  rw [lg_entry_eq]
  generalize (lg_sl ([.ref p0, .long w]) ++ List.replicate (4 - (lg_sl ([.ref p0, .long w])).length) Slot.unset).toArray = ls at hl ⊢
  have hl : lv_has ls 4 [(0, .ref p0), (1, .long w)] := hl
  have inX3 : ∀ w ∈ u_ws RX3 TX3 17, w ∈ wsX3_proofNamed := by decide +kernel
  refine lv_iconst (v := 0) hx hb dX3_proofNamed_0 (by decide) ?_
  refine lv_istore_n (lv' := [(3, .int 0), (0, .ref p0), (1, .long w)]) hx hb dX3_proofNamed_1 rfl hl (by decide) rfl (fun ls hl => ?_)
  have loop1 : ∀ (n1 i1 : Nat) (H : Heap) (locs : List Loc) (ls : Array Slot), i1 + n1 = pq → Nof i1 w fpn → va_P D vwCl [(oX3 p0 pr pb pe pg p1 (nI nd) p2 p3 p4 p5 (nI cn) p6 (nI pq) p7 p8 p9 (nI sc)), (p6, .inl (cA 1, 8, .inr (.inl fpn)))] H → va_D A [(oX3 p0 pr pb pe pg p1 (nI nd) p2 p3 p4 p5 (nI cn) p6 (nI pq) p7 p8 p9 (nI sc)), (p6, .inl (cA 1, 8, .inr (.inl fpn)))] → va_S A s.heap H locs → lv_has ls 4 [(3, .int (nI i1)), (0, .ref p0), (1, .long w)] → W p l e (headSpec wsX3_proofNamed ({ frames := 0, cells := 0, slots := 0, locals := 0 } : Room)).room s m ([.ref p0, .long w] : List Value).toArray below meth c H locs 0 0 (MQ below (va_Qi (fun (r : Int32) (_ : Unit) => r = nI pq) (fun (_ : Unit) t => ∃ zpn : Nat → Int64, NL (pl ++ [w]) (pq + 1) zpn ∧ Wq D A [(oX3 p0 pr pb pe pg p1 (nI nd) p2 p3 p4 p5 (nI cn) p6 (nI (pq + 1)) p7 p8 p9 (nI sc)), (p6, .inl (cA 1, 8, .inr (.inl zpn)))] t) A) ([.ref p0, .long w] : List Value).toArray s 0 0 A) (F0 m 2 ls []) := by
    intro n1
    induction n1 with
    | zero =>
      intro i1 H locs ls hi1 hv0_1 hP hD hS hl
      obtain rfl : pq = i1 := by omega
      refine lv_iload_n hx hb dX3_proofNamed_2 rfl (lv_at hl 0 rfl) ?_
      refine lv_aload_n hx hb dX3_proofNamed_3 rfl (lv_at hl 1 rfl) ?_
      refine va_get (D := D) (ci := 7) (v := .int (nI pq)) (C := RX3) (T := TX3) (N := 17) hx hb hts inX3 hown hK hP 0 rfl rfl 12 (by decide) (hts (.fieldLink RX3 59 "EscrowDesk$Plan" "proofCount" "I") (by decide +kernel)) (fun _ h9 => h9) rfl dX3_proofNamed_4 ?_
      refine lv_icmp_ge (tgt := 29) hx hb dX3_proofNamed_7 (by decide) (fun c1 => ?_) (fun c9 => absurd (nI_le (a := pq) (b := pq) (show pq ≤ pq by omega) (by omega)) c9)
      refine lv_aload_n hx hb dX3_proofNamed_29 rfl (lv_at hl 1 rfl) ?_
      refine va_get (D := D) (ci := 7) (v := .int (nI pq)) (C := RX3) (T := TX3) (N := 17) hx hb hts inX3 hown hK hP 0 rfl rfl 12 (by decide) (hts (.fieldLink RX3 59 "EscrowDesk$Plan" "proofCount" "I") (by decide +kernel)) (fun _ h9 => h9) rfl dX3_proofNamed_30 ?_
      refine lv_bipush (v := 8) hx hb dX3_proofNamed_33 (by decide) ?_
      refine lv_icmp_lt (tgt := 40) hx hb dX3_proofNamed_35 (by decide) (fun c2 => ?_) (fun c9 => absurd (nI_lt (a := pq) (b := 8) (show pq < 8 by omega) (by omega)) c9)
      refine lv_aload_n hx hb dX3_proofNamed_40 rfl (lv_at hl 1 rfl) ?_
      refine va_get (D := D) (ci := 7) (v := .ref p6) (C := RX3) (T := TX3) (N := 17) hx hb hts inX3 hown hK hP 0 rfl rfl 11 (by decide) (hts (.fieldLink RX3 32 "EscrowDesk$Plan" "proofNames" "[J") (by decide +kernel)) (fun _ h9 => h9) rfl dX3_proofNamed_41 ?_
      refine lv_aload_n hx hb dX3_proofNamed_44 rfl (lv_at hl 1 rfl) ?_
      refine va_get (D := D) (ci := 7) (v := .int (nI pq)) (C := RX3) (T := TX3) (N := 17) hx hb hts inX3 hown hK hP 0 rfl rfl 12 (by decide) (hts (.fieldLink RX3 59 "EscrowDesk$Plan" "proofCount" "I") (by decide +kernel)) (fun _ h9 => h9) rfl dX3_proofNamed_45 ?_
      refine lv_lload_n hx hb dX3_proofNamed_48 rfl (lv_at hl 2 rfl) ?_
      refine va_last hx hb hK hP hD hS 1 1 rfl rfl (vp_in_nI (n := pq) (N := 8) (show pq < 8 by omega) (by decide)) dX3_proofNamed_49 (fun H locs hP hD hS => ?_)
      obtain ⟨hP, hD⟩ : PDq D A [(oX3 p0 pr pb pe pg p1 (nI nd) p2 p3 p4 p5 (nI cn) p6 (nI pq) p7 p8 p9 (nI sc)), (p6, .inl (cA 1, 8, .inr (.inl (vp_updL fpn (((nI pq)).toNatClampNeg) w))))] H := ⟨hP, hD⟩
      have hn4 : UppL pq w fpn (vp_updL fpn (((nI pq)).toNatClampNeg) w) := UppL.of (by omega)
      have hn5 : Rdd (vp_updL fpn (((nI pq)).toNatClampNeg) w) := rfl
      generalize (vp_updL fpn (((nI pq)).toNatClampNeg) w) = fn3 at hP hD hn4 hn5
      obtain ⟨hP, hD⟩ : PDq D A [(oX3 p0 pr pb pe pg p1 (nI nd) p2 p3 p4 p5 (nI cn) p6 (nI pq) p7 p8 p9 (nI sc)), (p6, .inl (cA 1, 8, .inr (.inl fn3)))] H := ⟨hP, hD⟩
      refine lv_aload_n hx hb dX3_proofNamed_50 rfl (lv_at hl 1 rfl) ?_
      refine lv_dup hx hb dX3_proofNamed_51 rfl ?_
      refine va_get (D := D) (ci := 7) (v := .int (nI pq)) (C := RX3) (T := TX3) (N := 17) hx hb hts inX3 hown hK hP 0 rfl rfl 12 (by decide) (hts (.fieldLink RX3 59 "EscrowDesk$Plan" "proofCount" "I") (by decide +kernel)) (fun _ h9 => h9) rfl dX3_proofNamed_52 ?_
      refine lv_iconst (v := 1) hx hb dX3_proofNamed_55 (by decide) ?_
      refine lv_iadd hx hb dX3_proofNamed_56 ?_
      refine lv_topi (fun yn6 eyn6 => ?_)
      obtain rfl : yn6 = (nI (pq + 1)) := eyn6.trans (nI_add pq 1)
      refine va_put (D := D) (ci := 7) (v := .int (nI (pq + 1))) (ty := .int) (C := RX3) (T := TX3) (N := 17) hx hb hts inX3 tyX3 tyX3_ok nmX3 hown hK hP hD hS 0 rfl rfl 12 (by decide) (hts (.fieldLink RX3 59 "EscrowDesk$Plan" "proofCount" "I") (by decide +kernel)) (fun _ h9 => h9) rfl (by decide +kernel) rfl rfl (Nat.le_of_ble_eq_true rfl) dX3_proofNamed_57 (fun H locs hP hD hS => ?_)
      obtain ⟨hP, hD⟩ : PDq D A [(oX3 p0 pr pb pe pg p1 (nI nd) p2 p3 p4 p5 (nI cn) p6 (nI (pq + 1)) p7 p8 p9 (nI sc)), (p6, .inl (cA 1, 8, .inr (.inl fn3)))] H := ⟨hP, hD⟩
      refine lv_aload_n hx hb dX3_proofNamed_60 rfl (lv_at hl 1 rfl) ?_
      refine va_get (D := D) (ci := 7) (v := .int (nI (pq + 1))) (C := RX3) (T := TX3) (N := 17) hx hb hts inX3 hown hK hP 0 rfl rfl 12 (by decide) (hts (.fieldLink RX3 59 "EscrowDesk$Plan" "proofCount" "I") (by decide +kernel)) (fun _ h9 => h9) rfl dX3_proofNamed_61 ?_
      refine lv_iconst (v := 1) hx hb dX3_proofNamed_64 (by decide) ?_
      refine lv_isub hx hb dX3_proofNamed_65 ?_
      refine lv_topi (fun yn7 eyn7 => ?_)
      obtain rfl : yn7 = (nI ((pq + 1) - 1)) := eyn7.trans (nI_sub (a := (pq + 1)) (b := 1) (by omega))
      obtain ⟨hP9, hD9⟩ := PDq.sub (ws' := [(oX3 p0 pr pb pe pg p1 (nI nd) p2 p3 p4 p5 (nI cn) p6 (nI (pq + 1)) p7 p8 p9 (nI sc)), (p6, .inl (cA 1, 8, .inr (.inl fn3)))]) hP hD [0, 1] (by decide) rfl
      refine W.widen (k := 0) (n := 0) (Nat.le_of_ble_eq_true rfl) (Nat.le_of_ble_eq_true rfl) ?_
      exact (W.iret (v := (nI ((pq + 1) - 1))) hx hb hr (fun t ht hW => ⟨⟨(nI ((pq + 1) - 1)), (), rfl, (congrArg nI (show ((pq + 1) - 1) = pq by omega)), fn3, (by have q9 := NL.put hNP w; rw [← show fn3 = vp_updL fpn pq w from hn4] at q9; exact q9), by rw [ht]; exact hP9, hD9⟩, hS.F ht⟩) hS.2.2 dX3_proofNamed_66)
    | succ n1 ih1 =>
      intro i1 H locs ls hi1 hv0_1 hP hD hS hl
      refine lv_iload_n hx hb dX3_proofNamed_2 rfl (lv_at hl 0 rfl) ?_
      refine lv_aload_n hx hb dX3_proofNamed_3 rfl (lv_at hl 1 rfl) ?_
      refine va_get (D := D) (ci := 7) (v := .int (nI pq)) (C := RX3) (T := TX3) (N := 17) hx hb hts inX3 hown hK hP 0 rfl rfl 12 (by decide) (hts (.fieldLink RX3 59 "EscrowDesk$Plan" "proofCount" "I") (by decide +kernel)) (fun _ h9 => h9) rfl dX3_proofNamed_4 ?_
      refine lv_icmp_ge (tgt := 29) hx hb dX3_proofNamed_7 (by decide) (fun c9 => absurd c9 (nI_ge (a := i1) (b := pq) (show i1 < pq by omega) (by omega))) (fun c8 => ?_)
      refine lv_aload_n hx hb dX3_proofNamed_10 rfl (lv_at hl 1 rfl) ?_
      refine va_get (D := D) (ci := 7) (v := .ref p6) (C := RX3) (T := TX3) (N := 17) hx hb hts inX3 hown hK hP 0 rfl rfl 11 (by decide) (hts (.fieldLink RX3 32 "EscrowDesk$Plan" "proofNames" "[J") (by decide +kernel)) (fun _ h9 => h9) rfl dX3_proofNamed_11 ?_
      refine lv_iload_n hx hb dX3_proofNamed_14 rfl (lv_at hl 0 rfl) ?_
      refine va_lald hx hb hK hP 1 1 rfl rfl (vp_in_nI (n := i1) (N := 8) (show i1 < 8 by omega) (by decide)) dX3_proofNamed_15 ?_
      refine lv_topl (fun yn9 eyn9 => ?_)
      obtain rfl : yn9 = (fpn i1) := eyn9.trans (by rw [nI_clamp (by omega)])
      refine lv_lload_n hx hb dX3_proofNamed_16 rfl (lv_at hl 2 rfl) ?_
      refine W.lcmp hx hb dX3_proofNamed_17 ?_
      refine lv_if_ne (tgt := 23) hx hb dX3_proofNamed_18 (by decide) (fun c10 => ?_) (fun c10 => ?_)
      · skip
        refine lv_iinc (v := (nI (i1 + 1))) (lv' := [(3, .int (nI (i1 + 1))), (0, .ref p0), (1, .long w)]) hx hb dX3_proofNamed_23 hl (k := 0) rfl (nI_1 _) (by decide) rfl (fun ls hl => ?_)
        refine lv_goto (tgt := 2) hx hb dX3_proofNamed_26 (by decide) ?_
        obtain ⟨hP9, hD9⟩ := PDq.sub (ws' := [(oX3 p0 pr pb pe pg p1 (nI nd) p2 p3 p4 p5 (nI cn) p6 (nI pq) p7 p8 p9 (nI sc)), (p6, .inl (cA 1, 8, .inr (.inl fpn)))]) hP hD [0, 1] (by decide) rfl
        exact ih1 (i1 + 1)  H _ ls (by omega) (Nof.step hv0_1 c10) hP9 hD9 hS (lv_sub hl [0, 1, 2] rfl)
      · skip
        exact absurd (NL.mem hNP (show i1 < pq by omega) (lg_eq0 c10)) hnm
  obtain ⟨hP9, hD9⟩ := PDq.sub (ws' := [(oX3 p0 pr pb pe pg p1 (nI nd) p2 p3 p4 p5 (nI cn) p6 (nI pq) p7 p8 p9 (nI sc)), (p6, .inl (cA 1, 8, .inr (.inl fpn)))]) hP hD [0, 1] (by decide) rfl
  exact loop1 (pq - 0) 0  _ _ ls (by omega) (Nof.zero w fpn) hP9 hD9 hS (lv_sub hl [0, 1, 2] rfl)

set_option maxHeartbeats 4000000 in
set_option maxRecDepth 100000 in
/-- addStep -/
theorem x_addStep (l : Launch) (D : va_G) (cA : Nat → ClassId) (sa : Nat → Nat) (p0 : Nat) (p1 : Nat) (p2 : Nat) (p3 : Nat) (p4 : Nat) (p5 : Nat) (p6 : Nat) (p7 : Nat) (p8 : Nat) (p9 : Nat) (cn : Nat) (pq : Nat) (nd : Nat) (sc : Nat) (pr : Int32) (pb : Int32) (pe : Int32) (pg : Int32) (a : Int32) (b : Int32) (fst : Nat → Int32) (fop : Nat → Int32) (sz : Nat) (hsc : sc < 350) : Met l yX3_addStep wsX3_addStep ({ frames := 0, cells := 0, slots := 0, locals := 0 }) (va_Pc [.ref p0, .int a, .int b] (Wd D cA sa [(oX3 p0 pr pb pe pg p1 (nI nd) p2 p3 p4 p5 (nI cn) p6 (nI pq) p7 p8 p9 (nI sc)), (p7, .inl (cA 0, 350, .inl fst)), (p8, .inl (cA 0, 350, .inl fop))] sz)) (va_Qi (fun (r : Int32) (_ : Unit) => r = 1) (fun (_ : Unit) t => ∃ zst : Nat → Int32, ∃ zop : Nat → Int32, Upp sc a fst zst ∧ Upp sc b fop zop ∧ Wq D (va_A [(oX3 p0 pr pb pe pg p1 (nI nd) p2 p3 p4 p5 (nI cn) p6 (nI pq) p7 p8 p9 (nI sc)), (p7, .inl (cA 0, 350, .inl fst)), (p8, .inl (cA 0, 350, .inl fop))] sz) [(oX3 p0 pr pb pe pg p1 (nI nd) p2 p3 p4 p5 (nI cn) p6 (nI pq) p7 p8 p9 (nI (sc + 1))), (p7, .inl (cA 0, 350, .inl zst)), (p8, .inl (cA 0, 350, .inl zop))] t) (va_A [(oX3 p0 pr pb pe pg p1 (nI nd) p2 p3 p4 p5 (nI cn) p6 (nI pq) p7 p8 p9 (nI sc)), (p7, .inl (cA 0, 350, .inl fst)), (p8, .inl (cA 0, 350, .inl fop))] sz)) 0 0 (va_A [(oX3 p0 pr pb pe pg p1 (nI nd) p2 p3 p4 p5 (nI cn) p6 (nI pq) p7 p8 p9 (nI sc)), (p7, .inl (cA 0, 350, .inl fst)), (p8, .inl (cA 0, 350, .inl fop))] sz) := by
  refine Met.ofW (cc := cX3_addStep) (maxL := 3) (ret := (some .boolean)) (by decide) rfl ?_
  intro p e s m args below meth c s₁ B hml hv
  obtain ⟨rfl, hsz, hP, hK, hD0, hC, hZ⟩ := hv
  have hx := B.exec
  have hb := B.bytes
  have hr := B.returns
  have hts := atoms_spec (ws := wsX3_addStep) B.pre
  have hown : s.vm.findClass RX3 = some m.cls := findClass_of_methodNamed B.named
  have hlocks := B.notSynchronized
  subst hsz
  have hD := hD0.self (sz := s.heap.size)
  generalize hAe : va_A [(oX3 p0 pr pb pe pg p1 (nI nd) p2 p3 p4 p5 (nI cn) p6 (nI pq) p7 p8 p9 (nI sc)), (p7, .inl (cA 0, 350, .inl fst)), (p8, .inl (cA 0, 350, .inl fop))] s.heap.size = A at hD hZ ⊢
  have hA : ∀ q : Nat, s.heap.size ≤ q → A q := fun q h => by rw [← hAe]; exact Or.inr h
  have hS : va_S A s.heap s.heap [] := va_S.rf
  have hP : va_P D vwCl [(oX3 p0 pr pb pe pg p1 (nI nd) p2 p3 p4 p5 (nI cn) p6 (nI pq) p7 p8 p9 (nI sc)), (p7, .inl (cA 0, 350, .inl fst)), (p8, .inl (cA 0, 350, .inl fop))] s.heap := hP
  have hl := lv_entry ([.ref p0, .int a, .int b]) (n := 3) (Nat.le_of_ble_eq_true rfl)
  rw [lg_entry_eq]
  generalize (lg_sl ([.ref p0, .int a, .int b]) ++ List.replicate (3 - (lg_sl ([.ref p0, .int a, .int b])).length) Slot.unset).toArray = ls at hl ⊢
  have hl : lv_has ls 3 [(0, .ref p0), (1, .int a), (2, .int b)] := hl
  have inX3 : ∀ w ∈ u_ws RX3 TX3 17, w ∈ wsX3_addStep := by decide +kernel
  refine lv_aload_n hx hb dX3_addStep_0 rfl (lv_at hl 0 rfl) ?_
  refine va_get (D := D) (ci := 7) (v := .int (nI sc)) (C := RX3) (T := TX3) (N := 17) hx hb hts inX3 hown hK hP 0 rfl rfl 16 (by decide) (hts (.fieldLink RX3 62 "EscrowDesk$Plan" "stepCount" "I") (by decide +kernel)) (fun _ h9 => h9) rfl dX3_addStep_1 ?_
  refine lv_sipush (v := 350) hx hb dX3_addStep_4 (by decide) ?_
  refine lv_icmp_lt (tgt := 12) hx hb dX3_addStep_7 (by decide) (fun c1 => ?_) (fun c9 => absurd (nI_lt (a := sc) (b := 350) (show sc < 350 by omega) (by omega)) c9)
  refine lv_aload_n hx hb dX3_addStep_12 rfl (lv_at hl 0 rfl) ?_
  refine va_get (D := D) (ci := 7) (v := .ref p7) (C := RX3) (T := TX3) (N := 17) hx hb hts inX3 hown hK hP 0 rfl rfl 13 (by decide) (hts (.fieldLink RX3 35 "EscrowDesk$Plan" "steps" "[I") (by decide +kernel)) (fun _ h9 => h9) rfl dX3_addStep_13 ?_
  refine lv_aload_n hx hb dX3_addStep_16 rfl (lv_at hl 0 rfl) ?_
  refine va_get (D := D) (ci := 7) (v := .int (nI sc)) (C := RX3) (T := TX3) (N := 17) hx hb hts inX3 hown hK hP 0 rfl rfl 16 (by decide) (hts (.fieldLink RX3 62 "EscrowDesk$Plan" "stepCount" "I") (by decide +kernel)) (fun _ h9 => h9) rfl dX3_addStep_17 ?_
  refine lv_iload_n hx hb dX3_addStep_20 rfl (lv_at hl 1 rfl) ?_
  refine va_iast hx hb hK hP hD hS 1 0 rfl rfl (vp_in_nI (n := sc) (N := 350) (show sc < 350 by omega) (by decide)) dX3_addStep_21 (fun H locs hP hD hS => ?_)
  obtain ⟨hP, hD⟩ : PDq D A [(oX3 p0 pr pb pe pg p1 (nI nd) p2 p3 p4 p5 (nI cn) p6 (nI pq) p7 p8 p9 (nI sc)), (p7, .inl (cA 0, 350, .inl (upd fst (((nI sc)).toNatClampNeg) a))), (p8, .inl (cA 0, 350, .inl fop))] H := ⟨hP, hD⟩
  have hn3 : Upp sc a fst (upd fst (((nI sc)).toNatClampNeg) a) := Upp.of (by omega)
  have hn4 : Rdd (upd fst (((nI sc)).toNatClampNeg) a) := rfl
  generalize (upd fst (((nI sc)).toNatClampNeg) a) = fn2 at hP hD hn3 hn4
  obtain ⟨hP, hD⟩ : PDq D A [(oX3 p0 pr pb pe pg p1 (nI nd) p2 p3 p4 p5 (nI cn) p6 (nI pq) p7 p8 p9 (nI sc)), (p7, .inl (cA 0, 350, .inl fn2)), (p8, .inl (cA 0, 350, .inl fop))] H := ⟨hP, hD⟩
  refine lv_aload_n hx hb dX3_addStep_22 rfl (lv_at hl 0 rfl) ?_
  refine va_get (D := D) (ci := 7) (v := .ref p8) (C := RX3) (T := TX3) (N := 17) hx hb hts inX3 hown hK hP 0 rfl rfl 14 (by decide) (hts (.fieldLink RX3 38 "EscrowDesk$Plan" "operands" "[I") (by decide +kernel)) (fun _ h9 => h9) rfl dX3_addStep_23 ?_
  refine lv_aload_n hx hb dX3_addStep_26 rfl (lv_at hl 0 rfl) ?_
  refine va_get (D := D) (ci := 7) (v := .int (nI sc)) (C := RX3) (T := TX3) (N := 17) hx hb hts inX3 hown hK hP 0 rfl rfl 16 (by decide) (hts (.fieldLink RX3 62 "EscrowDesk$Plan" "stepCount" "I") (by decide +kernel)) (fun _ h9 => h9) rfl dX3_addStep_27 ?_
  refine lv_iload_n hx hb dX3_addStep_30 rfl (lv_at hl 2 rfl) ?_
  refine va_iast hx hb hK hP hD hS 2 0 rfl rfl (vp_in_nI (n := sc) (N := 350) (show sc < 350 by omega) (by decide)) dX3_addStep_31 (fun H locs hP hD hS => ?_)
  obtain ⟨hP, hD⟩ : PDq D A [(oX3 p0 pr pb pe pg p1 (nI nd) p2 p3 p4 p5 (nI cn) p6 (nI pq) p7 p8 p9 (nI sc)), (p7, .inl (cA 0, 350, .inl fn2)), (p8, .inl (cA 0, 350, .inl (upd fop (((nI sc)).toNatClampNeg) b)))] H := ⟨hP, hD⟩
  have hn6 : Upp sc b fop (upd fop (((nI sc)).toNatClampNeg) b) := Upp.of (by omega)
  have hn7 : Rdd (upd fop (((nI sc)).toNatClampNeg) b) := rfl
  generalize (upd fop (((nI sc)).toNatClampNeg) b) = fn5 at hP hD hn6 hn7
  obtain ⟨hP, hD⟩ : PDq D A [(oX3 p0 pr pb pe pg p1 (nI nd) p2 p3 p4 p5 (nI cn) p6 (nI pq) p7 p8 p9 (nI sc)), (p7, .inl (cA 0, 350, .inl fn2)), (p8, .inl (cA 0, 350, .inl fn5))] H := ⟨hP, hD⟩
  refine lv_aload_n hx hb dX3_addStep_32 rfl (lv_at hl 0 rfl) ?_
  refine lv_dup hx hb dX3_addStep_33 rfl ?_
  refine va_get (D := D) (ci := 7) (v := .int (nI sc)) (C := RX3) (T := TX3) (N := 17) hx hb hts inX3 hown hK hP 0 rfl rfl 16 (by decide) (hts (.fieldLink RX3 62 "EscrowDesk$Plan" "stepCount" "I") (by decide +kernel)) (fun _ h9 => h9) rfl dX3_addStep_34 ?_
  refine lv_iconst (v := 1) hx hb dX3_addStep_37 (by decide) ?_
  refine lv_iadd hx hb dX3_addStep_38 ?_
  refine lv_topi (fun yn8 eyn8 => ?_)
  obtain rfl : yn8 = (nI (sc + 1)) := eyn8.trans (nI_add sc 1)
  refine va_put (D := D) (ci := 7) (v := .int (nI (sc + 1))) (ty := .int) (C := RX3) (T := TX3) (N := 17) hx hb hts inX3 tyX3 tyX3_ok nmX3 hown hK hP hD hS 0 rfl rfl 16 (by decide) (hts (.fieldLink RX3 62 "EscrowDesk$Plan" "stepCount" "I") (by decide +kernel)) (fun _ h9 => h9) rfl (by decide +kernel) rfl rfl (Nat.le_of_ble_eq_true rfl) dX3_addStep_39 (fun H locs hP hD hS => ?_)
  obtain ⟨hP, hD⟩ : PDq D A [(oX3 p0 pr pb pe pg p1 (nI nd) p2 p3 p4 p5 (nI cn) p6 (nI pq) p7 p8 p9 (nI (sc + 1))), (p7, .inl (cA 0, 350, .inl fn2)), (p8, .inl (cA 0, 350, .inl fn5))] H := ⟨hP, hD⟩
  refine lv_iconst (v := 1) hx hb dX3_addStep_42 (by decide) ?_
  obtain ⟨hP9, hD9⟩ := PDq.sub (ws' := [(oX3 p0 pr pb pe pg p1 (nI nd) p2 p3 p4 p5 (nI cn) p6 (nI pq) p7 p8 p9 (nI (sc + 1))), (p7, .inl (cA 0, 350, .inl fn2)), (p8, .inl (cA 0, 350, .inl fn5))]) hP hD [0, 1, 2] (by decide) rfl
  refine W.widen (k := 0) (n := 0) (Nat.le_of_ble_eq_true rfl) (Nat.le_of_ble_eq_true rfl) ?_
  exact (W.zret (v := 1) hx hb hr (by first | rfl | decide) (fun t ht hW => ⟨⟨1, (), rfl, rfl, fn2, fn5, hn3, hn6, by rw [ht]; exact hP9, hD9⟩, hS.F ht⟩) hS.2.2 dX3_addStep_43)

set_option maxHeartbeats 4000000 in
set_option maxRecDepth 100000 in
/-- readProofName -/
theorem x_readProofName (l : Launch) (D : va_G) (cA : Nat → ClassId) (sa : Nat → Nat) (r0 : Nat) (p0 : Nat) (ti : Nat) (ln : Nat) (inb : Int32) (iek : Int32) (iep : Int32) (r1 : Nat) (k1 : Nat) (k2 : Nat) (k3 : Nat) (ct : Nat) (fk : Nat → Int32) (ft : Nat → Int32) (fv : Nat → Int64) (fb : Nat → Int32) (gP : Nat → Nat) (gR : Nat → Nat) (p1 : Nat) (p2 : Nat) (p3 : Nat) (p4 : Nat) (p5 : Nat) (p6 : Nat) (p7 : Nat) (p8 : Nat) (p9 : Nat) (cn : Nat) (pq : Nat) (nd : Nat) (sc : Nat) (pr : Int32) (pb : Int32) (pe : Int32) (pg : Int32) (fna : Nat → Int64) (fpn : Nat → Int64) (fst : Nat → Int32) (fop : Nat → Int32) (ml : List Int64) (pl : List Int64) (sl : Nat) (sz : Nat) (hct : ct ≤ 701) (hln : ln ≤ 700) (hti : ti < ct) (hTX : TX fb ln ct gP gR ft fv fk) (hcn : cn ≤ 10) (hpq : pq ≤ 8) (hnd : nd ≤ 6) (hsc : sc ≤ 350) (hNM : NL ml cn fna) (hNP : NL pl pq fpn) (hsl : 2 * sc + sl + 2 ≤ gP ti) : Met l yX4_readProofName wsX4_readProofName ({ frames := 1, cells := 0, slots := 0, locals := 23 }) (va_Pc [.ref r0] (Wd D cA sa [(oX4 r0 r1 p0 (nI ti) (fk ti) (ft ti) (fv ti) inb iek iep), (oX5 r1 k1 k2 k3 (nI ct)), (k1, .inl (cA 0, 701, .inl fk)), (k2, .inl (cA 0, 701, .inl ft)), (k3, .inl (cA 1, 701, .inr (.inl fv))), (oX3 p0 pr pb pe pg p1 (nI nd) p2 p3 p4 p5 (nI cn) p6 (nI pq) p7 p8 p9 (nI sc)), (p2, .inl (cA 1, 10, .inr (.inl fna))), (p6, .inl (cA 1, 8, .inr (.inl fpn))), (p7, .inl (cA 0, 350, .inl fst)), (p8, .inl (cA 0, 350, .inl fop))] sz)) (va_Qi (fun (r : Int32) (u9 : Int32) => u9 = r ∧ (r = 0 ∨ r = 1)) (fun (u9 : Int32) t => ∃ tj : Nat, ∃ qm : Nat, ∃ sm : Nat, ∃ znr : Int32, ∃ zek : Int32, ∃ zep : Int32, ∃ zpn : Nat → Int64, ∃ zst : Nat → Int32, ∃ zop : Nat → Int32, ∃ zpl : List Int64, tj < ct ∧ gP tj ≤ ln ∧ ti ≤ tj ∧ qm ≤ 8 ∧ sm ≤ 350 ∧ NL zpl qm zpn ∧ (u9 = 1 → zek = iek) ∧ (u9 = 1 → zep = iep) ∧ (u9 = 1 → tj = ti + 1) ∧ (u9 = 1 → 2 * sm + sl ≤ gP tj) ∧ (u9 = 1 → PnF (fk ti) (fv ti) pl zpl) ∧ (u9 = 1 → sm = sc + 1) ∧ (u9 = 1 → (fv ti) ∈ zpl) ∧ (u9 = 1 → Ext9 pl zpl) ∧ (u9 = 1 → Upp sc 18 fst zst) ∧ (u9 = 1 → Upp sc (nI (fi9 zpl (fv ti))) fop zop) ∧ (u9 = 0 → PnE (fk ti) (fv ti) pl zek) ∧ (u9 = 0 → zep = (ft ti)) ∧ Wq D (va_A [(oX4 r0 r1 p0 (nI ti) (fk ti) (ft ti) (fv ti) inb iek iep), (oX5 r1 k1 k2 k3 (nI ct)), (k1, .inl (cA 0, 701, .inl fk)), (k2, .inl (cA 0, 701, .inl ft)), (k3, .inl (cA 1, 701, .inr (.inl fv))), (oX3 p0 pr pb pe pg p1 (nI nd) p2 p3 p4 p5 (nI cn) p6 (nI pq) p7 p8 p9 (nI sc)), (p2, .inl (cA 1, 10, .inr (.inl fna))), (p6, .inl (cA 1, 8, .inr (.inl fpn))), (p7, .inl (cA 0, 350, .inl fst)), (p8, .inl (cA 0, 350, .inl fop))] sz) [(oX4 r0 r1 p0 (nI tj) (fk tj) (ft tj) (fv tj) znr zek zep), (oX5 r1 k1 k2 k3 (nI ct)), (k1, .inl (cA 0, 701, .inl fk)), (k2, .inl (cA 0, 701, .inl ft)), (k3, .inl (cA 1, 701, .inr (.inl fv))), (oX3 p0 pr pb pe pg p1 (nI nd) p2 p3 p4 p5 (nI cn) p6 (nI qm) p7 p8 p9 (nI sm)), (p2, .inl (cA 1, 10, .inr (.inl fna))), (p6, .inl (cA 1, 8, .inr (.inl zpn))), (p7, .inl (cA 0, 350, .inl zst)), (p8, .inl (cA 0, 350, .inl zop))] t) (va_A [(oX4 r0 r1 p0 (nI ti) (fk ti) (ft ti) (fv ti) inb iek iep), (oX5 r1 k1 k2 k3 (nI ct)), (k1, .inl (cA 0, 701, .inl fk)), (k2, .inl (cA 0, 701, .inl ft)), (k3, .inl (cA 1, 701, .inr (.inl fv))), (oX3 p0 pr pb pe pg p1 (nI nd) p2 p3 p4 p5 (nI cn) p6 (nI pq) p7 p8 p9 (nI sc)), (p2, .inl (cA 1, 10, .inr (.inl fna))), (p6, .inl (cA 1, 8, .inr (.inl fpn))), (p7, .inl (cA 0, 350, .inl fst)), (p8, .inl (cA 0, 350, .inl fop))] sz)) 0 0 (va_A [(oX4 r0 r1 p0 (nI ti) (fk ti) (ft ti) (fv ti) inb iek iep), (oX5 r1 k1 k2 k3 (nI ct)), (k1, .inl (cA 0, 701, .inl fk)), (k2, .inl (cA 0, 701, .inl ft)), (k3, .inl (cA 1, 701, .inr (.inl fv))), (oX3 p0 pr pb pe pg p1 (nI nd) p2 p3 p4 p5 (nI cn) p6 (nI pq) p7 p8 p9 (nI sc)), (p2, .inl (cA 1, 10, .inr (.inl fna))), (p6, .inl (cA 1, 8, .inr (.inl fpn))), (p7, .inl (cA 0, 350, .inl fst)), (p8, .inl (cA 0, 350, .inl fop))] sz) := by
  refine Met.ofW (cc := cX4_readProofName) (maxL := 2) (ret := (some .boolean)) (by decide) rfl ?_
  intro p e s m args below meth c s₁ B hml hv
  obtain ⟨rfl, hsz, hP, hK, hD0, hC, hZ⟩ := hv
  have hx := B.exec
  have hb := B.bytes
  have hr := B.returns
  have hts := atoms_spec (ws := wsX4_readProofName) B.pre
  have hown : s.vm.findClass RX4 = some m.cls := findClass_of_methodNamed B.named
  have hlocks := B.notSynchronized
  subst hsz
  have hD := hD0.self (sz := s.heap.size)
  generalize hAe : va_A [(oX4 r0 r1 p0 (nI ti) (fk ti) (ft ti) (fv ti) inb iek iep), (oX5 r1 k1 k2 k3 (nI ct)), (k1, .inl (cA 0, 701, .inl fk)), (k2, .inl (cA 0, 701, .inl ft)), (k3, .inl (cA 1, 701, .inr (.inl fv))), (oX3 p0 pr pb pe pg p1 (nI nd) p2 p3 p4 p5 (nI cn) p6 (nI pq) p7 p8 p9 (nI sc)), (p2, .inl (cA 1, 10, .inr (.inl fna))), (p6, .inl (cA 1, 8, .inr (.inl fpn))), (p7, .inl (cA 0, 350, .inl fst)), (p8, .inl (cA 0, 350, .inl fop))] s.heap.size = A at hD hZ ⊢
  have hA : ∀ q : Nat, s.heap.size ≤ q → A q := fun q h => by rw [← hAe]; exact Or.inr h
  have hS : va_S A s.heap s.heap [] := va_S.rf
  have hP : va_P D vwCl [(oX4 r0 r1 p0 (nI ti) (fk ti) (ft ti) (fv ti) inb iek iep), (oX5 r1 k1 k2 k3 (nI ct)), (k1, .inl (cA 0, 701, .inl fk)), (k2, .inl (cA 0, 701, .inl ft)), (k3, .inl (cA 1, 701, .inr (.inl fv))), (oX3 p0 pr pb pe pg p1 (nI nd) p2 p3 p4 p5 (nI cn) p6 (nI pq) p7 p8 p9 (nI sc)), (p2, .inl (cA 1, 10, .inr (.inl fna))), (p6, .inl (cA 1, 8, .inr (.inl fpn))), (p7, .inl (cA 0, 350, .inl fst)), (p8, .inl (cA 0, 350, .inl fop))] s.heap := hP
  have hl := lv_entry ([.ref r0]) (n := 2) (Nat.le_of_ble_eq_true rfl)
  rw [lg_entry_eq]
  generalize (lg_sl ([.ref r0]) ++ List.replicate (2 - (lg_sl ([.ref r0])).length) Slot.unset).toArray = ls at hl ⊢
  have hl : lv_has ls 2 [(0, .ref r0)] := hl
  have inX4 : ∀ w ∈ u_ws RX4 TX4 9, w ∈ wsX4_readProofName := by decide +kernel
  have hle9 := TX.le hTX hti
  refine lv_aload_n hx hb dX4_readProofName_0 rfl (lv_at hl 0 rfl) ?_
  refine va_get (D := D) (ci := 8) (v := .int (fk ti)) (C := RX4) (T := TX4) (N := 9) hx hb hts inX4 hown hK hP 0 rfl rfl 3 (by decide) (hts (.fieldLink RX4 42 "EscrowDesk$Reader" "kind" "I") (by decide +kernel)) (fun _ h9 => h9) rfl dX4_readProofName_1 ?_
  refine lv_iconst (v := 4) hx hb dX4_readProofName_4 (by decide) ?_
  refine lv_icmp_eq (tgt := 14) hx hb dX4_readProofName_5 (by decide) (fun c1 => ?_) (fun c1 => ?_)
  · skip
    refine lv_aload_n hx hb dX4_readProofName_14 rfl (lv_at hl 0 rfl) ?_
    refine va_get (D := D) (ci := 8) (v := .ref p0) (C := RX4) (T := TX4) (N := 9) hx hb hts inX4 hown hK hP 0 rfl rfl 1 (by decide) (hts (.fieldLink RX4 25 "EscrowDesk$Reader" "plan" "LEscrowDesk$Plan;") (by decide +kernel)) (fun _ h9 => h9) rfl dX4_readProofName_15 ?_
    refine lv_aload_n hx hb dX4_readProofName_18 rfl (lv_at hl 0 rfl) ?_
    refine va_get (D := D) (ci := 8) (v := .long (fv ti)) (C := RX4) (T := TX4) (N := 9) hx hb hts inX4 hown hK hP 0 rfl rfl 5 (by decide) (hts (.fieldLink RX4 87 "EscrowDesk$Reader" "value" "J") (by decide +kernel)) (fun _ h9 => h9) rfl dX4_readProofName_19 ?_
    by_cases hn2 : (fv ti) ∈ pl
    · skip
      obtain ⟨hPc, hDc, hFc⟩ := PDq.cut (wc := [(oX3 p0 pr pb pe pg p1 (nI nd) p2 p3 p4 p5 (nI cn) p6 (nI pq) p7 p8 p9 (nI sc)), (p6, .inl (cA 1, 8, .inr (.inl fpn)))]) hP hD hS hA [5, 7] (by decide) rfl
      refine va_calli (va_runV (As := [.long (fv ti)]) (rest := []) ⟨hx, hb, hml, hown, hts⟩ (x_proofOld l D cA sa p0 p1 p2 p3 p4 p5 p6 p7 p8 p9 cn pq nd sc pr pb pe pg (fv ti) fpn pl s.heap.size hcn hpq hnd hsc hNP hn2) (cwV 1 hts gX4_readProofName_X3_proofNamed rfl rfl rfl (by decide +kernel) ⟨(Nat.le_of_ble_eq_true rfl), (Nat.le_of_ble_eq_true rfl)⟩) ⟨Wd.blind, va_recv hK hPc (ci := 7) (q0 := 0) rfl rfl, fun U hU hW => ⟨rfl, Wd.call hPc hDc hK hC hZ hS hFc U hU hW⟩⟩ rfl rfl hl.1 rfl (lv_room (Nat.le_of_ble_eq_true rfl)) dX4_readProofName_22 ⟨(Nat.le_of_ble_eq_true rfl), (Nat.le_of_ble_eq_true rfl)⟩) hS (fun q _ h => hFc q h) hFc (fun rn4 u t H1 locs ht hvm hw hB hz1 hk1 hS => ?_)
      obtain ⟨hP1, hD1⟩ := hB
      rw [ht] at hP1
      obtain ⟨hP, hD⟩ := PDq.join (w := [(oX4 r0 r1 p0 (nI ti) (fk ti) (ft ti) (fv ti) inb iek iep), (oX5 r1 k1 k2 k3 (nI ct)), (k1, .inl (cA 0, 701, .inl fk)), (k2, .inl (cA 0, 701, .inl ft)), (k3, .inl (cA 1, 701, .inr (.inl fv))), (p2, .inl (cA 1, 10, .inr (.inl fna))), (p7, .inl (cA 0, 350, .inl fst)), (p8, .inl (cA 0, 350, .inl fop)), (oX3 p0 pr pb pe pg p1 (nI nd) p2 p3 p4 p5 (nI cn) p6 (nI pq) p7 p8 p9 (nI sc)), (p6, .inl (cA 1, 8, .inr (.inl fpn)))]) 8 hP hD [5, 7] [0, 1, 2, 3, 4, 6, 8, 9] rfl rfl (by decide) (by decide +kernel) hk1 hFc hP1 hD1 rfl
      generalize H1 = H at hP hS ⊢
      obtain rfl : rn4 = nI (fi9 pl (fv ti)) := hw
      have hn5 : (fi9 pl (fv ti)) < 9 := by have q9 := fi9_lt hn2; have q8 := hNP.1; omega
      refine lv_istore_n (lv' := [(1, .int (nI (fi9 pl (fv ti)))), (0, .ref r0)]) hx hb dX4_readProofName_25 rfl hl (by decide) rfl (fun ls hl => ?_)
      refine lv_iload_n hx hb dX4_readProofName_26 rfl (lv_at hl 0 rfl) ?_
      refine lv_iconst (v := (-1)) hx hb dX4_readProofName_27 (by decide) ?_
      refine lv_icmp_ne (tgt := 37) hx hb dX4_readProofName_28 (by decide) (fun c6 => ?_) (fun c9 => absurd c9 (nI_neg (n := (fi9 pl (fv ti))) (by omega) (by decide)))
      have hn7 := TX.go hTX (show ti < ct by omega) (by rw [c1]; decide)
      have hn7a := hn7.2.1
      have hn7b := hn7.2.2
      have hn7c := hn7.1
      refine lv_aload_n hx hb dX4_readProofName_37 rfl (lv_at hl 1 rfl) ?_
      refine lv_aload_n hx hb dX4_readProofName_38 rfl (lv_at hl 1 rfl) ?_
      refine va_get (D := D) (ci := 8) (v := .int (nI ti)) (C := RX4) (T := TX4) (N := 9) hx hb hts inX4 hown hK hP 0 rfl rfl 2 (by decide) (hts (.fieldLink RX4 70 "EscrowDesk$Reader" "token" "I") (by decide +kernel)) (fun _ h9 => h9) rfl dX4_readProofName_39 ?_
      refine lv_iconst (v := 1) hx hb dX4_readProofName_42 (by decide) ?_
      refine lv_iadd hx hb dX4_readProofName_43 ?_
      refine lv_topi (fun yn8 eyn8 => ?_)
      obtain rfl : yn8 = (nI (ti + 1)) := eyn8.trans (nI_add ti 1)
      obtain ⟨hPc, hDc, hFc⟩ := PDq.cut (wc := [(oX4 r0 r1 p0 (nI ti) (fk ti) (ft ti) (fv ti) inb iek iep), (oX5 r1 k1 k2 k3 (nI ct)), (k1, .inl (cA 0, 701, .inl fk)), (k2, .inl (cA 0, 701, .inl ft)), (k3, .inl (cA 1, 701, .inr (.inl fv)))]) hP hD hS hA [0, 1, 2, 3, 4] (by decide) rfl
      refine va_callv (va_runV (As := [.int (nI (ti + 1))]) (rest := []) ⟨hx, hb, hml, hown, hts⟩ (x_lookAt l D cA sa r0 p0 (ti + 1) (nI ti) (fk ti) (ft ti) inb iek iep (fv ti) r1 k1 k2 k3 ct fk ft fv H.size hct hn7.1) (cwV 1 hts gX4_readProofName_X4_lookAt rfl rfl rfl (by decide +kernel) ⟨(Nat.le_of_ble_eq_true rfl), (Nat.le_of_ble_eq_true rfl)⟩) ⟨Wd.blind, va_recv hK hPc (ci := 8) (q0 := 0) rfl rfl, fun U hU hW => ⟨rfl, Wd.call hPc hDc hK hC hZ hS hFc U hU hW⟩⟩ rfl rfl hl.1 rfl (lv_room (Nat.le_of_ble_eq_true rfl)) dX4_readProofName_44 ⟨(Nat.le_of_ble_eq_true rfl), (Nat.le_of_ble_eq_true rfl)⟩) hS (fun q _ h => hFc q h) hFc (fun u t H1 locs ht hvm hw hB hz1 hk1 hS => ?_)
      obtain ⟨hP1, hD1⟩ := hB
      rw [ht] at hP1
      obtain ⟨hP, hD⟩ := PDq.join (w := [(p2, .inl (cA 1, 10, .inr (.inl fna))), (p7, .inl (cA 0, 350, .inl fst)), (p8, .inl (cA 0, 350, .inl fop)), (oX3 p0 pr pb pe pg p1 (nI nd) p2 p3 p4 p5 (nI cn) p6 (nI pq) p7 p8 p9 (nI sc)), (p6, .inl (cA 1, 8, .inr (.inl fpn))), (oX4 r0 r1 p0 (nI (ti + 1)) (fk (ti + 1)) (ft (ti + 1)) (fv (ti + 1)) inb iek iep), (oX5 r1 k1 k2 k3 (nI ct)), (k1, .inl (cA 0, 701, .inl fk)), (k2, .inl (cA 0, 701, .inl ft)), (k3, .inl (cA 1, 701, .inr (.inl fv)))]) 5 hP hD [0, 1, 2, 3, 4] [5, 6, 7, 8, 9] rfl rfl (by decide) (by decide +kernel) hk1 hFc hP1 hD1 rfl
      generalize H1 = H at hP hS ⊢
      refine lv_aload_n hx hb dX4_readProofName_47 rfl (lv_at hl 1 rfl) ?_
      refine va_get (D := D) (ci := 8) (v := .ref p0) (C := RX4) (T := TX4) (N := 9) hx hb hts inX4 hown hK hP 5 rfl rfl 1 (by decide) (hts (.fieldLink RX4 25 "EscrowDesk$Reader" "plan" "LEscrowDesk$Plan;") (by decide +kernel)) (fun _ h9 => h9) rfl dX4_readProofName_48 ?_
      refine lv_bipush (v := 18) hx hb dX4_readProofName_51 (by decide) ?_
      refine lv_iload_n hx hb dX4_readProofName_53 rfl (lv_at hl 0 rfl) ?_
      obtain ⟨hPc, hDc, hFc⟩ := PDq.cut (wc := [(oX3 p0 pr pb pe pg p1 (nI nd) p2 p3 p4 p5 (nI cn) p6 (nI pq) p7 p8 p9 (nI sc)), (p7, .inl (cA 0, 350, .inl fst)), (p8, .inl (cA 0, 350, .inl fop))]) hP hD hS hA [3, 1, 2] (by decide) rfl
      refine va_calli (va_runV (As := [.int 18, .int (nI (fi9 pl (fv ti)))]) (rest := []) ⟨hx, hb, hml, hown, hts⟩ (x_addStep l D cA sa p0 p1 p2 p3 p4 p5 p6 p7 p8 p9 cn pq nd sc pr pb pe pg 18 (nI (fi9 pl (fv ti))) fst fop H.size (by omega)) (cwV 2 hts gX4_readProofName_X3_addStep rfl rfl rfl (by decide +kernel) ⟨(Nat.le_of_ble_eq_true rfl), (Nat.le_of_ble_eq_true rfl)⟩) ⟨Wd.blind, va_recv hK hPc (ci := 7) (q0 := 0) rfl rfl, fun U hU hW => ⟨rfl, Wd.call hPc hDc hK hC hZ hS hFc U hU hW⟩⟩ rfl rfl hl.1 rfl (lv_room (Nat.le_of_ble_eq_true rfl)) dX4_readProofName_54 ⟨(Nat.le_of_ble_eq_true rfl), (Nat.le_of_ble_eq_true rfl)⟩) hS (fun q _ h => hFc q h) hFc (fun rn9 u t H1 locs ht hvm hw hB hz1 hk1 hS => ?_)
      obtain ⟨fn10, fn11, hn12, hn13, hP1, hD1⟩ := hB
      rw [ht] at hP1
      obtain ⟨hP, hD⟩ := PDq.join (w := [(p2, .inl (cA 1, 10, .inr (.inl fna))), (p6, .inl (cA 1, 8, .inr (.inl fpn))), (oX4 r0 r1 p0 (nI (ti + 1)) (fk (ti + 1)) (ft (ti + 1)) (fv (ti + 1)) inb iek iep), (oX5 r1 k1 k2 k3 (nI ct)), (k1, .inl (cA 0, 701, .inl fk)), (k2, .inl (cA 0, 701, .inl ft)), (k3, .inl (cA 1, 701, .inr (.inl fv))), (oX3 p0 pr pb pe pg p1 (nI nd) p2 p3 p4 p5 (nI cn) p6 (nI pq) p7 p8 p9 (nI (sc + 1))), (p7, .inl (cA 0, 350, .inl fn10)), (p8, .inl (cA 0, 350, .inl fn11))]) 7 hP hD [3, 1, 2] [0, 4, 5, 6, 7, 8, 9] rfl rfl (by decide) (by decide +kernel) hk1 hFc hP1 hD1 rfl
      generalize H1 = H at hP hS ⊢
      obtain rfl : rn9 = 1 := hw
      obtain ⟨hP9, hD9⟩ := PDq.sub (ws' := [(oX4 r0 r1 p0 (nI (ti + 1)) (fk (ti + 1)) (ft (ti + 1)) (fv (ti + 1)) inb iek iep), (oX5 r1 k1 k2 k3 (nI ct)), (k1, .inl (cA 0, 701, .inl fk)), (k2, .inl (cA 0, 701, .inl ft)), (k3, .inl (cA 1, 701, .inr (.inl fv))), (oX3 p0 pr pb pe pg p1 (nI nd) p2 p3 p4 p5 (nI cn) p6 (nI pq) p7 p8 p9 (nI (sc + 1))), (p2, .inl (cA 1, 10, .inr (.inl fna))), (p6, .inl (cA 1, 8, .inr (.inl fpn))), (p7, .inl (cA 0, 350, .inl fn10)), (p8, .inl (cA 0, 350, .inl fn11))]) hP hD [2, 3, 4, 5, 6, 7, 0, 1, 8, 9] (by decide +kernel) rfl
      refine W.widen (k := 0) (n := 0) (Nat.le_of_ble_eq_true rfl) (Nat.le_of_ble_eq_true rfl) ?_
      exact (W.zret (v := 1) hx hb hr (by first | rfl | decide) (fun t ht hW => ⟨⟨1, 1, rfl, ⟨rfl, by decide⟩, (ti + 1), pq, (sc + 1), inb, iek, iep, fpn, fn10, fn11, pl, hn7.1, (by omega), (by omega), hpq, (by omega), hNP, (fun _ => rfl), (fun _ => rfl), (fun _ => rfl), (fun _ => (by omega)), (fun _ => ⟨c1, Or.inl ⟨hn2, rfl⟩⟩), (fun _ => rfl), (fun _ => hn2), (fun _ => (Ext9.rf pl)), (fun _ => hn12), (fun _ => hn13), (fun h9 => absurd h9 (by decide)), (fun h9 => absurd h9 (by decide)), by rw [ht]; exact hP9, hD9⟩, hS.F ht⟩) hS.2.2 dX4_readProofName_57)
    · skip
      by_cases hn3 : pq = 8
      · skip
        obtain ⟨hPc, hDc, hFc⟩ := PDq.cut (wc := [(oX3 p0 pr pb pe pg p1 (nI nd) p2 p3 p4 p5 (nI cn) p6 (nI pq) p7 p8 p9 (nI sc)), (p6, .inl (cA 1, 8, .inr (.inl fpn)))]) hP hD hS hA [5, 7] (by decide) rfl
        refine va_calli (va_runV (As := [.long (fv ti)]) (rest := []) ⟨hx, hb, hml, hown, hts⟩ (x_proofFull l D cA sa p0 p1 p2 p3 p4 p5 p6 p7 p8 p9 cn pq nd sc pr pb pe pg (fv ti) fpn pl s.heap.size hcn hpq hnd hsc hNP hn2 hn3) (cwV 1 hts gX4_readProofName_X3_proofNamed rfl rfl rfl (by decide +kernel) ⟨(Nat.le_of_ble_eq_true rfl), (Nat.le_of_ble_eq_true rfl)⟩) ⟨Wd.blind, va_recv hK hPc (ci := 7) (q0 := 0) rfl rfl, fun U hU hW => ⟨rfl, Wd.call hPc hDc hK hC hZ hS hFc U hU hW⟩⟩ rfl rfl hl.1 rfl (lv_room (Nat.le_of_ble_eq_true rfl)) dX4_readProofName_22 ⟨(Nat.le_of_ble_eq_true rfl), (Nat.le_of_ble_eq_true rfl)⟩) hS (fun q _ h => hFc q h) hFc (fun rn14 u t H1 locs ht hvm hw hB hz1 hk1 hS => ?_)
        obtain ⟨hP1, hD1⟩ := hB
        rw [ht] at hP1
        obtain ⟨hP, hD⟩ := PDq.join (w := [(oX4 r0 r1 p0 (nI ti) (fk ti) (ft ti) (fv ti) inb iek iep), (oX5 r1 k1 k2 k3 (nI ct)), (k1, .inl (cA 0, 701, .inl fk)), (k2, .inl (cA 0, 701, .inl ft)), (k3, .inl (cA 1, 701, .inr (.inl fv))), (p2, .inl (cA 1, 10, .inr (.inl fna))), (p7, .inl (cA 0, 350, .inl fst)), (p8, .inl (cA 0, 350, .inl fop)), (oX3 p0 pr pb pe pg p1 (nI nd) p2 p3 p4 p5 (nI cn) p6 (nI pq) p7 p8 p9 (nI sc)), (p6, .inl (cA 1, 8, .inr (.inl fpn)))]) 8 hP hD [5, 7] [0, 1, 2, 3, 4, 6, 8, 9] rfl rfl (by decide) (by decide +kernel) hk1 hFc hP1 hD1 rfl
        generalize H1 = H at hP hS ⊢
        obtain rfl : rn14 = (-1) := hw
        refine lv_istore_n (lv' := [(1, .int (-1)), (0, .ref r0)]) hx hb dX4_readProofName_25 rfl hl (by decide) rfl (fun ls hl => ?_)
        refine lv_iload_n hx hb dX4_readProofName_26 rfl (lv_at hl 0 rfl) ?_
        refine lv_iconst (v := (-1)) hx hb dX4_readProofName_27 (by decide) ?_
        refine lv_icmp_ne (tgt := 37) hx hb dX4_readProofName_28 (by decide) (fun c9 => absurd c9 (by decide)) (fun c15 => ?_)
        refine lv_aload_n hx hb dX4_readProofName_31 rfl (lv_at hl 1 rfl) ?_
        refine lv_iconst (v := 5) hx hb dX4_readProofName_32 (by decide) ?_
        obtain ⟨hPc, hDc, hFc⟩ := PDq.cut (wc := [(oX4 r0 r1 p0 (nI ti) (fk ti) (ft ti) (fv ti) inb iek iep)]) hP hD hS hA [0] (by decide) rfl
        refine va_calli (va_runV (As := [.int 5]) (rest := []) ⟨hx, hb, hml, hown, hts⟩ (x_fail l D cA sa r0 r1 p0 (nI ti) (fk ti) (ft ti) inb iek iep (fv ti) 5 H.size) (cwV 1 hts gX4_readProofName_X4_fail rfl rfl rfl (by decide +kernel) ⟨(Nat.le_of_ble_eq_true rfl), (Nat.le_of_ble_eq_true rfl)⟩) ⟨Wd.blind, va_recv hK hPc (ci := 8) (q0 := 0) rfl rfl, fun U hU hW => ⟨rfl, Wd.call hPc hDc hK hC hZ hS hFc U hU hW⟩⟩ rfl rfl hl.1 rfl (lv_room (Nat.le_of_ble_eq_true rfl)) dX4_readProofName_33 ⟨(Nat.le_of_ble_eq_true rfl), (Nat.le_of_ble_eq_true rfl)⟩) hS (fun q _ h => hFc q h) hFc (fun rn16 u t H1 locs ht hvm hw hB hz1 hk1 hS => ?_)
        obtain ⟨zn17, hn18, hP1, hD1⟩ := hB
        rw [ht] at hP1
        obtain ⟨hP, hD⟩ := PDq.join (w := [(oX5 r1 k1 k2 k3 (nI ct)), (k1, .inl (cA 0, 701, .inl fk)), (k2, .inl (cA 0, 701, .inl ft)), (k3, .inl (cA 1, 701, .inr (.inl fv))), (p2, .inl (cA 1, 10, .inr (.inl fna))), (p7, .inl (cA 0, 350, .inl fst)), (p8, .inl (cA 0, 350, .inl fop)), (oX3 p0 pr pb pe pg p1 (nI nd) p2 p3 p4 p5 (nI cn) p6 (nI pq) p7 p8 p9 (nI sc)), (p6, .inl (cA 1, 8, .inr (.inl fpn))), (oX4 r0 r1 p0 (nI ti) (fk ti) (ft ti) (fv ti) inb zn17 (ft ti))]) 9 hP hD [0] [1, 2, 3, 4, 5, 6, 7, 8, 9] rfl rfl (by decide +kernel) (by decide +kernel) hk1 hFc hP1 hD1 rfl
        generalize H1 = H at hP hS ⊢
        obtain rfl : rn16 = 0 := hw
        obtain ⟨hP9, hD9⟩ := PDq.sub (ws' := [(oX4 r0 r1 p0 (nI ti) (fk ti) (ft ti) (fv ti) inb zn17 (ft ti)), (oX5 r1 k1 k2 k3 (nI ct)), (k1, .inl (cA 0, 701, .inl fk)), (k2, .inl (cA 0, 701, .inl ft)), (k3, .inl (cA 1, 701, .inr (.inl fv))), (oX3 p0 pr pb pe pg p1 (nI nd) p2 p3 p4 p5 (nI cn) p6 (nI pq) p7 p8 p9 (nI sc)), (p2, .inl (cA 1, 10, .inr (.inl fna))), (p6, .inl (cA 1, 8, .inr (.inl fpn))), (p7, .inl (cA 0, 350, .inl fst)), (p8, .inl (cA 0, 350, .inl fop))]) hP hD [9, 0, 1, 2, 3, 7, 4, 8, 5, 6] (by decide +kernel) rfl
        refine W.widen (k := 0) (n := 0) (Nat.le_of_ble_eq_true rfl) (Nat.le_of_ble_eq_true rfl) ?_
        exact (W.zret (v := 0) hx hb hr (by first | rfl | decide) (fun t ht hW => ⟨⟨0, 0, rfl, ⟨rfl, by decide⟩, ti, pq, sc, inb, zn17, (ft ti), fpn, fst, fop, pl, hti, (by omega), (by omega), hpq, hsc, hNP, (fun h9 => absurd h9 (by decide)), (fun h9 => absurd h9 (by decide)), (fun h9 => absurd h9 (by decide)), (fun h9 => absurd h9 (by decide)), (fun h9 => absurd h9 (by decide)), (fun h9 => absurd h9 (by decide)), (fun h9 => absurd h9 (by decide)), (fun h9 => absurd h9 (by decide)), (fun h9 => absurd h9 (by decide)), (fun h9 => absurd h9 (by decide)), (fun _ => ⟨5, hn18, Or.inr ⟨c1, hn2, hNP.1.trans hn3, rfl⟩⟩), (fun _ => rfl), by rw [ht]; exact hP9, hD9⟩, hS.F ht⟩) hS.2.2 dX4_readProofName_36)
      · skip
        obtain ⟨hPc, hDc, hFc⟩ := PDq.cut (wc := [(oX3 p0 pr pb pe pg p1 (nI nd) p2 p3 p4 p5 (nI cn) p6 (nI pq) p7 p8 p9 (nI sc)), (p6, .inl (cA 1, 8, .inr (.inl fpn)))]) hP hD hS hA [5, 7] (by decide) rfl
        refine va_calli (va_runV (As := [.long (fv ti)]) (rest := []) ⟨hx, hb, hml, hown, hts⟩ (x_proofNew l D cA sa p0 p1 p2 p3 p4 p5 p6 p7 p8 p9 cn pq nd sc pr pb pe pg (fv ti) fpn pl s.heap.size hcn hpq hnd hsc hNP hn2 (by omega)) (cwV 1 hts gX4_readProofName_X3_proofNamed rfl rfl rfl (by decide +kernel) ⟨(Nat.le_of_ble_eq_true rfl), (Nat.le_of_ble_eq_true rfl)⟩) ⟨Wd.blind, va_recv hK hPc (ci := 7) (q0 := 0) rfl rfl, fun U hU hW => ⟨rfl, Wd.call hPc hDc hK hC hZ hS hFc U hU hW⟩⟩ rfl rfl hl.1 rfl (lv_room (Nat.le_of_ble_eq_true rfl)) dX4_readProofName_22 ⟨(Nat.le_of_ble_eq_true rfl), (Nat.le_of_ble_eq_true rfl)⟩) hS (fun q _ h => hFc q h) hFc (fun rn19 u t H1 locs ht hvm hw hB hz1 hk1 hS => ?_)
        obtain ⟨fn20, hn21, hP1, hD1⟩ := hB
        rw [ht] at hP1
        obtain ⟨hP, hD⟩ := PDq.join (w := [(oX4 r0 r1 p0 (nI ti) (fk ti) (ft ti) (fv ti) inb iek iep), (oX5 r1 k1 k2 k3 (nI ct)), (k1, .inl (cA 0, 701, .inl fk)), (k2, .inl (cA 0, 701, .inl ft)), (k3, .inl (cA 1, 701, .inr (.inl fv))), (p2, .inl (cA 1, 10, .inr (.inl fna))), (p7, .inl (cA 0, 350, .inl fst)), (p8, .inl (cA 0, 350, .inl fop)), (oX3 p0 pr pb pe pg p1 (nI nd) p2 p3 p4 p5 (nI cn) p6 (nI (pq + 1)) p7 p8 p9 (nI sc)), (p6, .inl (cA 1, 8, .inr (.inl fn20)))]) 8 hP hD [5, 7] [0, 1, 2, 3, 4, 6, 8, 9] rfl rfl (by decide) (by decide +kernel) hk1 hFc hP1 hD1 rfl
        generalize H1 = H at hP hS ⊢
        obtain rfl : rn19 = (nI pq) := hw
        refine lv_istore_n (lv' := [(1, .int (nI pq)), (0, .ref r0)]) hx hb dX4_readProofName_25 rfl hl (by decide) rfl (fun ls hl => ?_)
        refine lv_iload_n hx hb dX4_readProofName_26 rfl (lv_at hl 0 rfl) ?_
        refine lv_iconst (v := (-1)) hx hb dX4_readProofName_27 (by decide) ?_
        refine lv_icmp_ne (tgt := 37) hx hb dX4_readProofName_28 (by decide) (fun c22 => ?_) (fun c9 => absurd c9 (nI_neg (n := pq) (by omega) (by decide)))
        have hn23 := TX.go hTX (show ti < ct by omega) (by rw [c1]; decide)
        have hn23a := hn23.2.1
        have hn23b := hn23.2.2
        have hn23c := hn23.1
        refine lv_aload_n hx hb dX4_readProofName_37 rfl (lv_at hl 1 rfl) ?_
        refine lv_aload_n hx hb dX4_readProofName_38 rfl (lv_at hl 1 rfl) ?_
        refine va_get (D := D) (ci := 8) (v := .int (nI ti)) (C := RX4) (T := TX4) (N := 9) hx hb hts inX4 hown hK hP 0 rfl rfl 2 (by decide) (hts (.fieldLink RX4 70 "EscrowDesk$Reader" "token" "I") (by decide +kernel)) (fun _ h9 => h9) rfl dX4_readProofName_39 ?_
        refine lv_iconst (v := 1) hx hb dX4_readProofName_42 (by decide) ?_
        refine lv_iadd hx hb dX4_readProofName_43 ?_
        refine lv_topi (fun yn24 eyn24 => ?_)
        obtain rfl : yn24 = (nI (ti + 1)) := eyn24.trans (nI_add ti 1)
        obtain ⟨hPc, hDc, hFc⟩ := PDq.cut (wc := [(oX4 r0 r1 p0 (nI ti) (fk ti) (ft ti) (fv ti) inb iek iep), (oX5 r1 k1 k2 k3 (nI ct)), (k1, .inl (cA 0, 701, .inl fk)), (k2, .inl (cA 0, 701, .inl ft)), (k3, .inl (cA 1, 701, .inr (.inl fv)))]) hP hD hS hA [0, 1, 2, 3, 4] (by decide) rfl
        refine va_callv (va_runV (As := [.int (nI (ti + 1))]) (rest := []) ⟨hx, hb, hml, hown, hts⟩ (x_lookAt l D cA sa r0 p0 (ti + 1) (nI ti) (fk ti) (ft ti) inb iek iep (fv ti) r1 k1 k2 k3 ct fk ft fv H.size hct hn23.1) (cwV 1 hts gX4_readProofName_X4_lookAt rfl rfl rfl (by decide +kernel) ⟨(Nat.le_of_ble_eq_true rfl), (Nat.le_of_ble_eq_true rfl)⟩) ⟨Wd.blind, va_recv hK hPc (ci := 8) (q0 := 0) rfl rfl, fun U hU hW => ⟨rfl, Wd.call hPc hDc hK hC hZ hS hFc U hU hW⟩⟩ rfl rfl hl.1 rfl (lv_room (Nat.le_of_ble_eq_true rfl)) dX4_readProofName_44 ⟨(Nat.le_of_ble_eq_true rfl), (Nat.le_of_ble_eq_true rfl)⟩) hS (fun q _ h => hFc q h) hFc (fun u t H1 locs ht hvm hw hB hz1 hk1 hS => ?_)
        obtain ⟨hP1, hD1⟩ := hB
        rw [ht] at hP1
        obtain ⟨hP, hD⟩ := PDq.join (w := [(p2, .inl (cA 1, 10, .inr (.inl fna))), (p7, .inl (cA 0, 350, .inl fst)), (p8, .inl (cA 0, 350, .inl fop)), (oX3 p0 pr pb pe pg p1 (nI nd) p2 p3 p4 p5 (nI cn) p6 (nI (pq + 1)) p7 p8 p9 (nI sc)), (p6, .inl (cA 1, 8, .inr (.inl fn20))), (oX4 r0 r1 p0 (nI (ti + 1)) (fk (ti + 1)) (ft (ti + 1)) (fv (ti + 1)) inb iek iep), (oX5 r1 k1 k2 k3 (nI ct)), (k1, .inl (cA 0, 701, .inl fk)), (k2, .inl (cA 0, 701, .inl ft)), (k3, .inl (cA 1, 701, .inr (.inl fv)))]) 5 hP hD [0, 1, 2, 3, 4] [5, 6, 7, 8, 9] rfl rfl (by decide) (by decide +kernel) hk1 hFc hP1 hD1 rfl
        generalize H1 = H at hP hS ⊢
        refine lv_aload_n hx hb dX4_readProofName_47 rfl (lv_at hl 1 rfl) ?_
        refine va_get (D := D) (ci := 8) (v := .ref p0) (C := RX4) (T := TX4) (N := 9) hx hb hts inX4 hown hK hP 5 rfl rfl 1 (by decide) (hts (.fieldLink RX4 25 "EscrowDesk$Reader" "plan" "LEscrowDesk$Plan;") (by decide +kernel)) (fun _ h9 => h9) rfl dX4_readProofName_48 ?_
        refine lv_bipush (v := 18) hx hb dX4_readProofName_51 (by decide) ?_
        refine lv_iload_n hx hb dX4_readProofName_53 rfl (lv_at hl 0 rfl) ?_
        obtain ⟨hPc, hDc, hFc⟩ := PDq.cut (wc := [(oX3 p0 pr pb pe pg p1 (nI nd) p2 p3 p4 p5 (nI cn) p6 (nI (pq + 1)) p7 p8 p9 (nI sc)), (p7, .inl (cA 0, 350, .inl fst)), (p8, .inl (cA 0, 350, .inl fop))]) hP hD hS hA [3, 1, 2] (by decide) rfl
        refine va_calli (va_runV (As := [.int 18, .int (nI pq)]) (rest := []) ⟨hx, hb, hml, hown, hts⟩ (x_addStep l D cA sa p0 p1 p2 p3 p4 p5 p6 p7 p8 p9 cn (pq + 1) nd sc pr pb pe pg 18 (nI pq) fst fop H.size (by omega)) (cwV 2 hts gX4_readProofName_X3_addStep rfl rfl rfl (by decide +kernel) ⟨(Nat.le_of_ble_eq_true rfl), (Nat.le_of_ble_eq_true rfl)⟩) ⟨Wd.blind, va_recv hK hPc (ci := 7) (q0 := 0) rfl rfl, fun U hU hW => ⟨rfl, Wd.call hPc hDc hK hC hZ hS hFc U hU hW⟩⟩ rfl rfl hl.1 rfl (lv_room (Nat.le_of_ble_eq_true rfl)) dX4_readProofName_54 ⟨(Nat.le_of_ble_eq_true rfl), (Nat.le_of_ble_eq_true rfl)⟩) hS (fun q _ h => hFc q h) hFc (fun rn25 u t H1 locs ht hvm hw hB hz1 hk1 hS => ?_)
        obtain ⟨fn26, fn27, hn28, hn29, hP1, hD1⟩ := hB
        rw [ht] at hP1
        obtain ⟨hP, hD⟩ := PDq.join (w := [(p2, .inl (cA 1, 10, .inr (.inl fna))), (p6, .inl (cA 1, 8, .inr (.inl fn20))), (oX4 r0 r1 p0 (nI (ti + 1)) (fk (ti + 1)) (ft (ti + 1)) (fv (ti + 1)) inb iek iep), (oX5 r1 k1 k2 k3 (nI ct)), (k1, .inl (cA 0, 701, .inl fk)), (k2, .inl (cA 0, 701, .inl ft)), (k3, .inl (cA 1, 701, .inr (.inl fv))), (oX3 p0 pr pb pe pg p1 (nI nd) p2 p3 p4 p5 (nI cn) p6 (nI (pq + 1)) p7 p8 p9 (nI (sc + 1))), (p7, .inl (cA 0, 350, .inl fn26)), (p8, .inl (cA 0, 350, .inl fn27))]) 7 hP hD [3, 1, 2] [0, 4, 5, 6, 7, 8, 9] rfl rfl (by decide) (by decide +kernel) hk1 hFc hP1 hD1 rfl
        generalize H1 = H at hP hS ⊢
        obtain rfl : rn25 = 1 := hw
        obtain ⟨hP9, hD9⟩ := PDq.sub (ws' := [(oX4 r0 r1 p0 (nI (ti + 1)) (fk (ti + 1)) (ft (ti + 1)) (fv (ti + 1)) inb iek iep), (oX5 r1 k1 k2 k3 (nI ct)), (k1, .inl (cA 0, 701, .inl fk)), (k2, .inl (cA 0, 701, .inl ft)), (k3, .inl (cA 1, 701, .inr (.inl fv))), (oX3 p0 pr pb pe pg p1 (nI nd) p2 p3 p4 p5 (nI cn) p6 (nI (pq + 1)) p7 p8 p9 (nI (sc + 1))), (p2, .inl (cA 1, 10, .inr (.inl fna))), (p6, .inl (cA 1, 8, .inr (.inl fn20))), (p7, .inl (cA 0, 350, .inl fn26)), (p8, .inl (cA 0, 350, .inl fn27))]) hP hD [2, 3, 4, 5, 6, 7, 0, 1, 8, 9] (by decide +kernel) rfl
        refine W.widen (k := 0) (n := 0) (Nat.le_of_ble_eq_true rfl) (Nat.le_of_ble_eq_true rfl) ?_
        exact (W.zret (v := 1) hx hb hr (by first | rfl | decide) (fun t ht hW => ⟨⟨1, 1, rfl, ⟨rfl, by decide⟩, (ti + 1), (pq + 1), (sc + 1), inb, iek, iep, fn20, fn26, fn27, (pl ++ [(fv ti)]), hn23.1, (by omega), (by omega), (by omega), (by omega), hn21, (fun _ => rfl), (fun _ => rfl), (fun _ => rfl), (fun _ => (by omega)), (fun _ => ⟨c1, Or.inr ⟨hn2, fun q9 => hn3 (hNP.1.symm.trans q9), rfl⟩⟩), (fun _ => rfl), (fun _ => (List.mem_append_right _ List.mem_cons_self)), (fun _ => ⟨[(fv ti)], rfl⟩), (fun _ => hn28), (fun _ => (by rw [fi9_new hn2, hNP.1]; exact hn29)), (fun h9 => absurd h9 (by decide)), (fun h9 => absurd h9 (by decide)), by rw [ht]; exact hP9, hD9⟩, hS.F ht⟩) hS.2.2 dX4_readProofName_57)
  · skip
    refine lv_aload_n hx hb dX4_readProofName_8 rfl (lv_at hl 0 rfl) ?_
    refine lv_iconst (v := 2) hx hb dX4_readProofName_9 (by decide) ?_
    obtain ⟨hPc, hDc, hFc⟩ := PDq.cut (wc := [(oX4 r0 r1 p0 (nI ti) (fk ti) (ft ti) (fv ti) inb iek iep)]) hP hD hS hA [0] (by decide) rfl
    refine va_calli (va_runV (As := [.int 2]) (rest := []) ⟨hx, hb, hml, hown, hts⟩ (x_fail l D cA sa r0 r1 p0 (nI ti) (fk ti) (ft ti) inb iek iep (fv ti) 2 s.heap.size) (cwV 1 hts gX4_readProofName_X4_fail rfl rfl rfl (by decide +kernel) ⟨(Nat.le_of_ble_eq_true rfl), (Nat.le_of_ble_eq_true rfl)⟩) ⟨Wd.blind, va_recv hK hPc (ci := 8) (q0 := 0) rfl rfl, fun U hU hW => ⟨rfl, Wd.call hPc hDc hK hC hZ hS hFc U hU hW⟩⟩ rfl rfl hl.1 rfl (lv_room (Nat.le_of_ble_eq_true rfl)) dX4_readProofName_10 ⟨(Nat.le_of_ble_eq_true rfl), (Nat.le_of_ble_eq_true rfl)⟩) hS (fun q _ h => hFc q h) hFc (fun rn30 u t H1 locs ht hvm hw hB hz1 hk1 hS => ?_)
    obtain ⟨zn31, hn32, hP1, hD1⟩ := hB
    rw [ht] at hP1
    obtain ⟨hP, hD⟩ := PDq.join (w := [(oX5 r1 k1 k2 k3 (nI ct)), (k1, .inl (cA 0, 701, .inl fk)), (k2, .inl (cA 0, 701, .inl ft)), (k3, .inl (cA 1, 701, .inr (.inl fv))), (oX3 p0 pr pb pe pg p1 (nI nd) p2 p3 p4 p5 (nI cn) p6 (nI pq) p7 p8 p9 (nI sc)), (p2, .inl (cA 1, 10, .inr (.inl fna))), (p6, .inl (cA 1, 8, .inr (.inl fpn))), (p7, .inl (cA 0, 350, .inl fst)), (p8, .inl (cA 0, 350, .inl fop)), (oX4 r0 r1 p0 (nI ti) (fk ti) (ft ti) (fv ti) inb zn31 (ft ti))]) 9 hP hD [0] [1, 2, 3, 4, 5, 6, 7, 8, 9] rfl rfl (by decide +kernel) (by decide +kernel) hk1 hFc hP1 hD1 rfl
    generalize H1 = H at hP hS ⊢
    obtain rfl : rn30 = 0 := hw
    obtain ⟨hP9, hD9⟩ := PDq.sub (ws' := [(oX4 r0 r1 p0 (nI ti) (fk ti) (ft ti) (fv ti) inb zn31 (ft ti)), (oX5 r1 k1 k2 k3 (nI ct)), (k1, .inl (cA 0, 701, .inl fk)), (k2, .inl (cA 0, 701, .inl ft)), (k3, .inl (cA 1, 701, .inr (.inl fv))), (oX3 p0 pr pb pe pg p1 (nI nd) p2 p3 p4 p5 (nI cn) p6 (nI pq) p7 p8 p9 (nI sc)), (p2, .inl (cA 1, 10, .inr (.inl fna))), (p6, .inl (cA 1, 8, .inr (.inl fpn))), (p7, .inl (cA 0, 350, .inl fst)), (p8, .inl (cA 0, 350, .inl fop))]) hP hD [9, 0, 1, 2, 3, 4, 5, 6, 7, 8] (by decide +kernel) rfl
    refine W.widen (k := 0) (n := 0) (Nat.le_of_ble_eq_true rfl) (Nat.le_of_ble_eq_true rfl) ?_
    exact (W.zret (v := 0) hx hb hr (by first | rfl | decide) (fun t ht hW => ⟨⟨0, 0, rfl, ⟨rfl, by decide⟩, ti, pq, sc, inb, zn31, (ft ti), fpn, fst, fop, pl, hti, (by omega), (by omega), hpq, hsc, hNP, (fun h9 => absurd h9 (by decide)), (fun h9 => absurd h9 (by decide)), (fun h9 => absurd h9 (by decide)), (fun h9 => absurd h9 (by decide)), (fun h9 => absurd h9 (by decide)), (fun h9 => absurd h9 (by decide)), (fun h9 => absurd h9 (by decide)), (fun h9 => absurd h9 (by decide)), (fun h9 => absurd h9 (by decide)), (fun h9 => absurd h9 (by decide)), (fun _ => ⟨2, hn32, Or.inl ⟨c1, rfl⟩⟩), (fun _ => rfl), by rw [ht]; exact hP9, hD9⟩, hS.F ht⟩) hS.2.2 dX4_readProofName_13)

set_option maxHeartbeats 4000000 in
set_option maxRecDepth 100000 in
/-- readDoneName -/
theorem x_readDoneName (l : Launch) (D : va_G) (cA : Nat → ClassId) (sa : Nat → Nat) (r0 : Nat) (p0 : Nat) (ti : Nat) (ln : Nat) (inb : Int32) (iek : Int32) (iep : Int32) (r1 : Nat) (k1 : Nat) (k2 : Nat) (k3 : Nat) (ct : Nat) (fk : Nat → Int32) (ft : Nat → Int32) (fv : Nat → Int64) (fb : Nat → Int32) (gP : Nat → Nat) (gR : Nat → Nat) (p1 : Nat) (p2 : Nat) (p3 : Nat) (p4 : Nat) (p5 : Nat) (p6 : Nat) (p7 : Nat) (p8 : Nat) (p9 : Nat) (cn : Nat) (pq : Nat) (nd : Nat) (sc : Nat) (pr : Int32) (pb : Int32) (pe : Int32) (pg : Int32) (fna : Nat → Int64) (fpn : Nat → Int64) (fst : Nat → Int32) (fop : Nat → Int32) (ml : List Int64) (pl : List Int64) (sl : Nat) (sz : Nat) (hct : ct ≤ 701) (hln : ln ≤ 700) (hti : ti < ct) (hTX : TX fb ln ct gP gR ft fv fk) (hcn : cn ≤ 10) (hpq : pq ≤ 8) (hnd : nd ≤ 6) (hsc : sc ≤ 350) (hNM : NL ml cn fna) (hNP : NL pl pq fpn) (hsl : 2 * sc + sl + 2 ≤ gP ti) : Met l yX4_readDoneName wsX4_readDoneName ({ frames := 1, cells := 0, slots := 0, locals := 23 }) (va_Pc [.ref r0] (Wd D cA sa [(oX4 r0 r1 p0 (nI ti) (fk ti) (ft ti) (fv ti) inb iek iep), (oX5 r1 k1 k2 k3 (nI ct)), (k1, .inl (cA 0, 701, .inl fk)), (k2, .inl (cA 0, 701, .inl ft)), (k3, .inl (cA 1, 701, .inr (.inl fv))), (oX3 p0 pr pb pe pg p1 (nI nd) p2 p3 p4 p5 (nI cn) p6 (nI pq) p7 p8 p9 (nI sc)), (p2, .inl (cA 1, 10, .inr (.inl fna))), (p6, .inl (cA 1, 8, .inr (.inl fpn))), (p7, .inl (cA 0, 350, .inl fst)), (p8, .inl (cA 0, 350, .inl fop))] sz)) (va_Qi (fun (r : Int32) (u9 : Int32) => u9 = r ∧ (r = 0 ∨ r = 1)) (fun (u9 : Int32) t => ∃ tj : Nat, ∃ qm : Nat, ∃ sm : Nat, ∃ znr : Int32, ∃ zek : Int32, ∃ zep : Int32, ∃ zpn : Nat → Int64, ∃ zst : Nat → Int32, ∃ zop : Nat → Int32, ∃ zpl : List Int64, tj < ct ∧ gP tj ≤ ln ∧ ti ≤ tj ∧ qm ≤ 8 ∧ sm ≤ 350 ∧ NL zpl qm zpn ∧ (u9 = 1 → zek = iek) ∧ (u9 = 1 → zep = iep) ∧ (u9 = 1 → tj = ti + 1) ∧ (u9 = 1 → 2 * sm + sl ≤ gP tj) ∧ (u9 = 1 → zpl = pl) ∧ (u9 = 1 → DnF (fk ti) (fv ti) ml) ∧ (u9 = 1 → sm = sc + 1) ∧ (u9 = 1 → Upp sc 19 fst zst) ∧ (u9 = 1 → Upp sc (nI (fi9 ml (fv ti))) fop zop) ∧ (u9 = 0 → DnE (fk ti) (fv ti) ml zek) ∧ (u9 = 0 → zep = (ft ti)) ∧ Wq D (va_A [(oX4 r0 r1 p0 (nI ti) (fk ti) (ft ti) (fv ti) inb iek iep), (oX5 r1 k1 k2 k3 (nI ct)), (k1, .inl (cA 0, 701, .inl fk)), (k2, .inl (cA 0, 701, .inl ft)), (k3, .inl (cA 1, 701, .inr (.inl fv))), (oX3 p0 pr pb pe pg p1 (nI nd) p2 p3 p4 p5 (nI cn) p6 (nI pq) p7 p8 p9 (nI sc)), (p2, .inl (cA 1, 10, .inr (.inl fna))), (p6, .inl (cA 1, 8, .inr (.inl fpn))), (p7, .inl (cA 0, 350, .inl fst)), (p8, .inl (cA 0, 350, .inl fop))] sz) [(oX4 r0 r1 p0 (nI tj) (fk tj) (ft tj) (fv tj) znr zek zep), (oX5 r1 k1 k2 k3 (nI ct)), (k1, .inl (cA 0, 701, .inl fk)), (k2, .inl (cA 0, 701, .inl ft)), (k3, .inl (cA 1, 701, .inr (.inl fv))), (oX3 p0 pr pb pe pg p1 (nI nd) p2 p3 p4 p5 (nI cn) p6 (nI qm) p7 p8 p9 (nI sm)), (p2, .inl (cA 1, 10, .inr (.inl fna))), (p6, .inl (cA 1, 8, .inr (.inl zpn))), (p7, .inl (cA 0, 350, .inl zst)), (p8, .inl (cA 0, 350, .inl zop))] t) (va_A [(oX4 r0 r1 p0 (nI ti) (fk ti) (ft ti) (fv ti) inb iek iep), (oX5 r1 k1 k2 k3 (nI ct)), (k1, .inl (cA 0, 701, .inl fk)), (k2, .inl (cA 0, 701, .inl ft)), (k3, .inl (cA 1, 701, .inr (.inl fv))), (oX3 p0 pr pb pe pg p1 (nI nd) p2 p3 p4 p5 (nI cn) p6 (nI pq) p7 p8 p9 (nI sc)), (p2, .inl (cA 1, 10, .inr (.inl fna))), (p6, .inl (cA 1, 8, .inr (.inl fpn))), (p7, .inl (cA 0, 350, .inl fst)), (p8, .inl (cA 0, 350, .inl fop))] sz)) 0 0 (va_A [(oX4 r0 r1 p0 (nI ti) (fk ti) (ft ti) (fv ti) inb iek iep), (oX5 r1 k1 k2 k3 (nI ct)), (k1, .inl (cA 0, 701, .inl fk)), (k2, .inl (cA 0, 701, .inl ft)), (k3, .inl (cA 1, 701, .inr (.inl fv))), (oX3 p0 pr pb pe pg p1 (nI nd) p2 p3 p4 p5 (nI cn) p6 (nI pq) p7 p8 p9 (nI sc)), (p2, .inl (cA 1, 10, .inr (.inl fna))), (p6, .inl (cA 1, 8, .inr (.inl fpn))), (p7, .inl (cA 0, 350, .inl fst)), (p8, .inl (cA 0, 350, .inl fop))] sz) := by
  refine Met.ofW (cc := cX4_readDoneName) (maxL := 2) (ret := (some .boolean)) (by decide) rfl ?_
  intro p e s m args below meth c s₁ B hml hv
  obtain ⟨rfl, hsz, hP, hK, hD0, hC, hZ⟩ := hv
  have hx := B.exec
  have hb := B.bytes
  have hr := B.returns
  have hts := atoms_spec (ws := wsX4_readDoneName) B.pre
  have hown : s.vm.findClass RX4 = some m.cls := findClass_of_methodNamed B.named
  have hlocks := B.notSynchronized
  subst hsz
  have hD := hD0.self (sz := s.heap.size)
  generalize hAe : va_A [(oX4 r0 r1 p0 (nI ti) (fk ti) (ft ti) (fv ti) inb iek iep), (oX5 r1 k1 k2 k3 (nI ct)), (k1, .inl (cA 0, 701, .inl fk)), (k2, .inl (cA 0, 701, .inl ft)), (k3, .inl (cA 1, 701, .inr (.inl fv))), (oX3 p0 pr pb pe pg p1 (nI nd) p2 p3 p4 p5 (nI cn) p6 (nI pq) p7 p8 p9 (nI sc)), (p2, .inl (cA 1, 10, .inr (.inl fna))), (p6, .inl (cA 1, 8, .inr (.inl fpn))), (p7, .inl (cA 0, 350, .inl fst)), (p8, .inl (cA 0, 350, .inl fop))] s.heap.size = A at hD hZ ⊢
  have hA : ∀ q : Nat, s.heap.size ≤ q → A q := fun q h => by rw [← hAe]; exact Or.inr h
  have hS : va_S A s.heap s.heap [] := va_S.rf
  have hP : va_P D vwCl [(oX4 r0 r1 p0 (nI ti) (fk ti) (ft ti) (fv ti) inb iek iep), (oX5 r1 k1 k2 k3 (nI ct)), (k1, .inl (cA 0, 701, .inl fk)), (k2, .inl (cA 0, 701, .inl ft)), (k3, .inl (cA 1, 701, .inr (.inl fv))), (oX3 p0 pr pb pe pg p1 (nI nd) p2 p3 p4 p5 (nI cn) p6 (nI pq) p7 p8 p9 (nI sc)), (p2, .inl (cA 1, 10, .inr (.inl fna))), (p6, .inl (cA 1, 8, .inr (.inl fpn))), (p7, .inl (cA 0, 350, .inl fst)), (p8, .inl (cA 0, 350, .inl fop))] s.heap := hP
  have hl := lv_entry ([.ref r0]) (n := 2) (Nat.le_of_ble_eq_true rfl)
  rw [lg_entry_eq]
  generalize (lg_sl ([.ref r0]) ++ List.replicate (2 - (lg_sl ([.ref r0])).length) Slot.unset).toArray = ls at hl ⊢
  have hl : lv_has ls 2 [(0, .ref r0)] := hl
  have inX4 : ∀ w ∈ u_ws RX4 TX4 9, w ∈ wsX4_readDoneName := by decide +kernel
  have hle9 := TX.le hTX hti
  refine lv_aload_n hx hb dX4_readDoneName_0 rfl (lv_at hl 0 rfl) ?_
  refine va_get (D := D) (ci := 8) (v := .int (fk ti)) (C := RX4) (T := TX4) (N := 9) hx hb hts inX4 hown hK hP 0 rfl rfl 3 (by decide) (hts (.fieldLink RX4 42 "EscrowDesk$Reader" "kind" "I") (by decide +kernel)) (fun _ h9 => h9) rfl dX4_readDoneName_1 ?_
  refine lv_iconst (v := 4) hx hb dX4_readDoneName_4 (by decide) ?_
  refine lv_icmp_eq (tgt := 14) hx hb dX4_readDoneName_5 (by decide) (fun c1 => ?_) (fun c1 => ?_)
  · skip
    refine lv_aload_n hx hb dX4_readDoneName_14 rfl (lv_at hl 0 rfl) ?_
    refine va_get (D := D) (ci := 8) (v := .ref p0) (C := RX4) (T := TX4) (N := 9) hx hb hts inX4 hown hK hP 0 rfl rfl 1 (by decide) (hts (.fieldLink RX4 25 "EscrowDesk$Reader" "plan" "LEscrowDesk$Plan;") (by decide +kernel)) (fun _ h9 => h9) rfl dX4_readDoneName_15 ?_
    refine lv_aload_n hx hb dX4_readDoneName_18 rfl (lv_at hl 0 rfl) ?_
    refine va_get (D := D) (ci := 8) (v := .long (fv ti)) (C := RX4) (T := TX4) (N := 9) hx hb hts inX4 hown hK hP 0 rfl rfl 5 (by decide) (hts (.fieldLink RX4 87 "EscrowDesk$Reader" "value" "J") (by decide +kernel)) (fun _ h9 => h9) rfl dX4_readDoneName_19 ?_
    obtain ⟨hPc, hDc, hFc⟩ := PDq.cut (wc := [(oX3 p0 pr pb pe pg p1 (nI nd) p2 p3 p4 p5 (nI cn) p6 (nI pq) p7 p8 p9 (nI sc)), (p2, .inl (cA 1, 10, .inr (.inl fna)))]) hP hD hS hA [5, 6] (by decide) rfl
    refine va_calli (va_runV (As := [.long (fv ti)]) (rest := []) ⟨hx, hb, hml, hown, hts⟩ (x_milNamed l D cA sa p0 p1 p2 p3 p4 p5 p6 p7 p8 p9 cn pq nd sc pr pb pe pg (fv ti) fna s.heap.size hcn hpq hnd hsc) (cwV 1 hts gX4_readDoneName_X3_milestoneNamed rfl rfl rfl (by decide +kernel) ⟨(Nat.le_of_ble_eq_true rfl), (Nat.le_of_ble_eq_true rfl)⟩) ⟨Wd.blind, va_recv hK hPc (ci := 7) (q0 := 0) rfl rfl, fun U hU hW => ⟨rfl, Wd.call hPc hDc hK hC hZ hS hFc U hU hW⟩⟩ rfl rfl hl.1 rfl (lv_room (Nat.le_of_ble_eq_true rfl)) dX4_readDoneName_22 ⟨(Nat.le_of_ble_eq_true rfl), (Nat.le_of_ble_eq_true rfl)⟩) hS (fun q _ h => hFc q h) hFc (fun rn2 u t H1 locs ht hvm hw hB hz1 hk1 hS => ?_)
    obtain ⟨hP1, hD1⟩ := hB
    rw [ht] at hP1
    obtain ⟨hP, hD⟩ := PDq.join (w := [(oX4 r0 r1 p0 (nI ti) (fk ti) (ft ti) (fv ti) inb iek iep), (oX5 r1 k1 k2 k3 (nI ct)), (k1, .inl (cA 0, 701, .inl fk)), (k2, .inl (cA 0, 701, .inl ft)), (k3, .inl (cA 1, 701, .inr (.inl fv))), (p6, .inl (cA 1, 8, .inr (.inl fpn))), (p7, .inl (cA 0, 350, .inl fst)), (p8, .inl (cA 0, 350, .inl fop)), (oX3 p0 pr pb pe pg p1 (nI nd) p2 p3 p4 p5 (nI cn) p6 (nI pq) p7 p8 p9 (nI sc)), (p2, .inl (cA 1, 10, .inr (.inl fna)))]) 8 hP hD [5, 6] [0, 1, 2, 3, 4, 7, 8, 9] rfl rfl (by decide) (by decide +kernel) hk1 hFc hP1 hD1 rfl
    generalize H1 = H at hP hS ⊢
    rcases hw with ⟨hr9, hn3⟩ | ⟨kn4, hn5, hr9, hn3, hn6⟩
    · skip
      subst hr9
      have hn3 := NL.not hNM hn3
      refine lv_istore_n (lv' := [(1, .int (-1)), (0, .ref r0)]) hx hb dX4_readDoneName_25 rfl hl (by decide) rfl (fun ls hl => ?_)
      refine lv_iload_n hx hb dX4_readDoneName_26 rfl (lv_at hl 0 rfl) ?_
      refine lv_iconst (v := (-1)) hx hb dX4_readDoneName_27 (by decide) ?_
      refine lv_icmp_ne (tgt := 37) hx hb dX4_readDoneName_28 (by decide) (fun c9 => absurd c9 (by decide)) (fun c8 => ?_)
      refine lv_aload_n hx hb dX4_readDoneName_31 rfl (lv_at hl 1 rfl) ?_
      refine lv_iconst (v := 4) hx hb dX4_readDoneName_32 (by decide) ?_
      obtain ⟨hPc, hDc, hFc⟩ := PDq.cut (wc := [(oX4 r0 r1 p0 (nI ti) (fk ti) (ft ti) (fv ti) inb iek iep)]) hP hD hS hA [0] (by decide) rfl
      refine va_calli (va_runV (As := [.int 4]) (rest := []) ⟨hx, hb, hml, hown, hts⟩ (x_fail l D cA sa r0 r1 p0 (nI ti) (fk ti) (ft ti) inb iek iep (fv ti) 4 H.size) (cwV 1 hts gX4_readDoneName_X4_fail rfl rfl rfl (by decide +kernel) ⟨(Nat.le_of_ble_eq_true rfl), (Nat.le_of_ble_eq_true rfl)⟩) ⟨Wd.blind, va_recv hK hPc (ci := 8) (q0 := 0) rfl rfl, fun U hU hW => ⟨rfl, Wd.call hPc hDc hK hC hZ hS hFc U hU hW⟩⟩ rfl rfl hl.1 rfl (lv_room (Nat.le_of_ble_eq_true rfl)) dX4_readDoneName_33 ⟨(Nat.le_of_ble_eq_true rfl), (Nat.le_of_ble_eq_true rfl)⟩) hS (fun q _ h => hFc q h) hFc (fun rn9 u t H1 locs ht hvm hw hB hz1 hk1 hS => ?_)
      obtain ⟨zn10, hn11, hP1, hD1⟩ := hB
      rw [ht] at hP1
      obtain ⟨hP, hD⟩ := PDq.join (w := [(oX5 r1 k1 k2 k3 (nI ct)), (k1, .inl (cA 0, 701, .inl fk)), (k2, .inl (cA 0, 701, .inl ft)), (k3, .inl (cA 1, 701, .inr (.inl fv))), (p6, .inl (cA 1, 8, .inr (.inl fpn))), (p7, .inl (cA 0, 350, .inl fst)), (p8, .inl (cA 0, 350, .inl fop)), (oX3 p0 pr pb pe pg p1 (nI nd) p2 p3 p4 p5 (nI cn) p6 (nI pq) p7 p8 p9 (nI sc)), (p2, .inl (cA 1, 10, .inr (.inl fna))), (oX4 r0 r1 p0 (nI ti) (fk ti) (ft ti) (fv ti) inb zn10 (ft ti))]) 9 hP hD [0] [1, 2, 3, 4, 5, 6, 7, 8, 9] rfl rfl (by decide +kernel) (by decide +kernel) hk1 hFc hP1 hD1 rfl
      generalize H1 = H at hP hS ⊢
      obtain rfl : rn9 = 0 := hw
      obtain ⟨hP9, hD9⟩ := PDq.sub (ws' := [(oX4 r0 r1 p0 (nI ti) (fk ti) (ft ti) (fv ti) inb zn10 (ft ti)), (oX5 r1 k1 k2 k3 (nI ct)), (k1, .inl (cA 0, 701, .inl fk)), (k2, .inl (cA 0, 701, .inl ft)), (k3, .inl (cA 1, 701, .inr (.inl fv))), (oX3 p0 pr pb pe pg p1 (nI nd) p2 p3 p4 p5 (nI cn) p6 (nI pq) p7 p8 p9 (nI sc)), (p2, .inl (cA 1, 10, .inr (.inl fna))), (p6, .inl (cA 1, 8, .inr (.inl fpn))), (p7, .inl (cA 0, 350, .inl fst)), (p8, .inl (cA 0, 350, .inl fop))]) hP hD [9, 0, 1, 2, 3, 7, 8, 4, 5, 6] (by decide +kernel) rfl
      refine W.widen (k := 0) (n := 0) (Nat.le_of_ble_eq_true rfl) (Nat.le_of_ble_eq_true rfl) ?_
      exact (W.zret (v := 0) hx hb hr (by first | rfl | decide) (fun t ht hW => ⟨⟨0, 0, rfl, ⟨rfl, by decide⟩, ti, pq, sc, inb, zn10, (ft ti), fpn, fst, fop, pl, hti, (by omega), (by omega), hpq, hsc, hNP, (fun h9 => absurd h9 (by decide)), (fun h9 => absurd h9 (by decide)), (fun h9 => absurd h9 (by decide)), (fun h9 => absurd h9 (by decide)), (fun h9 => absurd h9 (by decide)), (fun h9 => absurd h9 (by decide)), (fun h9 => absurd h9 (by decide)), (fun h9 => absurd h9 (by decide)), (fun h9 => absurd h9 (by decide)), (fun _ => ⟨4, hn11, Or.inr ⟨c1, hn3, rfl⟩⟩), (fun _ => rfl), by rw [ht]; exact hP9, hD9⟩, hS.F ht⟩) hS.2.2 dX4_readDoneName_36)
    · skip
      subst hr9
      have hn7 := NL.fi hNM hn5 hn3 hn6
      have hn3 := NL.mem hNM hn5 hn3
      refine lv_istore_n (lv' := [(1, .int (nI kn4)), (0, .ref r0)]) hx hb dX4_readDoneName_25 rfl hl (by decide) rfl (fun ls hl => ?_)
      refine lv_iload_n hx hb dX4_readDoneName_26 rfl (lv_at hl 0 rfl) ?_
      refine lv_iconst (v := (-1)) hx hb dX4_readDoneName_27 (by decide) ?_
      refine lv_icmp_ne (tgt := 37) hx hb dX4_readDoneName_28 (by decide) (fun c12 => ?_) (fun c9 => absurd c9 (nI_neg (n := kn4) (by omega) (by decide)))
      have hn13 := TX.go hTX (show ti < ct by omega) (by rw [c1]; decide)
      have hn13a := hn13.2.1
      have hn13b := hn13.2.2
      have hn13c := hn13.1
      refine lv_aload_n hx hb dX4_readDoneName_37 rfl (lv_at hl 1 rfl) ?_
      refine lv_aload_n hx hb dX4_readDoneName_38 rfl (lv_at hl 1 rfl) ?_
      refine va_get (D := D) (ci := 8) (v := .int (nI ti)) (C := RX4) (T := TX4) (N := 9) hx hb hts inX4 hown hK hP 0 rfl rfl 2 (by decide) (hts (.fieldLink RX4 70 "EscrowDesk$Reader" "token" "I") (by decide +kernel)) (fun _ h9 => h9) rfl dX4_readDoneName_39 ?_
      refine lv_iconst (v := 1) hx hb dX4_readDoneName_42 (by decide) ?_
      refine lv_iadd hx hb dX4_readDoneName_43 ?_
      refine lv_topi (fun yn14 eyn14 => ?_)
      obtain rfl : yn14 = (nI (ti + 1)) := eyn14.trans (nI_add ti 1)
      obtain ⟨hPc, hDc, hFc⟩ := PDq.cut (wc := [(oX4 r0 r1 p0 (nI ti) (fk ti) (ft ti) (fv ti) inb iek iep), (oX5 r1 k1 k2 k3 (nI ct)), (k1, .inl (cA 0, 701, .inl fk)), (k2, .inl (cA 0, 701, .inl ft)), (k3, .inl (cA 1, 701, .inr (.inl fv)))]) hP hD hS hA [0, 1, 2, 3, 4] (by decide) rfl
      refine va_callv (va_runV (As := [.int (nI (ti + 1))]) (rest := []) ⟨hx, hb, hml, hown, hts⟩ (x_lookAt l D cA sa r0 p0 (ti + 1) (nI ti) (fk ti) (ft ti) inb iek iep (fv ti) r1 k1 k2 k3 ct fk ft fv H.size hct hn13.1) (cwV 1 hts gX4_readDoneName_X4_lookAt rfl rfl rfl (by decide +kernel) ⟨(Nat.le_of_ble_eq_true rfl), (Nat.le_of_ble_eq_true rfl)⟩) ⟨Wd.blind, va_recv hK hPc (ci := 8) (q0 := 0) rfl rfl, fun U hU hW => ⟨rfl, Wd.call hPc hDc hK hC hZ hS hFc U hU hW⟩⟩ rfl rfl hl.1 rfl (lv_room (Nat.le_of_ble_eq_true rfl)) dX4_readDoneName_44 ⟨(Nat.le_of_ble_eq_true rfl), (Nat.le_of_ble_eq_true rfl)⟩) hS (fun q _ h => hFc q h) hFc (fun u t H1 locs ht hvm hw hB hz1 hk1 hS => ?_)
      obtain ⟨hP1, hD1⟩ := hB
      rw [ht] at hP1
      obtain ⟨hP, hD⟩ := PDq.join (w := [(p6, .inl (cA 1, 8, .inr (.inl fpn))), (p7, .inl (cA 0, 350, .inl fst)), (p8, .inl (cA 0, 350, .inl fop)), (oX3 p0 pr pb pe pg p1 (nI nd) p2 p3 p4 p5 (nI cn) p6 (nI pq) p7 p8 p9 (nI sc)), (p2, .inl (cA 1, 10, .inr (.inl fna))), (oX4 r0 r1 p0 (nI (ti + 1)) (fk (ti + 1)) (ft (ti + 1)) (fv (ti + 1)) inb iek iep), (oX5 r1 k1 k2 k3 (nI ct)), (k1, .inl (cA 0, 701, .inl fk)), (k2, .inl (cA 0, 701, .inl ft)), (k3, .inl (cA 1, 701, .inr (.inl fv)))]) 5 hP hD [0, 1, 2, 3, 4] [5, 6, 7, 8, 9] rfl rfl (by decide) (by decide +kernel) hk1 hFc hP1 hD1 rfl
      generalize H1 = H at hP hS ⊢
      refine lv_aload_n hx hb dX4_readDoneName_47 rfl (lv_at hl 1 rfl) ?_
      refine va_get (D := D) (ci := 8) (v := .ref p0) (C := RX4) (T := TX4) (N := 9) hx hb hts inX4 hown hK hP 5 rfl rfl 1 (by decide) (hts (.fieldLink RX4 25 "EscrowDesk$Reader" "plan" "LEscrowDesk$Plan;") (by decide +kernel)) (fun _ h9 => h9) rfl dX4_readDoneName_48 ?_
      refine lv_bipush (v := 19) hx hb dX4_readDoneName_51 (by decide) ?_
      refine lv_iload_n hx hb dX4_readDoneName_53 rfl (lv_at hl 0 rfl) ?_
      obtain ⟨hPc, hDc, hFc⟩ := PDq.cut (wc := [(oX3 p0 pr pb pe pg p1 (nI nd) p2 p3 p4 p5 (nI cn) p6 (nI pq) p7 p8 p9 (nI sc)), (p7, .inl (cA 0, 350, .inl fst)), (p8, .inl (cA 0, 350, .inl fop))]) hP hD hS hA [3, 1, 2] (by decide) rfl
      refine va_calli (va_runV (As := [.int 19, .int (nI kn4)]) (rest := []) ⟨hx, hb, hml, hown, hts⟩ (x_addStep l D cA sa p0 p1 p2 p3 p4 p5 p6 p7 p8 p9 cn pq nd sc pr pb pe pg 19 (nI kn4) fst fop H.size (by omega)) (cwV 2 hts gX4_readDoneName_X3_addStep rfl rfl rfl (by decide +kernel) ⟨(Nat.le_of_ble_eq_true rfl), (Nat.le_of_ble_eq_true rfl)⟩) ⟨Wd.blind, va_recv hK hPc (ci := 7) (q0 := 0) rfl rfl, fun U hU hW => ⟨rfl, Wd.call hPc hDc hK hC hZ hS hFc U hU hW⟩⟩ rfl rfl hl.1 rfl (lv_room (Nat.le_of_ble_eq_true rfl)) dX4_readDoneName_54 ⟨(Nat.le_of_ble_eq_true rfl), (Nat.le_of_ble_eq_true rfl)⟩) hS (fun q _ h => hFc q h) hFc (fun rn15 u t H1 locs ht hvm hw hB hz1 hk1 hS => ?_)
      obtain ⟨fn16, fn17, hn18, hn19, hP1, hD1⟩ := hB
      rw [ht] at hP1
      obtain ⟨hP, hD⟩ := PDq.join (w := [(p6, .inl (cA 1, 8, .inr (.inl fpn))), (p2, .inl (cA 1, 10, .inr (.inl fna))), (oX4 r0 r1 p0 (nI (ti + 1)) (fk (ti + 1)) (ft (ti + 1)) (fv (ti + 1)) inb iek iep), (oX5 r1 k1 k2 k3 (nI ct)), (k1, .inl (cA 0, 701, .inl fk)), (k2, .inl (cA 0, 701, .inl ft)), (k3, .inl (cA 1, 701, .inr (.inl fv))), (oX3 p0 pr pb pe pg p1 (nI nd) p2 p3 p4 p5 (nI cn) p6 (nI pq) p7 p8 p9 (nI (sc + 1))), (p7, .inl (cA 0, 350, .inl fn16)), (p8, .inl (cA 0, 350, .inl fn17))]) 7 hP hD [3, 1, 2] [0, 4, 5, 6, 7, 8, 9] rfl rfl (by decide) (by decide +kernel) hk1 hFc hP1 hD1 rfl
      generalize H1 = H at hP hS ⊢
      obtain rfl : rn15 = 1 := hw
      obtain ⟨hP9, hD9⟩ := PDq.sub (ws' := [(oX4 r0 r1 p0 (nI (ti + 1)) (fk (ti + 1)) (ft (ti + 1)) (fv (ti + 1)) inb iek iep), (oX5 r1 k1 k2 k3 (nI ct)), (k1, .inl (cA 0, 701, .inl fk)), (k2, .inl (cA 0, 701, .inl ft)), (k3, .inl (cA 1, 701, .inr (.inl fv))), (oX3 p0 pr pb pe pg p1 (nI nd) p2 p3 p4 p5 (nI cn) p6 (nI pq) p7 p8 p9 (nI (sc + 1))), (p2, .inl (cA 1, 10, .inr (.inl fna))), (p6, .inl (cA 1, 8, .inr (.inl fpn))), (p7, .inl (cA 0, 350, .inl fn16)), (p8, .inl (cA 0, 350, .inl fn17))]) hP hD [2, 3, 4, 5, 6, 7, 1, 0, 8, 9] (by decide +kernel) rfl
      refine W.widen (k := 0) (n := 0) (Nat.le_of_ble_eq_true rfl) (Nat.le_of_ble_eq_true rfl) ?_
      exact (W.zret (v := 1) hx hb hr (by first | rfl | decide) (fun t ht hW => ⟨⟨1, 1, rfl, ⟨rfl, by decide⟩, (ti + 1), pq, (sc + 1), inb, iek, iep, fpn, fn16, fn17, pl, hn13.1, (by omega), (by omega), hpq, (by omega), hNP, (fun _ => rfl), (fun _ => rfl), (fun _ => rfl), (fun _ => (by omega)), (fun _ => rfl), (fun _ => ⟨c1, hn3⟩), (fun _ => rfl), (fun _ => hn18), (fun _ => (by rw [hn7]; exact hn19)), (fun h9 => absurd h9 (by decide)), (fun h9 => absurd h9 (by decide)), by rw [ht]; exact hP9, hD9⟩, hS.F ht⟩) hS.2.2 dX4_readDoneName_57)
  · skip
    refine lv_aload_n hx hb dX4_readDoneName_8 rfl (lv_at hl 0 rfl) ?_
    refine lv_iconst (v := 2) hx hb dX4_readDoneName_9 (by decide) ?_
    obtain ⟨hPc, hDc, hFc⟩ := PDq.cut (wc := [(oX4 r0 r1 p0 (nI ti) (fk ti) (ft ti) (fv ti) inb iek iep)]) hP hD hS hA [0] (by decide) rfl
    refine va_calli (va_runV (As := [.int 2]) (rest := []) ⟨hx, hb, hml, hown, hts⟩ (x_fail l D cA sa r0 r1 p0 (nI ti) (fk ti) (ft ti) inb iek iep (fv ti) 2 s.heap.size) (cwV 1 hts gX4_readDoneName_X4_fail rfl rfl rfl (by decide +kernel) ⟨(Nat.le_of_ble_eq_true rfl), (Nat.le_of_ble_eq_true rfl)⟩) ⟨Wd.blind, va_recv hK hPc (ci := 8) (q0 := 0) rfl rfl, fun U hU hW => ⟨rfl, Wd.call hPc hDc hK hC hZ hS hFc U hU hW⟩⟩ rfl rfl hl.1 rfl (lv_room (Nat.le_of_ble_eq_true rfl)) dX4_readDoneName_10 ⟨(Nat.le_of_ble_eq_true rfl), (Nat.le_of_ble_eq_true rfl)⟩) hS (fun q _ h => hFc q h) hFc (fun rn20 u t H1 locs ht hvm hw hB hz1 hk1 hS => ?_)
    obtain ⟨zn21, hn22, hP1, hD1⟩ := hB
    rw [ht] at hP1
    obtain ⟨hP, hD⟩ := PDq.join (w := [(oX5 r1 k1 k2 k3 (nI ct)), (k1, .inl (cA 0, 701, .inl fk)), (k2, .inl (cA 0, 701, .inl ft)), (k3, .inl (cA 1, 701, .inr (.inl fv))), (oX3 p0 pr pb pe pg p1 (nI nd) p2 p3 p4 p5 (nI cn) p6 (nI pq) p7 p8 p9 (nI sc)), (p2, .inl (cA 1, 10, .inr (.inl fna))), (p6, .inl (cA 1, 8, .inr (.inl fpn))), (p7, .inl (cA 0, 350, .inl fst)), (p8, .inl (cA 0, 350, .inl fop)), (oX4 r0 r1 p0 (nI ti) (fk ti) (ft ti) (fv ti) inb zn21 (ft ti))]) 9 hP hD [0] [1, 2, 3, 4, 5, 6, 7, 8, 9] rfl rfl (by decide +kernel) (by decide +kernel) hk1 hFc hP1 hD1 rfl
    generalize H1 = H at hP hS ⊢
    obtain rfl : rn20 = 0 := hw
    obtain ⟨hP9, hD9⟩ := PDq.sub (ws' := [(oX4 r0 r1 p0 (nI ti) (fk ti) (ft ti) (fv ti) inb zn21 (ft ti)), (oX5 r1 k1 k2 k3 (nI ct)), (k1, .inl (cA 0, 701, .inl fk)), (k2, .inl (cA 0, 701, .inl ft)), (k3, .inl (cA 1, 701, .inr (.inl fv))), (oX3 p0 pr pb pe pg p1 (nI nd) p2 p3 p4 p5 (nI cn) p6 (nI pq) p7 p8 p9 (nI sc)), (p2, .inl (cA 1, 10, .inr (.inl fna))), (p6, .inl (cA 1, 8, .inr (.inl fpn))), (p7, .inl (cA 0, 350, .inl fst)), (p8, .inl (cA 0, 350, .inl fop))]) hP hD [9, 0, 1, 2, 3, 4, 5, 6, 7, 8] (by decide +kernel) rfl
    refine W.widen (k := 0) (n := 0) (Nat.le_of_ble_eq_true rfl) (Nat.le_of_ble_eq_true rfl) ?_
    exact (W.zret (v := 0) hx hb hr (by first | rfl | decide) (fun t ht hW => ⟨⟨0, 0, rfl, ⟨rfl, by decide⟩, ti, pq, sc, inb, zn21, (ft ti), fpn, fst, fop, pl, hti, (by omega), (by omega), hpq, hsc, hNP, (fun h9 => absurd h9 (by decide)), (fun h9 => absurd h9 (by decide)), (fun h9 => absurd h9 (by decide)), (fun h9 => absurd h9 (by decide)), (fun h9 => absurd h9 (by decide)), (fun h9 => absurd h9 (by decide)), (fun h9 => absurd h9 (by decide)), (fun h9 => absurd h9 (by decide)), (fun h9 => absurd h9 (by decide)), (fun _ => ⟨2, hn22, Or.inl ⟨c1, rfl⟩⟩), (fun _ => rfl), by rw [ht]; exact hP9, hD9⟩, hS.F ht⟩) hS.2.2 dX4_readDoneName_13)

set_option maxHeartbeats 4000000 in
set_option maxRecDepth 100000 in
/-- readFact -/
theorem x_readFact_B (l : Launch) (D : va_G) (cA : Nat → ClassId) (sa : Nat → Nat) (r0 : Nat) (p0 : Nat) (ti : Nat) (ln : Nat) (inb : Int32) (iek : Int32) (iep : Int32) (r1 : Nat) (k1 : Nat) (k2 : Nat) (k3 : Nat) (ct : Nat) (fk : Nat → Int32) (ft : Nat → Int32) (fv : Nat → Int64) (fb : Nat → Int32) (gP : Nat → Nat) (gR : Nat → Nat) (p1 : Nat) (p2 : Nat) (p3 : Nat) (p4 : Nat) (p5 : Nat) (p6 : Nat) (p7 : Nat) (p8 : Nat) (p9 : Nat) (cn : Nat) (pq : Nat) (nd : Nat) (sc : Nat) (pr : Int32) (pb : Int32) (pe : Int32) (pg : Int32) (fna : Nat → Int64) (fpn : Nat → Int64) (fst : Nat → Int32) (fop : Nat → Int32) (ml : List Int64) (pl : List Int64) (sl : Nat) (o9 : Nat) (sz : Nat) (hct : ct ≤ 701) (hln : ln ≤ 700) (hti : ti < ct) (hTX : TX fb ln ct gP gR ft fv fk) (hcn : cn ≤ 10) (hpq : pq ≤ 8) (hnd : nd ≤ 6) (hsc : sc ≤ 350) (hNM : NL ml cn fna) (hNP : NL pl pq fpn) (hsl : 2 * sc + sl ≤ gP ti) (ho : o9 = 8) : Met l yX4_readFact wsX4_readFact ({ frames := 20, cells := 0, slots := 0, locals := 320 }) (va_Pc [.ref r0, .int (nI o9)] (Wd D cA sa [(oX4 r0 r1 p0 (nI ti) (fk ti) (ft ti) (fv ti) inb iek iep), (oX5 r1 k1 k2 k3 (nI ct)), (k1, .inl (cA 0, 701, .inl fk)), (k2, .inl (cA 0, 701, .inl ft)), (k3, .inl (cA 1, 701, .inr (.inl fv))), (oX3 p0 pr pb pe pg p1 (nI nd) p2 p3 p4 p5 (nI cn) p6 (nI pq) p7 p8 p9 (nI sc)), (p2, .inl (cA 1, 10, .inr (.inl fna))), (p6, .inl (cA 1, 8, .inr (.inl fpn))), (p7, .inl (cA 0, 350, .inl fst)), (p8, .inl (cA 0, 350, .inl fop))] sz)) (va_Qi (fun (r : Int32) (u9 : Int32) => u9 = r ∧ (r = 0 ∨ r = 1)) (fun (u9 : Int32) t => ∃ tj : Nat, ∃ qm : Nat, ∃ sm : Nat, ∃ znr : Int32, ∃ zek : Int32, ∃ zep : Int32, ∃ zpn : Nat → Int64, ∃ zst : Nat → Int32, ∃ zop : Nat → Int32, ∃ zpl : List Int64, tj < ct ∧ gP tj ≤ ln ∧ ti ≤ tj ∧ qm ≤ 8 ∧ sm ≤ 350 ∧ NL zpl qm zpn ∧ (u9 = 1 → zek = iek) ∧ (u9 = 1 → zep = iep) ∧ (u9 = 1 → 2 * sm + sl ≤ gP tj) ∧ (u9 = 1 → ti + 1 ≤ tj) ∧ (u9 = 1 → PRx fk ft fv ml 0 o9 ti pl (.inr (tj, zpl))) ∧ (u9 = 1 → CD9 fk fv 0 ti tj ml pl zpl sc sm fst fop zst zop) ∧ (u9 = 0 → PRx fk ft fv ml 0 o9 ti pl (.inl (zek, zep))) ∧ Wq D (va_A [(oX4 r0 r1 p0 (nI ti) (fk ti) (ft ti) (fv ti) inb iek iep), (oX5 r1 k1 k2 k3 (nI ct)), (k1, .inl (cA 0, 701, .inl fk)), (k2, .inl (cA 0, 701, .inl ft)), (k3, .inl (cA 1, 701, .inr (.inl fv))), (oX3 p0 pr pb pe pg p1 (nI nd) p2 p3 p4 p5 (nI cn) p6 (nI pq) p7 p8 p9 (nI sc)), (p2, .inl (cA 1, 10, .inr (.inl fna))), (p6, .inl (cA 1, 8, .inr (.inl fpn))), (p7, .inl (cA 0, 350, .inl fst)), (p8, .inl (cA 0, 350, .inl fop))] sz) [(oX4 r0 r1 p0 (nI tj) (fk tj) (ft tj) (fv tj) znr zek zep), (oX5 r1 k1 k2 k3 (nI ct)), (k1, .inl (cA 0, 701, .inl fk)), (k2, .inl (cA 0, 701, .inl ft)), (k3, .inl (cA 1, 701, .inr (.inl fv))), (oX3 p0 pr pb pe pg p1 (nI nd) p2 p3 p4 p5 (nI cn) p6 (nI qm) p7 p8 p9 (nI sm)), (p2, .inl (cA 1, 10, .inr (.inl fna))), (p6, .inl (cA 1, 8, .inr (.inl zpn))), (p7, .inl (cA 0, 350, .inl zst)), (p8, .inl (cA 0, 350, .inl zop))] t) (va_A [(oX4 r0 r1 p0 (nI ti) (fk ti) (ft ti) (fv ti) inb iek iep), (oX5 r1 k1 k2 k3 (nI ct)), (k1, .inl (cA 0, 701, .inl fk)), (k2, .inl (cA 0, 701, .inl ft)), (k3, .inl (cA 1, 701, .inr (.inl fv))), (oX3 p0 pr pb pe pg p1 (nI nd) p2 p3 p4 p5 (nI cn) p6 (nI pq) p7 p8 p9 (nI sc)), (p2, .inl (cA 1, 10, .inr (.inl fna))), (p6, .inl (cA 1, 8, .inr (.inl fpn))), (p7, .inl (cA 0, 350, .inl fst)), (p8, .inl (cA 0, 350, .inl fop))] sz)) 0 0 (va_A [(oX4 r0 r1 p0 (nI ti) (fk ti) (ft ti) (fv ti) inb iek iep), (oX5 r1 k1 k2 k3 (nI ct)), (k1, .inl (cA 0, 701, .inl fk)), (k2, .inl (cA 0, 701, .inl ft)), (k3, .inl (cA 1, 701, .inr (.inl fv))), (oX3 p0 pr pb pe pg p1 (nI nd) p2 p3 p4 p5 (nI cn) p6 (nI pq) p7 p8 p9 (nI sc)), (p2, .inl (cA 1, 10, .inr (.inl fna))), (p6, .inl (cA 1, 8, .inr (.inl fpn))), (p7, .inl (cA 0, 350, .inl fst)), (p8, .inl (cA 0, 350, .inl fop))] sz) := by
  refine Met.ofW (cc := cX4_readFact) (maxL := 3) (ret := (some .boolean)) (by decide) rfl ?_
  intro p e s m args below meth c s₁ B hml hv
  obtain ⟨rfl, hsz, hP, hK, hD0, hC, hZ⟩ := hv
  have hx := B.exec
  have hb := B.bytes
  have hr := B.returns
  have hts := atoms_spec (ws := wsX4_readFact) B.pre
  have hown : s.vm.findClass RX4 = some m.cls := findClass_of_methodNamed B.named
  have hlocks := B.notSynchronized
  subst hsz
  have hD := hD0.self (sz := s.heap.size)
  generalize hAe : va_A [(oX4 r0 r1 p0 (nI ti) (fk ti) (ft ti) (fv ti) inb iek iep), (oX5 r1 k1 k2 k3 (nI ct)), (k1, .inl (cA 0, 701, .inl fk)), (k2, .inl (cA 0, 701, .inl ft)), (k3, .inl (cA 1, 701, .inr (.inl fv))), (oX3 p0 pr pb pe pg p1 (nI nd) p2 p3 p4 p5 (nI cn) p6 (nI pq) p7 p8 p9 (nI sc)), (p2, .inl (cA 1, 10, .inr (.inl fna))), (p6, .inl (cA 1, 8, .inr (.inl fpn))), (p7, .inl (cA 0, 350, .inl fst)), (p8, .inl (cA 0, 350, .inl fop))] s.heap.size = A at hD hZ ⊢
  have hA : ∀ q : Nat, s.heap.size ≤ q → A q := fun q h => by rw [← hAe]; exact Or.inr h
  have hS : va_S A s.heap s.heap [] := va_S.rf
  have hP : va_P D vwCl [(oX4 r0 r1 p0 (nI ti) (fk ti) (ft ti) (fv ti) inb iek iep), (oX5 r1 k1 k2 k3 (nI ct)), (k1, .inl (cA 0, 701, .inl fk)), (k2, .inl (cA 0, 701, .inl ft)), (k3, .inl (cA 1, 701, .inr (.inl fv))), (oX3 p0 pr pb pe pg p1 (nI nd) p2 p3 p4 p5 (nI cn) p6 (nI pq) p7 p8 p9 (nI sc)), (p2, .inl (cA 1, 10, .inr (.inl fna))), (p6, .inl (cA 1, 8, .inr (.inl fpn))), (p7, .inl (cA 0, 350, .inl fst)), (p8, .inl (cA 0, 350, .inl fop))] s.heap := hP
  have hl := lv_entry ([.ref r0, .int (nI o9)]) (n := 3) (Nat.le_of_ble_eq_true rfl)
  rw [lg_entry_eq]
  generalize (lg_sl ([.ref r0, .int (nI o9)]) ++ List.replicate (3 - (lg_sl ([.ref r0, .int (nI o9)])).length) Slot.unset).toArray = ls at hl ⊢
  have hl : lv_has ls 3 [(0, .ref r0), (1, .int (nI o9))] := hl
  have inX4 : ∀ w ∈ u_ws RX4 TX4 9, w ∈ wsX4_readFact := by decide +kernel
  have hle9 := TX.le hTX hti
  refine lv_aload_n hx hb dX4_readFact_0 rfl (lv_at hl 0 rfl) ?_
  refine va_get (D := D) (ci := 8) (v := .int (fk ti)) (C := RX4) (T := TX4) (N := 9) hx hb hts inX4 hown hK hP 0 rfl rfl 3 (by decide) (hts (.fieldLink RX4 42 "EscrowDesk$Reader" "kind" "I") (by decide +kernel)) (fun _ h9 => h9) rfl dX4_readFact_1 ?_
  refine lv_istore_n (lv' := [(2, .int (fk ti)), (0, .ref r0), (1, .int (nI o9))]) hx hb dX4_readFact_4 rfl hl (by decide) rfl (fun ls hl => ?_)
  refine lv_iload_n hx hb dX4_readFact_5 rfl (lv_at hl 0 rfl) ?_
  refine lv_bipush (v := 16) hx hb dX4_readFact_6 (by decide) ?_
  refine lv_icmp_eq (tgt := 16) hx hb dX4_readFact_8 (by decide) (fun c1 => ?_) (fun c1 => ?_)
  · skip
    rw [c1] at hl
    have hl : lv_has ls 3 [(2, .int 16), (0, .ref r0), (1, .int (nI o9))] := hl
    refine lv_iload_n hx hb dX4_readFact_16 rfl (lv_at hl 2 rfl) ?_
    refine lv_bipush (v := 8) hx hb dX4_readFact_17 (by decide) ?_
    refine lv_icmp_lt (tgt := 28) hx hb dX4_readFact_19 (by decide) (fun c9 => absurd c9 (nI_nlt (a := o9) (b := 8) (show 8 ≤ o9 by omega) (by omega))) (fun c2 => ?_)
    refine lv_aload_n hx hb dX4_readFact_22 rfl (lv_at hl 1 rfl) ?_
    refine lv_iconst (v := 5) hx hb dX4_readFact_23 (by decide) ?_
    obtain ⟨hPc, hDc, hFc⟩ := PDq.cut (wc := [(oX4 r0 r1 p0 (nI ti) (fk ti) (ft ti) (fv ti) inb iek iep)]) hP hD hS hA [0] (by decide) rfl
    refine va_calli (va_runV (As := [.int 5]) (rest := []) ⟨hx, hb, hml, hown, hts⟩ (x_fail l D cA sa r0 r1 p0 (nI ti) (fk ti) (ft ti) inb iek iep (fv ti) 5 s.heap.size) (cwV 1 hts gX4_readFact_X4_fail rfl rfl rfl (by decide +kernel) ⟨by show (0) + 1 ≤ 20; omega, by show 8 + (2 + 11) + (0) ≤ 320; omega⟩) ⟨Wd.blind, va_recv hK hPc (ci := 8) (q0 := 0) rfl rfl, fun U hU hW => ⟨rfl, Wd.call hPc hDc hK hC hZ hS hFc U hU hW⟩⟩ rfl rfl hl.1 rfl (lv_room (Nat.le_of_ble_eq_true rfl)) dX4_readFact_24 ⟨(Nat.le_of_ble_eq_true rfl), (Nat.le_of_ble_eq_true rfl)⟩) hS (fun q _ h => hFc q h) hFc (fun rn3 u t H1 locs ht hvm hw hB hz1 hk1 hS => ?_)
    obtain ⟨zn4, hn5, hP1, hD1⟩ := hB
    rw [ht] at hP1
    obtain ⟨hP, hD⟩ := PDq.join (w := [(oX5 r1 k1 k2 k3 (nI ct)), (k1, .inl (cA 0, 701, .inl fk)), (k2, .inl (cA 0, 701, .inl ft)), (k3, .inl (cA 1, 701, .inr (.inl fv))), (oX3 p0 pr pb pe pg p1 (nI nd) p2 p3 p4 p5 (nI cn) p6 (nI pq) p7 p8 p9 (nI sc)), (p2, .inl (cA 1, 10, .inr (.inl fna))), (p6, .inl (cA 1, 8, .inr (.inl fpn))), (p7, .inl (cA 0, 350, .inl fst)), (p8, .inl (cA 0, 350, .inl fop)), (oX4 r0 r1 p0 (nI ti) (fk ti) (ft ti) (fv ti) inb zn4 (ft ti))]) 9 hP hD [0] [1, 2, 3, 4, 5, 6, 7, 8, 9] rfl rfl (by decide +kernel) (by decide +kernel) hk1 hFc hP1 hD1 rfl
    generalize H1 = H at hP hS ⊢
    obtain rfl : rn3 = 0 := hw
    obtain ⟨hP9, hD9⟩ := PDq.sub (ws' := [(oX4 r0 r1 p0 (nI ti) (fk ti) (ft ti) (fv ti) inb zn4 (ft ti)), (oX5 r1 k1 k2 k3 (nI ct)), (k1, .inl (cA 0, 701, .inl fk)), (k2, .inl (cA 0, 701, .inl ft)), (k3, .inl (cA 1, 701, .inr (.inl fv))), (oX3 p0 pr pb pe pg p1 (nI nd) p2 p3 p4 p5 (nI cn) p6 (nI pq) p7 p8 p9 (nI sc)), (p2, .inl (cA 1, 10, .inr (.inl fna))), (p6, .inl (cA 1, 8, .inr (.inl fpn))), (p7, .inl (cA 0, 350, .inl fst)), (p8, .inl (cA 0, 350, .inl fop))]) hP hD [9, 0, 1, 2, 3, 4, 5, 6, 7, 8] (by decide +kernel) rfl
    refine W.widen (k := 0) (n := 0) (Nat.le_of_ble_eq_true rfl) (Nat.le_of_ble_eq_true rfl) ?_
    exact (W.zret (v := 0) hx hb hr (by first | rfl | decide) (fun t ht hW => ⟨⟨0, 0, rfl, ⟨rfl, by decide⟩, ti, pq, sc, inb, zn4, (ft ti), fpn, fst, fop, pl, hti, (by omega), (by omega), hpq, hsc, hNP, (fun h9 => absurd h9 (by decide)), (fun h9 => absurd h9 (by decide)), (fun h9 => absurd h9 (by decide)), (fun h9 => absurd h9 (by decide)), (fun h9 => absurd h9 (by decide)), (fun h9 => absurd h9 (by decide)), (fun _ => (P_manyx (Or.inl c1) (by omega) hn5 rfl)), by rw [ht]; exact hP9, hD9⟩, hS.F ht⟩) hS.2.2 dX4_readFact_27)
  · skip
    refine lv_iload_n hx hb dX4_readFact_11 rfl (lv_at hl 0 rfl) ?_
    refine lv_iconst (v := 5) hx hb dX4_readFact_12 (by decide) ?_
    refine lv_icmp_ne (tgt := 28) hx hb dX4_readFact_13 (by decide) (fun c6 => ?_) (fun c6 => ?_)
    · skip
      refine lv_iload_n hx hb dX4_readFact_28 rfl (lv_at hl 0 rfl) ?_
      obtain ⟨hPc, hDc, hFc⟩ := PDq.cut (wc := []) hP hD hS hA [] (by decide) rfl
      refine va_calli (va_runS (As := [.int (fk ti)]) (rest := []) ⟨hx, hb, hml, hown, hts⟩ (x_beginsFact l D cA sa (fk ti) s.heap.size) (va_cwS 1 hts gX4_readFact_X7_beginsFact rfl rfl rfl (by decide +kernel) ⟨by show (0) + 1 ≤ 20; omega, by show 8 + (1 + 11) + (0) ≤ 320; omega⟩) ⟨Wd.blind, fun U hU hW => ⟨rfl, Wd.call hPc hDc hK hC hZ hS hFc U hU hW⟩⟩ rfl rfl hl.1 rfl (lv_room (Nat.le_of_ble_eq_true rfl)) dX4_readFact_29 ⟨(Nat.le_of_ble_eq_true rfl), (Nat.le_of_ble_eq_true rfl)⟩) hS (fun q _ h => hFc q h) hFc (fun rn7 u t H1 locs ht hvm hw hB hz1 hk1 hS => ?_)
      obtain ⟨hP1, hD1⟩ := hB
      rw [ht] at hP1
      obtain ⟨hP, hD⟩ := PDq.join (w := [(oX4 r0 r1 p0 (nI ti) (fk ti) (ft ti) (fv ti) inb iek iep), (oX5 r1 k1 k2 k3 (nI ct)), (k1, .inl (cA 0, 701, .inl fk)), (k2, .inl (cA 0, 701, .inl ft)), (k3, .inl (cA 1, 701, .inr (.inl fv))), (oX3 p0 pr pb pe pg p1 (nI nd) p2 p3 p4 p5 (nI cn) p6 (nI pq) p7 p8 p9 (nI sc)), (p2, .inl (cA 1, 10, .inr (.inl fna))), (p6, .inl (cA 1, 8, .inr (.inl fpn))), (p7, .inl (cA 0, 350, .inl fst)), (p8, .inl (cA 0, 350, .inl fop))]) 10 hP hD [] [0, 1, 2, 3, 4, 5, 6, 7, 8, 9] rfl rfl (by decide +kernel) (by decide +kernel) hk1 hFc hP1 hD1 rfl
      generalize H1 = H at hP hS ⊢
      rcases hw with ⟨hr9, hn8⟩ | ⟨hr9, hn8⟩
      · skip
        subst hr9
        refine lv_if_ne (tgt := 41) hx hb dX4_readFact_32 (by decide) (fun c9 => ?_) (fun c9 => absurd c9 (by decide))
        have hn10 := TX.go2 hTX hti (bf8 hn8 c6)
        have hn10a := hn10.2.1
        have hn10b := hn10.2.2
        have hn10c := hn10.1
        refine lv_aload_n hx hb dX4_readFact_41 rfl (lv_at hl 1 rfl) ?_
        refine lv_aload_n hx hb dX4_readFact_42 rfl (lv_at hl 1 rfl) ?_
        refine va_get (D := D) (ci := 8) (v := .int (nI ti)) (C := RX4) (T := TX4) (N := 9) hx hb hts inX4 hown hK hP 0 rfl rfl 2 (by decide) (hts (.fieldLink RX4 70 "EscrowDesk$Reader" "token" "I") (by decide +kernel)) (fun _ h9 => h9) rfl dX4_readFact_43 ?_
        refine lv_iconst (v := 1) hx hb dX4_readFact_46 (by decide) ?_
        refine lv_iadd hx hb dX4_readFact_47 ?_
        refine lv_topi (fun yn11 eyn11 => ?_)
        obtain rfl : yn11 = (nI (ti + 1)) := eyn11.trans (nI_add ti 1)
        obtain ⟨hPc, hDc, hFc⟩ := PDq.cut (wc := [(oX4 r0 r1 p0 (nI ti) (fk ti) (ft ti) (fv ti) inb iek iep), (oX5 r1 k1 k2 k3 (nI ct)), (k1, .inl (cA 0, 701, .inl fk)), (k2, .inl (cA 0, 701, .inl ft)), (k3, .inl (cA 1, 701, .inr (.inl fv)))]) hP hD hS hA [0, 1, 2, 3, 4] (by decide) rfl
        refine va_callv (va_runV (As := [.int (nI (ti + 1))]) (rest := []) ⟨hx, hb, hml, hown, hts⟩ (x_lookAt l D cA sa r0 p0 (ti + 1) (nI ti) (fk ti) (ft ti) inb iek iep (fv ti) r1 k1 k2 k3 ct fk ft fv H.size hct hn10.1) (cwV 1 hts gX4_readFact_X4_lookAt rfl rfl rfl (by decide +kernel) ⟨by show (0) + 1 ≤ 20; omega, by show 8 + (2 + 11) + (0) ≤ 320; omega⟩) ⟨Wd.blind, va_recv hK hPc (ci := 8) (q0 := 0) rfl rfl, fun U hU hW => ⟨rfl, Wd.call hPc hDc hK hC hZ hS hFc U hU hW⟩⟩ rfl rfl hl.1 rfl (lv_room (Nat.le_of_ble_eq_true rfl)) dX4_readFact_48 ⟨(Nat.le_of_ble_eq_true rfl), (Nat.le_of_ble_eq_true rfl)⟩) hS (fun q _ h => hFc q h) hFc (fun u t H1 locs ht hvm hw hB hz1 hk1 hS => ?_)
        obtain ⟨hP1, hD1⟩ := hB
        rw [ht] at hP1
        obtain ⟨hP, hD⟩ := PDq.join (w := [(oX3 p0 pr pb pe pg p1 (nI nd) p2 p3 p4 p5 (nI cn) p6 (nI pq) p7 p8 p9 (nI sc)), (p2, .inl (cA 1, 10, .inr (.inl fna))), (p6, .inl (cA 1, 8, .inr (.inl fpn))), (p7, .inl (cA 0, 350, .inl fst)), (p8, .inl (cA 0, 350, .inl fop)), (oX4 r0 r1 p0 (nI (ti + 1)) (fk (ti + 1)) (ft (ti + 1)) (fv (ti + 1)) inb iek iep), (oX5 r1 k1 k2 k3 (nI ct)), (k1, .inl (cA 0, 701, .inl fk)), (k2, .inl (cA 0, 701, .inl ft)), (k3, .inl (cA 1, 701, .inr (.inl fv)))]) 5 hP hD [0, 1, 2, 3, 4] [5, 6, 7, 8, 9] rfl rfl (by decide) (by decide +kernel) hk1 hFc hP1 hD1 rfl
        generalize H1 = H at hP hS ⊢
        refine lv_iload_n hx hb dX4_readFact_51 rfl (lv_at hl 0 rfl) ?_
        by_cases hn12 : (fk ti) = 5
        · skip
          exact absurd hn12 c6
        · skip
          by_cases hn13 : (fk ti) = 6
          · skip
            exact absurd hn13 (fun z9 => absurd hn8 (by rw [z9]; decide))
          · skip
            by_cases hn14 : (fk ti) = 7
            · skip
              exact absurd hn14 (fun z9 => absurd hn8 (by rw [z9]; decide))
            · skip
              by_cases hn15 : (fk ti) = 8
              · skip
                exact absurd hn15 (fun z9 => absurd hn8 (by rw [z9]; decide))
              · skip
                by_cases hn16 : (fk ti) = 9
                · skip
                  exact absurd hn16 (fun z9 => absurd hn8 (by rw [z9]; decide))
                · skip
                  by_cases hn17 : (fk ti) = 10
                  · skip
                    exact absurd hn17 (fun z9 => absurd hn8 (by rw [z9]; decide))
                  · skip
                    by_cases hn18 : (fk ti) = 11
                    · skip
                      exact absurd hn18 (fun z9 => absurd hn8 (by rw [z9]; decide))
                    · skip
                      by_cases hn19 : (fk ti) = 12
                      · skip
                        exact absurd hn19 (fun z9 => absurd hn8 (by rw [z9]; decide))
                      · skip
                        by_cases hn20 : (fk ti) = 13
                        · skip
                          exact absurd hn20 (fun z9 => absurd hn8 (by rw [z9]; decide))
                        · skip
                          by_cases hn21 : (fk ti) = 14
                          · skip
                            exact absurd hn21 (fun z9 => absurd hn8 (by rw [z9]; decide))
                          · skip
                            by_cases hn22 : (fk ti) = 15
                            · skip
                              exact absurd hn22 (fun z9 => absurd hn8 (by rw [z9]; decide))
                            · skip
                              by_cases hn23 : (fk ti) = 16
                              · skip
                                exact absurd hn23 c1
                              · skip
                                by_cases hn24 : (fk ti) = 17
                                · skip
                                  refine W.eq (g2 := F0 m 52 ls [.int 17]) (by rw [hn24]) ?_
                                  refine lv_tableIn (off := 133) (tgt := 185) hx hb dX4_readFact_52 (by decide) (by decide) (by decide) (by decide) ?_
                                  refine lv_aload_n hx hb dX4_readFact_185 rfl (lv_at hl 1 rfl) ?_
                                  refine lv_iconst (v := 0) hx hb dX4_readFact_186 (by decide) ?_
                                  refine lv_sipush (v := 999) hx hb dX4_readFact_187 (by decide) ?_
                                  obtain ⟨hPc, hDc, hFc⟩ := PDq.cut (wc := [(oX4 r0 r1 p0 (nI (ti + 1)) (fk (ti + 1)) (ft (ti + 1)) (fv (ti + 1)) inb iek iep), (oX5 r1 k1 k2 k3 (nI ct)), (k1, .inl (cA 0, 701, .inl fk)), (k2, .inl (cA 0, 701, .inl ft)), (k3, .inl (cA 1, 701, .inr (.inl fv)))]) hP hD hS hA [5, 6, 7, 8, 9] (by decide) rfl
                                  refine va_calli (va_runV (As := [.int 0, .int 999]) (rest := []) ⟨hx, hb, hml, hown, hts⟩ (x_takeNumber l D cA sa r0 p0 (ti + 1) ln inb iek iep r1 k1 k2 k3 ct fk ft fv fb gP gR 0 999 H.size hct hln hn10.1 hTX (by omega) (by omega)) (cwV 2 hts gX4_readFact_X4_takeNumber rfl rfl rfl (by decide +kernel) ⟨by show (1) + 1 ≤ 20; omega, by show 8 + (3 + 11) + (21) ≤ 320; omega⟩) ⟨Wd.blind, va_recv hK hPc (ci := 8) (q0 := 0) rfl rfl, fun U hU hW => ⟨rfl, Wd.call hPc hDc hK hC hZ hS hFc U hU hW⟩⟩ rfl rfl hl.1 rfl (lv_room (Nat.le_of_ble_eq_true rfl)) dX4_readFact_190 ⟨(Nat.le_of_ble_eq_true rfl), (Nat.le_of_ble_eq_true rfl)⟩) hS (fun q _ h => hFc q h) hFc (fun rn25 u t H1 locs ht hvm hw hB hz1 hk1 hS => ?_)
                                  obtain ⟨qn26, zn27, zn28, zn29, hn30, hn31, hn32, hn33, hn34, hn35, hn36, hn37, hn38, hn39, hn40, hP1, hD1⟩ := hB
                                  rw [ht] at hP1
                                  obtain ⟨hP, hD⟩ := PDq.join (w := [(oX3 p0 pr pb pe pg p1 (nI nd) p2 p3 p4 p5 (nI cn) p6 (nI pq) p7 p8 p9 (nI sc)), (p2, .inl (cA 1, 10, .inr (.inl fna))), (p6, .inl (cA 1, 8, .inr (.inl fpn))), (p7, .inl (cA 0, 350, .inl fst)), (p8, .inl (cA 0, 350, .inl fop)), (oX4 r0 r1 p0 (nI qn26) (fk qn26) (ft qn26) (fv qn26) zn27 zn28 zn29), (oX5 r1 k1 k2 k3 (nI ct)), (k1, .inl (cA 0, 701, .inl fk)), (k2, .inl (cA 0, 701, .inl ft)), (k3, .inl (cA 1, 701, .inr (.inl fv)))]) 5 hP hD [5, 6, 7, 8, 9] [0, 1, 2, 3, 4] rfl rfl (by decide) (by decide +kernel) hk1 hFc hP1 hD1 rfl
                                  generalize H1 = H at hP hS ⊢
                                  rcases hw.2 with hr9 | hr9
                                  · skip
                                    have hn39 := hn39 (hw.1.trans hr9)
                                    have hn40 := hn40 (hw.1.trans hr9)
                                    subst hr9
                                    refine lv_if_eq (tgt := 215) hx hb dX4_readFact_193 (by decide) (fun c41 => ?_) (fun c9 => absurd c9 (by decide))
                                    refine lv_iconst (v := 0) hx hb dX4_readFact_215 (by decide) ?_
                                    obtain ⟨hP9, hD9⟩ := PDq.sub (ws' := [(oX4 r0 r1 p0 (nI qn26) (fk qn26) (ft qn26) (fv qn26) zn27 zn28 zn29), (oX5 r1 k1 k2 k3 (nI ct)), (k1, .inl (cA 0, 701, .inl fk)), (k2, .inl (cA 0, 701, .inl ft)), (k3, .inl (cA 1, 701, .inr (.inl fv))), (oX3 p0 pr pb pe pg p1 (nI nd) p2 p3 p4 p5 (nI cn) p6 (nI pq) p7 p8 p9 (nI sc)), (p2, .inl (cA 1, 10, .inr (.inl fna))), (p6, .inl (cA 1, 8, .inr (.inl fpn))), (p7, .inl (cA 0, 350, .inl fst)), (p8, .inl (cA 0, 350, .inl fop))]) hP hD [5, 6, 7, 8, 9, 0, 1, 2, 3, 4] (by decide +kernel) rfl
                                    refine W.widen (k := 0) (n := 0) (Nat.le_of_ble_eq_true rfl) (Nat.le_of_ble_eq_true rfl) ?_
                                    exact (W.zret (v := 0) hx hb hr (by first | rfl | decide) (fun t ht hW => ⟨⟨0, 0, rfl, ⟨rfl, by decide⟩, qn26, pq, sc, zn27, zn28, zn29, fpn, fst, fop, pl, hn30, hn31, (by omega), hpq, hsc, hNP, (fun h9 => absurd h9 (by decide)), (fun h9 => absurd h9 (by decide)), (fun h9 => absurd h9 (by decide)), (fun h9 => absurd h9 (by decide)), (fun h9 => absurd h9 (by decide)), (fun h9 => absurd h9 (by decide)), (fun _ => (P_dayEx hn24 hn39 hn40)), by rw [ht]; exact hP9, hD9⟩, hS.F ht⟩) hS.2.2 dX4_readFact_216)
                                  · skip
                                    have hn33 := hn33 (hw.1.trans hr9)
                                    subst hn33
                                    obtain ⟨hP, hD⟩ : PDq D A [(oX3 p0 pr pb pe pg p1 (nI nd) p2 p3 p4 p5 (nI cn) p6 (nI pq) p7 p8 p9 (nI sc)), (p2, .inl (cA 1, 10, .inr (.inl fna))), (p6, .inl (cA 1, 8, .inr (.inl fpn))), (p7, .inl (cA 0, 350, .inl fst)), (p8, .inl (cA 0, 350, .inl fop)), (oX4 r0 r1 p0 (nI ((ti + 1) + 1)) (fk ((ti + 1) + 1)) (ft ((ti + 1) + 1)) (fv ((ti + 1) + 1)) zn27 zn28 zn29), (oX5 r1 k1 k2 k3 (nI ct)), (k1, .inl (cA 0, 701, .inl fk)), (k2, .inl (cA 0, 701, .inl ft)), (k3, .inl (cA 1, 701, .inr (.inl fv)))] H := ⟨hP, hD⟩
                                    have hn34 := hn34 (hw.1.trans hr9)
                                    obtain rfl : iek = zn28 := hn34.symm
                                    obtain ⟨hP, hD⟩ : PDq D A [(oX3 p0 pr pb pe pg p1 (nI nd) p2 p3 p4 p5 (nI cn) p6 (nI pq) p7 p8 p9 (nI sc)), (p2, .inl (cA 1, 10, .inr (.inl fna))), (p6, .inl (cA 1, 8, .inr (.inl fpn))), (p7, .inl (cA 0, 350, .inl fst)), (p8, .inl (cA 0, 350, .inl fop)), (oX4 r0 r1 p0 (nI ((ti + 1) + 1)) (fk ((ti + 1) + 1)) (ft ((ti + 1) + 1)) (fv ((ti + 1) + 1)) zn27 iek zn29), (oX5 r1 k1 k2 k3 (nI ct)), (k1, .inl (cA 0, 701, .inl fk)), (k2, .inl (cA 0, 701, .inl ft)), (k3, .inl (cA 1, 701, .inr (.inl fv)))] H := ⟨hP, hD⟩
                                    have hn35 := hn35 (hw.1.trans hr9)
                                    obtain rfl : iep = zn29 := hn35.symm
                                    obtain ⟨hP, hD⟩ : PDq D A [(oX3 p0 pr pb pe pg p1 (nI nd) p2 p3 p4 p5 (nI cn) p6 (nI pq) p7 p8 p9 (nI sc)), (p2, .inl (cA 1, 10, .inr (.inl fna))), (p6, .inl (cA 1, 8, .inr (.inl fpn))), (p7, .inl (cA 0, 350, .inl fst)), (p8, .inl (cA 0, 350, .inl fop)), (oX4 r0 r1 p0 (nI ((ti + 1) + 1)) (fk ((ti + 1) + 1)) (ft ((ti + 1) + 1)) (fv ((ti + 1) + 1)) zn27 iek iep), (oX5 r1 k1 k2 k3 (nI ct)), (k1, .inl (cA 0, 701, .inl fk)), (k2, .inl (cA 0, 701, .inl ft)), (k3, .inl (cA 1, 701, .inr (.inl fv)))] H := ⟨hP, hD⟩
                                    have hn36 := hn36 (hw.1.trans hr9)
                                    have hn37 := hn37 (hw.1.trans hr9)
                                    have hn38 := hn38 (hw.1.trans hr9)
                                    subst hn38
                                    obtain ⟨hP, hD⟩ : PDq D A [(oX3 p0 pr pb pe pg p1 (nI nd) p2 p3 p4 p5 (nI cn) p6 (nI pq) p7 p8 p9 (nI sc)), (p2, .inl (cA 1, 10, .inr (.inl fna))), (p6, .inl (cA 1, 8, .inr (.inl fpn))), (p7, .inl (cA 0, 350, .inl fst)), (p8, .inl (cA 0, 350, .inl fop)), (oX4 r0 r1 p0 (nI ((ti + 1) + 1)) (fk ((ti + 1) + 1)) (ft ((ti + 1) + 1)) (fv ((ti + 1) + 1)) ((fv (ti + 1)).toInt32) iek iep), (oX5 r1 k1 k2 k3 (nI ct)), (k1, .inl (cA 0, 701, .inl fk)), (k2, .inl (cA 0, 701, .inl ft)), (k3, .inl (cA 1, 701, .inr (.inl fv)))] H := ⟨hP, hD⟩
                                    subst hr9
                                    refine lv_if_eq (tgt := 215) hx hb dX4_readFact_193 (by decide) (fun c9 => absurd c9 (by decide)) (fun c42 => ?_)
                                    refine lv_aload_n hx hb dX4_readFact_196 rfl (lv_at hl 1 rfl) ?_
                                    refine va_get (D := D) (ci := 8) (v := .ref p0) (C := RX4) (T := TX4) (N := 9) hx hb hts inX4 hown hK hP 5 rfl rfl 1 (by decide) (hts (.fieldLink RX4 25 "EscrowDesk$Reader" "plan" "LEscrowDesk$Plan;") (by decide +kernel)) (fun _ h9 => h9) rfl dX4_readFact_197 ?_
                                    refine lv_iload_n hx hb dX4_readFact_200 rfl (lv_at hl 0 rfl) ?_
                                    refine lv_aload_n hx hb dX4_readFact_201 rfl (lv_at hl 1 rfl) ?_
                                    refine va_get (D := D) (ci := 8) (v := .int ((fv (ti + 1)).toInt32)) (C := RX4) (T := TX4) (N := 9) hx hb hts inX4 hown hK hP 5 rfl rfl 6 (by decide) (hts (.fieldLink RX4 91 "EscrowDesk$Reader" "number" "I") (by decide +kernel)) (fun _ h9 => h9) rfl dX4_readFact_202 ?_
                                    obtain ⟨hPc, hDc, hFc⟩ := PDq.cut (wc := [(oX3 p0 pr pb pe pg p1 (nI nd) p2 p3 p4 p5 (nI cn) p6 (nI pq) p7 p8 p9 (nI sc)), (p7, .inl (cA 0, 350, .inl fst)), (p8, .inl (cA 0, 350, .inl fop))]) hP hD hS hA [0, 3, 4] (by decide) rfl
                                    refine va_calli (va_runV (As := [.int (fk ti), .int ((fv (ti + 1)).toInt32)]) (rest := []) ⟨hx, hb, hml, hown, hts⟩ (x_addStep l D cA sa p0 p1 p2 p3 p4 p5 p6 p7 p8 p9 cn pq nd sc pr pb pe pg (fk ti) ((fv (ti + 1)).toInt32) fst fop H.size (by omega)) (cwV 2 hts gX4_readFact_X3_addStep rfl rfl rfl (by decide +kernel) ⟨by show (0) + 1 ≤ 20; omega, by show 8 + (3 + 11) + (0) ≤ 320; omega⟩) ⟨Wd.blind, va_recv hK hPc (ci := 7) (q0 := 0) rfl rfl, fun U hU hW => ⟨rfl, Wd.call hPc hDc hK hC hZ hS hFc U hU hW⟩⟩ rfl rfl hl.1 rfl (lv_room (Nat.le_of_ble_eq_true rfl)) dX4_readFact_205 ⟨(Nat.le_of_ble_eq_true rfl), (Nat.le_of_ble_eq_true rfl)⟩) hS (fun q _ h => hFc q h) hFc (fun rn43 u t H1 locs ht hvm hw hB hz1 hk1 hS => ?_)
                                    obtain ⟨fn44, fn45, hn46, hn47, hP1, hD1⟩ := hB
                                    rw [ht] at hP1
                                    obtain ⟨hP, hD⟩ := PDq.join (w := [(p2, .inl (cA 1, 10, .inr (.inl fna))), (p6, .inl (cA 1, 8, .inr (.inl fpn))), (oX4 r0 r1 p0 (nI ((ti + 1) + 1)) (fk ((ti + 1) + 1)) (ft ((ti + 1) + 1)) (fv ((ti + 1) + 1)) ((fv (ti + 1)).toInt32) iek iep), (oX5 r1 k1 k2 k3 (nI ct)), (k1, .inl (cA 0, 701, .inl fk)), (k2, .inl (cA 0, 701, .inl ft)), (k3, .inl (cA 1, 701, .inr (.inl fv))), (oX3 p0 pr pb pe pg p1 (nI nd) p2 p3 p4 p5 (nI cn) p6 (nI pq) p7 p8 p9 (nI (sc + 1))), (p7, .inl (cA 0, 350, .inl fn44)), (p8, .inl (cA 0, 350, .inl fn45))]) 7 hP hD [0, 3, 4] [1, 2, 5, 6, 7, 8, 9] rfl rfl (by decide) (by decide +kernel) hk1 hFc hP1 hD1 rfl
                                    generalize H1 = H at hP hS ⊢
                                    obtain rfl : rn43 = 1 := hw
                                    refine lv_if_eq (tgt := 215) hx hb dX4_readFact_208 (by decide) (fun c9 => absurd c9 (by decide)) (fun c48 => ?_)
                                    refine lv_iconst (v := 1) hx hb dX4_readFact_211 (by decide) ?_
                                    refine lv_goto (tgt := 216) hx hb dX4_readFact_212 (by decide) ?_
                                    obtain ⟨hP9, hD9⟩ := PDq.sub (ws' := [(oX4 r0 r1 p0 (nI ((ti + 1) + 1)) (fk ((ti + 1) + 1)) (ft ((ti + 1) + 1)) (fv ((ti + 1) + 1)) ((fv (ti + 1)).toInt32) iek iep), (oX5 r1 k1 k2 k3 (nI ct)), (k1, .inl (cA 0, 701, .inl fk)), (k2, .inl (cA 0, 701, .inl ft)), (k3, .inl (cA 1, 701, .inr (.inl fv))), (oX3 p0 pr pb pe pg p1 (nI nd) p2 p3 p4 p5 (nI cn) p6 (nI pq) p7 p8 p9 (nI (sc + 1))), (p2, .inl (cA 1, 10, .inr (.inl fna))), (p6, .inl (cA 1, 8, .inr (.inl fpn))), (p7, .inl (cA 0, 350, .inl fn44)), (p8, .inl (cA 0, 350, .inl fn45))]) hP hD [2, 3, 4, 5, 6, 7, 0, 1, 8, 9] (by decide +kernel) rfl
                                    refine W.widen (k := 0) (n := 0) (Nat.le_of_ble_eq_true rfl) (Nat.le_of_ble_eq_true rfl) ?_
                                    exact (W.zret (v := 1) hx hb hr (by first | rfl | decide) (fun t ht hW => ⟨⟨1, 1, rfl, ⟨rfl, by decide⟩, ((ti + 1) + 1), pq, (sc + 1), ((fv (ti + 1)).toInt32), iek, iep, fpn, fn44, fn45, pl, hn30, hn31, (by omega), hpq, (by omega), hNP, (fun _ => rfl), (fun _ => rfl), (fun _ => (by omega)), (fun _ => (by omega)), (fun _ => (P_day hn24 hn37)), (fun _ => (CD9.one (C_two hn24 (Or.inl rfl)) (by have q9 := hn46; rw [hn24] at q9; exact q9) hn47 (E_17 hn37 (by decide) rfl) (Ext9.rf pl) rfl)), (fun h9 => absurd h9 (by decide)), by rw [ht]; exact hP9, hD9⟩, hS.F ht⟩) hS.2.2 dX4_readFact_216)
                                · skip
                                  by_cases hn49 : (fk ti) = 18
                                  · skip
                                    refine W.eq (g2 := F0 m 52 ls [.int 18]) (by rw [hn49]) ?_
                                    refine lv_tableIn (off := 196) (tgt := 248) hx hb dX4_readFact_52 (by decide) (by decide) (by decide) (by decide) ?_
                                    refine lv_aload_n hx hb dX4_readFact_248 rfl (lv_at hl 1 rfl) ?_
                                    obtain ⟨hPc, hDc, hFc⟩ := PDq.cut (wc := [(oX4 r0 r1 p0 (nI (ti + 1)) (fk (ti + 1)) (ft (ti + 1)) (fv (ti + 1)) inb iek iep), (oX5 r1 k1 k2 k3 (nI ct)), (k1, .inl (cA 0, 701, .inl fk)), (k2, .inl (cA 0, 701, .inl ft)), (k3, .inl (cA 1, 701, .inr (.inl fv))), (oX3 p0 pr pb pe pg p1 (nI nd) p2 p3 p4 p5 (nI cn) p6 (nI pq) p7 p8 p9 (nI sc)), (p2, .inl (cA 1, 10, .inr (.inl fna))), (p6, .inl (cA 1, 8, .inr (.inl fpn))), (p7, .inl (cA 0, 350, .inl fst)), (p8, .inl (cA 0, 350, .inl fop))]) hP hD hS hA [5, 6, 7, 8, 9, 0, 1, 2, 3, 4] (by decide +kernel) rfl
                                    refine va_calli (va_runV (As := []) (rest := []) ⟨hx, hb, hml, hown, hts⟩ (x_readProofName l D cA sa r0 p0 (ti + 1) ln inb iek iep r1 k1 k2 k3 ct fk ft fv fb gP gR p1 p2 p3 p4 p5 p6 p7 p8 p9 cn pq nd sc pr pb pe pg fna fpn fst fop ml pl sl H.size hct hln hn10.1 hTX hcn hpq hnd hsc hNM hNP (by omega)) (cwV 0 hts gX4_readFact_X4_readProofName rfl rfl rfl (by decide +kernel) ⟨by show (1) + 1 ≤ 20; omega, by show 8 + (2 + 11) + (23) ≤ 320; omega⟩) ⟨Wd.blind, va_recv hK hPc (ci := 8) (q0 := 0) rfl rfl, fun U hU hW => ⟨rfl, Wd.call hPc hDc hK hC hZ hS hFc U hU hW⟩⟩ rfl rfl hl.1 rfl (lv_room (Nat.le_of_ble_eq_true rfl)) dX4_readFact_249 ⟨(Nat.le_of_ble_eq_true rfl), (Nat.le_of_ble_eq_true rfl)⟩) hS (fun q _ h => hFc q h) hFc (fun rn50 u t H1 locs ht hvm hw hB hz1 hk1 hS => ?_)
                                    obtain ⟨qn51, qn52, qn53, zn54, zn55, zn56, fn57, fn58, fn59, zn60, hn61, hn62, hn63, hn64, hn65, hn66, hn67, hn68, hn69, hn70, hn71, hn72, hn73, hn74, hn75, hn76, hn77, hn78, hP1, hD1⟩ := hB
                                    rw [ht] at hP1
                                    obtain ⟨hP, hD⟩ := PDq.join (w := [(oX4 r0 r1 p0 (nI qn51) (fk qn51) (ft qn51) (fv qn51) zn54 zn55 zn56), (oX5 r1 k1 k2 k3 (nI ct)), (k1, .inl (cA 0, 701, .inl fk)), (k2, .inl (cA 0, 701, .inl ft)), (k3, .inl (cA 1, 701, .inr (.inl fv))), (oX3 p0 pr pb pe pg p1 (nI nd) p2 p3 p4 p5 (nI cn) p6 (nI qn52) p7 p8 p9 (nI qn53)), (p2, .inl (cA 1, 10, .inr (.inl fna))), (p6, .inl (cA 1, 8, .inr (.inl fn57))), (p7, .inl (cA 0, 350, .inl fn58)), (p8, .inl (cA 0, 350, .inl fn59))]) 0 hP hD [5, 6, 7, 8, 9, 0, 1, 2, 3, 4] [] rfl rfl (by decide) (by decide +kernel) hk1 hFc hP1 hD1 rfl
                                    generalize H1 = H at hP hS ⊢
                                    rcases hw.2 with hr9 | hr9
                                    · skip
                                      have hn77 := hn77 (hw.1.trans hr9)
                                      have hn78 := hn78 (hw.1.trans hr9)
                                      subst hr9
                                      obtain ⟨hP9, hD9⟩ := PDq.sub (ws' := [(oX4 r0 r1 p0 (nI qn51) (fk qn51) (ft qn51) (fv qn51) zn54 zn55 zn56), (oX5 r1 k1 k2 k3 (nI ct)), (k1, .inl (cA 0, 701, .inl fk)), (k2, .inl (cA 0, 701, .inl ft)), (k3, .inl (cA 1, 701, .inr (.inl fv))), (oX3 p0 pr pb pe pg p1 (nI nd) p2 p3 p4 p5 (nI cn) p6 (nI qn52) p7 p8 p9 (nI qn53)), (p2, .inl (cA 1, 10, .inr (.inl fna))), (p6, .inl (cA 1, 8, .inr (.inl fn57))), (p7, .inl (cA 0, 350, .inl fn58)), (p8, .inl (cA 0, 350, .inl fn59))]) hP hD [0, 1, 2, 3, 4, 5, 6, 7, 8, 9] (by decide +kernel) rfl
                                      refine W.widen (k := 0) (n := 0) (Nat.le_of_ble_eq_true rfl) (Nat.le_of_ble_eq_true rfl) ?_
                                      exact (W.zret (v := 0) hx hb hr (by first | rfl | decide) (fun t ht hW => ⟨⟨0, 0, rfl, ⟨rfl, by decide⟩, qn51, qn52, qn53, zn54, zn55, zn56, fn57, fn58, fn59, zn60, hn61, hn62, (by omega), hn64, hn65, hn66, (fun h9 => absurd h9 (by decide)), (fun h9 => absurd h9 (by decide)), (fun h9 => absurd h9 (by decide)), (fun h9 => absurd h9 (by decide)), (fun h9 => absurd h9 (by decide)), (fun h9 => absurd h9 (by decide)), (fun _ => (P_pnE hn49 hn77 hn78)), by rw [ht]; exact hP9, hD9⟩, hS.F ht⟩) hS.2.2 dX4_readFact_252)
                                    · skip
                                      have hn67 := hn67 (hw.1.trans hr9)
                                      obtain rfl : iek = zn55 := hn67.symm
                                      obtain ⟨hP, hD⟩ : PDq D A [(oX4 r0 r1 p0 (nI qn51) (fk qn51) (ft qn51) (fv qn51) zn54 iek zn56), (oX5 r1 k1 k2 k3 (nI ct)), (k1, .inl (cA 0, 701, .inl fk)), (k2, .inl (cA 0, 701, .inl ft)), (k3, .inl (cA 1, 701, .inr (.inl fv))), (oX3 p0 pr pb pe pg p1 (nI nd) p2 p3 p4 p5 (nI cn) p6 (nI qn52) p7 p8 p9 (nI qn53)), (p2, .inl (cA 1, 10, .inr (.inl fna))), (p6, .inl (cA 1, 8, .inr (.inl fn57))), (p7, .inl (cA 0, 350, .inl fn58)), (p8, .inl (cA 0, 350, .inl fn59))] H := ⟨hP, hD⟩
                                      have hn68 := hn68 (hw.1.trans hr9)
                                      obtain rfl : iep = zn56 := hn68.symm
                                      obtain ⟨hP, hD⟩ : PDq D A [(oX4 r0 r1 p0 (nI qn51) (fk qn51) (ft qn51) (fv qn51) zn54 iek iep), (oX5 r1 k1 k2 k3 (nI ct)), (k1, .inl (cA 0, 701, .inl fk)), (k2, .inl (cA 0, 701, .inl ft)), (k3, .inl (cA 1, 701, .inr (.inl fv))), (oX3 p0 pr pb pe pg p1 (nI nd) p2 p3 p4 p5 (nI cn) p6 (nI qn52) p7 p8 p9 (nI qn53)), (p2, .inl (cA 1, 10, .inr (.inl fna))), (p6, .inl (cA 1, 8, .inr (.inl fn57))), (p7, .inl (cA 0, 350, .inl fn58)), (p8, .inl (cA 0, 350, .inl fn59))] H := ⟨hP, hD⟩
                                      have hn69 := hn69 (hw.1.trans hr9)
                                      subst hn69
                                      obtain ⟨hP, hD⟩ : PDq D A [(oX4 r0 r1 p0 (nI ((ti + 1) + 1)) (fk ((ti + 1) + 1)) (ft ((ti + 1) + 1)) (fv ((ti + 1) + 1)) zn54 iek iep), (oX5 r1 k1 k2 k3 (nI ct)), (k1, .inl (cA 0, 701, .inl fk)), (k2, .inl (cA 0, 701, .inl ft)), (k3, .inl (cA 1, 701, .inr (.inl fv))), (oX3 p0 pr pb pe pg p1 (nI nd) p2 p3 p4 p5 (nI cn) p6 (nI qn52) p7 p8 p9 (nI qn53)), (p2, .inl (cA 1, 10, .inr (.inl fna))), (p6, .inl (cA 1, 8, .inr (.inl fn57))), (p7, .inl (cA 0, 350, .inl fn58)), (p8, .inl (cA 0, 350, .inl fn59))] H := ⟨hP, hD⟩
                                      have hn70 := hn70 (hw.1.trans hr9)
                                      have hn71 := hn71 (hw.1.trans hr9)
                                      have hn72 := hn72 (hw.1.trans hr9)
                                      subst hn72
                                      obtain ⟨hP, hD⟩ : PDq D A [(oX4 r0 r1 p0 (nI ((ti + 1) + 1)) (fk ((ti + 1) + 1)) (ft ((ti + 1) + 1)) (fv ((ti + 1) + 1)) zn54 iek iep), (oX5 r1 k1 k2 k3 (nI ct)), (k1, .inl (cA 0, 701, .inl fk)), (k2, .inl (cA 0, 701, .inl ft)), (k3, .inl (cA 1, 701, .inr (.inl fv))), (oX3 p0 pr pb pe pg p1 (nI nd) p2 p3 p4 p5 (nI cn) p6 (nI qn52) p7 p8 p9 (nI (sc + 1))), (p2, .inl (cA 1, 10, .inr (.inl fna))), (p6, .inl (cA 1, 8, .inr (.inl fn57))), (p7, .inl (cA 0, 350, .inl fn58)), (p8, .inl (cA 0, 350, .inl fn59))] H := ⟨hP, hD⟩
                                      have hn73 := hn73 (hw.1.trans hr9)
                                      have hn74 := hn74 (hw.1.trans hr9)
                                      have hn75 := hn75 (hw.1.trans hr9)
                                      have hn76 := hn76 (hw.1.trans hr9)
                                      subst hr9
                                      obtain ⟨hP9, hD9⟩ := PDq.sub (ws' := [(oX4 r0 r1 p0 (nI ((ti + 1) + 1)) (fk ((ti + 1) + 1)) (ft ((ti + 1) + 1)) (fv ((ti + 1) + 1)) zn54 iek iep), (oX5 r1 k1 k2 k3 (nI ct)), (k1, .inl (cA 0, 701, .inl fk)), (k2, .inl (cA 0, 701, .inl ft)), (k3, .inl (cA 1, 701, .inr (.inl fv))), (oX3 p0 pr pb pe pg p1 (nI nd) p2 p3 p4 p5 (nI cn) p6 (nI qn52) p7 p8 p9 (nI (sc + 1))), (p2, .inl (cA 1, 10, .inr (.inl fna))), (p6, .inl (cA 1, 8, .inr (.inl fn57))), (p7, .inl (cA 0, 350, .inl fn58)), (p8, .inl (cA 0, 350, .inl fn59))]) hP hD [0, 1, 2, 3, 4, 5, 6, 7, 8, 9] (by decide +kernel) rfl
                                      refine W.widen (k := 0) (n := 0) (Nat.le_of_ble_eq_true rfl) (Nat.le_of_ble_eq_true rfl) ?_
                                      exact (W.zret (v := 1) hx hb hr (by first | rfl | decide) (fun t ht hW => ⟨⟨1, 1, rfl, ⟨rfl, by decide⟩, ((ti + 1) + 1), qn52, (sc + 1), zn54, iek, iep, fn57, fn58, fn59, zn60, hn61, hn62, (by omega), hn64, hn65, hn66, (fun _ => rfl), (fun _ => rfl), (fun _ => hn70), (fun _ => (by omega)), (fun _ => (P_pn hn49 hn71)), (fun _ => (CD9.one (C_two hn49 (Or.inr (Or.inl rfl))) hn75 hn76 (E_18 hn73 (by have q9 := hn66.1; omega) rfl) hn74 rfl)), (fun h9 => absurd h9 (by decide)), by rw [ht]; exact hP9, hD9⟩, hS.F ht⟩) hS.2.2 dX4_readFact_252)
                                  · skip
                                    by_cases hn79 : (fk ti) = 19
                                    · skip
                                      refine W.eq (g2 := F0 m 52 ls [.int 19]) (by rw [hn79]) ?_
                                      refine lv_tableIn (off := 201) (tgt := 253) hx hb dX4_readFact_52 (by decide) (by decide) (by decide) (by decide) ?_
                                      refine lv_aload_n hx hb dX4_readFact_253 rfl (lv_at hl 1 rfl) ?_
                                      obtain ⟨hPc, hDc, hFc⟩ := PDq.cut (wc := [(oX4 r0 r1 p0 (nI (ti + 1)) (fk (ti + 1)) (ft (ti + 1)) (fv (ti + 1)) inb iek iep), (oX5 r1 k1 k2 k3 (nI ct)), (k1, .inl (cA 0, 701, .inl fk)), (k2, .inl (cA 0, 701, .inl ft)), (k3, .inl (cA 1, 701, .inr (.inl fv))), (oX3 p0 pr pb pe pg p1 (nI nd) p2 p3 p4 p5 (nI cn) p6 (nI pq) p7 p8 p9 (nI sc)), (p2, .inl (cA 1, 10, .inr (.inl fna))), (p6, .inl (cA 1, 8, .inr (.inl fpn))), (p7, .inl (cA 0, 350, .inl fst)), (p8, .inl (cA 0, 350, .inl fop))]) hP hD hS hA [5, 6, 7, 8, 9, 0, 1, 2, 3, 4] (by decide +kernel) rfl
                                      refine va_calli (va_runV (As := []) (rest := []) ⟨hx, hb, hml, hown, hts⟩ (x_readDoneName l D cA sa r0 p0 (ti + 1) ln inb iek iep r1 k1 k2 k3 ct fk ft fv fb gP gR p1 p2 p3 p4 p5 p6 p7 p8 p9 cn pq nd sc pr pb pe pg fna fpn fst fop ml pl sl H.size hct hln hn10.1 hTX hcn hpq hnd hsc hNM hNP (by omega)) (cwV 0 hts gX4_readFact_X4_readDoneName rfl rfl rfl (by decide +kernel) ⟨by show (1) + 1 ≤ 20; omega, by show 8 + (2 + 11) + (23) ≤ 320; omega⟩) ⟨Wd.blind, va_recv hK hPc (ci := 8) (q0 := 0) rfl rfl, fun U hU hW => ⟨rfl, Wd.call hPc hDc hK hC hZ hS hFc U hU hW⟩⟩ rfl rfl hl.1 rfl (lv_room (Nat.le_of_ble_eq_true rfl)) dX4_readFact_254 ⟨(Nat.le_of_ble_eq_true rfl), (Nat.le_of_ble_eq_true rfl)⟩) hS (fun q _ h => hFc q h) hFc (fun rn80 u t H1 locs ht hvm hw hB hz1 hk1 hS => ?_)
                                      obtain ⟨qn81, qn82, qn83, zn84, zn85, zn86, fn87, fn88, fn89, zn90, hn91, hn92, hn93, hn94, hn95, hn96, hn97, hn98, hn99, hn100, hn101, hn102, hn103, hn104, hn105, hn106, hn107, hP1, hD1⟩ := hB
                                      rw [ht] at hP1
                                      obtain ⟨hP, hD⟩ := PDq.join (w := [(oX4 r0 r1 p0 (nI qn81) (fk qn81) (ft qn81) (fv qn81) zn84 zn85 zn86), (oX5 r1 k1 k2 k3 (nI ct)), (k1, .inl (cA 0, 701, .inl fk)), (k2, .inl (cA 0, 701, .inl ft)), (k3, .inl (cA 1, 701, .inr (.inl fv))), (oX3 p0 pr pb pe pg p1 (nI nd) p2 p3 p4 p5 (nI cn) p6 (nI qn82) p7 p8 p9 (nI qn83)), (p2, .inl (cA 1, 10, .inr (.inl fna))), (p6, .inl (cA 1, 8, .inr (.inl fn87))), (p7, .inl (cA 0, 350, .inl fn88)), (p8, .inl (cA 0, 350, .inl fn89))]) 0 hP hD [5, 6, 7, 8, 9, 0, 1, 2, 3, 4] [] rfl rfl (by decide) (by decide +kernel) hk1 hFc hP1 hD1 rfl
                                      generalize H1 = H at hP hS ⊢
                                      rcases hw.2 with hr9 | hr9
                                      · skip
                                        have hn106 := hn106 (hw.1.trans hr9)
                                        have hn107 := hn107 (hw.1.trans hr9)
                                        subst hr9
                                        obtain ⟨hP9, hD9⟩ := PDq.sub (ws' := [(oX4 r0 r1 p0 (nI qn81) (fk qn81) (ft qn81) (fv qn81) zn84 zn85 zn86), (oX5 r1 k1 k2 k3 (nI ct)), (k1, .inl (cA 0, 701, .inl fk)), (k2, .inl (cA 0, 701, .inl ft)), (k3, .inl (cA 1, 701, .inr (.inl fv))), (oX3 p0 pr pb pe pg p1 (nI nd) p2 p3 p4 p5 (nI cn) p6 (nI qn82) p7 p8 p9 (nI qn83)), (p2, .inl (cA 1, 10, .inr (.inl fna))), (p6, .inl (cA 1, 8, .inr (.inl fn87))), (p7, .inl (cA 0, 350, .inl fn88)), (p8, .inl (cA 0, 350, .inl fn89))]) hP hD [0, 1, 2, 3, 4, 5, 6, 7, 8, 9] (by decide +kernel) rfl
                                        refine W.widen (k := 0) (n := 0) (Nat.le_of_ble_eq_true rfl) (Nat.le_of_ble_eq_true rfl) ?_
                                        exact (W.zret (v := 0) hx hb hr (by first | rfl | decide) (fun t ht hW => ⟨⟨0, 0, rfl, ⟨rfl, by decide⟩, qn81, qn82, qn83, zn84, zn85, zn86, fn87, fn88, fn89, zn90, hn91, hn92, (by omega), hn94, hn95, hn96, (fun h9 => absurd h9 (by decide)), (fun h9 => absurd h9 (by decide)), (fun h9 => absurd h9 (by decide)), (fun h9 => absurd h9 (by decide)), (fun h9 => absurd h9 (by decide)), (fun h9 => absurd h9 (by decide)), (fun _ => (P_dnE hn79 hn106 hn107)), by rw [ht]; exact hP9, hD9⟩, hS.F ht⟩) hS.2.2 dX4_readFact_257)
                                      · skip
                                        have hn97 := hn97 (hw.1.trans hr9)
                                        obtain rfl : iek = zn85 := hn97.symm
                                        obtain ⟨hP, hD⟩ : PDq D A [(oX4 r0 r1 p0 (nI qn81) (fk qn81) (ft qn81) (fv qn81) zn84 iek zn86), (oX5 r1 k1 k2 k3 (nI ct)), (k1, .inl (cA 0, 701, .inl fk)), (k2, .inl (cA 0, 701, .inl ft)), (k3, .inl (cA 1, 701, .inr (.inl fv))), (oX3 p0 pr pb pe pg p1 (nI nd) p2 p3 p4 p5 (nI cn) p6 (nI qn82) p7 p8 p9 (nI qn83)), (p2, .inl (cA 1, 10, .inr (.inl fna))), (p6, .inl (cA 1, 8, .inr (.inl fn87))), (p7, .inl (cA 0, 350, .inl fn88)), (p8, .inl (cA 0, 350, .inl fn89))] H := ⟨hP, hD⟩
                                        have hn98 := hn98 (hw.1.trans hr9)
                                        obtain rfl : iep = zn86 := hn98.symm
                                        obtain ⟨hP, hD⟩ : PDq D A [(oX4 r0 r1 p0 (nI qn81) (fk qn81) (ft qn81) (fv qn81) zn84 iek iep), (oX5 r1 k1 k2 k3 (nI ct)), (k1, .inl (cA 0, 701, .inl fk)), (k2, .inl (cA 0, 701, .inl ft)), (k3, .inl (cA 1, 701, .inr (.inl fv))), (oX3 p0 pr pb pe pg p1 (nI nd) p2 p3 p4 p5 (nI cn) p6 (nI qn82) p7 p8 p9 (nI qn83)), (p2, .inl (cA 1, 10, .inr (.inl fna))), (p6, .inl (cA 1, 8, .inr (.inl fn87))), (p7, .inl (cA 0, 350, .inl fn88)), (p8, .inl (cA 0, 350, .inl fn89))] H := ⟨hP, hD⟩
                                        have hn99 := hn99 (hw.1.trans hr9)
                                        subst hn99
                                        obtain ⟨hP, hD⟩ : PDq D A [(oX4 r0 r1 p0 (nI ((ti + 1) + 1)) (fk ((ti + 1) + 1)) (ft ((ti + 1) + 1)) (fv ((ti + 1) + 1)) zn84 iek iep), (oX5 r1 k1 k2 k3 (nI ct)), (k1, .inl (cA 0, 701, .inl fk)), (k2, .inl (cA 0, 701, .inl ft)), (k3, .inl (cA 1, 701, .inr (.inl fv))), (oX3 p0 pr pb pe pg p1 (nI nd) p2 p3 p4 p5 (nI cn) p6 (nI qn82) p7 p8 p9 (nI qn83)), (p2, .inl (cA 1, 10, .inr (.inl fna))), (p6, .inl (cA 1, 8, .inr (.inl fn87))), (p7, .inl (cA 0, 350, .inl fn88)), (p8, .inl (cA 0, 350, .inl fn89))] H := ⟨hP, hD⟩
                                        have hn100 := hn100 (hw.1.trans hr9)
                                        have hn101 := hn101 (hw.1.trans hr9)
                                        obtain rfl : pl = zn90 := hn101.symm
                                        obtain ⟨hP, hD⟩ : PDq D A [(oX4 r0 r1 p0 (nI ((ti + 1) + 1)) (fk ((ti + 1) + 1)) (ft ((ti + 1) + 1)) (fv ((ti + 1) + 1)) zn84 iek iep), (oX5 r1 k1 k2 k3 (nI ct)), (k1, .inl (cA 0, 701, .inl fk)), (k2, .inl (cA 0, 701, .inl ft)), (k3, .inl (cA 1, 701, .inr (.inl fv))), (oX3 p0 pr pb pe pg p1 (nI nd) p2 p3 p4 p5 (nI cn) p6 (nI qn82) p7 p8 p9 (nI qn83)), (p2, .inl (cA 1, 10, .inr (.inl fna))), (p6, .inl (cA 1, 8, .inr (.inl fn87))), (p7, .inl (cA 0, 350, .inl fn88)), (p8, .inl (cA 0, 350, .inl fn89))] H := ⟨hP, hD⟩
                                        have hn102 := hn102 (hw.1.trans hr9)
                                        have hn103 := hn103 (hw.1.trans hr9)
                                        subst hn103
                                        obtain ⟨hP, hD⟩ : PDq D A [(oX4 r0 r1 p0 (nI ((ti + 1) + 1)) (fk ((ti + 1) + 1)) (ft ((ti + 1) + 1)) (fv ((ti + 1) + 1)) zn84 iek iep), (oX5 r1 k1 k2 k3 (nI ct)), (k1, .inl (cA 0, 701, .inl fk)), (k2, .inl (cA 0, 701, .inl ft)), (k3, .inl (cA 1, 701, .inr (.inl fv))), (oX3 p0 pr pb pe pg p1 (nI nd) p2 p3 p4 p5 (nI cn) p6 (nI qn82) p7 p8 p9 (nI (sc + 1))), (p2, .inl (cA 1, 10, .inr (.inl fna))), (p6, .inl (cA 1, 8, .inr (.inl fn87))), (p7, .inl (cA 0, 350, .inl fn88)), (p8, .inl (cA 0, 350, .inl fn89))] H := ⟨hP, hD⟩
                                        have hn104 := hn104 (hw.1.trans hr9)
                                        have hn105 := hn105 (hw.1.trans hr9)
                                        subst hr9
                                        obtain ⟨hP9, hD9⟩ := PDq.sub (ws' := [(oX4 r0 r1 p0 (nI ((ti + 1) + 1)) (fk ((ti + 1) + 1)) (ft ((ti + 1) + 1)) (fv ((ti + 1) + 1)) zn84 iek iep), (oX5 r1 k1 k2 k3 (nI ct)), (k1, .inl (cA 0, 701, .inl fk)), (k2, .inl (cA 0, 701, .inl ft)), (k3, .inl (cA 1, 701, .inr (.inl fv))), (oX3 p0 pr pb pe pg p1 (nI nd) p2 p3 p4 p5 (nI cn) p6 (nI qn82) p7 p8 p9 (nI (sc + 1))), (p2, .inl (cA 1, 10, .inr (.inl fna))), (p6, .inl (cA 1, 8, .inr (.inl fn87))), (p7, .inl (cA 0, 350, .inl fn88)), (p8, .inl (cA 0, 350, .inl fn89))]) hP hD [0, 1, 2, 3, 4, 5, 6, 7, 8, 9] (by decide +kernel) rfl
                                        refine W.widen (k := 0) (n := 0) (Nat.le_of_ble_eq_true rfl) (Nat.le_of_ble_eq_true rfl) ?_
                                        exact (W.zret (v := 1) hx hb hr (by first | rfl | decide) (fun t ht hW => ⟨⟨1, 1, rfl, ⟨rfl, by decide⟩, ((ti + 1) + 1), qn82, (sc + 1), zn84, iek, iep, fn87, fn88, fn89, pl, hn91, hn92, (by omega), hn94, hn95, hn96, (fun _ => rfl), (fun _ => rfl), (fun _ => hn100), (fun _ => (by omega)), (fun _ => (P_dn hn79 hn102)), (fun _ => (CD9.one (C_two hn79 (Or.inr (Or.inr (Or.inl rfl)))) hn104 hn105 (E_19 hn102.2 (by have q9 := hNM.1; omega) rfl) (Ext9.rf pl) rfl)), (fun h9 => absurd h9 (by decide)), by rw [ht]; exact hP9, hD9⟩, hS.F ht⟩) hS.2.2 dX4_readFact_257)
                                    · skip
                                      by_cases hn108 : (fk ti) = 20
                                      · skip
                                        refine W.eq (g2 := F0 m 52 ls [.int 20]) (by rw [hn108]) ?_
                                        refine lv_tableIn (off := 165) (tgt := 217) hx hb dX4_readFact_52 (by decide) (by decide) (by decide) (by decide) ?_
                                        refine lv_aload_n hx hb dX4_readFact_217 rfl (lv_at hl 1 rfl) ?_
                                        refine lv_iconst (v := 0) hx hb dX4_readFact_218 (by decide) ?_
                                        refine lv_ldc (v := 99999) hx hb hown (hts (.constant RX4 120 99999) (by decide +kernel)) dX4_readFact_219 ?_
                                        obtain ⟨hPc, hDc, hFc⟩ := PDq.cut (wc := [(oX4 r0 r1 p0 (nI (ti + 1)) (fk (ti + 1)) (ft (ti + 1)) (fv (ti + 1)) inb iek iep), (oX5 r1 k1 k2 k3 (nI ct)), (k1, .inl (cA 0, 701, .inl fk)), (k2, .inl (cA 0, 701, .inl ft)), (k3, .inl (cA 1, 701, .inr (.inl fv)))]) hP hD hS hA [5, 6, 7, 8, 9] (by decide) rfl
                                        refine va_calli (va_runV (As := [.int 0, .int 99999]) (rest := []) ⟨hx, hb, hml, hown, hts⟩ (x_takeNumber l D cA sa r0 p0 (ti + 1) ln inb iek iep r1 k1 k2 k3 ct fk ft fv fb gP gR 0 99999 H.size hct hln hn10.1 hTX (by omega) (by omega)) (cwV 2 hts gX4_readFact_X4_takeNumber rfl rfl rfl (by decide +kernel) ⟨by show (1) + 1 ≤ 20; omega, by show 8 + (3 + 11) + (21) ≤ 320; omega⟩) ⟨Wd.blind, va_recv hK hPc (ci := 8) (q0 := 0) rfl rfl, fun U hU hW => ⟨rfl, Wd.call hPc hDc hK hC hZ hS hFc U hU hW⟩⟩ rfl rfl hl.1 rfl (lv_room (Nat.le_of_ble_eq_true rfl)) dX4_readFact_221 ⟨(Nat.le_of_ble_eq_true rfl), (Nat.le_of_ble_eq_true rfl)⟩) hS (fun q _ h => hFc q h) hFc (fun rn109 u t H1 locs ht hvm hw hB hz1 hk1 hS => ?_)
                                        obtain ⟨qn110, zn111, zn112, zn113, hn114, hn115, hn116, hn117, hn118, hn119, hn120, hn121, hn122, hn123, hn124, hP1, hD1⟩ := hB
                                        rw [ht] at hP1
                                        obtain ⟨hP, hD⟩ := PDq.join (w := [(oX3 p0 pr pb pe pg p1 (nI nd) p2 p3 p4 p5 (nI cn) p6 (nI pq) p7 p8 p9 (nI sc)), (p2, .inl (cA 1, 10, .inr (.inl fna))), (p6, .inl (cA 1, 8, .inr (.inl fpn))), (p7, .inl (cA 0, 350, .inl fst)), (p8, .inl (cA 0, 350, .inl fop)), (oX4 r0 r1 p0 (nI qn110) (fk qn110) (ft qn110) (fv qn110) zn111 zn112 zn113), (oX5 r1 k1 k2 k3 (nI ct)), (k1, .inl (cA 0, 701, .inl fk)), (k2, .inl (cA 0, 701, .inl ft)), (k3, .inl (cA 1, 701, .inr (.inl fv)))]) 5 hP hD [5, 6, 7, 8, 9] [0, 1, 2, 3, 4] rfl rfl (by decide) (by decide +kernel) hk1 hFc hP1 hD1 rfl
                                        generalize H1 = H at hP hS ⊢
                                        rcases hw.2 with hr9 | hr9
                                        · skip
                                          have hn123 := hn123 (hw.1.trans hr9)
                                          have hn124 := hn124 (hw.1.trans hr9)
                                          subst hr9
                                          refine lv_if_eq (tgt := 246) hx hb dX4_readFact_224 (by decide) (fun c125 => ?_) (fun c9 => absurd c9 (by decide))
                                          refine lv_iconst (v := 0) hx hb dX4_readFact_246 (by decide) ?_
                                          obtain ⟨hP9, hD9⟩ := PDq.sub (ws' := [(oX4 r0 r1 p0 (nI qn110) (fk qn110) (ft qn110) (fv qn110) zn111 zn112 zn113), (oX5 r1 k1 k2 k3 (nI ct)), (k1, .inl (cA 0, 701, .inl fk)), (k2, .inl (cA 0, 701, .inl ft)), (k3, .inl (cA 1, 701, .inr (.inl fv))), (oX3 p0 pr pb pe pg p1 (nI nd) p2 p3 p4 p5 (nI cn) p6 (nI pq) p7 p8 p9 (nI sc)), (p2, .inl (cA 1, 10, .inr (.inl fna))), (p6, .inl (cA 1, 8, .inr (.inl fpn))), (p7, .inl (cA 0, 350, .inl fst)), (p8, .inl (cA 0, 350, .inl fop))]) hP hD [5, 6, 7, 8, 9, 0, 1, 2, 3, 4] (by decide +kernel) rfl
                                          refine W.widen (k := 0) (n := 0) (Nat.le_of_ble_eq_true rfl) (Nat.le_of_ble_eq_true rfl) ?_
                                          exact (W.zret (v := 0) hx hb hr (by first | rfl | decide) (fun t ht hW => ⟨⟨0, 0, rfl, ⟨rfl, by decide⟩, qn110, pq, sc, zn111, zn112, zn113, fpn, fst, fop, pl, hn114, hn115, (by omega), hpq, hsc, hNP, (fun h9 => absurd h9 (by decide)), (fun h9 => absurd h9 (by decide)), (fun h9 => absurd h9 (by decide)), (fun h9 => absurd h9 (by decide)), (fun h9 => absurd h9 (by decide)), (fun h9 => absurd h9 (by decide)), (fun _ => (P_sumEx hn108 hn123 hn124)), by rw [ht]; exact hP9, hD9⟩, hS.F ht⟩) hS.2.2 dX4_readFact_247)
                                        · skip
                                          have hn117 := hn117 (hw.1.trans hr9)
                                          subst hn117
                                          obtain ⟨hP, hD⟩ : PDq D A [(oX3 p0 pr pb pe pg p1 (nI nd) p2 p3 p4 p5 (nI cn) p6 (nI pq) p7 p8 p9 (nI sc)), (p2, .inl (cA 1, 10, .inr (.inl fna))), (p6, .inl (cA 1, 8, .inr (.inl fpn))), (p7, .inl (cA 0, 350, .inl fst)), (p8, .inl (cA 0, 350, .inl fop)), (oX4 r0 r1 p0 (nI ((ti + 1) + 1)) (fk ((ti + 1) + 1)) (ft ((ti + 1) + 1)) (fv ((ti + 1) + 1)) zn111 zn112 zn113), (oX5 r1 k1 k2 k3 (nI ct)), (k1, .inl (cA 0, 701, .inl fk)), (k2, .inl (cA 0, 701, .inl ft)), (k3, .inl (cA 1, 701, .inr (.inl fv)))] H := ⟨hP, hD⟩
                                          have hn118 := hn118 (hw.1.trans hr9)
                                          obtain rfl : iek = zn112 := hn118.symm
                                          obtain ⟨hP, hD⟩ : PDq D A [(oX3 p0 pr pb pe pg p1 (nI nd) p2 p3 p4 p5 (nI cn) p6 (nI pq) p7 p8 p9 (nI sc)), (p2, .inl (cA 1, 10, .inr (.inl fna))), (p6, .inl (cA 1, 8, .inr (.inl fpn))), (p7, .inl (cA 0, 350, .inl fst)), (p8, .inl (cA 0, 350, .inl fop)), (oX4 r0 r1 p0 (nI ((ti + 1) + 1)) (fk ((ti + 1) + 1)) (ft ((ti + 1) + 1)) (fv ((ti + 1) + 1)) zn111 iek zn113), (oX5 r1 k1 k2 k3 (nI ct)), (k1, .inl (cA 0, 701, .inl fk)), (k2, .inl (cA 0, 701, .inl ft)), (k3, .inl (cA 1, 701, .inr (.inl fv)))] H := ⟨hP, hD⟩
                                          have hn119 := hn119 (hw.1.trans hr9)
                                          obtain rfl : iep = zn113 := hn119.symm
                                          obtain ⟨hP, hD⟩ : PDq D A [(oX3 p0 pr pb pe pg p1 (nI nd) p2 p3 p4 p5 (nI cn) p6 (nI pq) p7 p8 p9 (nI sc)), (p2, .inl (cA 1, 10, .inr (.inl fna))), (p6, .inl (cA 1, 8, .inr (.inl fpn))), (p7, .inl (cA 0, 350, .inl fst)), (p8, .inl (cA 0, 350, .inl fop)), (oX4 r0 r1 p0 (nI ((ti + 1) + 1)) (fk ((ti + 1) + 1)) (ft ((ti + 1) + 1)) (fv ((ti + 1) + 1)) zn111 iek iep), (oX5 r1 k1 k2 k3 (nI ct)), (k1, .inl (cA 0, 701, .inl fk)), (k2, .inl (cA 0, 701, .inl ft)), (k3, .inl (cA 1, 701, .inr (.inl fv)))] H := ⟨hP, hD⟩
                                          have hn120 := hn120 (hw.1.trans hr9)
                                          have hn121 := hn121 (hw.1.trans hr9)
                                          have hn122 := hn122 (hw.1.trans hr9)
                                          subst hn122
                                          obtain ⟨hP, hD⟩ : PDq D A [(oX3 p0 pr pb pe pg p1 (nI nd) p2 p3 p4 p5 (nI cn) p6 (nI pq) p7 p8 p9 (nI sc)), (p2, .inl (cA 1, 10, .inr (.inl fna))), (p6, .inl (cA 1, 8, .inr (.inl fpn))), (p7, .inl (cA 0, 350, .inl fst)), (p8, .inl (cA 0, 350, .inl fop)), (oX4 r0 r1 p0 (nI ((ti + 1) + 1)) (fk ((ti + 1) + 1)) (ft ((ti + 1) + 1)) (fv ((ti + 1) + 1)) ((fv (ti + 1)).toInt32) iek iep), (oX5 r1 k1 k2 k3 (nI ct)), (k1, .inl (cA 0, 701, .inl fk)), (k2, .inl (cA 0, 701, .inl ft)), (k3, .inl (cA 1, 701, .inr (.inl fv)))] H := ⟨hP, hD⟩
                                          subst hr9
                                          refine lv_if_eq (tgt := 246) hx hb dX4_readFact_224 (by decide) (fun c9 => absurd c9 (by decide)) (fun c126 => ?_)
                                          refine lv_aload_n hx hb dX4_readFact_227 rfl (lv_at hl 1 rfl) ?_
                                          refine va_get (D := D) (ci := 8) (v := .ref p0) (C := RX4) (T := TX4) (N := 9) hx hb hts inX4 hown hK hP 5 rfl rfl 1 (by decide) (hts (.fieldLink RX4 25 "EscrowDesk$Reader" "plan" "LEscrowDesk$Plan;") (by decide +kernel)) (fun _ h9 => h9) rfl dX4_readFact_228 ?_
                                          refine lv_iload_n hx hb dX4_readFact_231 rfl (lv_at hl 0 rfl) ?_
                                          refine lv_aload_n hx hb dX4_readFact_232 rfl (lv_at hl 1 rfl) ?_
                                          refine va_get (D := D) (ci := 8) (v := .int ((fv (ti + 1)).toInt32)) (C := RX4) (T := TX4) (N := 9) hx hb hts inX4 hown hK hP 5 rfl rfl 6 (by decide) (hts (.fieldLink RX4 91 "EscrowDesk$Reader" "number" "I") (by decide +kernel)) (fun _ h9 => h9) rfl dX4_readFact_233 ?_
                                          obtain ⟨hPc, hDc, hFc⟩ := PDq.cut (wc := [(oX3 p0 pr pb pe pg p1 (nI nd) p2 p3 p4 p5 (nI cn) p6 (nI pq) p7 p8 p9 (nI sc)), (p7, .inl (cA 0, 350, .inl fst)), (p8, .inl (cA 0, 350, .inl fop))]) hP hD hS hA [0, 3, 4] (by decide) rfl
                                          refine va_calli (va_runV (As := [.int (fk ti), .int ((fv (ti + 1)).toInt32)]) (rest := []) ⟨hx, hb, hml, hown, hts⟩ (x_addStep l D cA sa p0 p1 p2 p3 p4 p5 p6 p7 p8 p9 cn pq nd sc pr pb pe pg (fk ti) ((fv (ti + 1)).toInt32) fst fop H.size (by omega)) (cwV 2 hts gX4_readFact_X3_addStep rfl rfl rfl (by decide +kernel) ⟨by show (0) + 1 ≤ 20; omega, by show 8 + (3 + 11) + (0) ≤ 320; omega⟩) ⟨Wd.blind, va_recv hK hPc (ci := 7) (q0 := 0) rfl rfl, fun U hU hW => ⟨rfl, Wd.call hPc hDc hK hC hZ hS hFc U hU hW⟩⟩ rfl rfl hl.1 rfl (lv_room (Nat.le_of_ble_eq_true rfl)) dX4_readFact_236 ⟨(Nat.le_of_ble_eq_true rfl), (Nat.le_of_ble_eq_true rfl)⟩) hS (fun q _ h => hFc q h) hFc (fun rn127 u t H1 locs ht hvm hw hB hz1 hk1 hS => ?_)
                                          obtain ⟨fn128, fn129, hn130, hn131, hP1, hD1⟩ := hB
                                          rw [ht] at hP1
                                          obtain ⟨hP, hD⟩ := PDq.join (w := [(p2, .inl (cA 1, 10, .inr (.inl fna))), (p6, .inl (cA 1, 8, .inr (.inl fpn))), (oX4 r0 r1 p0 (nI ((ti + 1) + 1)) (fk ((ti + 1) + 1)) (ft ((ti + 1) + 1)) (fv ((ti + 1) + 1)) ((fv (ti + 1)).toInt32) iek iep), (oX5 r1 k1 k2 k3 (nI ct)), (k1, .inl (cA 0, 701, .inl fk)), (k2, .inl (cA 0, 701, .inl ft)), (k3, .inl (cA 1, 701, .inr (.inl fv))), (oX3 p0 pr pb pe pg p1 (nI nd) p2 p3 p4 p5 (nI cn) p6 (nI pq) p7 p8 p9 (nI (sc + 1))), (p7, .inl (cA 0, 350, .inl fn128)), (p8, .inl (cA 0, 350, .inl fn129))]) 7 hP hD [0, 3, 4] [1, 2, 5, 6, 7, 8, 9] rfl rfl (by decide) (by decide +kernel) hk1 hFc hP1 hD1 rfl
                                          generalize H1 = H at hP hS ⊢
                                          obtain rfl : rn127 = 1 := hw
                                          refine lv_if_eq (tgt := 246) hx hb dX4_readFact_239 (by decide) (fun c9 => absurd c9 (by decide)) (fun c132 => ?_)
                                          refine lv_iconst (v := 1) hx hb dX4_readFact_242 (by decide) ?_
                                          refine lv_goto (tgt := 247) hx hb dX4_readFact_243 (by decide) ?_
                                          obtain ⟨hP9, hD9⟩ := PDq.sub (ws' := [(oX4 r0 r1 p0 (nI ((ti + 1) + 1)) (fk ((ti + 1) + 1)) (ft ((ti + 1) + 1)) (fv ((ti + 1) + 1)) ((fv (ti + 1)).toInt32) iek iep), (oX5 r1 k1 k2 k3 (nI ct)), (k1, .inl (cA 0, 701, .inl fk)), (k2, .inl (cA 0, 701, .inl ft)), (k3, .inl (cA 1, 701, .inr (.inl fv))), (oX3 p0 pr pb pe pg p1 (nI nd) p2 p3 p4 p5 (nI cn) p6 (nI pq) p7 p8 p9 (nI (sc + 1))), (p2, .inl (cA 1, 10, .inr (.inl fna))), (p6, .inl (cA 1, 8, .inr (.inl fpn))), (p7, .inl (cA 0, 350, .inl fn128)), (p8, .inl (cA 0, 350, .inl fn129))]) hP hD [2, 3, 4, 5, 6, 7, 0, 1, 8, 9] (by decide +kernel) rfl
                                          refine W.widen (k := 0) (n := 0) (Nat.le_of_ble_eq_true rfl) (Nat.le_of_ble_eq_true rfl) ?_
                                          exact (W.zret (v := 1) hx hb hr (by first | rfl | decide) (fun t ht hW => ⟨⟨1, 1, rfl, ⟨rfl, by decide⟩, ((ti + 1) + 1), pq, (sc + 1), ((fv (ti + 1)).toInt32), iek, iep, fpn, fn128, fn129, pl, hn114, hn115, (by omega), hpq, (by omega), hNP, (fun _ => rfl), (fun _ => rfl), (fun _ => (by omega)), (fun _ => (by omega)), (fun _ => (P_sum hn108 hn121)), (fun _ => (CD9.one (C_two hn108 (Or.inr (Or.inr (Or.inr rfl)))) (by have q9 := hn130; rw [hn108] at q9; exact q9) hn131 (E_20 hn121 (by decide) rfl) (Ext9.rf pl) rfl)), (fun h9 => absurd h9 (by decide)), by rw [ht]; exact hP9, hD9⟩, hS.F ht⟩) hS.2.2 dX4_readFact_247)
                                      · skip
                                        refine lv_tableOut (tgt := 258) hx hb dX4_readFact_52 (by have q0 : ¬ ((fk ti)).toInt = 5 := fun e9 => hn12 (Int32.toInt_inj.mp (e9.trans (by decide))); have q1 : ¬ ((fk ti)).toInt = 6 := fun e9 => hn13 (Int32.toInt_inj.mp (e9.trans (by decide))); have q2 : ¬ ((fk ti)).toInt = 7 := fun e9 => hn14 (Int32.toInt_inj.mp (e9.trans (by decide))); have q3 : ¬ ((fk ti)).toInt = 8 := fun e9 => hn15 (Int32.toInt_inj.mp (e9.trans (by decide))); have q4 : ¬ ((fk ti)).toInt = 9 := fun e9 => hn16 (Int32.toInt_inj.mp (e9.trans (by decide))); have q5 : ¬ ((fk ti)).toInt = 10 := fun e9 => hn17 (Int32.toInt_inj.mp (e9.trans (by decide))); have q6 : ¬ ((fk ti)).toInt = 11 := fun e9 => hn18 (Int32.toInt_inj.mp (e9.trans (by decide))); have q7 : ¬ ((fk ti)).toInt = 12 := fun e9 => hn19 (Int32.toInt_inj.mp (e9.trans (by decide))); have q8 : ¬ ((fk ti)).toInt = 13 := fun e9 => hn20 (Int32.toInt_inj.mp (e9.trans (by decide))); have q9 : ¬ ((fk ti)).toInt = 14 := fun e9 => hn21 (Int32.toInt_inj.mp (e9.trans (by decide))); have q10 : ¬ ((fk ti)).toInt = 15 := fun e9 => hn22 (Int32.toInt_inj.mp (e9.trans (by decide))); have q11 : ¬ ((fk ti)).toInt = 16 := fun e9 => hn23 (Int32.toInt_inj.mp (e9.trans (by decide))); have q12 : ¬ ((fk ti)).toInt = 17 := fun e9 => hn24 (Int32.toInt_inj.mp (e9.trans (by decide))); have q13 : ¬ ((fk ti)).toInt = 18 := fun e9 => hn49 (Int32.toInt_inj.mp (e9.trans (by decide))); have q14 : ¬ ((fk ti)).toInt = 19 := fun e9 => hn79 (Int32.toInt_inj.mp (e9.trans (by decide))); have q15 : ¬ ((fk ti)).toInt = 20 := fun e9 => hn108 (Int32.toInt_inj.mp (e9.trans (by decide))); omega) (by decide) ?_
                                        have hn133 := k2122 hn8 hn12 hn23 hn24 hn49 hn79 hn108
                                        refine lv_aload_n hx hb dX4_readFact_258 rfl (lv_at hl 1 rfl) ?_
                                        refine va_get (D := D) (ci := 8) (v := .ref p0) (C := RX4) (T := TX4) (N := 9) hx hb hts inX4 hown hK hP 5 rfl rfl 1 (by decide) (hts (.fieldLink RX4 25 "EscrowDesk$Reader" "plan" "LEscrowDesk$Plan;") (by decide +kernel)) (fun _ h9 => h9) rfl dX4_readFact_259 ?_
                                        refine lv_iload_n hx hb dX4_readFact_262 rfl (lv_at hl 0 rfl) ?_
                                        refine lv_iconst (v := 0) hx hb dX4_readFact_263 (by decide) ?_
                                        obtain ⟨hPc, hDc, hFc⟩ := PDq.cut (wc := [(oX3 p0 pr pb pe pg p1 (nI nd) p2 p3 p4 p5 (nI cn) p6 (nI pq) p7 p8 p9 (nI sc)), (p7, .inl (cA 0, 350, .inl fst)), (p8, .inl (cA 0, 350, .inl fop))]) hP hD hS hA [0, 3, 4] (by decide) rfl
                                        refine va_calli (va_runV (As := [.int (fk ti), .int 0]) (rest := []) ⟨hx, hb, hml, hown, hts⟩ (x_addStep l D cA sa p0 p1 p2 p3 p4 p5 p6 p7 p8 p9 cn pq nd sc pr pb pe pg (fk ti) 0 fst fop H.size (by omega)) (cwV 2 hts gX4_readFact_X3_addStep rfl rfl rfl (by decide +kernel) ⟨by show (0) + 1 ≤ 20; omega, by show 8 + (3 + 11) + (0) ≤ 320; omega⟩) ⟨Wd.blind, va_recv hK hPc (ci := 7) (q0 := 0) rfl rfl, fun U hU hW => ⟨rfl, Wd.call hPc hDc hK hC hZ hS hFc U hU hW⟩⟩ rfl rfl hl.1 rfl (lv_room (Nat.le_of_ble_eq_true rfl)) dX4_readFact_264 ⟨(Nat.le_of_ble_eq_true rfl), (Nat.le_of_ble_eq_true rfl)⟩) hS (fun q _ h => hFc q h) hFc (fun rn134 u t H1 locs ht hvm hw hB hz1 hk1 hS => ?_)
                                        obtain ⟨fn135, fn136, hn137, hn138, hP1, hD1⟩ := hB
                                        rw [ht] at hP1
                                        obtain ⟨hP, hD⟩ := PDq.join (w := [(p2, .inl (cA 1, 10, .inr (.inl fna))), (p6, .inl (cA 1, 8, .inr (.inl fpn))), (oX4 r0 r1 p0 (nI (ti + 1)) (fk (ti + 1)) (ft (ti + 1)) (fv (ti + 1)) inb iek iep), (oX5 r1 k1 k2 k3 (nI ct)), (k1, .inl (cA 0, 701, .inl fk)), (k2, .inl (cA 0, 701, .inl ft)), (k3, .inl (cA 1, 701, .inr (.inl fv))), (oX3 p0 pr pb pe pg p1 (nI nd) p2 p3 p4 p5 (nI cn) p6 (nI pq) p7 p8 p9 (nI (sc + 1))), (p7, .inl (cA 0, 350, .inl fn135)), (p8, .inl (cA 0, 350, .inl fn136))]) 7 hP hD [0, 3, 4] [1, 2, 5, 6, 7, 8, 9] rfl rfl (by decide) (by decide +kernel) hk1 hFc hP1 hD1 rfl
                                        generalize H1 = H at hP hS ⊢
                                        obtain rfl : rn134 = 1 := hw
                                        obtain ⟨hP9, hD9⟩ := PDq.sub (ws' := [(oX4 r0 r1 p0 (nI (ti + 1)) (fk (ti + 1)) (ft (ti + 1)) (fv (ti + 1)) inb iek iep), (oX5 r1 k1 k2 k3 (nI ct)), (k1, .inl (cA 0, 701, .inl fk)), (k2, .inl (cA 0, 701, .inl ft)), (k3, .inl (cA 1, 701, .inr (.inl fv))), (oX3 p0 pr pb pe pg p1 (nI nd) p2 p3 p4 p5 (nI cn) p6 (nI pq) p7 p8 p9 (nI (sc + 1))), (p2, .inl (cA 1, 10, .inr (.inl fna))), (p6, .inl (cA 1, 8, .inr (.inl fpn))), (p7, .inl (cA 0, 350, .inl fn135)), (p8, .inl (cA 0, 350, .inl fn136))]) hP hD [2, 3, 4, 5, 6, 7, 0, 1, 8, 9] (by decide +kernel) rfl
                                        refine W.widen (k := 0) (n := 0) (Nat.le_of_ble_eq_true rfl) (Nat.le_of_ble_eq_true rfl) ?_
                                        exact (W.zret (v := 1) hx hb hr (by first | rfl | decide) (fun t ht hW => ⟨⟨1, 1, rfl, ⟨rfl, by decide⟩, (ti + 1), pq, (sc + 1), inb, iek, iep, fpn, fn135, fn136, pl, hn10.1, (by omega), (by omega), hpq, (by omega), hNP, (fun _ => rfl), (fun _ => rfl), (fun _ => (by omega)), (fun _ => (by omega)), (fun _ => (P_plain hn133)), (fun _ => (CD9.one (C_plain hn133) hn137 hn138 (E_pl hn133) (Ext9.rf pl) rfl)), (fun h9 => absurd h9 (by decide)), by rw [ht]; exact hP9, hD9⟩, hS.F ht⟩) hS.2.2 dX4_readFact_267)
      · skip
        subst hr9
        refine lv_if_ne (tgt := 41) hx hb dX4_readFact_32 (by decide) (fun c9 => absurd c9 (by decide)) (fun c139 => ?_)
        refine lv_aload_n hx hb dX4_readFact_35 rfl (lv_at hl 1 rfl) ?_
        refine lv_iconst (v := 2) hx hb dX4_readFact_36 (by decide) ?_
        obtain ⟨hPc, hDc, hFc⟩ := PDq.cut (wc := [(oX4 r0 r1 p0 (nI ti) (fk ti) (ft ti) (fv ti) inb iek iep)]) hP hD hS hA [0] (by decide) rfl
        refine va_calli (va_runV (As := [.int 2]) (rest := []) ⟨hx, hb, hml, hown, hts⟩ (x_fail l D cA sa r0 r1 p0 (nI ti) (fk ti) (ft ti) inb iek iep (fv ti) 2 H.size) (cwV 1 hts gX4_readFact_X4_fail rfl rfl rfl (by decide +kernel) ⟨by show (0) + 1 ≤ 20; omega, by show 8 + (2 + 11) + (0) ≤ 320; omega⟩) ⟨Wd.blind, va_recv hK hPc (ci := 8) (q0 := 0) rfl rfl, fun U hU hW => ⟨rfl, Wd.call hPc hDc hK hC hZ hS hFc U hU hW⟩⟩ rfl rfl hl.1 rfl (lv_room (Nat.le_of_ble_eq_true rfl)) dX4_readFact_37 ⟨(Nat.le_of_ble_eq_true rfl), (Nat.le_of_ble_eq_true rfl)⟩) hS (fun q _ h => hFc q h) hFc (fun rn140 u t H1 locs ht hvm hw hB hz1 hk1 hS => ?_)
        obtain ⟨zn141, hn142, hP1, hD1⟩ := hB
        rw [ht] at hP1
        obtain ⟨hP, hD⟩ := PDq.join (w := [(oX5 r1 k1 k2 k3 (nI ct)), (k1, .inl (cA 0, 701, .inl fk)), (k2, .inl (cA 0, 701, .inl ft)), (k3, .inl (cA 1, 701, .inr (.inl fv))), (oX3 p0 pr pb pe pg p1 (nI nd) p2 p3 p4 p5 (nI cn) p6 (nI pq) p7 p8 p9 (nI sc)), (p2, .inl (cA 1, 10, .inr (.inl fna))), (p6, .inl (cA 1, 8, .inr (.inl fpn))), (p7, .inl (cA 0, 350, .inl fst)), (p8, .inl (cA 0, 350, .inl fop)), (oX4 r0 r1 p0 (nI ti) (fk ti) (ft ti) (fv ti) inb zn141 (ft ti))]) 9 hP hD [0] [1, 2, 3, 4, 5, 6, 7, 8, 9] rfl rfl (by decide +kernel) (by decide +kernel) hk1 hFc hP1 hD1 rfl
        generalize H1 = H at hP hS ⊢
        obtain rfl : rn140 = 0 := hw
        obtain ⟨hP9, hD9⟩ := PDq.sub (ws' := [(oX4 r0 r1 p0 (nI ti) (fk ti) (ft ti) (fv ti) inb zn141 (ft ti)), (oX5 r1 k1 k2 k3 (nI ct)), (k1, .inl (cA 0, 701, .inl fk)), (k2, .inl (cA 0, 701, .inl ft)), (k3, .inl (cA 1, 701, .inr (.inl fv))), (oX3 p0 pr pb pe pg p1 (nI nd) p2 p3 p4 p5 (nI cn) p6 (nI pq) p7 p8 p9 (nI sc)), (p2, .inl (cA 1, 10, .inr (.inl fna))), (p6, .inl (cA 1, 8, .inr (.inl fpn))), (p7, .inl (cA 0, 350, .inl fst)), (p8, .inl (cA 0, 350, .inl fop))]) hP hD [9, 0, 1, 2, 3, 4, 5, 6, 7, 8] (by decide +kernel) rfl
        refine W.widen (k := 0) (n := 0) (Nat.le_of_ble_eq_true rfl) (Nat.le_of_ble_eq_true rfl) ?_
        exact (W.zret (v := 0) hx hb hr (by first | rfl | decide) (fun t ht hW => ⟨⟨0, 0, rfl, ⟨rfl, by decide⟩, ti, pq, sc, inb, zn141, (ft ti), fpn, fst, fop, pl, hti, (by omega), (by omega), hpq, hsc, hNP, (fun h9 => absurd h9 (by decide)), (fun h9 => absurd h9 (by decide)), (fun h9 => absurd h9 (by decide)), (fun h9 => absurd h9 (by decide)), (fun h9 => absurd h9 (by decide)), (fun h9 => absurd h9 (by decide)), (fun _ => (P_nonex (fun z9 => hn8 (Or.inl z9)) (fun z9 => hn8 (Or.inr z9)) hn142 rfl)), by rw [ht]; exact hP9, hD9⟩, hS.F ht⟩) hS.2.2 dX4_readFact_40)
    · skip
      rw [c6] at hl
      have hl : lv_has ls 3 [(2, .int 5), (0, .ref r0), (1, .int (nI o9))] := hl
      refine lv_iload_n hx hb dX4_readFact_16 rfl (lv_at hl 2 rfl) ?_
      refine lv_bipush (v := 8) hx hb dX4_readFact_17 (by decide) ?_
      refine lv_icmp_lt (tgt := 28) hx hb dX4_readFact_19 (by decide) (fun c9 => absurd c9 (nI_nlt (a := o9) (b := 8) (show 8 ≤ o9 by omega) (by omega))) (fun c143 => ?_)
      refine lv_aload_n hx hb dX4_readFact_22 rfl (lv_at hl 1 rfl) ?_
      refine lv_iconst (v := 5) hx hb dX4_readFact_23 (by decide) ?_
      obtain ⟨hPc, hDc, hFc⟩ := PDq.cut (wc := [(oX4 r0 r1 p0 (nI ti) (fk ti) (ft ti) (fv ti) inb iek iep)]) hP hD hS hA [0] (by decide) rfl
      refine va_calli (va_runV (As := [.int 5]) (rest := []) ⟨hx, hb, hml, hown, hts⟩ (x_fail l D cA sa r0 r1 p0 (nI ti) (fk ti) (ft ti) inb iek iep (fv ti) 5 s.heap.size) (cwV 1 hts gX4_readFact_X4_fail rfl rfl rfl (by decide +kernel) ⟨by show (0) + 1 ≤ 20; omega, by show 8 + (2 + 11) + (0) ≤ 320; omega⟩) ⟨Wd.blind, va_recv hK hPc (ci := 8) (q0 := 0) rfl rfl, fun U hU hW => ⟨rfl, Wd.call hPc hDc hK hC hZ hS hFc U hU hW⟩⟩ rfl rfl hl.1 rfl (lv_room (Nat.le_of_ble_eq_true rfl)) dX4_readFact_24 ⟨(Nat.le_of_ble_eq_true rfl), (Nat.le_of_ble_eq_true rfl)⟩) hS (fun q _ h => hFc q h) hFc (fun rn144 u t H1 locs ht hvm hw hB hz1 hk1 hS => ?_)
      obtain ⟨zn145, hn146, hP1, hD1⟩ := hB
      rw [ht] at hP1
      obtain ⟨hP, hD⟩ := PDq.join (w := [(oX5 r1 k1 k2 k3 (nI ct)), (k1, .inl (cA 0, 701, .inl fk)), (k2, .inl (cA 0, 701, .inl ft)), (k3, .inl (cA 1, 701, .inr (.inl fv))), (oX3 p0 pr pb pe pg p1 (nI nd) p2 p3 p4 p5 (nI cn) p6 (nI pq) p7 p8 p9 (nI sc)), (p2, .inl (cA 1, 10, .inr (.inl fna))), (p6, .inl (cA 1, 8, .inr (.inl fpn))), (p7, .inl (cA 0, 350, .inl fst)), (p8, .inl (cA 0, 350, .inl fop)), (oX4 r0 r1 p0 (nI ti) (fk ti) (ft ti) (fv ti) inb zn145 (ft ti))]) 9 hP hD [0] [1, 2, 3, 4, 5, 6, 7, 8, 9] rfl rfl (by decide +kernel) (by decide +kernel) hk1 hFc hP1 hD1 rfl
      generalize H1 = H at hP hS ⊢
      obtain rfl : rn144 = 0 := hw
      obtain ⟨hP9, hD9⟩ := PDq.sub (ws' := [(oX4 r0 r1 p0 (nI ti) (fk ti) (ft ti) (fv ti) inb zn145 (ft ti)), (oX5 r1 k1 k2 k3 (nI ct)), (k1, .inl (cA 0, 701, .inl fk)), (k2, .inl (cA 0, 701, .inl ft)), (k3, .inl (cA 1, 701, .inr (.inl fv))), (oX3 p0 pr pb pe pg p1 (nI nd) p2 p3 p4 p5 (nI cn) p6 (nI pq) p7 p8 p9 (nI sc)), (p2, .inl (cA 1, 10, .inr (.inl fna))), (p6, .inl (cA 1, 8, .inr (.inl fpn))), (p7, .inl (cA 0, 350, .inl fst)), (p8, .inl (cA 0, 350, .inl fop))]) hP hD [9, 0, 1, 2, 3, 4, 5, 6, 7, 8] (by decide +kernel) rfl
      refine W.widen (k := 0) (n := 0) (Nat.le_of_ble_eq_true rfl) (Nat.le_of_ble_eq_true rfl) ?_
      exact (W.zret (v := 0) hx hb hr (by first | rfl | decide) (fun t ht hW => ⟨⟨0, 0, rfl, ⟨rfl, by decide⟩, ti, pq, sc, inb, zn145, (ft ti), fpn, fst, fop, pl, hti, (by omega), (by omega), hpq, hsc, hNP, (fun h9 => absurd h9 (by decide)), (fun h9 => absurd h9 (by decide)), (fun h9 => absurd h9 (by decide)), (fun h9 => absurd h9 (by decide)), (fun h9 => absurd h9 (by decide)), (fun h9 => absurd h9 (by decide)), (fun _ => (P_manyx (Or.inr c6) (by omega) hn146 rfl)), by rw [ht]; exact hP9, hD9⟩, hS.F ht⟩) hS.2.2 dX4_readFact_27)

set_option maxHeartbeats 4000000 in
set_option maxRecDepth 100000 in
/-- readBoth -/
theorem x_readBoth_B (l : Launch) (D : va_G) (cA : Nat → ClassId) (sa : Nat → Nat) (r0 : Nat) (p0 : Nat) (ti : Nat) (ln : Nat) (inb : Int32) (iek : Int32) (iep : Int32) (r1 : Nat) (k1 : Nat) (k2 : Nat) (k3 : Nat) (ct : Nat) (fk : Nat → Int32) (ft : Nat → Int32) (fv : Nat → Int64) (fb : Nat → Int32) (gP : Nat → Nat) (gR : Nat → Nat) (p1 : Nat) (p2 : Nat) (p3 : Nat) (p4 : Nat) (p5 : Nat) (p6 : Nat) (p7 : Nat) (p8 : Nat) (p9 : Nat) (cn : Nat) (pq : Nat) (nd : Nat) (sc : Nat) (pr : Int32) (pb : Int32) (pe : Int32) (pg : Int32) (fna : Nat → Int64) (fpn : Nat → Int64) (fst : Nat → Int32) (fop : Nat → Int32) (ml : List Int64) (pl : List Int64) (sl : Nat) (o9 : Nat) (sz : Nat) (hct : ct ≤ 701) (hln : ln ≤ 700) (hti : ti < ct) (hTX : TX fb ln ct gP gR ft fv fk) (hcn : cn ≤ 10) (hpq : pq ≤ 8) (hnd : nd ≤ 6) (hsc : sc ≤ 350) (hNM : NL ml cn fna) (hNP : NL pl pq fpn) (hsl : 2 * sc + sl ≤ gP ti) (ho : o9 = 8) : Met l yX4_readBoth wsX4_readBoth ({ frames := 21, cells := 0, slots := 0, locals := 344 }) (va_Pc [.ref r0, .int (nI o9)] (Wd D cA sa [(oX4 r0 r1 p0 (nI ti) (fk ti) (ft ti) (fv ti) inb iek iep), (oX5 r1 k1 k2 k3 (nI ct)), (k1, .inl (cA 0, 701, .inl fk)), (k2, .inl (cA 0, 701, .inl ft)), (k3, .inl (cA 1, 701, .inr (.inl fv))), (oX3 p0 pr pb pe pg p1 (nI nd) p2 p3 p4 p5 (nI cn) p6 (nI pq) p7 p8 p9 (nI sc)), (p2, .inl (cA 1, 10, .inr (.inl fna))), (p6, .inl (cA 1, 8, .inr (.inl fpn))), (p7, .inl (cA 0, 350, .inl fst)), (p8, .inl (cA 0, 350, .inl fop))] sz)) (va_Qi (fun (r : Int32) (u9 : Int32) => u9 = r ∧ (r = 0 ∨ r = 1)) (fun (u9 : Int32) t => ∃ tj : Nat, ∃ qm : Nat, ∃ sm : Nat, ∃ znr : Int32, ∃ zek : Int32, ∃ zep : Int32, ∃ zpn : Nat → Int64, ∃ zst : Nat → Int32, ∃ zop : Nat → Int32, ∃ zpl : List Int64, tj < ct ∧ gP tj ≤ ln ∧ ti ≤ tj ∧ qm ≤ 8 ∧ sm ≤ 350 ∧ NL zpl qm zpn ∧ (u9 = 1 → zek = iek) ∧ (u9 = 1 → zep = iep) ∧ (u9 = 1 → 2 * sm + sl ≤ gP tj) ∧ (u9 = 1 → ti + 1 ≤ tj) ∧ (u9 = 1 → PRx fk ft fv ml 1 o9 ti pl (.inr (tj, zpl))) ∧ (u9 = 1 → CD9 fk fv 1 ti tj ml pl zpl sc sm fst fop zst zop) ∧ (u9 = 0 → PRx fk ft fv ml 1 o9 ti pl (.inl (zek, zep))) ∧ Wq D (va_A [(oX4 r0 r1 p0 (nI ti) (fk ti) (ft ti) (fv ti) inb iek iep), (oX5 r1 k1 k2 k3 (nI ct)), (k1, .inl (cA 0, 701, .inl fk)), (k2, .inl (cA 0, 701, .inl ft)), (k3, .inl (cA 1, 701, .inr (.inl fv))), (oX3 p0 pr pb pe pg p1 (nI nd) p2 p3 p4 p5 (nI cn) p6 (nI pq) p7 p8 p9 (nI sc)), (p2, .inl (cA 1, 10, .inr (.inl fna))), (p6, .inl (cA 1, 8, .inr (.inl fpn))), (p7, .inl (cA 0, 350, .inl fst)), (p8, .inl (cA 0, 350, .inl fop))] sz) [(oX4 r0 r1 p0 (nI tj) (fk tj) (ft tj) (fv tj) znr zek zep), (oX5 r1 k1 k2 k3 (nI ct)), (k1, .inl (cA 0, 701, .inl fk)), (k2, .inl (cA 0, 701, .inl ft)), (k3, .inl (cA 1, 701, .inr (.inl fv))), (oX3 p0 pr pb pe pg p1 (nI nd) p2 p3 p4 p5 (nI cn) p6 (nI qm) p7 p8 p9 (nI sm)), (p2, .inl (cA 1, 10, .inr (.inl fna))), (p6, .inl (cA 1, 8, .inr (.inl zpn))), (p7, .inl (cA 0, 350, .inl zst)), (p8, .inl (cA 0, 350, .inl zop))] t) (va_A [(oX4 r0 r1 p0 (nI ti) (fk ti) (ft ti) (fv ti) inb iek iep), (oX5 r1 k1 k2 k3 (nI ct)), (k1, .inl (cA 0, 701, .inl fk)), (k2, .inl (cA 0, 701, .inl ft)), (k3, .inl (cA 1, 701, .inr (.inl fv))), (oX3 p0 pr pb pe pg p1 (nI nd) p2 p3 p4 p5 (nI cn) p6 (nI pq) p7 p8 p9 (nI sc)), (p2, .inl (cA 1, 10, .inr (.inl fna))), (p6, .inl (cA 1, 8, .inr (.inl fpn))), (p7, .inl (cA 0, 350, .inl fst)), (p8, .inl (cA 0, 350, .inl fop))] sz)) 0 0 (va_A [(oX4 r0 r1 p0 (nI ti) (fk ti) (ft ti) (fv ti) inb iek iep), (oX5 r1 k1 k2 k3 (nI ct)), (k1, .inl (cA 0, 701, .inl fk)), (k2, .inl (cA 0, 701, .inl ft)), (k3, .inl (cA 1, 701, .inr (.inl fv))), (oX3 p0 pr pb pe pg p1 (nI nd) p2 p3 p4 p5 (nI cn) p6 (nI pq) p7 p8 p9 (nI sc)), (p2, .inl (cA 1, 10, .inr (.inl fna))), (p6, .inl (cA 1, 8, .inr (.inl fpn))), (p7, .inl (cA 0, 350, .inl fst)), (p8, .inl (cA 0, 350, .inl fop))] sz) := by
  refine Met.ofW (cc := cX4_readBoth) (maxL := 4) (ret := (some .boolean)) (by decide) rfl ?_
  intro p e s m args below meth c s₁ B hml hv
  obtain ⟨rfl, hsz, hP, hK, hD0, hC, hZ⟩ := hv
  have hx := B.exec
  have hb := B.bytes
  have hr := B.returns
  have hts := atoms_spec (ws := wsX4_readBoth) B.pre
  have hown : s.vm.findClass RX4 = some m.cls := findClass_of_methodNamed B.named
  have hlocks := B.notSynchronized
  subst hsz
  have hD := hD0.self (sz := s.heap.size)
  generalize hAe : va_A [(oX4 r0 r1 p0 (nI ti) (fk ti) (ft ti) (fv ti) inb iek iep), (oX5 r1 k1 k2 k3 (nI ct)), (k1, .inl (cA 0, 701, .inl fk)), (k2, .inl (cA 0, 701, .inl ft)), (k3, .inl (cA 1, 701, .inr (.inl fv))), (oX3 p0 pr pb pe pg p1 (nI nd) p2 p3 p4 p5 (nI cn) p6 (nI pq) p7 p8 p9 (nI sc)), (p2, .inl (cA 1, 10, .inr (.inl fna))), (p6, .inl (cA 1, 8, .inr (.inl fpn))), (p7, .inl (cA 0, 350, .inl fst)), (p8, .inl (cA 0, 350, .inl fop))] s.heap.size = A at hD hZ ⊢
  have hA : ∀ q : Nat, s.heap.size ≤ q → A q := fun q h => by rw [← hAe]; exact Or.inr h
  have hS : va_S A s.heap s.heap [] := va_S.rf
  have hP : va_P D vwCl [(oX4 r0 r1 p0 (nI ti) (fk ti) (ft ti) (fv ti) inb iek iep), (oX5 r1 k1 k2 k3 (nI ct)), (k1, .inl (cA 0, 701, .inl fk)), (k2, .inl (cA 0, 701, .inl ft)), (k3, .inl (cA 1, 701, .inr (.inl fv))), (oX3 p0 pr pb pe pg p1 (nI nd) p2 p3 p4 p5 (nI cn) p6 (nI pq) p7 p8 p9 (nI sc)), (p2, .inl (cA 1, 10, .inr (.inl fna))), (p6, .inl (cA 1, 8, .inr (.inl fpn))), (p7, .inl (cA 0, 350, .inl fst)), (p8, .inl (cA 0, 350, .inl fop))] s.heap := hP
  have hl := lv_entry ([.ref r0, .int (nI o9)]) (n := 4) (Nat.le_of_ble_eq_true rfl)
  rw [lg_entry_eq]
  generalize (lg_sl ([.ref r0, .int (nI o9)]) ++ List.replicate (4 - (lg_sl ([.ref r0, .int (nI o9)])).length) Slot.unset).toArray = ls at hl ⊢
  have hl : lv_has ls 4 [(0, .ref r0), (1, .int (nI o9))] := hl
  have inX4 : ∀ w ∈ u_ws RX4 TX4 9, w ∈ wsX4_readBoth := by decide +kernel
  have hle9 := TX.le hTX hti
  refine lv_aload_n hx hb dX4_readBoth_0 rfl (lv_at hl 0 rfl) ?_
  refine lv_iload_n hx hb dX4_readBoth_1 rfl (lv_at hl 1 rfl) ?_
  obtain ⟨hPc, hDc, hFc⟩ := PDq.cut (wc := [(oX4 r0 r1 p0 (nI ti) (fk ti) (ft ti) (fv ti) inb iek iep), (oX5 r1 k1 k2 k3 (nI ct)), (k1, .inl (cA 0, 701, .inl fk)), (k2, .inl (cA 0, 701, .inl ft)), (k3, .inl (cA 1, 701, .inr (.inl fv))), (oX3 p0 pr pb pe pg p1 (nI nd) p2 p3 p4 p5 (nI cn) p6 (nI pq) p7 p8 p9 (nI sc)), (p2, .inl (cA 1, 10, .inr (.inl fna))), (p6, .inl (cA 1, 8, .inr (.inl fpn))), (p7, .inl (cA 0, 350, .inl fst)), (p8, .inl (cA 0, 350, .inl fop))]) hP hD hS hA [0, 1, 2, 3, 4, 5, 6, 7, 8, 9] (by decide +kernel) rfl
  refine va_calli (va_runV (As := [.int (nI o9)]) (rest := []) ⟨hx, hb, hml, hown, hts⟩ (x_readFact_B l D cA sa r0 p0 ti ln inb iek iep r1 k1 k2 k3 ct fk ft fv fb gP gR p1 p2 p3 p4 p5 p6 p7 p8 p9 cn pq nd sc pr pb pe pg fna fpn fst fop ml pl sl o9 s.heap.size hct hln hti hTX hcn hpq hnd hsc hNM hNP hsl ho) (cwV 1 hts gX4_readBoth_X4_readFact rfl rfl rfl (by decide +kernel) ⟨by show (20) + 1 ≤ 21; omega, by show 8 + (3 + 11) + (320) ≤ 344; omega⟩) ⟨Wd.blind, va_recv hK hPc (ci := 8) (q0 := 0) rfl rfl, fun U hU hW => ⟨rfl, Wd.call hPc hDc hK hC hZ hS hFc U hU hW⟩⟩ rfl rfl hl.1 rfl (lv_room (Nat.le_of_ble_eq_true rfl)) dX4_readBoth_2 ⟨(Nat.le_of_ble_eq_true rfl), (Nat.le_of_ble_eq_true rfl)⟩) hS (fun q _ h => hFc q h) hFc (fun rn1 u t H1 locs ht hvm hw hB hz1 hk1 hS => ?_)
  obtain ⟨qn2, qn3, qn4, zn5, zn6, zn7, fn8, fn9, fn10, zn11, hn12, hn13, hn14, hn15, hn16, hn17, hn18, hn19, hn20, hn21, hn22, hn23, hn24, hP1, hD1⟩ := hB
  rw [ht] at hP1
  obtain ⟨hP, hD⟩ := PDq.join (w := [(oX4 r0 r1 p0 (nI qn2) (fk qn2) (ft qn2) (fv qn2) zn5 zn6 zn7), (oX5 r1 k1 k2 k3 (nI ct)), (k1, .inl (cA 0, 701, .inl fk)), (k2, .inl (cA 0, 701, .inl ft)), (k3, .inl (cA 1, 701, .inr (.inl fv))), (oX3 p0 pr pb pe pg p1 (nI nd) p2 p3 p4 p5 (nI cn) p6 (nI qn3) p7 p8 p9 (nI qn4)), (p2, .inl (cA 1, 10, .inr (.inl fna))), (p6, .inl (cA 1, 8, .inr (.inl fn8))), (p7, .inl (cA 0, 350, .inl fn9)), (p8, .inl (cA 0, 350, .inl fn10))]) 0 hP hD [0, 1, 2, 3, 4, 5, 6, 7, 8, 9] [] rfl rfl (by decide) (by decide +kernel) hk1 hFc hP1 hD1 rfl
  generalize H1 = H at hP hS ⊢
  rcases hw.2 with hr9 | hr9
  · skip
    have hn24 := hn24 (hw.1.trans hr9)
    subst hr9
    refine lv_istore_n (lv' := [(2, .int 0), (0, .ref r0), (1, .int (nI o9))]) hx hb dX4_readBoth_5 rfl hl (by decide) rfl (fun ls hl => ?_)
    refine lv_iconst (v := 0) hx hb dX4_readBoth_6 (by decide) ?_
    refine lv_istore_n (lv' := [(3, .int 0), (2, .int 0), (0, .ref r0), (1, .int (nI o9))]) hx hb dX4_readBoth_7 rfl hl (by decide) rfl (fun ls hl => ?_)
    refine lv_iload_n hx hb dX4_readBoth_8 rfl (lv_at hl 1 rfl) ?_
    refine lv_if_eq (tgt := 71) hx hb dX4_readBoth_9 (by decide) (fun c25 => ?_) (fun c9 => absurd c9 (by decide))
    refine lv_iload_n hx hb dX4_readBoth_71 rfl (lv_at hl 1 rfl) ?_
    obtain ⟨hP9, hD9⟩ := PDq.sub (ws' := [(oX4 r0 r1 p0 (nI qn2) (fk qn2) (ft qn2) (fv qn2) zn5 zn6 zn7), (oX5 r1 k1 k2 k3 (nI ct)), (k1, .inl (cA 0, 701, .inl fk)), (k2, .inl (cA 0, 701, .inl ft)), (k3, .inl (cA 1, 701, .inr (.inl fv))), (oX3 p0 pr pb pe pg p1 (nI nd) p2 p3 p4 p5 (nI cn) p6 (nI qn3) p7 p8 p9 (nI qn4)), (p2, .inl (cA 1, 10, .inr (.inl fna))), (p6, .inl (cA 1, 8, .inr (.inl fn8))), (p7, .inl (cA 0, 350, .inl fn9)), (p8, .inl (cA 0, 350, .inl fn10))]) hP hD [0, 1, 2, 3, 4, 5, 6, 7, 8, 9] (by decide +kernel) rfl
    refine W.widen (k := 0) (n := 0) (Nat.le_of_ble_eq_true rfl) (Nat.le_of_ble_eq_true rfl) ?_
    exact (W.zret (v := 0) hx hb hr (by first | rfl | decide) (fun t ht hW => ⟨⟨0, 0, rfl, ⟨rfl, by decide⟩, qn2, qn3, qn4, zn5, zn6, zn7, fn8, fn9, fn10, zn11, hn12, hn13, hn14, hn15, hn16, hn17, (fun h9 => absurd h9 (by decide)), (fun h9 => absurd h9 (by decide)), (fun h9 => absurd h9 (by decide)), (fun h9 => absurd h9 (by decide)), (fun h9 => absurd h9 (by decide)), (fun h9 => absurd h9 (by decide)), (fun _ => (P_bothE hn24)), by rw [ht]; exact hP9, hD9⟩, hS.F ht⟩) hS.2.2 dX4_readBoth_72)
  · skip
    have hn18 := hn18 (hw.1.trans hr9)
    obtain rfl : iek = zn6 := hn18.symm
    obtain ⟨hP, hD⟩ : PDq D A [(oX4 r0 r1 p0 (nI qn2) (fk qn2) (ft qn2) (fv qn2) zn5 iek zn7), (oX5 r1 k1 k2 k3 (nI ct)), (k1, .inl (cA 0, 701, .inl fk)), (k2, .inl (cA 0, 701, .inl ft)), (k3, .inl (cA 1, 701, .inr (.inl fv))), (oX3 p0 pr pb pe pg p1 (nI nd) p2 p3 p4 p5 (nI cn) p6 (nI qn3) p7 p8 p9 (nI qn4)), (p2, .inl (cA 1, 10, .inr (.inl fna))), (p6, .inl (cA 1, 8, .inr (.inl fn8))), (p7, .inl (cA 0, 350, .inl fn9)), (p8, .inl (cA 0, 350, .inl fn10))] H := ⟨hP, hD⟩
    have hn19 := hn19 (hw.1.trans hr9)
    obtain rfl : iep = zn7 := hn19.symm
    obtain ⟨hP, hD⟩ : PDq D A [(oX4 r0 r1 p0 (nI qn2) (fk qn2) (ft qn2) (fv qn2) zn5 iek iep), (oX5 r1 k1 k2 k3 (nI ct)), (k1, .inl (cA 0, 701, .inl fk)), (k2, .inl (cA 0, 701, .inl ft)), (k3, .inl (cA 1, 701, .inr (.inl fv))), (oX3 p0 pr pb pe pg p1 (nI nd) p2 p3 p4 p5 (nI cn) p6 (nI qn3) p7 p8 p9 (nI qn4)), (p2, .inl (cA 1, 10, .inr (.inl fna))), (p6, .inl (cA 1, 8, .inr (.inl fn8))), (p7, .inl (cA 0, 350, .inl fn9)), (p8, .inl (cA 0, 350, .inl fn10))] H := ⟨hP, hD⟩
    have hn20 := hn20 (hw.1.trans hr9)
    have hn21 := hn21 (hw.1.trans hr9)
    have hn22 := hn22 (hw.1.trans hr9)
    have hn23 := hn23 (hw.1.trans hr9)
    subst hr9
    refine lv_istore_n (lv' := [(2, .int 1), (0, .ref r0), (1, .int (nI o9))]) hx hb dX4_readBoth_5 rfl hl (by decide) rfl (fun ls hl => ?_)
    refine lv_iconst (v := 0) hx hb dX4_readBoth_6 (by decide) ?_
    refine lv_istore_n (lv' := [(3, .int 0), (2, .int 1), (0, .ref r0), (1, .int (nI o9))]) hx hb dX4_readBoth_7 rfl hl (by decide) rfl (fun ls hl => ?_)
    have loop1 : ∀ (n1 i1 : Nat) (pli : List Int64) (tii : Nat) (u0_6_1 : Int32) (qmi : Nat) (smi : Nat) (f7_1 : Nat → Int64) (f8_1 : Nat → Int32) (f9_1 : Nat → Int32) (H : Heap) (locs : List Loc) (ls : Array Slot), i1 + n1 = 700 → ti + 1 + i1 ≤ tii → tii < ct → qmi ≤ 8 → smi ≤ 350 → 2 * smi + sl ≤ gP tii → gP tii ≤ ln → NL pli qmi f7_1 → Cn fk ft fv ml 1 o9 ti pl 2 tii pli → CDL fk fv 1 ti 2 tii ml pl pli sc smi fst fop f8_1 f9_1 → va_P D vwCl [(oX4 r0 r1 p0 (nI tii) (fk tii) (ft tii) (fv tii) u0_6_1 iek iep), (oX5 r1 k1 k2 k3 (nI ct)), (k1, .inl (cA 0, 701, .inl fk)), (k2, .inl (cA 0, 701, .inl ft)), (k3, .inl (cA 1, 701, .inr (.inl fv))), (oX3 p0 pr pb pe pg p1 (nI nd) p2 p3 p4 p5 (nI cn) p6 (nI qmi) p7 p8 p9 (nI smi)), (p2, .inl (cA 1, 10, .inr (.inl fna))), (p6, .inl (cA 1, 8, .inr (.inl f7_1))), (p7, .inl (cA 0, 350, .inl f8_1)), (p8, .inl (cA 0, 350, .inl f9_1))] H → va_D A [(oX4 r0 r1 p0 (nI tii) (fk tii) (ft tii) (fv tii) u0_6_1 iek iep), (oX5 r1 k1 k2 k3 (nI ct)), (k1, .inl (cA 0, 701, .inl fk)), (k2, .inl (cA 0, 701, .inl ft)), (k3, .inl (cA 1, 701, .inr (.inl fv))), (oX3 p0 pr pb pe pg p1 (nI nd) p2 p3 p4 p5 (nI cn) p6 (nI qmi) p7 p8 p9 (nI smi)), (p2, .inl (cA 1, 10, .inr (.inl fna))), (p6, .inl (cA 1, 8, .inr (.inl f7_1))), (p7, .inl (cA 0, 350, .inl f8_1)), (p8, .inl (cA 0, 350, .inl f9_1))] → va_S A s.heap H locs → lv_has ls 4 [(3, .int (nI i1)), (2, .int 1), (0, .ref r0), (1, .int (nI o9))] → W p l e (headSpec wsX4_readBoth ({ frames := 21, cells := 0, slots := 0, locals := 344 } : Room)).room s m ([.ref r0, .int (nI o9)] : List Value).toArray below meth c H locs 0 0 (MQ below (va_Qi (fun (r : Int32) (u9 : Int32) => u9 = r ∧ (r = 0 ∨ r = 1)) (fun (u9 : Int32) t => ∃ tj : Nat, ∃ qm : Nat, ∃ sm : Nat, ∃ znr : Int32, ∃ zek : Int32, ∃ zep : Int32, ∃ zpn : Nat → Int64, ∃ zst : Nat → Int32, ∃ zop : Nat → Int32, ∃ zpl : List Int64, tj < ct ∧ gP tj ≤ ln ∧ ti ≤ tj ∧ qm ≤ 8 ∧ sm ≤ 350 ∧ NL zpl qm zpn ∧ (u9 = 1 → zek = iek) ∧ (u9 = 1 → zep = iep) ∧ (u9 = 1 → 2 * sm + sl ≤ gP tj) ∧ (u9 = 1 → ti + 1 ≤ tj) ∧ (u9 = 1 → PRx fk ft fv ml 1 o9 ti pl (.inr (tj, zpl))) ∧ (u9 = 1 → CD9 fk fv 1 ti tj ml pl zpl sc sm fst fop zst zop) ∧ (u9 = 0 → PRx fk ft fv ml 1 o9 ti pl (.inl (zek, zep))) ∧ Wq D A [(oX4 r0 r1 p0 (nI tj) (fk tj) (ft tj) (fv tj) znr zek zep), (oX5 r1 k1 k2 k3 (nI ct)), (k1, .inl (cA 0, 701, .inl fk)), (k2, .inl (cA 0, 701, .inl ft)), (k3, .inl (cA 1, 701, .inr (.inl fv))), (oX3 p0 pr pb pe pg p1 (nI nd) p2 p3 p4 p5 (nI cn) p6 (nI qm) p7 p8 p9 (nI sm)), (p2, .inl (cA 1, 10, .inr (.inl fna))), (p6, .inl (cA 1, 8, .inr (.inl zpn))), (p7, .inl (cA 0, 350, .inl zst)), (p8, .inl (cA 0, 350, .inl zop))] t) A) ([.ref r0, .int (nI o9)] : List Value).toArray s 0 0 A) (F0 m 8 ls []) := by
      intro n1
      induction n1 with
      | zero =>
        intro i1 pli tii u0_6_1 qmi smi f7_1 f8_1 f9_1 H locs ls hi1 hv0_1 hv1_1 hv2_1 hv3_1 hv4_1 hv5_1 hv6_1 hv7_1 hv8_1 hP hD hS hl
        obtain rfl : 700 = i1 := by omega
        exact absurd hv0_1 (by omega)
      | succ n1 ih1 =>
        intro i1 pli tii u0_6_1 qmi smi f7_1 f8_1 f9_1 H locs ls hi1 hv0_1 hv1_1 hv2_1 hv3_1 hv4_1 hv5_1 hv6_1 hv7_1 hv8_1 hP hD hS hl
        refine lv_iload_n hx hb dX4_readBoth_8 rfl (lv_at hl 1 rfl) ?_
        refine lv_if_eq (tgt := 71) hx hb dX4_readBoth_9 (by decide) (fun c9 => absurd c9 (by decide)) (fun c26 => ?_)
        refine lv_iload_n hx hb dX4_readBoth_12 rfl (lv_at hl 0 rfl) ?_
        refine lv_sipush (v := 700) hx hb dX4_readBoth_13 (by decide) ?_
        refine lv_icmp_ge (tgt := 71) hx hb dX4_readBoth_16 (by decide) (fun c9 => absurd c9 (nI_ge (a := i1) (b := 700) (show i1 < 700 by omega) (by omega))) (fun c27 => ?_)
        refine lv_aload_n hx hb dX4_readBoth_19 rfl (lv_at hl 2 rfl) ?_
        refine va_get (D := D) (ci := 8) (v := .int (fk tii)) (C := RX4) (T := TX4) (N := 9) hx hb hts inX4 hown hK hP 0 rfl rfl 3 (by decide) (hts (.fieldLink RX4 42 "EscrowDesk$Reader" "kind" "I") (by decide +kernel)) (fun _ h9 => h9) rfl dX4_readBoth_20 ?_
        refine lv_bipush (v := 15) hx hb dX4_readBoth_23 (by decide) ?_
        refine lv_icmp_ne (tgt := 71) hx hb dX4_readBoth_25 (by decide) (fun c28 => ?_) (fun c28 => ?_)
        · skip
          refine lv_iload_n hx hb dX4_readBoth_71 rfl (lv_at hl 1 rfl) ?_
          obtain ⟨hP9, hD9⟩ := PDq.sub (ws' := [(oX4 r0 r1 p0 (nI tii) (fk tii) (ft tii) (fv tii) u0_6_1 iek iep), (oX5 r1 k1 k2 k3 (nI ct)), (k1, .inl (cA 0, 701, .inl fk)), (k2, .inl (cA 0, 701, .inl ft)), (k3, .inl (cA 1, 701, .inr (.inl fv))), (oX3 p0 pr pb pe pg p1 (nI nd) p2 p3 p4 p5 (nI cn) p6 (nI qmi) p7 p8 p9 (nI smi)), (p2, .inl (cA 1, 10, .inr (.inl fna))), (p6, .inl (cA 1, 8, .inr (.inl f7_1))), (p7, .inl (cA 0, 350, .inl f8_1)), (p8, .inl (cA 0, 350, .inl f9_1))]) hP hD [0, 1, 2, 3, 4, 5, 6, 7, 8, 9] (by decide +kernel) rfl
          refine W.widen (k := 0) (n := 0) (Nat.le_of_ble_eq_true rfl) (Nat.le_of_ble_eq_true rfl) ?_
          exact (W.zret (v := 1) hx hb hr (by first | rfl | decide) (fun t ht hW => ⟨⟨1, 1, rfl, ⟨rfl, by decide⟩, tii, qmi, smi, u0_6_1, iek, iep, f7_1, f8_1, f9_1, pli, hv1_1, hv5_1, (by omega), hv2_1, hv3_1, hv6_1, (fun _ => rfl), (fun _ => rfl), (fun _ => hv4_1), (fun _ => (by omega)), (fun _ => (hv7_1 _ (P_end2 c28))), (fun _ => (CDL.end2 hv8_1 c28)), (fun h9 => absurd h9 (by decide)), by rw [ht]; exact hP9, hD9⟩, hS.F ht⟩) hS.2.2 dX4_readBoth_72)
        · skip
          have hn29 := TX.go2 hTX (show tii < ct by omega) (by rw [c28]; decide)
          have hn29a := hn29.2.1
          have hn29b := hn29.2.2
          have hn29c := hn29.1
          refine lv_aload_n hx hb dX4_readBoth_28 rfl (lv_at hl 2 rfl) ?_
          refine lv_aload_n hx hb dX4_readBoth_29 rfl (lv_at hl 2 rfl) ?_
          refine va_get (D := D) (ci := 8) (v := .int (nI tii)) (C := RX4) (T := TX4) (N := 9) hx hb hts inX4 hown hK hP 0 rfl rfl 2 (by decide) (hts (.fieldLink RX4 70 "EscrowDesk$Reader" "token" "I") (by decide +kernel)) (fun _ h9 => h9) rfl dX4_readBoth_30 ?_
          refine lv_iconst (v := 1) hx hb dX4_readBoth_33 (by decide) ?_
          refine lv_iadd hx hb dX4_readBoth_34 ?_
          refine lv_topi (fun yn30 eyn30 => ?_)
          obtain rfl : yn30 = (nI (tii + 1)) := eyn30.trans (nI_add tii 1)
          obtain ⟨hPc, hDc, hFc⟩ := PDq.cut (wc := [(oX4 r0 r1 p0 (nI tii) (fk tii) (ft tii) (fv tii) u0_6_1 iek iep), (oX5 r1 k1 k2 k3 (nI ct)), (k1, .inl (cA 0, 701, .inl fk)), (k2, .inl (cA 0, 701, .inl ft)), (k3, .inl (cA 1, 701, .inr (.inl fv)))]) hP hD hS hA [0, 1, 2, 3, 4] (by decide) rfl
          refine va_callv (va_runV (As := [.int (nI (tii + 1))]) (rest := []) ⟨hx, hb, hml, hown, hts⟩ (x_lookAt l D cA sa r0 p0 (tii + 1) (nI tii) (fk tii) (ft tii) u0_6_1 iek iep (fv tii) r1 k1 k2 k3 ct fk ft fv H.size hct hn29.1) (cwV 1 hts gX4_readBoth_X4_lookAt rfl rfl rfl (by decide +kernel) ⟨by show (0) + 1 ≤ 21; omega, by show 8 + (2 + 11) + (0) ≤ 344; omega⟩) ⟨Wd.blind, va_recv hK hPc (ci := 8) (q0 := 0) rfl rfl, fun U hU hW => ⟨rfl, Wd.call hPc hDc hK hC hZ hS hFc U hU hW⟩⟩ rfl rfl hl.1 rfl (lv_room (Nat.le_of_ble_eq_true rfl)) dX4_readBoth_35 ⟨(Nat.le_of_ble_eq_true rfl), (Nat.le_of_ble_eq_true rfl)⟩) hS (fun q _ h => hFc q h) hFc (fun u t H1 locs ht hvm hw hB hz1 hk1 hS => ?_)
          obtain ⟨hP1, hD1⟩ := hB
          rw [ht] at hP1
          obtain ⟨hP, hD⟩ := PDq.join (w := [(oX3 p0 pr pb pe pg p1 (nI nd) p2 p3 p4 p5 (nI cn) p6 (nI qmi) p7 p8 p9 (nI smi)), (p2, .inl (cA 1, 10, .inr (.inl fna))), (p6, .inl (cA 1, 8, .inr (.inl f7_1))), (p7, .inl (cA 0, 350, .inl f8_1)), (p8, .inl (cA 0, 350, .inl f9_1)), (oX4 r0 r1 p0 (nI (tii + 1)) (fk (tii + 1)) (ft (tii + 1)) (fv (tii + 1)) u0_6_1 iek iep), (oX5 r1 k1 k2 k3 (nI ct)), (k1, .inl (cA 0, 701, .inl fk)), (k2, .inl (cA 0, 701, .inl ft)), (k3, .inl (cA 1, 701, .inr (.inl fv)))]) 5 hP hD [0, 1, 2, 3, 4] [5, 6, 7, 8, 9] rfl rfl (by decide) (by decide +kernel) hk1 hFc hP1 hD1 rfl
          generalize H1 = H at hP hS ⊢
          refine lv_aload_n hx hb dX4_readBoth_38 rfl (lv_at hl 2 rfl) ?_
          refine lv_iload_n hx hb dX4_readBoth_39 rfl (lv_at hl 3 rfl) ?_
          obtain ⟨hPc, hDc, hFc⟩ := PDq.cut (wc := [(oX4 r0 r1 p0 (nI (tii + 1)) (fk (tii + 1)) (ft (tii + 1)) (fv (tii + 1)) u0_6_1 iek iep), (oX5 r1 k1 k2 k3 (nI ct)), (k1, .inl (cA 0, 701, .inl fk)), (k2, .inl (cA 0, 701, .inl ft)), (k3, .inl (cA 1, 701, .inr (.inl fv))), (oX3 p0 pr pb pe pg p1 (nI nd) p2 p3 p4 p5 (nI cn) p6 (nI qmi) p7 p8 p9 (nI smi)), (p2, .inl (cA 1, 10, .inr (.inl fna))), (p6, .inl (cA 1, 8, .inr (.inl f7_1))), (p7, .inl (cA 0, 350, .inl f8_1)), (p8, .inl (cA 0, 350, .inl f9_1))]) hP hD hS hA [5, 6, 7, 8, 9, 0, 1, 2, 3, 4] (by decide +kernel) rfl
          refine va_calli (va_runV (As := [.int (nI o9)]) (rest := []) ⟨hx, hb, hml, hown, hts⟩ (x_readFact_B l D cA sa r0 p0 (tii + 1) ln u0_6_1 iek iep r1 k1 k2 k3 ct fk ft fv fb gP gR p1 p2 p3 p4 p5 p6 p7 p8 p9 cn qmi nd smi pr pb pe pg fna f7_1 f8_1 f9_1 ml pli (sl + 2) o9 H.size hct hln hn29.1 hTX hcn hv2_1 hnd hv3_1 hNM hv6_1 (by omega) ho) (cwV 1 hts gX4_readBoth_X4_readFact rfl rfl rfl (by decide +kernel) ⟨by show (20) + 1 ≤ 21; omega, by show 8 + (3 + 11) + (320) ≤ 344; omega⟩) ⟨Wd.blind, va_recv hK hPc (ci := 8) (q0 := 0) rfl rfl, fun U hU hW => ⟨rfl, Wd.call hPc hDc hK hC hZ hS hFc U hU hW⟩⟩ rfl rfl hl.1 rfl (lv_room (Nat.le_of_ble_eq_true rfl)) dX4_readBoth_40 ⟨(Nat.le_of_ble_eq_true rfl), (Nat.le_of_ble_eq_true rfl)⟩) hS (fun q _ h => hFc q h) hFc (fun rn31 u t H1 locs ht hvm hw hB hz1 hk1 hS => ?_)
          obtain ⟨qn32, qn33, qn34, zn35, zn36, zn37, fn38, fn39, fn40, zn41, hn42, hn43, hn44, hn45, hn46, hn47, hn48, hn49, hn50, hn51, hn52, hn53, hn54, hP1, hD1⟩ := hB
          rw [ht] at hP1
          obtain ⟨hP, hD⟩ := PDq.join (w := [(oX4 r0 r1 p0 (nI qn32) (fk qn32) (ft qn32) (fv qn32) zn35 zn36 zn37), (oX5 r1 k1 k2 k3 (nI ct)), (k1, .inl (cA 0, 701, .inl fk)), (k2, .inl (cA 0, 701, .inl ft)), (k3, .inl (cA 1, 701, .inr (.inl fv))), (oX3 p0 pr pb pe pg p1 (nI nd) p2 p3 p4 p5 (nI cn) p6 (nI qn33) p7 p8 p9 (nI qn34)), (p2, .inl (cA 1, 10, .inr (.inl fna))), (p6, .inl (cA 1, 8, .inr (.inl fn38))), (p7, .inl (cA 0, 350, .inl fn39)), (p8, .inl (cA 0, 350, .inl fn40))]) 0 hP hD [5, 6, 7, 8, 9, 0, 1, 2, 3, 4] [] rfl rfl (by decide) (by decide +kernel) hk1 hFc hP1 hD1 rfl
          generalize H1 = H at hP hS ⊢
          rcases hw.2 with hr9 | hr9
          · skip
            have hn54 := hn54 (hw.1.trans hr9)
            subst hr9
            refine lv_if_eq (tgt := 63) hx hb dX4_readBoth_43 (by decide) (fun c55 => ?_) (fun c9 => absurd c9 (by decide))
            refine lv_iconst (v := 0) hx hb dX4_readBoth_63 (by decide) ?_
            refine lv_istore_n (lv' := [(2, .int 0), (3, .int (nI i1)), (0, .ref r0), (1, .int (nI o9))]) hx hb dX4_readBoth_64 rfl hl (by decide) rfl (fun ls hl => ?_)
            refine lv_iinc (v := (nI (i1 + 1))) (lv' := [(3, .int (nI (i1 + 1))), (2, .int 0), (0, .ref r0), (1, .int (nI o9))]) hx hb dX4_readBoth_65 hl (k := 1) rfl (nI_1 _) (by decide) rfl (fun ls hl => ?_)
            refine lv_goto (tgt := 8) hx hb dX4_readBoth_68 (by decide) ?_
            refine lv_iload_n hx hb dX4_readBoth_8 rfl (lv_at hl 1 rfl) ?_
            refine lv_if_eq (tgt := 71) hx hb dX4_readBoth_9 (by decide) (fun c56 => ?_) (fun c9 => absurd c9 (by decide))
            refine lv_iload_n hx hb dX4_readBoth_71 rfl (lv_at hl 1 rfl) ?_
            obtain ⟨hP9, hD9⟩ := PDq.sub (ws' := [(oX4 r0 r1 p0 (nI qn32) (fk qn32) (ft qn32) (fv qn32) zn35 zn36 zn37), (oX5 r1 k1 k2 k3 (nI ct)), (k1, .inl (cA 0, 701, .inl fk)), (k2, .inl (cA 0, 701, .inl ft)), (k3, .inl (cA 1, 701, .inr (.inl fv))), (oX3 p0 pr pb pe pg p1 (nI nd) p2 p3 p4 p5 (nI cn) p6 (nI qn33) p7 p8 p9 (nI qn34)), (p2, .inl (cA 1, 10, .inr (.inl fna))), (p6, .inl (cA 1, 8, .inr (.inl fn38))), (p7, .inl (cA 0, 350, .inl fn39)), (p8, .inl (cA 0, 350, .inl fn40))]) hP hD [0, 1, 2, 3, 4, 5, 6, 7, 8, 9] (by decide +kernel) rfl
            refine W.widen (k := 0) (n := 0) (Nat.le_of_ble_eq_true rfl) (Nat.le_of_ble_eq_true rfl) ?_
            exact (W.zret (v := 0) hx hb hr (by first | rfl | decide) (fun t ht hW => ⟨⟨0, 0, rfl, ⟨rfl, by decide⟩, qn32, qn33, qn34, zn35, zn36, zn37, fn38, fn39, fn40, zn41, hn42, hn43, (by omega), hn45, hn46, hn47, (fun h9 => absurd h9 (by decide)), (fun h9 => absurd h9 (by decide)), (fun h9 => absurd h9 (by decide)), (fun h9 => absurd h9 (by decide)), (fun h9 => absurd h9 (by decide)), (fun h9 => absurd h9 (by decide)), (fun _ => (hv7_1 _ (P_andE c28 hn54))), by rw [ht]; exact hP9, hD9⟩, hS.F ht⟩) hS.2.2 dX4_readBoth_72)
          · skip
            have hn48 := hn48 (hw.1.trans hr9)
            obtain rfl : iek = zn36 := hn48.symm
            obtain ⟨hP, hD⟩ : PDq D A [(oX4 r0 r1 p0 (nI qn32) (fk qn32) (ft qn32) (fv qn32) zn35 iek zn37), (oX5 r1 k1 k2 k3 (nI ct)), (k1, .inl (cA 0, 701, .inl fk)), (k2, .inl (cA 0, 701, .inl ft)), (k3, .inl (cA 1, 701, .inr (.inl fv))), (oX3 p0 pr pb pe pg p1 (nI nd) p2 p3 p4 p5 (nI cn) p6 (nI qn33) p7 p8 p9 (nI qn34)), (p2, .inl (cA 1, 10, .inr (.inl fna))), (p6, .inl (cA 1, 8, .inr (.inl fn38))), (p7, .inl (cA 0, 350, .inl fn39)), (p8, .inl (cA 0, 350, .inl fn40))] H := ⟨hP, hD⟩
            have hn49 := hn49 (hw.1.trans hr9)
            obtain rfl : iep = zn37 := hn49.symm
            obtain ⟨hP, hD⟩ : PDq D A [(oX4 r0 r1 p0 (nI qn32) (fk qn32) (ft qn32) (fv qn32) zn35 iek iep), (oX5 r1 k1 k2 k3 (nI ct)), (k1, .inl (cA 0, 701, .inl fk)), (k2, .inl (cA 0, 701, .inl ft)), (k3, .inl (cA 1, 701, .inr (.inl fv))), (oX3 p0 pr pb pe pg p1 (nI nd) p2 p3 p4 p5 (nI cn) p6 (nI qn33) p7 p8 p9 (nI qn34)), (p2, .inl (cA 1, 10, .inr (.inl fna))), (p6, .inl (cA 1, 8, .inr (.inl fn38))), (p7, .inl (cA 0, 350, .inl fn39)), (p8, .inl (cA 0, 350, .inl fn40))] H := ⟨hP, hD⟩
            have hn50 := hn50 (hw.1.trans hr9)
            have hn51 := hn51 (hw.1.trans hr9)
            have hn52 := hn52 (hw.1.trans hr9)
            have hn53 := hn53 (hw.1.trans hr9)
            subst hr9
            refine lv_if_eq (tgt := 63) hx hb dX4_readBoth_43 (by decide) (fun c9 => absurd c9 (by decide)) (fun c57 => ?_)
            refine lv_aload_n hx hb dX4_readBoth_46 rfl (lv_at hl 2 rfl) ?_
            refine va_get (D := D) (ci := 8) (v := .ref p0) (C := RX4) (T := TX4) (N := 9) hx hb hts inX4 hown hK hP 0 rfl rfl 1 (by decide) (hts (.fieldLink RX4 25 "EscrowDesk$Reader" "plan" "LEscrowDesk$Plan;") (by decide +kernel)) (fun _ h9 => h9) rfl dX4_readBoth_47 ?_
            refine lv_bipush (v := 15) hx hb dX4_readBoth_50 (by decide) ?_
            refine lv_iconst (v := 0) hx hb dX4_readBoth_52 (by decide) ?_
            obtain ⟨hPc, hDc, hFc⟩ := PDq.cut (wc := [(oX3 p0 pr pb pe pg p1 (nI nd) p2 p3 p4 p5 (nI cn) p6 (nI qn33) p7 p8 p9 (nI qn34)), (p7, .inl (cA 0, 350, .inl fn39)), (p8, .inl (cA 0, 350, .inl fn40))]) hP hD hS hA [5, 8, 9] (by decide) rfl
            refine va_calli (va_runV (As := [.int 15, .int 0]) (rest := []) ⟨hx, hb, hml, hown, hts⟩ (x_addStep l D cA sa p0 p1 p2 p3 p4 p5 p6 p7 p8 p9 cn qn33 nd qn34 pr pb pe pg 15 0 fn39 fn40 H.size (by omega)) (cwV 2 hts gX4_readBoth_X3_addStep rfl rfl rfl (by decide +kernel) ⟨by show (0) + 1 ≤ 21; omega, by show 8 + (3 + 11) + (0) ≤ 344; omega⟩) ⟨Wd.blind, va_recv hK hPc (ci := 7) (q0 := 0) rfl rfl, fun U hU hW => ⟨rfl, Wd.call hPc hDc hK hC hZ hS hFc U hU hW⟩⟩ rfl rfl hl.1 rfl (lv_room (Nat.le_of_ble_eq_true rfl)) dX4_readBoth_53 ⟨(Nat.le_of_ble_eq_true rfl), (Nat.le_of_ble_eq_true rfl)⟩) hS (fun q _ h => hFc q h) hFc (fun rn58 u t H1 locs ht hvm hw hB hz1 hk1 hS => ?_)
            obtain ⟨fn59, fn60, hn61, hn62, hP1, hD1⟩ := hB
            rw [ht] at hP1
            obtain ⟨hP, hD⟩ := PDq.join (w := [(oX4 r0 r1 p0 (nI qn32) (fk qn32) (ft qn32) (fv qn32) zn35 iek iep), (oX5 r1 k1 k2 k3 (nI ct)), (k1, .inl (cA 0, 701, .inl fk)), (k2, .inl (cA 0, 701, .inl ft)), (k3, .inl (cA 1, 701, .inr (.inl fv))), (p2, .inl (cA 1, 10, .inr (.inl fna))), (p6, .inl (cA 1, 8, .inr (.inl fn38))), (oX3 p0 pr pb pe pg p1 (nI nd) p2 p3 p4 p5 (nI cn) p6 (nI qn33) p7 p8 p9 (nI (qn34 + 1))), (p7, .inl (cA 0, 350, .inl fn59)), (p8, .inl (cA 0, 350, .inl fn60))]) 7 hP hD [5, 8, 9] [0, 1, 2, 3, 4, 6, 7] rfl rfl (by decide) (by decide +kernel) hk1 hFc hP1 hD1 rfl
            generalize H1 = H at hP hS ⊢
            obtain rfl : rn58 = 1 := hw
            refine lv_if_eq (tgt := 63) hx hb dX4_readBoth_56 (by decide) (fun c9 => absurd c9 (by decide)) (fun c63 => ?_)
            refine lv_iconst (v := 1) hx hb dX4_readBoth_59 (by decide) ?_
            refine lv_goto (tgt := 64) hx hb dX4_readBoth_60 (by decide) ?_
            refine lv_istore_n (lv' := [(2, .int 1), (3, .int (nI i1)), (0, .ref r0), (1, .int (nI o9))]) hx hb dX4_readBoth_64 rfl hl (by decide) rfl (fun ls hl => ?_)
            refine lv_iinc (v := (nI (i1 + 1))) (lv' := [(3, .int (nI (i1 + 1))), (2, .int 1), (0, .ref r0), (1, .int (nI o9))]) hx hb dX4_readBoth_65 hl (k := 1) rfl (nI_1 _) (by decide) rfl (fun ls hl => ?_)
            refine lv_goto (tgt := 8) hx hb dX4_readBoth_68 (by decide) ?_
            obtain ⟨hP9, hD9⟩ := PDq.sub (ws' := [(oX4 r0 r1 p0 (nI qn32) (fk qn32) (ft qn32) (fv qn32) zn35 iek iep), (oX5 r1 k1 k2 k3 (nI ct)), (k1, .inl (cA 0, 701, .inl fk)), (k2, .inl (cA 0, 701, .inl ft)), (k3, .inl (cA 1, 701, .inr (.inl fv))), (oX3 p0 pr pb pe pg p1 (nI nd) p2 p3 p4 p5 (nI cn) p6 (nI qn33) p7 p8 p9 (nI (qn34 + 1))), (p2, .inl (cA 1, 10, .inr (.inl fna))), (p6, .inl (cA 1, 8, .inr (.inl fn38))), (p7, .inl (cA 0, 350, .inl fn59)), (p8, .inl (cA 0, 350, .inl fn60))]) hP hD [0, 1, 2, 3, 4, 7, 5, 6, 8, 9] (by decide +kernel) rfl
            exact ih1 (i1 + 1) zn41 qn32 zn35 qn33 (qn34 + 1) fn38 fn59 fn60 H _ ls (by omega) (by omega) hn42 hn45 (by omega) (by omega) hn43 hn47 (fun r9 h9 => hv7_1 r9 (P_and c28 hn52 h9)) (CDL.and hv8_1 c28 hn53 hn61 hn62 rfl (by have q9 := hNM.1; omega) (by have q9 := hn47.1; omega)) hP9 hD9 hS (lv_sub hl [0, 1, 2, 3] rfl)
    obtain ⟨hP9, hD9⟩ := PDq.sub (ws' := [(oX4 r0 r1 p0 (nI qn2) (fk qn2) (ft qn2) (fv qn2) zn5 iek iep), (oX5 r1 k1 k2 k3 (nI ct)), (k1, .inl (cA 0, 701, .inl fk)), (k2, .inl (cA 0, 701, .inl ft)), (k3, .inl (cA 1, 701, .inr (.inl fv))), (oX3 p0 pr pb pe pg p1 (nI nd) p2 p3 p4 p5 (nI cn) p6 (nI qn3) p7 p8 p9 (nI qn4)), (p2, .inl (cA 1, 10, .inr (.inl fna))), (p6, .inl (cA 1, 8, .inr (.inl fn8))), (p7, .inl (cA 0, 350, .inl fn9)), (p8, .inl (cA 0, 350, .inl fn10))]) hP hD [0, 1, 2, 3, 4, 5, 6, 7, 8, 9] (by decide +kernel) rfl
    exact loop1 (700 - 0) 0 zn11 qn2 zn5 qn3 qn4 fn8 fn9 fn10 _ _ ls (by omega) (by omega) hn12 hn15 hn16 hn20 hn13 hn17 (fun r9 h9 => P_both hn22 h9) (CDL.both hn23) hP9 hD9 hS (lv_sub hl [0, 1, 2, 3] rfl)

set_option maxHeartbeats 4000000 in
set_option maxRecDepth 100000 in
/-- readCondition -/
theorem x_readCondition_B (l : Launch) (D : va_G) (cA : Nat → ClassId) (sa : Nat → Nat) (r0 : Nat) (p0 : Nat) (ti : Nat) (ln : Nat) (inb : Int32) (iek : Int32) (iep : Int32) (r1 : Nat) (k1 : Nat) (k2 : Nat) (k3 : Nat) (ct : Nat) (fk : Nat → Int32) (ft : Nat → Int32) (fv : Nat → Int64) (fb : Nat → Int32) (gP : Nat → Nat) (gR : Nat → Nat) (p1 : Nat) (p2 : Nat) (p3 : Nat) (p4 : Nat) (p5 : Nat) (p6 : Nat) (p7 : Nat) (p8 : Nat) (p9 : Nat) (cn : Nat) (pq : Nat) (nd : Nat) (sc : Nat) (pr : Int32) (pb : Int32) (pe : Int32) (pg : Int32) (fna : Nat → Int64) (fpn : Nat → Int64) (fst : Nat → Int32) (fop : Nat → Int32) (ml : List Int64) (pl : List Int64) (sl : Nat) (o9 : Nat) (sz : Nat) (hct : ct ≤ 701) (hln : ln ≤ 700) (hti : ti < ct) (hTX : TX fb ln ct gP gR ft fv fk) (hcn : cn ≤ 10) (hpq : pq ≤ 8) (hnd : nd ≤ 6) (hsc : sc ≤ 350) (hNM : NL ml cn fna) (hNP : NL pl pq fpn) (hsl : 2 * sc + sl ≤ gP ti) (ho : o9 = 8) : Met l yX4_readCondition wsX4_readCondition ({ frames := 22, cells := 0, slots := 0, locals := 368 }) (va_Pc [.ref r0, .int (nI o9)] (Wd D cA sa [(oX4 r0 r1 p0 (nI ti) (fk ti) (ft ti) (fv ti) inb iek iep), (oX5 r1 k1 k2 k3 (nI ct)), (k1, .inl (cA 0, 701, .inl fk)), (k2, .inl (cA 0, 701, .inl ft)), (k3, .inl (cA 1, 701, .inr (.inl fv))), (oX3 p0 pr pb pe pg p1 (nI nd) p2 p3 p4 p5 (nI cn) p6 (nI pq) p7 p8 p9 (nI sc)), (p2, .inl (cA 1, 10, .inr (.inl fna))), (p6, .inl (cA 1, 8, .inr (.inl fpn))), (p7, .inl (cA 0, 350, .inl fst)), (p8, .inl (cA 0, 350, .inl fop))] sz)) (va_Qi (fun (r : Int32) (u9 : Int32) => u9 = r ∧ (r = 0 ∨ r = 1)) (fun (u9 : Int32) t => ∃ tj : Nat, ∃ qm : Nat, ∃ sm : Nat, ∃ znr : Int32, ∃ zek : Int32, ∃ zep : Int32, ∃ zpn : Nat → Int64, ∃ zst : Nat → Int32, ∃ zop : Nat → Int32, ∃ zpl : List Int64, tj < ct ∧ gP tj ≤ ln ∧ ti ≤ tj ∧ qm ≤ 8 ∧ sm ≤ 350 ∧ NL zpl qm zpn ∧ (u9 = 1 → zek = iek) ∧ (u9 = 1 → zep = iep) ∧ (u9 = 1 → 2 * sm + sl ≤ gP tj) ∧ (u9 = 1 → ti + 1 ≤ tj) ∧ (u9 = 1 → PRx fk ft fv ml 3 o9 ti pl (.inr (tj, zpl))) ∧ (u9 = 1 → CD9 fk fv 3 ti tj ml pl zpl sc sm fst fop zst zop) ∧ (u9 = 0 → PRx fk ft fv ml 3 o9 ti pl (.inl (zek, zep))) ∧ Wq D (va_A [(oX4 r0 r1 p0 (nI ti) (fk ti) (ft ti) (fv ti) inb iek iep), (oX5 r1 k1 k2 k3 (nI ct)), (k1, .inl (cA 0, 701, .inl fk)), (k2, .inl (cA 0, 701, .inl ft)), (k3, .inl (cA 1, 701, .inr (.inl fv))), (oX3 p0 pr pb pe pg p1 (nI nd) p2 p3 p4 p5 (nI cn) p6 (nI pq) p7 p8 p9 (nI sc)), (p2, .inl (cA 1, 10, .inr (.inl fna))), (p6, .inl (cA 1, 8, .inr (.inl fpn))), (p7, .inl (cA 0, 350, .inl fst)), (p8, .inl (cA 0, 350, .inl fop))] sz) [(oX4 r0 r1 p0 (nI tj) (fk tj) (ft tj) (fv tj) znr zek zep), (oX5 r1 k1 k2 k3 (nI ct)), (k1, .inl (cA 0, 701, .inl fk)), (k2, .inl (cA 0, 701, .inl ft)), (k3, .inl (cA 1, 701, .inr (.inl fv))), (oX3 p0 pr pb pe pg p1 (nI nd) p2 p3 p4 p5 (nI cn) p6 (nI qm) p7 p8 p9 (nI sm)), (p2, .inl (cA 1, 10, .inr (.inl fna))), (p6, .inl (cA 1, 8, .inr (.inl zpn))), (p7, .inl (cA 0, 350, .inl zst)), (p8, .inl (cA 0, 350, .inl zop))] t) (va_A [(oX4 r0 r1 p0 (nI ti) (fk ti) (ft ti) (fv ti) inb iek iep), (oX5 r1 k1 k2 k3 (nI ct)), (k1, .inl (cA 0, 701, .inl fk)), (k2, .inl (cA 0, 701, .inl ft)), (k3, .inl (cA 1, 701, .inr (.inl fv))), (oX3 p0 pr pb pe pg p1 (nI nd) p2 p3 p4 p5 (nI cn) p6 (nI pq) p7 p8 p9 (nI sc)), (p2, .inl (cA 1, 10, .inr (.inl fna))), (p6, .inl (cA 1, 8, .inr (.inl fpn))), (p7, .inl (cA 0, 350, .inl fst)), (p8, .inl (cA 0, 350, .inl fop))] sz)) 0 0 (va_A [(oX4 r0 r1 p0 (nI ti) (fk ti) (ft ti) (fv ti) inb iek iep), (oX5 r1 k1 k2 k3 (nI ct)), (k1, .inl (cA 0, 701, .inl fk)), (k2, .inl (cA 0, 701, .inl ft)), (k3, .inl (cA 1, 701, .inr (.inl fv))), (oX3 p0 pr pb pe pg p1 (nI nd) p2 p3 p4 p5 (nI cn) p6 (nI pq) p7 p8 p9 (nI sc)), (p2, .inl (cA 1, 10, .inr (.inl fna))), (p6, .inl (cA 1, 8, .inr (.inl fpn))), (p7, .inl (cA 0, 350, .inl fst)), (p8, .inl (cA 0, 350, .inl fop))] sz) := by
  refine Met.ofW (cc := cX4_readCondition) (maxL := 4) (ret := (some .boolean)) (by decide) rfl ?_
  intro p e s m args below meth c s₁ B hml hv
  obtain ⟨rfl, hsz, hP, hK, hD0, hC, hZ⟩ := hv
  have hx := B.exec
  have hb := B.bytes
  have hr := B.returns
  have hts := atoms_spec (ws := wsX4_readCondition) B.pre
  have hown : s.vm.findClass RX4 = some m.cls := findClass_of_methodNamed B.named
  have hlocks := B.notSynchronized
  subst hsz
  have hD := hD0.self (sz := s.heap.size)
  generalize hAe : va_A [(oX4 r0 r1 p0 (nI ti) (fk ti) (ft ti) (fv ti) inb iek iep), (oX5 r1 k1 k2 k3 (nI ct)), (k1, .inl (cA 0, 701, .inl fk)), (k2, .inl (cA 0, 701, .inl ft)), (k3, .inl (cA 1, 701, .inr (.inl fv))), (oX3 p0 pr pb pe pg p1 (nI nd) p2 p3 p4 p5 (nI cn) p6 (nI pq) p7 p8 p9 (nI sc)), (p2, .inl (cA 1, 10, .inr (.inl fna))), (p6, .inl (cA 1, 8, .inr (.inl fpn))), (p7, .inl (cA 0, 350, .inl fst)), (p8, .inl (cA 0, 350, .inl fop))] s.heap.size = A at hD hZ ⊢
  have hA : ∀ q : Nat, s.heap.size ≤ q → A q := fun q h => by rw [← hAe]; exact Or.inr h
  have hS : va_S A s.heap s.heap [] := va_S.rf
  have hP : va_P D vwCl [(oX4 r0 r1 p0 (nI ti) (fk ti) (ft ti) (fv ti) inb iek iep), (oX5 r1 k1 k2 k3 (nI ct)), (k1, .inl (cA 0, 701, .inl fk)), (k2, .inl (cA 0, 701, .inl ft)), (k3, .inl (cA 1, 701, .inr (.inl fv))), (oX3 p0 pr pb pe pg p1 (nI nd) p2 p3 p4 p5 (nI cn) p6 (nI pq) p7 p8 p9 (nI sc)), (p2, .inl (cA 1, 10, .inr (.inl fna))), (p6, .inl (cA 1, 8, .inr (.inl fpn))), (p7, .inl (cA 0, 350, .inl fst)), (p8, .inl (cA 0, 350, .inl fop))] s.heap := hP
  have hl := lv_entry ([.ref r0, .int (nI o9)]) (n := 4) (Nat.le_of_ble_eq_true rfl)
  rw [lg_entry_eq]
  generalize (lg_sl ([.ref r0, .int (nI o9)]) ++ List.replicate (4 - (lg_sl ([.ref r0, .int (nI o9)])).length) Slot.unset).toArray = ls at hl ⊢
  have hl : lv_has ls 4 [(0, .ref r0), (1, .int (nI o9))] := hl
  have inX4 : ∀ w ∈ u_ws RX4 TX4 9, w ∈ wsX4_readCondition := by decide +kernel
  have hle9 := TX.le hTX hti
  refine lv_aload_n hx hb dX4_readCondition_0 rfl (lv_at hl 0 rfl) ?_
  refine lv_iload_n hx hb dX4_readCondition_1 rfl (lv_at hl 1 rfl) ?_
  obtain ⟨hPc, hDc, hFc⟩ := PDq.cut (wc := [(oX4 r0 r1 p0 (nI ti) (fk ti) (ft ti) (fv ti) inb iek iep), (oX5 r1 k1 k2 k3 (nI ct)), (k1, .inl (cA 0, 701, .inl fk)), (k2, .inl (cA 0, 701, .inl ft)), (k3, .inl (cA 1, 701, .inr (.inl fv))), (oX3 p0 pr pb pe pg p1 (nI nd) p2 p3 p4 p5 (nI cn) p6 (nI pq) p7 p8 p9 (nI sc)), (p2, .inl (cA 1, 10, .inr (.inl fna))), (p6, .inl (cA 1, 8, .inr (.inl fpn))), (p7, .inl (cA 0, 350, .inl fst)), (p8, .inl (cA 0, 350, .inl fop))]) hP hD hS hA [0, 1, 2, 3, 4, 5, 6, 7, 8, 9] (by decide +kernel) rfl
  refine va_calli (va_runV (As := [.int (nI o9)]) (rest := []) ⟨hx, hb, hml, hown, hts⟩ (x_readBoth_B l D cA sa r0 p0 ti ln inb iek iep r1 k1 k2 k3 ct fk ft fv fb gP gR p1 p2 p3 p4 p5 p6 p7 p8 p9 cn pq nd sc pr pb pe pg fna fpn fst fop ml pl sl o9 s.heap.size hct hln hti hTX hcn hpq hnd hsc hNM hNP hsl ho) (cwV 1 hts gX4_readCondition_X4_readBoth rfl rfl rfl (by decide +kernel) ⟨by show (21) + 1 ≤ 22; omega, by show 8 + (4 + 11) + (344) ≤ 368; omega⟩) ⟨Wd.blind, va_recv hK hPc (ci := 8) (q0 := 0) rfl rfl, fun U hU hW => ⟨rfl, Wd.call hPc hDc hK hC hZ hS hFc U hU hW⟩⟩ rfl rfl hl.1 rfl (lv_room (Nat.le_of_ble_eq_true rfl)) dX4_readCondition_2 ⟨(Nat.le_of_ble_eq_true rfl), (Nat.le_of_ble_eq_true rfl)⟩) hS (fun q _ h => hFc q h) hFc (fun rn1 u t H1 locs ht hvm hw hB hz1 hk1 hS => ?_)
  obtain ⟨qn2, qn3, qn4, zn5, zn6, zn7, fn8, fn9, fn10, zn11, hn12, hn13, hn14, hn15, hn16, hn17, hn18, hn19, hn20, hn21, hn22, hn23, hn24, hP1, hD1⟩ := hB
  rw [ht] at hP1
  obtain ⟨hP, hD⟩ := PDq.join (w := [(oX4 r0 r1 p0 (nI qn2) (fk qn2) (ft qn2) (fv qn2) zn5 zn6 zn7), (oX5 r1 k1 k2 k3 (nI ct)), (k1, .inl (cA 0, 701, .inl fk)), (k2, .inl (cA 0, 701, .inl ft)), (k3, .inl (cA 1, 701, .inr (.inl fv))), (oX3 p0 pr pb pe pg p1 (nI nd) p2 p3 p4 p5 (nI cn) p6 (nI qn3) p7 p8 p9 (nI qn4)), (p2, .inl (cA 1, 10, .inr (.inl fna))), (p6, .inl (cA 1, 8, .inr (.inl fn8))), (p7, .inl (cA 0, 350, .inl fn9)), (p8, .inl (cA 0, 350, .inl fn10))]) 0 hP hD [0, 1, 2, 3, 4, 5, 6, 7, 8, 9] [] rfl rfl (by decide) (by decide +kernel) hk1 hFc hP1 hD1 rfl
  generalize H1 = H at hP hS ⊢
  rcases hw.2 with hr9 | hr9
  · skip
    have hn24 := hn24 (hw.1.trans hr9)
    subst hr9
    refine lv_istore_n (lv' := [(2, .int 0), (0, .ref r0), (1, .int (nI o9))]) hx hb dX4_readCondition_5 rfl hl (by decide) rfl (fun ls hl => ?_)
    refine lv_iconst (v := 0) hx hb dX4_readCondition_6 (by decide) ?_
    refine lv_istore_n (lv' := [(3, .int 0), (2, .int 0), (0, .ref r0), (1, .int (nI o9))]) hx hb dX4_readCondition_7 rfl hl (by decide) rfl (fun ls hl => ?_)
    refine lv_iload_n hx hb dX4_readCondition_8 rfl (lv_at hl 1 rfl) ?_
    refine lv_if_eq (tgt := 71) hx hb dX4_readCondition_9 (by decide) (fun c25 => ?_) (fun c9 => absurd c9 (by decide))
    refine lv_iload_n hx hb dX4_readCondition_71 rfl (lv_at hl 1 rfl) ?_
    obtain ⟨hP9, hD9⟩ := PDq.sub (ws' := [(oX4 r0 r1 p0 (nI qn2) (fk qn2) (ft qn2) (fv qn2) zn5 zn6 zn7), (oX5 r1 k1 k2 k3 (nI ct)), (k1, .inl (cA 0, 701, .inl fk)), (k2, .inl (cA 0, 701, .inl ft)), (k3, .inl (cA 1, 701, .inr (.inl fv))), (oX3 p0 pr pb pe pg p1 (nI nd) p2 p3 p4 p5 (nI cn) p6 (nI qn3) p7 p8 p9 (nI qn4)), (p2, .inl (cA 1, 10, .inr (.inl fna))), (p6, .inl (cA 1, 8, .inr (.inl fn8))), (p7, .inl (cA 0, 350, .inl fn9)), (p8, .inl (cA 0, 350, .inl fn10))]) hP hD [0, 1, 2, 3, 4, 5, 6, 7, 8, 9] (by decide +kernel) rfl
    refine W.widen (k := 0) (n := 0) (Nat.le_of_ble_eq_true rfl) (Nat.le_of_ble_eq_true rfl) ?_
    exact (W.zret (v := 0) hx hb hr (by first | rfl | decide) (fun t ht hW => ⟨⟨0, 0, rfl, ⟨rfl, by decide⟩, qn2, qn3, qn4, zn5, zn6, zn7, fn8, fn9, fn10, zn11, hn12, hn13, hn14, hn15, hn16, hn17, (fun h9 => absurd h9 (by decide)), (fun h9 => absurd h9 (by decide)), (fun h9 => absurd h9 (by decide)), (fun h9 => absurd h9 (by decide)), (fun h9 => absurd h9 (by decide)), (fun h9 => absurd h9 (by decide)), (fun _ => (P_condE hn24)), by rw [ht]; exact hP9, hD9⟩, hS.F ht⟩) hS.2.2 dX4_readCondition_72)
  · skip
    have hn18 := hn18 (hw.1.trans hr9)
    obtain rfl : iek = zn6 := hn18.symm
    obtain ⟨hP, hD⟩ : PDq D A [(oX4 r0 r1 p0 (nI qn2) (fk qn2) (ft qn2) (fv qn2) zn5 iek zn7), (oX5 r1 k1 k2 k3 (nI ct)), (k1, .inl (cA 0, 701, .inl fk)), (k2, .inl (cA 0, 701, .inl ft)), (k3, .inl (cA 1, 701, .inr (.inl fv))), (oX3 p0 pr pb pe pg p1 (nI nd) p2 p3 p4 p5 (nI cn) p6 (nI qn3) p7 p8 p9 (nI qn4)), (p2, .inl (cA 1, 10, .inr (.inl fna))), (p6, .inl (cA 1, 8, .inr (.inl fn8))), (p7, .inl (cA 0, 350, .inl fn9)), (p8, .inl (cA 0, 350, .inl fn10))] H := ⟨hP, hD⟩
    have hn19 := hn19 (hw.1.trans hr9)
    obtain rfl : iep = zn7 := hn19.symm
    obtain ⟨hP, hD⟩ : PDq D A [(oX4 r0 r1 p0 (nI qn2) (fk qn2) (ft qn2) (fv qn2) zn5 iek iep), (oX5 r1 k1 k2 k3 (nI ct)), (k1, .inl (cA 0, 701, .inl fk)), (k2, .inl (cA 0, 701, .inl ft)), (k3, .inl (cA 1, 701, .inr (.inl fv))), (oX3 p0 pr pb pe pg p1 (nI nd) p2 p3 p4 p5 (nI cn) p6 (nI qn3) p7 p8 p9 (nI qn4)), (p2, .inl (cA 1, 10, .inr (.inl fna))), (p6, .inl (cA 1, 8, .inr (.inl fn8))), (p7, .inl (cA 0, 350, .inl fn9)), (p8, .inl (cA 0, 350, .inl fn10))] H := ⟨hP, hD⟩
    have hn20 := hn20 (hw.1.trans hr9)
    have hn21 := hn21 (hw.1.trans hr9)
    have hn22 := hn22 (hw.1.trans hr9)
    have hn23 := hn23 (hw.1.trans hr9)
    subst hr9
    refine lv_istore_n (lv' := [(2, .int 1), (0, .ref r0), (1, .int (nI o9))]) hx hb dX4_readCondition_5 rfl hl (by decide) rfl (fun ls hl => ?_)
    refine lv_iconst (v := 0) hx hb dX4_readCondition_6 (by decide) ?_
    refine lv_istore_n (lv' := [(3, .int 0), (2, .int 1), (0, .ref r0), (1, .int (nI o9))]) hx hb dX4_readCondition_7 rfl hl (by decide) rfl (fun ls hl => ?_)
    have loop1 : ∀ (n1 i1 : Nat) (pli : List Int64) (tii : Nat) (u0_6_1 : Int32) (qmi : Nat) (smi : Nat) (f7_1 : Nat → Int64) (f8_1 : Nat → Int32) (f9_1 : Nat → Int32) (H : Heap) (locs : List Loc) (ls : Array Slot), i1 + n1 = 700 → ti + 1 + i1 ≤ tii → tii < ct → qmi ≤ 8 → smi ≤ 350 → 2 * smi + sl ≤ gP tii → gP tii ≤ ln → NL pli qmi f7_1 → Cn fk ft fv ml 3 o9 ti pl 4 tii pli → CDL fk fv 3 ti 4 tii ml pl pli sc smi fst fop f8_1 f9_1 → va_P D vwCl [(oX4 r0 r1 p0 (nI tii) (fk tii) (ft tii) (fv tii) u0_6_1 iek iep), (oX5 r1 k1 k2 k3 (nI ct)), (k1, .inl (cA 0, 701, .inl fk)), (k2, .inl (cA 0, 701, .inl ft)), (k3, .inl (cA 1, 701, .inr (.inl fv))), (oX3 p0 pr pb pe pg p1 (nI nd) p2 p3 p4 p5 (nI cn) p6 (nI qmi) p7 p8 p9 (nI smi)), (p2, .inl (cA 1, 10, .inr (.inl fna))), (p6, .inl (cA 1, 8, .inr (.inl f7_1))), (p7, .inl (cA 0, 350, .inl f8_1)), (p8, .inl (cA 0, 350, .inl f9_1))] H → va_D A [(oX4 r0 r1 p0 (nI tii) (fk tii) (ft tii) (fv tii) u0_6_1 iek iep), (oX5 r1 k1 k2 k3 (nI ct)), (k1, .inl (cA 0, 701, .inl fk)), (k2, .inl (cA 0, 701, .inl ft)), (k3, .inl (cA 1, 701, .inr (.inl fv))), (oX3 p0 pr pb pe pg p1 (nI nd) p2 p3 p4 p5 (nI cn) p6 (nI qmi) p7 p8 p9 (nI smi)), (p2, .inl (cA 1, 10, .inr (.inl fna))), (p6, .inl (cA 1, 8, .inr (.inl f7_1))), (p7, .inl (cA 0, 350, .inl f8_1)), (p8, .inl (cA 0, 350, .inl f9_1))] → va_S A s.heap H locs → lv_has ls 4 [(3, .int (nI i1)), (2, .int 1), (0, .ref r0), (1, .int (nI o9))] → W p l e (headSpec wsX4_readCondition ({ frames := 22, cells := 0, slots := 0, locals := 368 } : Room)).room s m ([.ref r0, .int (nI o9)] : List Value).toArray below meth c H locs 0 0 (MQ below (va_Qi (fun (r : Int32) (u9 : Int32) => u9 = r ∧ (r = 0 ∨ r = 1)) (fun (u9 : Int32) t => ∃ tj : Nat, ∃ qm : Nat, ∃ sm : Nat, ∃ znr : Int32, ∃ zek : Int32, ∃ zep : Int32, ∃ zpn : Nat → Int64, ∃ zst : Nat → Int32, ∃ zop : Nat → Int32, ∃ zpl : List Int64, tj < ct ∧ gP tj ≤ ln ∧ ti ≤ tj ∧ qm ≤ 8 ∧ sm ≤ 350 ∧ NL zpl qm zpn ∧ (u9 = 1 → zek = iek) ∧ (u9 = 1 → zep = iep) ∧ (u9 = 1 → 2 * sm + sl ≤ gP tj) ∧ (u9 = 1 → ti + 1 ≤ tj) ∧ (u9 = 1 → PRx fk ft fv ml 3 o9 ti pl (.inr (tj, zpl))) ∧ (u9 = 1 → CD9 fk fv 3 ti tj ml pl zpl sc sm fst fop zst zop) ∧ (u9 = 0 → PRx fk ft fv ml 3 o9 ti pl (.inl (zek, zep))) ∧ Wq D A [(oX4 r0 r1 p0 (nI tj) (fk tj) (ft tj) (fv tj) znr zek zep), (oX5 r1 k1 k2 k3 (nI ct)), (k1, .inl (cA 0, 701, .inl fk)), (k2, .inl (cA 0, 701, .inl ft)), (k3, .inl (cA 1, 701, .inr (.inl fv))), (oX3 p0 pr pb pe pg p1 (nI nd) p2 p3 p4 p5 (nI cn) p6 (nI qm) p7 p8 p9 (nI sm)), (p2, .inl (cA 1, 10, .inr (.inl fna))), (p6, .inl (cA 1, 8, .inr (.inl zpn))), (p7, .inl (cA 0, 350, .inl zst)), (p8, .inl (cA 0, 350, .inl zop))] t) A) ([.ref r0, .int (nI o9)] : List Value).toArray s 0 0 A) (F0 m 8 ls []) := by
      intro n1
      induction n1 with
      | zero =>
        intro i1 pli tii u0_6_1 qmi smi f7_1 f8_1 f9_1 H locs ls hi1 hv0_1 hv1_1 hv2_1 hv3_1 hv4_1 hv5_1 hv6_1 hv7_1 hv8_1 hP hD hS hl
        obtain rfl : 700 = i1 := by omega
        exact absurd hv0_1 (by omega)
      | succ n1 ih1 =>
        intro i1 pli tii u0_6_1 qmi smi f7_1 f8_1 f9_1 H locs ls hi1 hv0_1 hv1_1 hv2_1 hv3_1 hv4_1 hv5_1 hv6_1 hv7_1 hv8_1 hP hD hS hl
        refine lv_iload_n hx hb dX4_readCondition_8 rfl (lv_at hl 1 rfl) ?_
        refine lv_if_eq (tgt := 71) hx hb dX4_readCondition_9 (by decide) (fun c9 => absurd c9 (by decide)) (fun c26 => ?_)
        refine lv_iload_n hx hb dX4_readCondition_12 rfl (lv_at hl 0 rfl) ?_
        refine lv_sipush (v := 700) hx hb dX4_readCondition_13 (by decide) ?_
        refine lv_icmp_ge (tgt := 71) hx hb dX4_readCondition_16 (by decide) (fun c9 => absurd c9 (nI_ge (a := i1) (b := 700) (show i1 < 700 by omega) (by omega))) (fun c27 => ?_)
        refine lv_aload_n hx hb dX4_readCondition_19 rfl (lv_at hl 2 rfl) ?_
        refine va_get (D := D) (ci := 8) (v := .int (fk tii)) (C := RX4) (T := TX4) (N := 9) hx hb hts inX4 hown hK hP 0 rfl rfl 3 (by decide) (hts (.fieldLink RX4 42 "EscrowDesk$Reader" "kind" "I") (by decide +kernel)) (fun _ h9 => h9) rfl dX4_readCondition_20 ?_
        refine lv_bipush (v := 14) hx hb dX4_readCondition_23 (by decide) ?_
        refine lv_icmp_ne (tgt := 71) hx hb dX4_readCondition_25 (by decide) (fun c28 => ?_) (fun c28 => ?_)
        · skip
          refine lv_iload_n hx hb dX4_readCondition_71 rfl (lv_at hl 1 rfl) ?_
          obtain ⟨hP9, hD9⟩ := PDq.sub (ws' := [(oX4 r0 r1 p0 (nI tii) (fk tii) (ft tii) (fv tii) u0_6_1 iek iep), (oX5 r1 k1 k2 k3 (nI ct)), (k1, .inl (cA 0, 701, .inl fk)), (k2, .inl (cA 0, 701, .inl ft)), (k3, .inl (cA 1, 701, .inr (.inl fv))), (oX3 p0 pr pb pe pg p1 (nI nd) p2 p3 p4 p5 (nI cn) p6 (nI qmi) p7 p8 p9 (nI smi)), (p2, .inl (cA 1, 10, .inr (.inl fna))), (p6, .inl (cA 1, 8, .inr (.inl f7_1))), (p7, .inl (cA 0, 350, .inl f8_1)), (p8, .inl (cA 0, 350, .inl f9_1))]) hP hD [0, 1, 2, 3, 4, 5, 6, 7, 8, 9] (by decide +kernel) rfl
          refine W.widen (k := 0) (n := 0) (Nat.le_of_ble_eq_true rfl) (Nat.le_of_ble_eq_true rfl) ?_
          exact (W.zret (v := 1) hx hb hr (by first | rfl | decide) (fun t ht hW => ⟨⟨1, 1, rfl, ⟨rfl, by decide⟩, tii, qmi, smi, u0_6_1, iek, iep, f7_1, f8_1, f9_1, pli, hv1_1, hv5_1, (by omega), hv2_1, hv3_1, hv6_1, (fun _ => rfl), (fun _ => rfl), (fun _ => hv4_1), (fun _ => (by omega)), (fun _ => (hv7_1 _ (P_end4 c28))), (fun _ => (CDL.end4 hv8_1 c28)), (fun h9 => absurd h9 (by decide)), by rw [ht]; exact hP9, hD9⟩, hS.F ht⟩) hS.2.2 dX4_readCondition_72)
        · skip
          have hn29 := TX.go2 hTX (show tii < ct by omega) (by rw [c28]; decide)
          have hn29a := hn29.2.1
          have hn29b := hn29.2.2
          have hn29c := hn29.1
          refine lv_aload_n hx hb dX4_readCondition_28 rfl (lv_at hl 2 rfl) ?_
          refine lv_aload_n hx hb dX4_readCondition_29 rfl (lv_at hl 2 rfl) ?_
          refine va_get (D := D) (ci := 8) (v := .int (nI tii)) (C := RX4) (T := TX4) (N := 9) hx hb hts inX4 hown hK hP 0 rfl rfl 2 (by decide) (hts (.fieldLink RX4 70 "EscrowDesk$Reader" "token" "I") (by decide +kernel)) (fun _ h9 => h9) rfl dX4_readCondition_30 ?_
          refine lv_iconst (v := 1) hx hb dX4_readCondition_33 (by decide) ?_
          refine lv_iadd hx hb dX4_readCondition_34 ?_
          refine lv_topi (fun yn30 eyn30 => ?_)
          obtain rfl : yn30 = (nI (tii + 1)) := eyn30.trans (nI_add tii 1)
          obtain ⟨hPc, hDc, hFc⟩ := PDq.cut (wc := [(oX4 r0 r1 p0 (nI tii) (fk tii) (ft tii) (fv tii) u0_6_1 iek iep), (oX5 r1 k1 k2 k3 (nI ct)), (k1, .inl (cA 0, 701, .inl fk)), (k2, .inl (cA 0, 701, .inl ft)), (k3, .inl (cA 1, 701, .inr (.inl fv)))]) hP hD hS hA [0, 1, 2, 3, 4] (by decide) rfl
          refine va_callv (va_runV (As := [.int (nI (tii + 1))]) (rest := []) ⟨hx, hb, hml, hown, hts⟩ (x_lookAt l D cA sa r0 p0 (tii + 1) (nI tii) (fk tii) (ft tii) u0_6_1 iek iep (fv tii) r1 k1 k2 k3 ct fk ft fv H.size hct hn29.1) (cwV 1 hts gX4_readCondition_X4_lookAt rfl rfl rfl (by decide +kernel) ⟨by show (0) + 1 ≤ 22; omega, by show 8 + (2 + 11) + (0) ≤ 368; omega⟩) ⟨Wd.blind, va_recv hK hPc (ci := 8) (q0 := 0) rfl rfl, fun U hU hW => ⟨rfl, Wd.call hPc hDc hK hC hZ hS hFc U hU hW⟩⟩ rfl rfl hl.1 rfl (lv_room (Nat.le_of_ble_eq_true rfl)) dX4_readCondition_35 ⟨(Nat.le_of_ble_eq_true rfl), (Nat.le_of_ble_eq_true rfl)⟩) hS (fun q _ h => hFc q h) hFc (fun u t H1 locs ht hvm hw hB hz1 hk1 hS => ?_)
          obtain ⟨hP1, hD1⟩ := hB
          rw [ht] at hP1
          obtain ⟨hP, hD⟩ := PDq.join (w := [(oX3 p0 pr pb pe pg p1 (nI nd) p2 p3 p4 p5 (nI cn) p6 (nI qmi) p7 p8 p9 (nI smi)), (p2, .inl (cA 1, 10, .inr (.inl fna))), (p6, .inl (cA 1, 8, .inr (.inl f7_1))), (p7, .inl (cA 0, 350, .inl f8_1)), (p8, .inl (cA 0, 350, .inl f9_1)), (oX4 r0 r1 p0 (nI (tii + 1)) (fk (tii + 1)) (ft (tii + 1)) (fv (tii + 1)) u0_6_1 iek iep), (oX5 r1 k1 k2 k3 (nI ct)), (k1, .inl (cA 0, 701, .inl fk)), (k2, .inl (cA 0, 701, .inl ft)), (k3, .inl (cA 1, 701, .inr (.inl fv)))]) 5 hP hD [0, 1, 2, 3, 4] [5, 6, 7, 8, 9] rfl rfl (by decide) (by decide +kernel) hk1 hFc hP1 hD1 rfl
          generalize H1 = H at hP hS ⊢
          refine lv_aload_n hx hb dX4_readCondition_38 rfl (lv_at hl 2 rfl) ?_
          refine lv_iload_n hx hb dX4_readCondition_39 rfl (lv_at hl 3 rfl) ?_
          obtain ⟨hPc, hDc, hFc⟩ := PDq.cut (wc := [(oX4 r0 r1 p0 (nI (tii + 1)) (fk (tii + 1)) (ft (tii + 1)) (fv (tii + 1)) u0_6_1 iek iep), (oX5 r1 k1 k2 k3 (nI ct)), (k1, .inl (cA 0, 701, .inl fk)), (k2, .inl (cA 0, 701, .inl ft)), (k3, .inl (cA 1, 701, .inr (.inl fv))), (oX3 p0 pr pb pe pg p1 (nI nd) p2 p3 p4 p5 (nI cn) p6 (nI qmi) p7 p8 p9 (nI smi)), (p2, .inl (cA 1, 10, .inr (.inl fna))), (p6, .inl (cA 1, 8, .inr (.inl f7_1))), (p7, .inl (cA 0, 350, .inl f8_1)), (p8, .inl (cA 0, 350, .inl f9_1))]) hP hD hS hA [5, 6, 7, 8, 9, 0, 1, 2, 3, 4] (by decide +kernel) rfl
          refine va_calli (va_runV (As := [.int (nI o9)]) (rest := []) ⟨hx, hb, hml, hown, hts⟩ (x_readBoth_B l D cA sa r0 p0 (tii + 1) ln u0_6_1 iek iep r1 k1 k2 k3 ct fk ft fv fb gP gR p1 p2 p3 p4 p5 p6 p7 p8 p9 cn qmi nd smi pr pb pe pg fna f7_1 f8_1 f9_1 ml pli (sl + 2) o9 H.size hct hln hn29.1 hTX hcn hv2_1 hnd hv3_1 hNM hv6_1 (by omega) ho) (cwV 1 hts gX4_readCondition_X4_readBoth rfl rfl rfl (by decide +kernel) ⟨by show (21) + 1 ≤ 22; omega, by show 8 + (4 + 11) + (344) ≤ 368; omega⟩) ⟨Wd.blind, va_recv hK hPc (ci := 8) (q0 := 0) rfl rfl, fun U hU hW => ⟨rfl, Wd.call hPc hDc hK hC hZ hS hFc U hU hW⟩⟩ rfl rfl hl.1 rfl (lv_room (Nat.le_of_ble_eq_true rfl)) dX4_readCondition_40 ⟨(Nat.le_of_ble_eq_true rfl), (Nat.le_of_ble_eq_true rfl)⟩) hS (fun q _ h => hFc q h) hFc (fun rn31 u t H1 locs ht hvm hw hB hz1 hk1 hS => ?_)
          obtain ⟨qn32, qn33, qn34, zn35, zn36, zn37, fn38, fn39, fn40, zn41, hn42, hn43, hn44, hn45, hn46, hn47, hn48, hn49, hn50, hn51, hn52, hn53, hn54, hP1, hD1⟩ := hB
          rw [ht] at hP1
          obtain ⟨hP, hD⟩ := PDq.join (w := [(oX4 r0 r1 p0 (nI qn32) (fk qn32) (ft qn32) (fv qn32) zn35 zn36 zn37), (oX5 r1 k1 k2 k3 (nI ct)), (k1, .inl (cA 0, 701, .inl fk)), (k2, .inl (cA 0, 701, .inl ft)), (k3, .inl (cA 1, 701, .inr (.inl fv))), (oX3 p0 pr pb pe pg p1 (nI nd) p2 p3 p4 p5 (nI cn) p6 (nI qn33) p7 p8 p9 (nI qn34)), (p2, .inl (cA 1, 10, .inr (.inl fna))), (p6, .inl (cA 1, 8, .inr (.inl fn38))), (p7, .inl (cA 0, 350, .inl fn39)), (p8, .inl (cA 0, 350, .inl fn40))]) 0 hP hD [5, 6, 7, 8, 9, 0, 1, 2, 3, 4] [] rfl rfl (by decide) (by decide +kernel) hk1 hFc hP1 hD1 rfl
          generalize H1 = H at hP hS ⊢
          rcases hw.2 with hr9 | hr9
          · skip
            have hn54 := hn54 (hw.1.trans hr9)
            subst hr9
            refine lv_if_eq (tgt := 63) hx hb dX4_readCondition_43 (by decide) (fun c55 => ?_) (fun c9 => absurd c9 (by decide))
            refine lv_iconst (v := 0) hx hb dX4_readCondition_63 (by decide) ?_
            refine lv_istore_n (lv' := [(2, .int 0), (3, .int (nI i1)), (0, .ref r0), (1, .int (nI o9))]) hx hb dX4_readCondition_64 rfl hl (by decide) rfl (fun ls hl => ?_)
            refine lv_iinc (v := (nI (i1 + 1))) (lv' := [(3, .int (nI (i1 + 1))), (2, .int 0), (0, .ref r0), (1, .int (nI o9))]) hx hb dX4_readCondition_65 hl (k := 1) rfl (nI_1 _) (by decide) rfl (fun ls hl => ?_)
            refine lv_goto (tgt := 8) hx hb dX4_readCondition_68 (by decide) ?_
            refine lv_iload_n hx hb dX4_readCondition_8 rfl (lv_at hl 1 rfl) ?_
            refine lv_if_eq (tgt := 71) hx hb dX4_readCondition_9 (by decide) (fun c56 => ?_) (fun c9 => absurd c9 (by decide))
            refine lv_iload_n hx hb dX4_readCondition_71 rfl (lv_at hl 1 rfl) ?_
            obtain ⟨hP9, hD9⟩ := PDq.sub (ws' := [(oX4 r0 r1 p0 (nI qn32) (fk qn32) (ft qn32) (fv qn32) zn35 zn36 zn37), (oX5 r1 k1 k2 k3 (nI ct)), (k1, .inl (cA 0, 701, .inl fk)), (k2, .inl (cA 0, 701, .inl ft)), (k3, .inl (cA 1, 701, .inr (.inl fv))), (oX3 p0 pr pb pe pg p1 (nI nd) p2 p3 p4 p5 (nI cn) p6 (nI qn33) p7 p8 p9 (nI qn34)), (p2, .inl (cA 1, 10, .inr (.inl fna))), (p6, .inl (cA 1, 8, .inr (.inl fn38))), (p7, .inl (cA 0, 350, .inl fn39)), (p8, .inl (cA 0, 350, .inl fn40))]) hP hD [0, 1, 2, 3, 4, 5, 6, 7, 8, 9] (by decide +kernel) rfl
            refine W.widen (k := 0) (n := 0) (Nat.le_of_ble_eq_true rfl) (Nat.le_of_ble_eq_true rfl) ?_
            exact (W.zret (v := 0) hx hb hr (by first | rfl | decide) (fun t ht hW => ⟨⟨0, 0, rfl, ⟨rfl, by decide⟩, qn32, qn33, qn34, zn35, zn36, zn37, fn38, fn39, fn40, zn41, hn42, hn43, (by omega), hn45, hn46, hn47, (fun h9 => absurd h9 (by decide)), (fun h9 => absurd h9 (by decide)), (fun h9 => absurd h9 (by decide)), (fun h9 => absurd h9 (by decide)), (fun h9 => absurd h9 (by decide)), (fun h9 => absurd h9 (by decide)), (fun _ => (hv7_1 _ (P_orE c28 hn54))), by rw [ht]; exact hP9, hD9⟩, hS.F ht⟩) hS.2.2 dX4_readCondition_72)
          · skip
            have hn48 := hn48 (hw.1.trans hr9)
            obtain rfl : iek = zn36 := hn48.symm
            obtain ⟨hP, hD⟩ : PDq D A [(oX4 r0 r1 p0 (nI qn32) (fk qn32) (ft qn32) (fv qn32) zn35 iek zn37), (oX5 r1 k1 k2 k3 (nI ct)), (k1, .inl (cA 0, 701, .inl fk)), (k2, .inl (cA 0, 701, .inl ft)), (k3, .inl (cA 1, 701, .inr (.inl fv))), (oX3 p0 pr pb pe pg p1 (nI nd) p2 p3 p4 p5 (nI cn) p6 (nI qn33) p7 p8 p9 (nI qn34)), (p2, .inl (cA 1, 10, .inr (.inl fna))), (p6, .inl (cA 1, 8, .inr (.inl fn38))), (p7, .inl (cA 0, 350, .inl fn39)), (p8, .inl (cA 0, 350, .inl fn40))] H := ⟨hP, hD⟩
            have hn49 := hn49 (hw.1.trans hr9)
            obtain rfl : iep = zn37 := hn49.symm
            obtain ⟨hP, hD⟩ : PDq D A [(oX4 r0 r1 p0 (nI qn32) (fk qn32) (ft qn32) (fv qn32) zn35 iek iep), (oX5 r1 k1 k2 k3 (nI ct)), (k1, .inl (cA 0, 701, .inl fk)), (k2, .inl (cA 0, 701, .inl ft)), (k3, .inl (cA 1, 701, .inr (.inl fv))), (oX3 p0 pr pb pe pg p1 (nI nd) p2 p3 p4 p5 (nI cn) p6 (nI qn33) p7 p8 p9 (nI qn34)), (p2, .inl (cA 1, 10, .inr (.inl fna))), (p6, .inl (cA 1, 8, .inr (.inl fn38))), (p7, .inl (cA 0, 350, .inl fn39)), (p8, .inl (cA 0, 350, .inl fn40))] H := ⟨hP, hD⟩
            have hn50 := hn50 (hw.1.trans hr9)
            have hn51 := hn51 (hw.1.trans hr9)
            have hn52 := hn52 (hw.1.trans hr9)
            have hn53 := hn53 (hw.1.trans hr9)
            subst hr9
            refine lv_if_eq (tgt := 63) hx hb dX4_readCondition_43 (by decide) (fun c9 => absurd c9 (by decide)) (fun c57 => ?_)
            refine lv_aload_n hx hb dX4_readCondition_46 rfl (lv_at hl 2 rfl) ?_
            refine va_get (D := D) (ci := 8) (v := .ref p0) (C := RX4) (T := TX4) (N := 9) hx hb hts inX4 hown hK hP 0 rfl rfl 1 (by decide) (hts (.fieldLink RX4 25 "EscrowDesk$Reader" "plan" "LEscrowDesk$Plan;") (by decide +kernel)) (fun _ h9 => h9) rfl dX4_readCondition_47 ?_
            refine lv_bipush (v := 14) hx hb dX4_readCondition_50 (by decide) ?_
            refine lv_iconst (v := 0) hx hb dX4_readCondition_52 (by decide) ?_
            obtain ⟨hPc, hDc, hFc⟩ := PDq.cut (wc := [(oX3 p0 pr pb pe pg p1 (nI nd) p2 p3 p4 p5 (nI cn) p6 (nI qn33) p7 p8 p9 (nI qn34)), (p7, .inl (cA 0, 350, .inl fn39)), (p8, .inl (cA 0, 350, .inl fn40))]) hP hD hS hA [5, 8, 9] (by decide) rfl
            refine va_calli (va_runV (As := [.int 14, .int 0]) (rest := []) ⟨hx, hb, hml, hown, hts⟩ (x_addStep l D cA sa p0 p1 p2 p3 p4 p5 p6 p7 p8 p9 cn qn33 nd qn34 pr pb pe pg 14 0 fn39 fn40 H.size (by omega)) (cwV 2 hts gX4_readCondition_X3_addStep rfl rfl rfl (by decide +kernel) ⟨by show (0) + 1 ≤ 22; omega, by show 8 + (3 + 11) + (0) ≤ 368; omega⟩) ⟨Wd.blind, va_recv hK hPc (ci := 7) (q0 := 0) rfl rfl, fun U hU hW => ⟨rfl, Wd.call hPc hDc hK hC hZ hS hFc U hU hW⟩⟩ rfl rfl hl.1 rfl (lv_room (Nat.le_of_ble_eq_true rfl)) dX4_readCondition_53 ⟨(Nat.le_of_ble_eq_true rfl), (Nat.le_of_ble_eq_true rfl)⟩) hS (fun q _ h => hFc q h) hFc (fun rn58 u t H1 locs ht hvm hw hB hz1 hk1 hS => ?_)
            obtain ⟨fn59, fn60, hn61, hn62, hP1, hD1⟩ := hB
            rw [ht] at hP1
            obtain ⟨hP, hD⟩ := PDq.join (w := [(oX4 r0 r1 p0 (nI qn32) (fk qn32) (ft qn32) (fv qn32) zn35 iek iep), (oX5 r1 k1 k2 k3 (nI ct)), (k1, .inl (cA 0, 701, .inl fk)), (k2, .inl (cA 0, 701, .inl ft)), (k3, .inl (cA 1, 701, .inr (.inl fv))), (p2, .inl (cA 1, 10, .inr (.inl fna))), (p6, .inl (cA 1, 8, .inr (.inl fn38))), (oX3 p0 pr pb pe pg p1 (nI nd) p2 p3 p4 p5 (nI cn) p6 (nI qn33) p7 p8 p9 (nI (qn34 + 1))), (p7, .inl (cA 0, 350, .inl fn59)), (p8, .inl (cA 0, 350, .inl fn60))]) 7 hP hD [5, 8, 9] [0, 1, 2, 3, 4, 6, 7] rfl rfl (by decide) (by decide +kernel) hk1 hFc hP1 hD1 rfl
            generalize H1 = H at hP hS ⊢
            obtain rfl : rn58 = 1 := hw
            refine lv_if_eq (tgt := 63) hx hb dX4_readCondition_56 (by decide) (fun c9 => absurd c9 (by decide)) (fun c63 => ?_)
            refine lv_iconst (v := 1) hx hb dX4_readCondition_59 (by decide) ?_
            refine lv_goto (tgt := 64) hx hb dX4_readCondition_60 (by decide) ?_
            refine lv_istore_n (lv' := [(2, .int 1), (3, .int (nI i1)), (0, .ref r0), (1, .int (nI o9))]) hx hb dX4_readCondition_64 rfl hl (by decide) rfl (fun ls hl => ?_)
            refine lv_iinc (v := (nI (i1 + 1))) (lv' := [(3, .int (nI (i1 + 1))), (2, .int 1), (0, .ref r0), (1, .int (nI o9))]) hx hb dX4_readCondition_65 hl (k := 1) rfl (nI_1 _) (by decide) rfl (fun ls hl => ?_)
            refine lv_goto (tgt := 8) hx hb dX4_readCondition_68 (by decide) ?_
            obtain ⟨hP9, hD9⟩ := PDq.sub (ws' := [(oX4 r0 r1 p0 (nI qn32) (fk qn32) (ft qn32) (fv qn32) zn35 iek iep), (oX5 r1 k1 k2 k3 (nI ct)), (k1, .inl (cA 0, 701, .inl fk)), (k2, .inl (cA 0, 701, .inl ft)), (k3, .inl (cA 1, 701, .inr (.inl fv))), (oX3 p0 pr pb pe pg p1 (nI nd) p2 p3 p4 p5 (nI cn) p6 (nI qn33) p7 p8 p9 (nI (qn34 + 1))), (p2, .inl (cA 1, 10, .inr (.inl fna))), (p6, .inl (cA 1, 8, .inr (.inl fn38))), (p7, .inl (cA 0, 350, .inl fn59)), (p8, .inl (cA 0, 350, .inl fn60))]) hP hD [0, 1, 2, 3, 4, 7, 5, 6, 8, 9] (by decide +kernel) rfl
            exact ih1 (i1 + 1) zn41 qn32 zn35 qn33 (qn34 + 1) fn38 fn59 fn60 H _ ls (by omega) (by omega) hn42 hn45 (by omega) (by omega) hn43 hn47 (fun r9 h9 => hv7_1 r9 (P_or c28 hn52 h9)) (CDL.or hv8_1 c28 hn53 hn61 hn62 rfl (by have q9 := hNM.1; omega) (by have q9 := hn47.1; omega)) hP9 hD9 hS (lv_sub hl [0, 1, 2, 3] rfl)
    obtain ⟨hP9, hD9⟩ := PDq.sub (ws' := [(oX4 r0 r1 p0 (nI qn2) (fk qn2) (ft qn2) (fv qn2) zn5 iek iep), (oX5 r1 k1 k2 k3 (nI ct)), (k1, .inl (cA 0, 701, .inl fk)), (k2, .inl (cA 0, 701, .inl ft)), (k3, .inl (cA 1, 701, .inr (.inl fv))), (oX3 p0 pr pb pe pg p1 (nI nd) p2 p3 p4 p5 (nI cn) p6 (nI qn3) p7 p8 p9 (nI qn4)), (p2, .inl (cA 1, 10, .inr (.inl fna))), (p6, .inl (cA 1, 8, .inr (.inl fn8))), (p7, .inl (cA 0, 350, .inl fn9)), (p8, .inl (cA 0, 350, .inl fn10))]) hP hD [0, 1, 2, 3, 4, 5, 6, 7, 8, 9] (by decide +kernel) rfl
    exact loop1 (700 - 0) 0 zn11 qn2 zn5 qn3 qn4 fn8 fn9 fn10 _ _ ls (by omega) (by omega) hn12 hn15 hn16 hn20 hn13 hn17 (fun r9 h9 => P_cond hn22 h9) (CDL.cond hn23) hP9 hD9 hS (lv_sub hl [0, 1, 2, 3] rfl)

def XFactC (l : Launch) (D : va_G) (cA : Nat → ClassId) (sa : Nat → Nat) (k9 : Nat) : Prop := ∀ (r0 : Nat) (p0 : Nat) (ti : Nat) (ln : Nat) (inb : Int32) (iek : Int32) (iep : Int32) (r1 : Nat) (k1 : Nat) (k2 : Nat) (k3 : Nat) (ct : Nat) (fk : Nat → Int32) (ft : Nat → Int32) (fv : Nat → Int64) (fb : Nat → Int32) (gP : Nat → Nat) (gR : Nat → Nat) (p1 : Nat) (p2 : Nat) (p3 : Nat) (p4 : Nat) (p5 : Nat) (p6 : Nat) (p7 : Nat) (p8 : Nat) (p9 : Nat) (cn : Nat) (pq : Nat) (nd : Nat) (sc : Nat) (pr : Int32) (pb : Int32) (pe : Int32) (pg : Int32) (fna : Nat → Int64) (fpn : Nat → Int64) (fst : Nat → Int32) (fop : Nat → Int32) (ml : List Int64) (pl : List Int64) (sl : Nat) (o9 : Nat) (sz : Nat) (hct : ct ≤ 701) (hln : ln ≤ 700) (hti : ti < ct) (hTX : TX fb ln ct gP gR ft fv fk) (hcn : cn ≤ 10) (hpq : pq ≤ 8) (hnd : nd ≤ 6) (hsc : sc ≤ 350) (hNM : NL ml cn fna) (hNP : NL pl pq fpn) (hsl : 2 * sc + sl ≤ gP ti) (ho : o9 + k9 = 8), Met l yX4_readFact wsX4_readFact ({ frames := 3 * k9 + 20, cells := 0, slots := 0, locals := 72 * k9 + 320 }) (va_Pc [.ref r0, .int (nI o9)] (Wd D cA sa [(oX4 r0 r1 p0 (nI ti) (fk ti) (ft ti) (fv ti) inb iek iep), (oX5 r1 k1 k2 k3 (nI ct)), (k1, .inl (cA 0, 701, .inl fk)), (k2, .inl (cA 0, 701, .inl ft)), (k3, .inl (cA 1, 701, .inr (.inl fv))), (oX3 p0 pr pb pe pg p1 (nI nd) p2 p3 p4 p5 (nI cn) p6 (nI pq) p7 p8 p9 (nI sc)), (p2, .inl (cA 1, 10, .inr (.inl fna))), (p6, .inl (cA 1, 8, .inr (.inl fpn))), (p7, .inl (cA 0, 350, .inl fst)), (p8, .inl (cA 0, 350, .inl fop))] sz)) (va_Qi (fun (r : Int32) (u9 : Int32) => u9 = r ∧ (r = 0 ∨ r = 1)) (fun (u9 : Int32) t => ∃ tj : Nat, ∃ qm : Nat, ∃ sm : Nat, ∃ znr : Int32, ∃ zek : Int32, ∃ zep : Int32, ∃ zpn : Nat → Int64, ∃ zst : Nat → Int32, ∃ zop : Nat → Int32, ∃ zpl : List Int64, tj < ct ∧ gP tj ≤ ln ∧ ti ≤ tj ∧ qm ≤ 8 ∧ sm ≤ 350 ∧ NL zpl qm zpn ∧ (u9 = 1 → zek = iek) ∧ (u9 = 1 → zep = iep) ∧ (u9 = 1 → 2 * sm + sl ≤ gP tj) ∧ (u9 = 1 → ti + 1 ≤ tj) ∧ (u9 = 1 → PRx fk ft fv ml 0 o9 ti pl (.inr (tj, zpl))) ∧ (u9 = 1 → CD9 fk fv 0 ti tj ml pl zpl sc sm fst fop zst zop) ∧ (u9 = 0 → PRx fk ft fv ml 0 o9 ti pl (.inl (zek, zep))) ∧ Wq D (va_A [(oX4 r0 r1 p0 (nI ti) (fk ti) (ft ti) (fv ti) inb iek iep), (oX5 r1 k1 k2 k3 (nI ct)), (k1, .inl (cA 0, 701, .inl fk)), (k2, .inl (cA 0, 701, .inl ft)), (k3, .inl (cA 1, 701, .inr (.inl fv))), (oX3 p0 pr pb pe pg p1 (nI nd) p2 p3 p4 p5 (nI cn) p6 (nI pq) p7 p8 p9 (nI sc)), (p2, .inl (cA 1, 10, .inr (.inl fna))), (p6, .inl (cA 1, 8, .inr (.inl fpn))), (p7, .inl (cA 0, 350, .inl fst)), (p8, .inl (cA 0, 350, .inl fop))] sz) [(oX4 r0 r1 p0 (nI tj) (fk tj) (ft tj) (fv tj) znr zek zep), (oX5 r1 k1 k2 k3 (nI ct)), (k1, .inl (cA 0, 701, .inl fk)), (k2, .inl (cA 0, 701, .inl ft)), (k3, .inl (cA 1, 701, .inr (.inl fv))), (oX3 p0 pr pb pe pg p1 (nI nd) p2 p3 p4 p5 (nI cn) p6 (nI qm) p7 p8 p9 (nI sm)), (p2, .inl (cA 1, 10, .inr (.inl fna))), (p6, .inl (cA 1, 8, .inr (.inl zpn))), (p7, .inl (cA 0, 350, .inl zst)), (p8, .inl (cA 0, 350, .inl zop))] t) (va_A [(oX4 r0 r1 p0 (nI ti) (fk ti) (ft ti) (fv ti) inb iek iep), (oX5 r1 k1 k2 k3 (nI ct)), (k1, .inl (cA 0, 701, .inl fk)), (k2, .inl (cA 0, 701, .inl ft)), (k3, .inl (cA 1, 701, .inr (.inl fv))), (oX3 p0 pr pb pe pg p1 (nI nd) p2 p3 p4 p5 (nI cn) p6 (nI pq) p7 p8 p9 (nI sc)), (p2, .inl (cA 1, 10, .inr (.inl fna))), (p6, .inl (cA 1, 8, .inr (.inl fpn))), (p7, .inl (cA 0, 350, .inl fst)), (p8, .inl (cA 0, 350, .inl fop))] sz)) 0 0 (va_A [(oX4 r0 r1 p0 (nI ti) (fk ti) (ft ti) (fv ti) inb iek iep), (oX5 r1 k1 k2 k3 (nI ct)), (k1, .inl (cA 0, 701, .inl fk)), (k2, .inl (cA 0, 701, .inl ft)), (k3, .inl (cA 1, 701, .inr (.inl fv))), (oX3 p0 pr pb pe pg p1 (nI nd) p2 p3 p4 p5 (nI cn) p6 (nI pq) p7 p8 p9 (nI sc)), (p2, .inl (cA 1, 10, .inr (.inl fna))), (p6, .inl (cA 1, 8, .inr (.inl fpn))), (p7, .inl (cA 0, 350, .inl fst)), (p8, .inl (cA 0, 350, .inl fop))] sz)
def XCondC (l : Launch) (D : va_G) (cA : Nat → ClassId) (sa : Nat → Nat) (k9 : Nat) : Prop := ∀ (r0 : Nat) (p0 : Nat) (ti : Nat) (ln : Nat) (inb : Int32) (iek : Int32) (iep : Int32) (r1 : Nat) (k1 : Nat) (k2 : Nat) (k3 : Nat) (ct : Nat) (fk : Nat → Int32) (ft : Nat → Int32) (fv : Nat → Int64) (fb : Nat → Int32) (gP : Nat → Nat) (gR : Nat → Nat) (p1 : Nat) (p2 : Nat) (p3 : Nat) (p4 : Nat) (p5 : Nat) (p6 : Nat) (p7 : Nat) (p8 : Nat) (p9 : Nat) (cn : Nat) (pq : Nat) (nd : Nat) (sc : Nat) (pr : Int32) (pb : Int32) (pe : Int32) (pg : Int32) (fna : Nat → Int64) (fpn : Nat → Int64) (fst : Nat → Int32) (fop : Nat → Int32) (ml : List Int64) (pl : List Int64) (sl : Nat) (o9 : Nat) (sz : Nat) (hct : ct ≤ 701) (hln : ln ≤ 700) (hti : ti < ct) (hTX : TX fb ln ct gP gR ft fv fk) (hcn : cn ≤ 10) (hpq : pq ≤ 8) (hnd : nd ≤ 6) (hsc : sc ≤ 350) (hNM : NL ml cn fna) (hNP : NL pl pq fpn) (hsl : 2 * sc + sl ≤ gP ti) (ho : o9 + k9 = 8), Met l yX4_readCondition wsX4_readCondition ({ frames := 3 * k9 + 22, cells := 0, slots := 0, locals := 72 * k9 + 368 }) (va_Pc [.ref r0, .int (nI o9)] (Wd D cA sa [(oX4 r0 r1 p0 (nI ti) (fk ti) (ft ti) (fv ti) inb iek iep), (oX5 r1 k1 k2 k3 (nI ct)), (k1, .inl (cA 0, 701, .inl fk)), (k2, .inl (cA 0, 701, .inl ft)), (k3, .inl (cA 1, 701, .inr (.inl fv))), (oX3 p0 pr pb pe pg p1 (nI nd) p2 p3 p4 p5 (nI cn) p6 (nI pq) p7 p8 p9 (nI sc)), (p2, .inl (cA 1, 10, .inr (.inl fna))), (p6, .inl (cA 1, 8, .inr (.inl fpn))), (p7, .inl (cA 0, 350, .inl fst)), (p8, .inl (cA 0, 350, .inl fop))] sz)) (va_Qi (fun (r : Int32) (u9 : Int32) => u9 = r ∧ (r = 0 ∨ r = 1)) (fun (u9 : Int32) t => ∃ tj : Nat, ∃ qm : Nat, ∃ sm : Nat, ∃ znr : Int32, ∃ zek : Int32, ∃ zep : Int32, ∃ zpn : Nat → Int64, ∃ zst : Nat → Int32, ∃ zop : Nat → Int32, ∃ zpl : List Int64, tj < ct ∧ gP tj ≤ ln ∧ ti ≤ tj ∧ qm ≤ 8 ∧ sm ≤ 350 ∧ NL zpl qm zpn ∧ (u9 = 1 → zek = iek) ∧ (u9 = 1 → zep = iep) ∧ (u9 = 1 → 2 * sm + sl ≤ gP tj) ∧ (u9 = 1 → ti + 1 ≤ tj) ∧ (u9 = 1 → PRx fk ft fv ml 3 o9 ti pl (.inr (tj, zpl))) ∧ (u9 = 1 → CD9 fk fv 3 ti tj ml pl zpl sc sm fst fop zst zop) ∧ (u9 = 0 → PRx fk ft fv ml 3 o9 ti pl (.inl (zek, zep))) ∧ Wq D (va_A [(oX4 r0 r1 p0 (nI ti) (fk ti) (ft ti) (fv ti) inb iek iep), (oX5 r1 k1 k2 k3 (nI ct)), (k1, .inl (cA 0, 701, .inl fk)), (k2, .inl (cA 0, 701, .inl ft)), (k3, .inl (cA 1, 701, .inr (.inl fv))), (oX3 p0 pr pb pe pg p1 (nI nd) p2 p3 p4 p5 (nI cn) p6 (nI pq) p7 p8 p9 (nI sc)), (p2, .inl (cA 1, 10, .inr (.inl fna))), (p6, .inl (cA 1, 8, .inr (.inl fpn))), (p7, .inl (cA 0, 350, .inl fst)), (p8, .inl (cA 0, 350, .inl fop))] sz) [(oX4 r0 r1 p0 (nI tj) (fk tj) (ft tj) (fv tj) znr zek zep), (oX5 r1 k1 k2 k3 (nI ct)), (k1, .inl (cA 0, 701, .inl fk)), (k2, .inl (cA 0, 701, .inl ft)), (k3, .inl (cA 1, 701, .inr (.inl fv))), (oX3 p0 pr pb pe pg p1 (nI nd) p2 p3 p4 p5 (nI cn) p6 (nI qm) p7 p8 p9 (nI sm)), (p2, .inl (cA 1, 10, .inr (.inl fna))), (p6, .inl (cA 1, 8, .inr (.inl zpn))), (p7, .inl (cA 0, 350, .inl zst)), (p8, .inl (cA 0, 350, .inl zop))] t) (va_A [(oX4 r0 r1 p0 (nI ti) (fk ti) (ft ti) (fv ti) inb iek iep), (oX5 r1 k1 k2 k3 (nI ct)), (k1, .inl (cA 0, 701, .inl fk)), (k2, .inl (cA 0, 701, .inl ft)), (k3, .inl (cA 1, 701, .inr (.inl fv))), (oX3 p0 pr pb pe pg p1 (nI nd) p2 p3 p4 p5 (nI cn) p6 (nI pq) p7 p8 p9 (nI sc)), (p2, .inl (cA 1, 10, .inr (.inl fna))), (p6, .inl (cA 1, 8, .inr (.inl fpn))), (p7, .inl (cA 0, 350, .inl fst)), (p8, .inl (cA 0, 350, .inl fop))] sz)) 0 0 (va_A [(oX4 r0 r1 p0 (nI ti) (fk ti) (ft ti) (fv ti) inb iek iep), (oX5 r1 k1 k2 k3 (nI ct)), (k1, .inl (cA 0, 701, .inl fk)), (k2, .inl (cA 0, 701, .inl ft)), (k3, .inl (cA 1, 701, .inr (.inl fv))), (oX3 p0 pr pb pe pg p1 (nI nd) p2 p3 p4 p5 (nI cn) p6 (nI pq) p7 p8 p9 (nI sc)), (p2, .inl (cA 1, 10, .inr (.inl fna))), (p6, .inl (cA 1, 8, .inr (.inl fpn))), (p7, .inl (cA 0, 350, .inl fst)), (p8, .inl (cA 0, 350, .inl fop))] sz)
set_option maxHeartbeats 4000000 in
set_option maxRecDepth 100000 in
/-- readFact -/
theorem x_readFact_S (l : Launch) (D : va_G) (cA : Nat → ClassId) (sa : Nat → Nat) (k9 : Nat) (IHf : XFactC l D cA sa k9) (IHc : XCondC l D cA sa k9) (r0 : Nat) (p0 : Nat) (ti : Nat) (ln : Nat) (inb : Int32) (iek : Int32) (iep : Int32) (r1 : Nat) (k1 : Nat) (k2 : Nat) (k3 : Nat) (ct : Nat) (fk : Nat → Int32) (ft : Nat → Int32) (fv : Nat → Int64) (fb : Nat → Int32) (gP : Nat → Nat) (gR : Nat → Nat) (p1 : Nat) (p2 : Nat) (p3 : Nat) (p4 : Nat) (p5 : Nat) (p6 : Nat) (p7 : Nat) (p8 : Nat) (p9 : Nat) (cn : Nat) (pq : Nat) (nd : Nat) (sc : Nat) (pr : Int32) (pb : Int32) (pe : Int32) (pg : Int32) (fna : Nat → Int64) (fpn : Nat → Int64) (fst : Nat → Int32) (fop : Nat → Int32) (ml : List Int64) (pl : List Int64) (sl : Nat) (o9 : Nat) (sz : Nat) (hct : ct ≤ 701) (hln : ln ≤ 700) (hti : ti < ct) (hTX : TX fb ln ct gP gR ft fv fk) (hcn : cn ≤ 10) (hpq : pq ≤ 8) (hnd : nd ≤ 6) (hsc : sc ≤ 350) (hNM : NL ml cn fna) (hNP : NL pl pq fpn) (hsl : 2 * sc + sl ≤ gP ti) (ho : o9 + (k9 + 1) = 8) : Met l yX4_readFact wsX4_readFact ({ frames := 3 * (k9 + 1) + 20, cells := 0, slots := 0, locals := 72 * (k9 + 1) + 320 }) (va_Pc [.ref r0, .int (nI o9)] (Wd D cA sa [(oX4 r0 r1 p0 (nI ti) (fk ti) (ft ti) (fv ti) inb iek iep), (oX5 r1 k1 k2 k3 (nI ct)), (k1, .inl (cA 0, 701, .inl fk)), (k2, .inl (cA 0, 701, .inl ft)), (k3, .inl (cA 1, 701, .inr (.inl fv))), (oX3 p0 pr pb pe pg p1 (nI nd) p2 p3 p4 p5 (nI cn) p6 (nI pq) p7 p8 p9 (nI sc)), (p2, .inl (cA 1, 10, .inr (.inl fna))), (p6, .inl (cA 1, 8, .inr (.inl fpn))), (p7, .inl (cA 0, 350, .inl fst)), (p8, .inl (cA 0, 350, .inl fop))] sz)) (va_Qi (fun (r : Int32) (u9 : Int32) => u9 = r ∧ (r = 0 ∨ r = 1)) (fun (u9 : Int32) t => ∃ tj : Nat, ∃ qm : Nat, ∃ sm : Nat, ∃ znr : Int32, ∃ zek : Int32, ∃ zep : Int32, ∃ zpn : Nat → Int64, ∃ zst : Nat → Int32, ∃ zop : Nat → Int32, ∃ zpl : List Int64, tj < ct ∧ gP tj ≤ ln ∧ ti ≤ tj ∧ qm ≤ 8 ∧ sm ≤ 350 ∧ NL zpl qm zpn ∧ (u9 = 1 → zek = iek) ∧ (u9 = 1 → zep = iep) ∧ (u9 = 1 → 2 * sm + sl ≤ gP tj) ∧ (u9 = 1 → ti + 1 ≤ tj) ∧ (u9 = 1 → PRx fk ft fv ml 0 o9 ti pl (.inr (tj, zpl))) ∧ (u9 = 1 → CD9 fk fv 0 ti tj ml pl zpl sc sm fst fop zst zop) ∧ (u9 = 0 → PRx fk ft fv ml 0 o9 ti pl (.inl (zek, zep))) ∧ Wq D (va_A [(oX4 r0 r1 p0 (nI ti) (fk ti) (ft ti) (fv ti) inb iek iep), (oX5 r1 k1 k2 k3 (nI ct)), (k1, .inl (cA 0, 701, .inl fk)), (k2, .inl (cA 0, 701, .inl ft)), (k3, .inl (cA 1, 701, .inr (.inl fv))), (oX3 p0 pr pb pe pg p1 (nI nd) p2 p3 p4 p5 (nI cn) p6 (nI pq) p7 p8 p9 (nI sc)), (p2, .inl (cA 1, 10, .inr (.inl fna))), (p6, .inl (cA 1, 8, .inr (.inl fpn))), (p7, .inl (cA 0, 350, .inl fst)), (p8, .inl (cA 0, 350, .inl fop))] sz) [(oX4 r0 r1 p0 (nI tj) (fk tj) (ft tj) (fv tj) znr zek zep), (oX5 r1 k1 k2 k3 (nI ct)), (k1, .inl (cA 0, 701, .inl fk)), (k2, .inl (cA 0, 701, .inl ft)), (k3, .inl (cA 1, 701, .inr (.inl fv))), (oX3 p0 pr pb pe pg p1 (nI nd) p2 p3 p4 p5 (nI cn) p6 (nI qm) p7 p8 p9 (nI sm)), (p2, .inl (cA 1, 10, .inr (.inl fna))), (p6, .inl (cA 1, 8, .inr (.inl zpn))), (p7, .inl (cA 0, 350, .inl zst)), (p8, .inl (cA 0, 350, .inl zop))] t) (va_A [(oX4 r0 r1 p0 (nI ti) (fk ti) (ft ti) (fv ti) inb iek iep), (oX5 r1 k1 k2 k3 (nI ct)), (k1, .inl (cA 0, 701, .inl fk)), (k2, .inl (cA 0, 701, .inl ft)), (k3, .inl (cA 1, 701, .inr (.inl fv))), (oX3 p0 pr pb pe pg p1 (nI nd) p2 p3 p4 p5 (nI cn) p6 (nI pq) p7 p8 p9 (nI sc)), (p2, .inl (cA 1, 10, .inr (.inl fna))), (p6, .inl (cA 1, 8, .inr (.inl fpn))), (p7, .inl (cA 0, 350, .inl fst)), (p8, .inl (cA 0, 350, .inl fop))] sz)) 0 0 (va_A [(oX4 r0 r1 p0 (nI ti) (fk ti) (ft ti) (fv ti) inb iek iep), (oX5 r1 k1 k2 k3 (nI ct)), (k1, .inl (cA 0, 701, .inl fk)), (k2, .inl (cA 0, 701, .inl ft)), (k3, .inl (cA 1, 701, .inr (.inl fv))), (oX3 p0 pr pb pe pg p1 (nI nd) p2 p3 p4 p5 (nI cn) p6 (nI pq) p7 p8 p9 (nI sc)), (p2, .inl (cA 1, 10, .inr (.inl fna))), (p6, .inl (cA 1, 8, .inr (.inl fpn))), (p7, .inl (cA 0, 350, .inl fst)), (p8, .inl (cA 0, 350, .inl fop))] sz) := by
  refine Met.ofW (cc := cX4_readFact) (maxL := 3) (ret := (some .boolean)) (by decide) rfl ?_
  intro p e s m args below meth c s₁ B hml hv
  obtain ⟨rfl, hsz, hP, hK, hD0, hC, hZ⟩ := hv
  have hx := B.exec
  have hb := B.bytes
  have hr := B.returns
  have hts := atoms_spec (ws := wsX4_readFact) B.pre
  have hown : s.vm.findClass RX4 = some m.cls := findClass_of_methodNamed B.named
  have hlocks := B.notSynchronized
  subst hsz
  have hD := hD0.self (sz := s.heap.size)
  generalize hAe : va_A [(oX4 r0 r1 p0 (nI ti) (fk ti) (ft ti) (fv ti) inb iek iep), (oX5 r1 k1 k2 k3 (nI ct)), (k1, .inl (cA 0, 701, .inl fk)), (k2, .inl (cA 0, 701, .inl ft)), (k3, .inl (cA 1, 701, .inr (.inl fv))), (oX3 p0 pr pb pe pg p1 (nI nd) p2 p3 p4 p5 (nI cn) p6 (nI pq) p7 p8 p9 (nI sc)), (p2, .inl (cA 1, 10, .inr (.inl fna))), (p6, .inl (cA 1, 8, .inr (.inl fpn))), (p7, .inl (cA 0, 350, .inl fst)), (p8, .inl (cA 0, 350, .inl fop))] s.heap.size = A at hD hZ ⊢
  have hA : ∀ q : Nat, s.heap.size ≤ q → A q := fun q h => by rw [← hAe]; exact Or.inr h
  have hS : va_S A s.heap s.heap [] := va_S.rf
  have hP : va_P D vwCl [(oX4 r0 r1 p0 (nI ti) (fk ti) (ft ti) (fv ti) inb iek iep), (oX5 r1 k1 k2 k3 (nI ct)), (k1, .inl (cA 0, 701, .inl fk)), (k2, .inl (cA 0, 701, .inl ft)), (k3, .inl (cA 1, 701, .inr (.inl fv))), (oX3 p0 pr pb pe pg p1 (nI nd) p2 p3 p4 p5 (nI cn) p6 (nI pq) p7 p8 p9 (nI sc)), (p2, .inl (cA 1, 10, .inr (.inl fna))), (p6, .inl (cA 1, 8, .inr (.inl fpn))), (p7, .inl (cA 0, 350, .inl fst)), (p8, .inl (cA 0, 350, .inl fop))] s.heap := hP
  have hl := lv_entry ([.ref r0, .int (nI o9)]) (n := 3) (Nat.le_of_ble_eq_true rfl)
  rw [lg_entry_eq]
  generalize (lg_sl ([.ref r0, .int (nI o9)]) ++ List.replicate (3 - (lg_sl ([.ref r0, .int (nI o9)])).length) Slot.unset).toArray = ls at hl ⊢
  have hl : lv_has ls 3 [(0, .ref r0), (1, .int (nI o9))] := hl
  have inX4 : ∀ w ∈ u_ws RX4 TX4 9, w ∈ wsX4_readFact := by decide +kernel
  have hle9 := TX.le hTX hti
  refine lv_aload_n hx hb dX4_readFact_0 rfl (lv_at hl 0 rfl) ?_
  refine va_get (D := D) (ci := 8) (v := .int (fk ti)) (C := RX4) (T := TX4) (N := 9) hx hb hts inX4 hown hK hP 0 rfl rfl 3 (by decide) (hts (.fieldLink RX4 42 "EscrowDesk$Reader" "kind" "I") (by decide +kernel)) (fun _ h9 => h9) rfl dX4_readFact_1 ?_
  refine lv_istore_n (lv' := [(2, .int (fk ti)), (0, .ref r0), (1, .int (nI o9))]) hx hb dX4_readFact_4 rfl hl (by decide) rfl (fun ls hl => ?_)
  refine lv_iload_n hx hb dX4_readFact_5 rfl (lv_at hl 0 rfl) ?_
  refine lv_bipush (v := 16) hx hb dX4_readFact_6 (by decide) ?_
  refine lv_icmp_eq (tgt := 16) hx hb dX4_readFact_8 (by decide) (fun c1 => ?_) (fun c1 => ?_)
  · skip
    rw [c1] at hl
    have hl : lv_has ls 3 [(2, .int 16), (0, .ref r0), (1, .int (nI o9))] := hl
    refine lv_iload_n hx hb dX4_readFact_16 rfl (lv_at hl 2 rfl) ?_
    refine lv_bipush (v := 8) hx hb dX4_readFact_17 (by decide) ?_
    refine lv_icmp_lt (tgt := 28) hx hb dX4_readFact_19 (by decide) (fun c2 => ?_) (fun c9 => absurd (nI_lt (a := o9) (b := 8) (show o9 < 8 by omega) (by omega)) c9)
    refine lv_iload_n hx hb dX4_readFact_28 rfl (lv_at hl 0 rfl) ?_
    obtain ⟨hPc, hDc, hFc⟩ := PDq.cut (wc := []) hP hD hS hA [] (by decide) rfl
    refine va_calli (va_runS (As := [.int 16]) (rest := []) ⟨hx, hb, hml, hown, hts⟩ (x_beginsFact l D cA sa 16 s.heap.size) (va_cwS 1 hts gX4_readFact_X7_beginsFact rfl rfl rfl (by decide +kernel) ⟨by show (0) + 1 ≤ 3 * (k9 + 1) + 20; omega, by show 8 + (1 + 11) + (0) ≤ 72 * (k9 + 1) + 320; omega⟩) ⟨Wd.blind, fun U hU hW => ⟨rfl, Wd.call hPc hDc hK hC hZ hS hFc U hU hW⟩⟩ rfl rfl hl.1 rfl (lv_room (Nat.le_of_ble_eq_true rfl)) dX4_readFact_29 ⟨(Nat.le_of_ble_eq_true rfl), (Nat.le_of_ble_eq_true rfl)⟩) hS (fun q _ h => hFc q h) hFc (fun rn3 u t H1 locs ht hvm hw hB hz1 hk1 hS => ?_)
    obtain ⟨hP1, hD1⟩ := hB
    rw [ht] at hP1
    obtain ⟨hP, hD⟩ := PDq.join (w := [(oX4 r0 r1 p0 (nI ti) (fk ti) (ft ti) (fv ti) inb iek iep), (oX5 r1 k1 k2 k3 (nI ct)), (k1, .inl (cA 0, 701, .inl fk)), (k2, .inl (cA 0, 701, .inl ft)), (k3, .inl (cA 1, 701, .inr (.inl fv))), (oX3 p0 pr pb pe pg p1 (nI nd) p2 p3 p4 p5 (nI cn) p6 (nI pq) p7 p8 p9 (nI sc)), (p2, .inl (cA 1, 10, .inr (.inl fna))), (p6, .inl (cA 1, 8, .inr (.inl fpn))), (p7, .inl (cA 0, 350, .inl fst)), (p8, .inl (cA 0, 350, .inl fop))]) 10 hP hD [] [0, 1, 2, 3, 4, 5, 6, 7, 8, 9] rfl rfl (by decide +kernel) (by decide +kernel) hk1 hFc hP1 hD1 rfl
    generalize H1 = H at hP hS ⊢
    rcases hw with ⟨hr9, hn4⟩ | ⟨hr9, hn4⟩
    · skip
      subst hr9
      refine lv_if_ne (tgt := 41) hx hb dX4_readFact_32 (by decide) (fun c5 => ?_) (fun c9 => absurd c9 (by decide))
      have hn6 := TX.go2 hTX hti (by rw [c1]; decide)
      have hn6a := hn6.2.1
      have hn6b := hn6.2.2
      have hn6c := hn6.1
      refine lv_aload_n hx hb dX4_readFact_41 rfl (lv_at hl 1 rfl) ?_
      refine lv_aload_n hx hb dX4_readFact_42 rfl (lv_at hl 1 rfl) ?_
      refine va_get (D := D) (ci := 8) (v := .int (nI ti)) (C := RX4) (T := TX4) (N := 9) hx hb hts inX4 hown hK hP 0 rfl rfl 2 (by decide) (hts (.fieldLink RX4 70 "EscrowDesk$Reader" "token" "I") (by decide +kernel)) (fun _ h9 => h9) rfl dX4_readFact_43 ?_
      refine lv_iconst (v := 1) hx hb dX4_readFact_46 (by decide) ?_
      refine lv_iadd hx hb dX4_readFact_47 ?_
      refine lv_topi (fun yn7 eyn7 => ?_)
      obtain rfl : yn7 = (nI (ti + 1)) := eyn7.trans (nI_add ti 1)
      obtain ⟨hPc, hDc, hFc⟩ := PDq.cut (wc := [(oX4 r0 r1 p0 (nI ti) (fk ti) (ft ti) (fv ti) inb iek iep), (oX5 r1 k1 k2 k3 (nI ct)), (k1, .inl (cA 0, 701, .inl fk)), (k2, .inl (cA 0, 701, .inl ft)), (k3, .inl (cA 1, 701, .inr (.inl fv)))]) hP hD hS hA [0, 1, 2, 3, 4] (by decide) rfl
      refine va_callv (va_runV (As := [.int (nI (ti + 1))]) (rest := []) ⟨hx, hb, hml, hown, hts⟩ (x_lookAt l D cA sa r0 p0 (ti + 1) (nI ti) (fk ti) (ft ti) inb iek iep (fv ti) r1 k1 k2 k3 ct fk ft fv H.size hct hn6.1) (cwV 1 hts gX4_readFact_X4_lookAt rfl rfl rfl (by decide +kernel) ⟨by show (0) + 1 ≤ 3 * (k9 + 1) + 20; omega, by show 8 + (2 + 11) + (0) ≤ 72 * (k9 + 1) + 320; omega⟩) ⟨Wd.blind, va_recv hK hPc (ci := 8) (q0 := 0) rfl rfl, fun U hU hW => ⟨rfl, Wd.call hPc hDc hK hC hZ hS hFc U hU hW⟩⟩ rfl rfl hl.1 rfl (lv_room (Nat.le_of_ble_eq_true rfl)) dX4_readFact_48 ⟨(Nat.le_of_ble_eq_true rfl), (Nat.le_of_ble_eq_true rfl)⟩) hS (fun q _ h => hFc q h) hFc (fun u t H1 locs ht hvm hw hB hz1 hk1 hS => ?_)
      obtain ⟨hP1, hD1⟩ := hB
      rw [ht] at hP1
      obtain ⟨hP, hD⟩ := PDq.join (w := [(oX3 p0 pr pb pe pg p1 (nI nd) p2 p3 p4 p5 (nI cn) p6 (nI pq) p7 p8 p9 (nI sc)), (p2, .inl (cA 1, 10, .inr (.inl fna))), (p6, .inl (cA 1, 8, .inr (.inl fpn))), (p7, .inl (cA 0, 350, .inl fst)), (p8, .inl (cA 0, 350, .inl fop)), (oX4 r0 r1 p0 (nI (ti + 1)) (fk (ti + 1)) (ft (ti + 1)) (fv (ti + 1)) inb iek iep), (oX5 r1 k1 k2 k3 (nI ct)), (k1, .inl (cA 0, 701, .inl fk)), (k2, .inl (cA 0, 701, .inl ft)), (k3, .inl (cA 1, 701, .inr (.inl fv)))]) 5 hP hD [0, 1, 2, 3, 4] [5, 6, 7, 8, 9] rfl rfl (by decide) (by decide +kernel) hk1 hFc hP1 hD1 rfl
      generalize H1 = H at hP hS ⊢
      refine lv_iload_n hx hb dX4_readFact_51 rfl (lv_at hl 0 rfl) ?_
      refine lv_tableIn (off := 105) (tgt := 157) hx hb dX4_readFact_52 (by decide) (by decide) (by decide) (by decide) ?_
      refine lv_aload_n hx hb dX4_readFact_157 rfl (lv_at hl 1 rfl) ?_
      refine lv_iload_n hx hb dX4_readFact_158 rfl (lv_at hl 2 rfl) ?_
      refine lv_iconst (v := 1) hx hb dX4_readFact_159 (by decide) ?_
      refine lv_iadd hx hb dX4_readFact_160 ?_
      refine lv_topi (fun yn8 eyn8 => ?_)
      obtain rfl : yn8 = (nI (o9 + 1)) := eyn8.trans (nI_add o9 1)
      obtain ⟨hPc, hDc, hFc⟩ := PDq.cut (wc := [(oX4 r0 r1 p0 (nI (ti + 1)) (fk (ti + 1)) (ft (ti + 1)) (fv (ti + 1)) inb iek iep), (oX5 r1 k1 k2 k3 (nI ct)), (k1, .inl (cA 0, 701, .inl fk)), (k2, .inl (cA 0, 701, .inl ft)), (k3, .inl (cA 1, 701, .inr (.inl fv))), (oX3 p0 pr pb pe pg p1 (nI nd) p2 p3 p4 p5 (nI cn) p6 (nI pq) p7 p8 p9 (nI sc)), (p2, .inl (cA 1, 10, .inr (.inl fna))), (p6, .inl (cA 1, 8, .inr (.inl fpn))), (p7, .inl (cA 0, 350, .inl fst)), (p8, .inl (cA 0, 350, .inl fop))]) hP hD hS hA [5, 6, 7, 8, 9, 0, 1, 2, 3, 4] (by decide +kernel) rfl
      refine va_calli (va_runV (As := [.int (nI (o9 + 1))]) (rest := []) ⟨hx, hb, hml, hown, hts⟩ (IHf r0 p0 (ti + 1) ln inb iek iep r1 k1 k2 k3 ct fk ft fv fb gP gR p1 p2 p3 p4 p5 p6 p7 p8 p9 cn pq nd sc pr pb pe pg fna fpn fst fop ml pl (sl + 2) (o9 + 1) H.size hct hln hn6.1 hTX hcn hpq hnd hsc hNM hNP (by omega) (by omega)) (cwV 1 hts gX4_readFact_X4_readFact rfl rfl rfl (by decide +kernel) ⟨by show (3 * k9 + 20) + 1 ≤ 3 * (k9 + 1) + 20; omega, by show 8 + (3 + 11) + (72 * k9 + 320) ≤ 72 * (k9 + 1) + 320; omega⟩) ⟨Wd.blind, va_recv hK hPc (ci := 8) (q0 := 0) rfl rfl, fun U hU hW => ⟨rfl, Wd.call hPc hDc hK hC hZ hS hFc U hU hW⟩⟩ rfl rfl hl.1 rfl (lv_room (Nat.le_of_ble_eq_true rfl)) dX4_readFact_161 ⟨(Nat.le_of_ble_eq_true rfl), (Nat.le_of_ble_eq_true rfl)⟩) hS (fun q _ h => hFc q h) hFc (fun rn9 u t H1 locs ht hvm hw hB hz1 hk1 hS => ?_)
      obtain ⟨qn10, qn11, qn12, zn13, zn14, zn15, fn16, fn17, fn18, zn19, hn20, hn21, hn22, hn23, hn24, hn25, hn26, hn27, hn28, hn29, hn30, hn31, hn32, hP1, hD1⟩ := hB
      rw [ht] at hP1
      obtain ⟨hP, hD⟩ := PDq.join (w := [(oX4 r0 r1 p0 (nI qn10) (fk qn10) (ft qn10) (fv qn10) zn13 zn14 zn15), (oX5 r1 k1 k2 k3 (nI ct)), (k1, .inl (cA 0, 701, .inl fk)), (k2, .inl (cA 0, 701, .inl ft)), (k3, .inl (cA 1, 701, .inr (.inl fv))), (oX3 p0 pr pb pe pg p1 (nI nd) p2 p3 p4 p5 (nI cn) p6 (nI qn11) p7 p8 p9 (nI qn12)), (p2, .inl (cA 1, 10, .inr (.inl fna))), (p6, .inl (cA 1, 8, .inr (.inl fn16))), (p7, .inl (cA 0, 350, .inl fn17)), (p8, .inl (cA 0, 350, .inl fn18))]) 0 hP hD [5, 6, 7, 8, 9, 0, 1, 2, 3, 4] [] rfl rfl (by decide) (by decide +kernel) hk1 hFc hP1 hD1 rfl
      generalize H1 = H at hP hS ⊢
      rcases hw.2 with hr9 | hr9
      · skip
        have hn32 := hn32 (hw.1.trans hr9)
        subst hr9
        refine lv_if_eq (tgt := 183) hx hb dX4_readFact_164 (by decide) (fun c33 => ?_) (fun c9 => absurd c9 (by decide))
        refine lv_iconst (v := 0) hx hb dX4_readFact_183 (by decide) ?_
        obtain ⟨hP9, hD9⟩ := PDq.sub (ws' := [(oX4 r0 r1 p0 (nI qn10) (fk qn10) (ft qn10) (fv qn10) zn13 zn14 zn15), (oX5 r1 k1 k2 k3 (nI ct)), (k1, .inl (cA 0, 701, .inl fk)), (k2, .inl (cA 0, 701, .inl ft)), (k3, .inl (cA 1, 701, .inr (.inl fv))), (oX3 p0 pr pb pe pg p1 (nI nd) p2 p3 p4 p5 (nI cn) p6 (nI qn11) p7 p8 p9 (nI qn12)), (p2, .inl (cA 1, 10, .inr (.inl fna))), (p6, .inl (cA 1, 8, .inr (.inl fn16))), (p7, .inl (cA 0, 350, .inl fn17)), (p8, .inl (cA 0, 350, .inl fn18))]) hP hD [0, 1, 2, 3, 4, 5, 6, 7, 8, 9] (by decide +kernel) rfl
        refine W.widen (k := 0) (n := 0) (Nat.le_of_ble_eq_true rfl) (Nat.le_of_ble_eq_true rfl) ?_
        exact (W.zret (v := 0) hx hb hr (by first | rfl | decide) (fun t ht hW => ⟨⟨0, 0, rfl, ⟨rfl, by decide⟩, qn10, qn11, qn12, zn13, zn14, zn15, fn16, fn17, fn18, zn19, hn20, hn21, (by omega), hn23, hn24, hn25, (fun h9 => absurd h9 (by decide)), (fun h9 => absurd h9 (by decide)), (fun h9 => absurd h9 (by decide)), (fun h9 => absurd h9 (by decide)), (fun h9 => absurd h9 (by decide)), (fun h9 => absurd h9 (by decide)), (fun _ => (P_not c1 (by omega) hn32)), by rw [ht]; exact hP9, hD9⟩, hS.F ht⟩) hS.2.2 dX4_readFact_184)
      · skip
        have hn26 := hn26 (hw.1.trans hr9)
        obtain rfl : iek = zn14 := hn26.symm
        obtain ⟨hP, hD⟩ : PDq D A [(oX4 r0 r1 p0 (nI qn10) (fk qn10) (ft qn10) (fv qn10) zn13 iek zn15), (oX5 r1 k1 k2 k3 (nI ct)), (k1, .inl (cA 0, 701, .inl fk)), (k2, .inl (cA 0, 701, .inl ft)), (k3, .inl (cA 1, 701, .inr (.inl fv))), (oX3 p0 pr pb pe pg p1 (nI nd) p2 p3 p4 p5 (nI cn) p6 (nI qn11) p7 p8 p9 (nI qn12)), (p2, .inl (cA 1, 10, .inr (.inl fna))), (p6, .inl (cA 1, 8, .inr (.inl fn16))), (p7, .inl (cA 0, 350, .inl fn17)), (p8, .inl (cA 0, 350, .inl fn18))] H := ⟨hP, hD⟩
        have hn27 := hn27 (hw.1.trans hr9)
        obtain rfl : iep = zn15 := hn27.symm
        obtain ⟨hP, hD⟩ : PDq D A [(oX4 r0 r1 p0 (nI qn10) (fk qn10) (ft qn10) (fv qn10) zn13 iek iep), (oX5 r1 k1 k2 k3 (nI ct)), (k1, .inl (cA 0, 701, .inl fk)), (k2, .inl (cA 0, 701, .inl ft)), (k3, .inl (cA 1, 701, .inr (.inl fv))), (oX3 p0 pr pb pe pg p1 (nI nd) p2 p3 p4 p5 (nI cn) p6 (nI qn11) p7 p8 p9 (nI qn12)), (p2, .inl (cA 1, 10, .inr (.inl fna))), (p6, .inl (cA 1, 8, .inr (.inl fn16))), (p7, .inl (cA 0, 350, .inl fn17)), (p8, .inl (cA 0, 350, .inl fn18))] H := ⟨hP, hD⟩
        have hn28 := hn28 (hw.1.trans hr9)
        have hn29 := hn29 (hw.1.trans hr9)
        have hn30 := hn30 (hw.1.trans hr9)
        have hn31 := hn31 (hw.1.trans hr9)
        subst hr9
        refine lv_if_eq (tgt := 183) hx hb dX4_readFact_164 (by decide) (fun c9 => absurd c9 (by decide)) (fun c34 => ?_)
        refine lv_aload_n hx hb dX4_readFact_167 rfl (lv_at hl 1 rfl) ?_
        refine va_get (D := D) (ci := 8) (v := .ref p0) (C := RX4) (T := TX4) (N := 9) hx hb hts inX4 hown hK hP 0 rfl rfl 1 (by decide) (hts (.fieldLink RX4 25 "EscrowDesk$Reader" "plan" "LEscrowDesk$Plan;") (by decide +kernel)) (fun _ h9 => h9) rfl dX4_readFact_168 ?_
        refine lv_iload_n hx hb dX4_readFact_171 rfl (lv_at hl 0 rfl) ?_
        refine lv_iconst (v := 0) hx hb dX4_readFact_172 (by decide) ?_
        obtain ⟨hPc, hDc, hFc⟩ := PDq.cut (wc := [(oX3 p0 pr pb pe pg p1 (nI nd) p2 p3 p4 p5 (nI cn) p6 (nI qn11) p7 p8 p9 (nI qn12)), (p7, .inl (cA 0, 350, .inl fn17)), (p8, .inl (cA 0, 350, .inl fn18))]) hP hD hS hA [5, 8, 9] (by decide) rfl
        refine va_calli (va_runV (As := [.int 16, .int 0]) (rest := []) ⟨hx, hb, hml, hown, hts⟩ (x_addStep l D cA sa p0 p1 p2 p3 p4 p5 p6 p7 p8 p9 cn qn11 nd qn12 pr pb pe pg 16 0 fn17 fn18 H.size (by omega)) (cwV 2 hts gX4_readFact_X3_addStep rfl rfl rfl (by decide +kernel) ⟨by show (0) + 1 ≤ 3 * (k9 + 1) + 20; omega, by show 8 + (3 + 11) + (0) ≤ 72 * (k9 + 1) + 320; omega⟩) ⟨Wd.blind, va_recv hK hPc (ci := 7) (q0 := 0) rfl rfl, fun U hU hW => ⟨rfl, Wd.call hPc hDc hK hC hZ hS hFc U hU hW⟩⟩ rfl rfl hl.1 rfl (lv_room (Nat.le_of_ble_eq_true rfl)) dX4_readFact_173 ⟨(Nat.le_of_ble_eq_true rfl), (Nat.le_of_ble_eq_true rfl)⟩) hS (fun q _ h => hFc q h) hFc (fun rn35 u t H1 locs ht hvm hw hB hz1 hk1 hS => ?_)
        obtain ⟨fn36, fn37, hn38, hn39, hP1, hD1⟩ := hB
        rw [ht] at hP1
        obtain ⟨hP, hD⟩ := PDq.join (w := [(oX4 r0 r1 p0 (nI qn10) (fk qn10) (ft qn10) (fv qn10) zn13 iek iep), (oX5 r1 k1 k2 k3 (nI ct)), (k1, .inl (cA 0, 701, .inl fk)), (k2, .inl (cA 0, 701, .inl ft)), (k3, .inl (cA 1, 701, .inr (.inl fv))), (p2, .inl (cA 1, 10, .inr (.inl fna))), (p6, .inl (cA 1, 8, .inr (.inl fn16))), (oX3 p0 pr pb pe pg p1 (nI nd) p2 p3 p4 p5 (nI cn) p6 (nI qn11) p7 p8 p9 (nI (qn12 + 1))), (p7, .inl (cA 0, 350, .inl fn36)), (p8, .inl (cA 0, 350, .inl fn37))]) 7 hP hD [5, 8, 9] [0, 1, 2, 3, 4, 6, 7] rfl rfl (by decide) (by decide +kernel) hk1 hFc hP1 hD1 rfl
        generalize H1 = H at hP hS ⊢
        obtain rfl : rn35 = 1 := hw
        refine lv_if_eq (tgt := 183) hx hb dX4_readFact_176 (by decide) (fun c9 => absurd c9 (by decide)) (fun c40 => ?_)
        refine lv_iconst (v := 1) hx hb dX4_readFact_179 (by decide) ?_
        refine lv_goto (tgt := 184) hx hb dX4_readFact_180 (by decide) ?_
        obtain ⟨hP9, hD9⟩ := PDq.sub (ws' := [(oX4 r0 r1 p0 (nI qn10) (fk qn10) (ft qn10) (fv qn10) zn13 iek iep), (oX5 r1 k1 k2 k3 (nI ct)), (k1, .inl (cA 0, 701, .inl fk)), (k2, .inl (cA 0, 701, .inl ft)), (k3, .inl (cA 1, 701, .inr (.inl fv))), (oX3 p0 pr pb pe pg p1 (nI nd) p2 p3 p4 p5 (nI cn) p6 (nI qn11) p7 p8 p9 (nI (qn12 + 1))), (p2, .inl (cA 1, 10, .inr (.inl fna))), (p6, .inl (cA 1, 8, .inr (.inl fn16))), (p7, .inl (cA 0, 350, .inl fn36)), (p8, .inl (cA 0, 350, .inl fn37))]) hP hD [0, 1, 2, 3, 4, 7, 5, 6, 8, 9] (by decide +kernel) rfl
        refine W.widen (k := 0) (n := 0) (Nat.le_of_ble_eq_true rfl) (Nat.le_of_ble_eq_true rfl) ?_
        exact (W.zret (v := 1) hx hb hr (by first | rfl | decide) (fun t ht hW => ⟨⟨1, 1, rfl, ⟨rfl, by decide⟩, qn10, qn11, (qn12 + 1), zn13, iek, iep, fn16, fn36, fn37, zn19, hn20, hn21, (by omega), hn23, (by omega), hn25, (fun _ => rfl), (fun _ => rfl), (fun _ => (by omega)), (fun _ => (by omega)), (fun _ => (P_not c1 (by omega) hn30)), (fun _ => (CD9.not c1 hn31 hn38 hn39 rfl)), (fun h9 => absurd h9 (by decide)), by rw [ht]; exact hP9, hD9⟩, hS.F ht⟩) hS.2.2 dX4_readFact_184)
    · skip
      subst hr9
      exact absurd (by decide) hn4
  · skip
    refine lv_iload_n hx hb dX4_readFact_11 rfl (lv_at hl 0 rfl) ?_
    refine lv_iconst (v := 5) hx hb dX4_readFact_12 (by decide) ?_
    refine lv_icmp_ne (tgt := 28) hx hb dX4_readFact_13 (by decide) (fun c41 => ?_) (fun c41 => ?_)
    · skip
      refine lv_iload_n hx hb dX4_readFact_28 rfl (lv_at hl 0 rfl) ?_
      obtain ⟨hPc, hDc, hFc⟩ := PDq.cut (wc := []) hP hD hS hA [] (by decide) rfl
      refine va_calli (va_runS (As := [.int (fk ti)]) (rest := []) ⟨hx, hb, hml, hown, hts⟩ (x_beginsFact l D cA sa (fk ti) s.heap.size) (va_cwS 1 hts gX4_readFact_X7_beginsFact rfl rfl rfl (by decide +kernel) ⟨by show (0) + 1 ≤ 3 * (k9 + 1) + 20; omega, by show 8 + (1 + 11) + (0) ≤ 72 * (k9 + 1) + 320; omega⟩) ⟨Wd.blind, fun U hU hW => ⟨rfl, Wd.call hPc hDc hK hC hZ hS hFc U hU hW⟩⟩ rfl rfl hl.1 rfl (lv_room (Nat.le_of_ble_eq_true rfl)) dX4_readFact_29 ⟨(Nat.le_of_ble_eq_true rfl), (Nat.le_of_ble_eq_true rfl)⟩) hS (fun q _ h => hFc q h) hFc (fun rn42 u t H1 locs ht hvm hw hB hz1 hk1 hS => ?_)
      obtain ⟨hP1, hD1⟩ := hB
      rw [ht] at hP1
      obtain ⟨hP, hD⟩ := PDq.join (w := [(oX4 r0 r1 p0 (nI ti) (fk ti) (ft ti) (fv ti) inb iek iep), (oX5 r1 k1 k2 k3 (nI ct)), (k1, .inl (cA 0, 701, .inl fk)), (k2, .inl (cA 0, 701, .inl ft)), (k3, .inl (cA 1, 701, .inr (.inl fv))), (oX3 p0 pr pb pe pg p1 (nI nd) p2 p3 p4 p5 (nI cn) p6 (nI pq) p7 p8 p9 (nI sc)), (p2, .inl (cA 1, 10, .inr (.inl fna))), (p6, .inl (cA 1, 8, .inr (.inl fpn))), (p7, .inl (cA 0, 350, .inl fst)), (p8, .inl (cA 0, 350, .inl fop))]) 10 hP hD [] [0, 1, 2, 3, 4, 5, 6, 7, 8, 9] rfl rfl (by decide +kernel) (by decide +kernel) hk1 hFc hP1 hD1 rfl
      generalize H1 = H at hP hS ⊢
      rcases hw with ⟨hr9, hn43⟩ | ⟨hr9, hn43⟩
      · skip
        subst hr9
        refine lv_if_ne (tgt := 41) hx hb dX4_readFact_32 (by decide) (fun c44 => ?_) (fun c9 => absurd c9 (by decide))
        have hn45 := TX.go2 hTX hti (bf8 hn43 c41)
        have hn45a := hn45.2.1
        have hn45b := hn45.2.2
        have hn45c := hn45.1
        refine lv_aload_n hx hb dX4_readFact_41 rfl (lv_at hl 1 rfl) ?_
        refine lv_aload_n hx hb dX4_readFact_42 rfl (lv_at hl 1 rfl) ?_
        refine va_get (D := D) (ci := 8) (v := .int (nI ti)) (C := RX4) (T := TX4) (N := 9) hx hb hts inX4 hown hK hP 0 rfl rfl 2 (by decide) (hts (.fieldLink RX4 70 "EscrowDesk$Reader" "token" "I") (by decide +kernel)) (fun _ h9 => h9) rfl dX4_readFact_43 ?_
        refine lv_iconst (v := 1) hx hb dX4_readFact_46 (by decide) ?_
        refine lv_iadd hx hb dX4_readFact_47 ?_
        refine lv_topi (fun yn46 eyn46 => ?_)
        obtain rfl : yn46 = (nI (ti + 1)) := eyn46.trans (nI_add ti 1)
        obtain ⟨hPc, hDc, hFc⟩ := PDq.cut (wc := [(oX4 r0 r1 p0 (nI ti) (fk ti) (ft ti) (fv ti) inb iek iep), (oX5 r1 k1 k2 k3 (nI ct)), (k1, .inl (cA 0, 701, .inl fk)), (k2, .inl (cA 0, 701, .inl ft)), (k3, .inl (cA 1, 701, .inr (.inl fv)))]) hP hD hS hA [0, 1, 2, 3, 4] (by decide) rfl
        refine va_callv (va_runV (As := [.int (nI (ti + 1))]) (rest := []) ⟨hx, hb, hml, hown, hts⟩ (x_lookAt l D cA sa r0 p0 (ti + 1) (nI ti) (fk ti) (ft ti) inb iek iep (fv ti) r1 k1 k2 k3 ct fk ft fv H.size hct hn45.1) (cwV 1 hts gX4_readFact_X4_lookAt rfl rfl rfl (by decide +kernel) ⟨by show (0) + 1 ≤ 3 * (k9 + 1) + 20; omega, by show 8 + (2 + 11) + (0) ≤ 72 * (k9 + 1) + 320; omega⟩) ⟨Wd.blind, va_recv hK hPc (ci := 8) (q0 := 0) rfl rfl, fun U hU hW => ⟨rfl, Wd.call hPc hDc hK hC hZ hS hFc U hU hW⟩⟩ rfl rfl hl.1 rfl (lv_room (Nat.le_of_ble_eq_true rfl)) dX4_readFact_48 ⟨(Nat.le_of_ble_eq_true rfl), (Nat.le_of_ble_eq_true rfl)⟩) hS (fun q _ h => hFc q h) hFc (fun u t H1 locs ht hvm hw hB hz1 hk1 hS => ?_)
        obtain ⟨hP1, hD1⟩ := hB
        rw [ht] at hP1
        obtain ⟨hP, hD⟩ := PDq.join (w := [(oX3 p0 pr pb pe pg p1 (nI nd) p2 p3 p4 p5 (nI cn) p6 (nI pq) p7 p8 p9 (nI sc)), (p2, .inl (cA 1, 10, .inr (.inl fna))), (p6, .inl (cA 1, 8, .inr (.inl fpn))), (p7, .inl (cA 0, 350, .inl fst)), (p8, .inl (cA 0, 350, .inl fop)), (oX4 r0 r1 p0 (nI (ti + 1)) (fk (ti + 1)) (ft (ti + 1)) (fv (ti + 1)) inb iek iep), (oX5 r1 k1 k2 k3 (nI ct)), (k1, .inl (cA 0, 701, .inl fk)), (k2, .inl (cA 0, 701, .inl ft)), (k3, .inl (cA 1, 701, .inr (.inl fv)))]) 5 hP hD [0, 1, 2, 3, 4] [5, 6, 7, 8, 9] rfl rfl (by decide) (by decide +kernel) hk1 hFc hP1 hD1 rfl
        generalize H1 = H at hP hS ⊢
        refine lv_iload_n hx hb dX4_readFact_51 rfl (lv_at hl 0 rfl) ?_
        by_cases hn47 : (fk ti) = 5
        · skip
          exact absurd hn47 c41
        · skip
          by_cases hn48 : (fk ti) = 6
          · skip
            exact absurd hn48 (fun z9 => absurd hn43 (by rw [z9]; decide))
          · skip
            by_cases hn49 : (fk ti) = 7
            · skip
              exact absurd hn49 (fun z9 => absurd hn43 (by rw [z9]; decide))
            · skip
              by_cases hn50 : (fk ti) = 8
              · skip
                exact absurd hn50 (fun z9 => absurd hn43 (by rw [z9]; decide))
              · skip
                by_cases hn51 : (fk ti) = 9
                · skip
                  exact absurd hn51 (fun z9 => absurd hn43 (by rw [z9]; decide))
                · skip
                  by_cases hn52 : (fk ti) = 10
                  · skip
                    exact absurd hn52 (fun z9 => absurd hn43 (by rw [z9]; decide))
                  · skip
                    by_cases hn53 : (fk ti) = 11
                    · skip
                      exact absurd hn53 (fun z9 => absurd hn43 (by rw [z9]; decide))
                    · skip
                      by_cases hn54 : (fk ti) = 12
                      · skip
                        exact absurd hn54 (fun z9 => absurd hn43 (by rw [z9]; decide))
                      · skip
                        by_cases hn55 : (fk ti) = 13
                        · skip
                          exact absurd hn55 (fun z9 => absurd hn43 (by rw [z9]; decide))
                        · skip
                          by_cases hn56 : (fk ti) = 14
                          · skip
                            exact absurd hn56 (fun z9 => absurd hn43 (by rw [z9]; decide))
                          · skip
                            by_cases hn57 : (fk ti) = 15
                            · skip
                              exact absurd hn57 (fun z9 => absurd hn43 (by rw [z9]; decide))
                            · skip
                              by_cases hn58 : (fk ti) = 16
                              · skip
                                exact absurd hn58 c1
                              · skip
                                by_cases hn59 : (fk ti) = 17
                                · skip
                                  refine W.eq (g2 := F0 m 52 ls [.int 17]) (by rw [hn59]) ?_
                                  refine lv_tableIn (off := 133) (tgt := 185) hx hb dX4_readFact_52 (by decide) (by decide) (by decide) (by decide) ?_
                                  refine lv_aload_n hx hb dX4_readFact_185 rfl (lv_at hl 1 rfl) ?_
                                  refine lv_iconst (v := 0) hx hb dX4_readFact_186 (by decide) ?_
                                  refine lv_sipush (v := 999) hx hb dX4_readFact_187 (by decide) ?_
                                  obtain ⟨hPc, hDc, hFc⟩ := PDq.cut (wc := [(oX4 r0 r1 p0 (nI (ti + 1)) (fk (ti + 1)) (ft (ti + 1)) (fv (ti + 1)) inb iek iep), (oX5 r1 k1 k2 k3 (nI ct)), (k1, .inl (cA 0, 701, .inl fk)), (k2, .inl (cA 0, 701, .inl ft)), (k3, .inl (cA 1, 701, .inr (.inl fv)))]) hP hD hS hA [5, 6, 7, 8, 9] (by decide) rfl
                                  refine va_calli (va_runV (As := [.int 0, .int 999]) (rest := []) ⟨hx, hb, hml, hown, hts⟩ (x_takeNumber l D cA sa r0 p0 (ti + 1) ln inb iek iep r1 k1 k2 k3 ct fk ft fv fb gP gR 0 999 H.size hct hln hn45.1 hTX (by omega) (by omega)) (cwV 2 hts gX4_readFact_X4_takeNumber rfl rfl rfl (by decide +kernel) ⟨by show (1) + 1 ≤ 3 * (k9 + 1) + 20; omega, by show 8 + (3 + 11) + (21) ≤ 72 * (k9 + 1) + 320; omega⟩) ⟨Wd.blind, va_recv hK hPc (ci := 8) (q0 := 0) rfl rfl, fun U hU hW => ⟨rfl, Wd.call hPc hDc hK hC hZ hS hFc U hU hW⟩⟩ rfl rfl hl.1 rfl (lv_room (Nat.le_of_ble_eq_true rfl)) dX4_readFact_190 ⟨(Nat.le_of_ble_eq_true rfl), (Nat.le_of_ble_eq_true rfl)⟩) hS (fun q _ h => hFc q h) hFc (fun rn60 u t H1 locs ht hvm hw hB hz1 hk1 hS => ?_)
                                  obtain ⟨qn61, zn62, zn63, zn64, hn65, hn66, hn67, hn68, hn69, hn70, hn71, hn72, hn73, hn74, hn75, hP1, hD1⟩ := hB
                                  rw [ht] at hP1
                                  obtain ⟨hP, hD⟩ := PDq.join (w := [(oX3 p0 pr pb pe pg p1 (nI nd) p2 p3 p4 p5 (nI cn) p6 (nI pq) p7 p8 p9 (nI sc)), (p2, .inl (cA 1, 10, .inr (.inl fna))), (p6, .inl (cA 1, 8, .inr (.inl fpn))), (p7, .inl (cA 0, 350, .inl fst)), (p8, .inl (cA 0, 350, .inl fop)), (oX4 r0 r1 p0 (nI qn61) (fk qn61) (ft qn61) (fv qn61) zn62 zn63 zn64), (oX5 r1 k1 k2 k3 (nI ct)), (k1, .inl (cA 0, 701, .inl fk)), (k2, .inl (cA 0, 701, .inl ft)), (k3, .inl (cA 1, 701, .inr (.inl fv)))]) 5 hP hD [5, 6, 7, 8, 9] [0, 1, 2, 3, 4] rfl rfl (by decide) (by decide +kernel) hk1 hFc hP1 hD1 rfl
                                  generalize H1 = H at hP hS ⊢
                                  rcases hw.2 with hr9 | hr9
                                  · skip
                                    have hn74 := hn74 (hw.1.trans hr9)
                                    have hn75 := hn75 (hw.1.trans hr9)
                                    subst hr9
                                    refine lv_if_eq (tgt := 215) hx hb dX4_readFact_193 (by decide) (fun c76 => ?_) (fun c9 => absurd c9 (by decide))
                                    refine lv_iconst (v := 0) hx hb dX4_readFact_215 (by decide) ?_
                                    obtain ⟨hP9, hD9⟩ := PDq.sub (ws' := [(oX4 r0 r1 p0 (nI qn61) (fk qn61) (ft qn61) (fv qn61) zn62 zn63 zn64), (oX5 r1 k1 k2 k3 (nI ct)), (k1, .inl (cA 0, 701, .inl fk)), (k2, .inl (cA 0, 701, .inl ft)), (k3, .inl (cA 1, 701, .inr (.inl fv))), (oX3 p0 pr pb pe pg p1 (nI nd) p2 p3 p4 p5 (nI cn) p6 (nI pq) p7 p8 p9 (nI sc)), (p2, .inl (cA 1, 10, .inr (.inl fna))), (p6, .inl (cA 1, 8, .inr (.inl fpn))), (p7, .inl (cA 0, 350, .inl fst)), (p8, .inl (cA 0, 350, .inl fop))]) hP hD [5, 6, 7, 8, 9, 0, 1, 2, 3, 4] (by decide +kernel) rfl
                                    refine W.widen (k := 0) (n := 0) (Nat.le_of_ble_eq_true rfl) (Nat.le_of_ble_eq_true rfl) ?_
                                    exact (W.zret (v := 0) hx hb hr (by first | rfl | decide) (fun t ht hW => ⟨⟨0, 0, rfl, ⟨rfl, by decide⟩, qn61, pq, sc, zn62, zn63, zn64, fpn, fst, fop, pl, hn65, hn66, (by omega), hpq, hsc, hNP, (fun h9 => absurd h9 (by decide)), (fun h9 => absurd h9 (by decide)), (fun h9 => absurd h9 (by decide)), (fun h9 => absurd h9 (by decide)), (fun h9 => absurd h9 (by decide)), (fun h9 => absurd h9 (by decide)), (fun _ => (P_dayEx hn59 hn74 hn75)), by rw [ht]; exact hP9, hD9⟩, hS.F ht⟩) hS.2.2 dX4_readFact_216)
                                  · skip
                                    have hn68 := hn68 (hw.1.trans hr9)
                                    subst hn68
                                    obtain ⟨hP, hD⟩ : PDq D A [(oX3 p0 pr pb pe pg p1 (nI nd) p2 p3 p4 p5 (nI cn) p6 (nI pq) p7 p8 p9 (nI sc)), (p2, .inl (cA 1, 10, .inr (.inl fna))), (p6, .inl (cA 1, 8, .inr (.inl fpn))), (p7, .inl (cA 0, 350, .inl fst)), (p8, .inl (cA 0, 350, .inl fop)), (oX4 r0 r1 p0 (nI ((ti + 1) + 1)) (fk ((ti + 1) + 1)) (ft ((ti + 1) + 1)) (fv ((ti + 1) + 1)) zn62 zn63 zn64), (oX5 r1 k1 k2 k3 (nI ct)), (k1, .inl (cA 0, 701, .inl fk)), (k2, .inl (cA 0, 701, .inl ft)), (k3, .inl (cA 1, 701, .inr (.inl fv)))] H := ⟨hP, hD⟩
                                    have hn69 := hn69 (hw.1.trans hr9)
                                    obtain rfl : iek = zn63 := hn69.symm
                                    obtain ⟨hP, hD⟩ : PDq D A [(oX3 p0 pr pb pe pg p1 (nI nd) p2 p3 p4 p5 (nI cn) p6 (nI pq) p7 p8 p9 (nI sc)), (p2, .inl (cA 1, 10, .inr (.inl fna))), (p6, .inl (cA 1, 8, .inr (.inl fpn))), (p7, .inl (cA 0, 350, .inl fst)), (p8, .inl (cA 0, 350, .inl fop)), (oX4 r0 r1 p0 (nI ((ti + 1) + 1)) (fk ((ti + 1) + 1)) (ft ((ti + 1) + 1)) (fv ((ti + 1) + 1)) zn62 iek zn64), (oX5 r1 k1 k2 k3 (nI ct)), (k1, .inl (cA 0, 701, .inl fk)), (k2, .inl (cA 0, 701, .inl ft)), (k3, .inl (cA 1, 701, .inr (.inl fv)))] H := ⟨hP, hD⟩
                                    have hn70 := hn70 (hw.1.trans hr9)
                                    obtain rfl : iep = zn64 := hn70.symm
                                    obtain ⟨hP, hD⟩ : PDq D A [(oX3 p0 pr pb pe pg p1 (nI nd) p2 p3 p4 p5 (nI cn) p6 (nI pq) p7 p8 p9 (nI sc)), (p2, .inl (cA 1, 10, .inr (.inl fna))), (p6, .inl (cA 1, 8, .inr (.inl fpn))), (p7, .inl (cA 0, 350, .inl fst)), (p8, .inl (cA 0, 350, .inl fop)), (oX4 r0 r1 p0 (nI ((ti + 1) + 1)) (fk ((ti + 1) + 1)) (ft ((ti + 1) + 1)) (fv ((ti + 1) + 1)) zn62 iek iep), (oX5 r1 k1 k2 k3 (nI ct)), (k1, .inl (cA 0, 701, .inl fk)), (k2, .inl (cA 0, 701, .inl ft)), (k3, .inl (cA 1, 701, .inr (.inl fv)))] H := ⟨hP, hD⟩
                                    have hn71 := hn71 (hw.1.trans hr9)
                                    have hn72 := hn72 (hw.1.trans hr9)
                                    have hn73 := hn73 (hw.1.trans hr9)
                                    subst hn73
                                    obtain ⟨hP, hD⟩ : PDq D A [(oX3 p0 pr pb pe pg p1 (nI nd) p2 p3 p4 p5 (nI cn) p6 (nI pq) p7 p8 p9 (nI sc)), (p2, .inl (cA 1, 10, .inr (.inl fna))), (p6, .inl (cA 1, 8, .inr (.inl fpn))), (p7, .inl (cA 0, 350, .inl fst)), (p8, .inl (cA 0, 350, .inl fop)), (oX4 r0 r1 p0 (nI ((ti + 1) + 1)) (fk ((ti + 1) + 1)) (ft ((ti + 1) + 1)) (fv ((ti + 1) + 1)) ((fv (ti + 1)).toInt32) iek iep), (oX5 r1 k1 k2 k3 (nI ct)), (k1, .inl (cA 0, 701, .inl fk)), (k2, .inl (cA 0, 701, .inl ft)), (k3, .inl (cA 1, 701, .inr (.inl fv)))] H := ⟨hP, hD⟩
                                    subst hr9
                                    refine lv_if_eq (tgt := 215) hx hb dX4_readFact_193 (by decide) (fun c9 => absurd c9 (by decide)) (fun c77 => ?_)
                                    refine lv_aload_n hx hb dX4_readFact_196 rfl (lv_at hl 1 rfl) ?_
                                    refine va_get (D := D) (ci := 8) (v := .ref p0) (C := RX4) (T := TX4) (N := 9) hx hb hts inX4 hown hK hP 5 rfl rfl 1 (by decide) (hts (.fieldLink RX4 25 "EscrowDesk$Reader" "plan" "LEscrowDesk$Plan;") (by decide +kernel)) (fun _ h9 => h9) rfl dX4_readFact_197 ?_
                                    refine lv_iload_n hx hb dX4_readFact_200 rfl (lv_at hl 0 rfl) ?_
                                    refine lv_aload_n hx hb dX4_readFact_201 rfl (lv_at hl 1 rfl) ?_
                                    refine va_get (D := D) (ci := 8) (v := .int ((fv (ti + 1)).toInt32)) (C := RX4) (T := TX4) (N := 9) hx hb hts inX4 hown hK hP 5 rfl rfl 6 (by decide) (hts (.fieldLink RX4 91 "EscrowDesk$Reader" "number" "I") (by decide +kernel)) (fun _ h9 => h9) rfl dX4_readFact_202 ?_
                                    obtain ⟨hPc, hDc, hFc⟩ := PDq.cut (wc := [(oX3 p0 pr pb pe pg p1 (nI nd) p2 p3 p4 p5 (nI cn) p6 (nI pq) p7 p8 p9 (nI sc)), (p7, .inl (cA 0, 350, .inl fst)), (p8, .inl (cA 0, 350, .inl fop))]) hP hD hS hA [0, 3, 4] (by decide) rfl
                                    refine va_calli (va_runV (As := [.int (fk ti), .int ((fv (ti + 1)).toInt32)]) (rest := []) ⟨hx, hb, hml, hown, hts⟩ (x_addStep l D cA sa p0 p1 p2 p3 p4 p5 p6 p7 p8 p9 cn pq nd sc pr pb pe pg (fk ti) ((fv (ti + 1)).toInt32) fst fop H.size (by omega)) (cwV 2 hts gX4_readFact_X3_addStep rfl rfl rfl (by decide +kernel) ⟨by show (0) + 1 ≤ 3 * (k9 + 1) + 20; omega, by show 8 + (3 + 11) + (0) ≤ 72 * (k9 + 1) + 320; omega⟩) ⟨Wd.blind, va_recv hK hPc (ci := 7) (q0 := 0) rfl rfl, fun U hU hW => ⟨rfl, Wd.call hPc hDc hK hC hZ hS hFc U hU hW⟩⟩ rfl rfl hl.1 rfl (lv_room (Nat.le_of_ble_eq_true rfl)) dX4_readFact_205 ⟨(Nat.le_of_ble_eq_true rfl), (Nat.le_of_ble_eq_true rfl)⟩) hS (fun q _ h => hFc q h) hFc (fun rn78 u t H1 locs ht hvm hw hB hz1 hk1 hS => ?_)
                                    obtain ⟨fn79, fn80, hn81, hn82, hP1, hD1⟩ := hB
                                    rw [ht] at hP1
                                    obtain ⟨hP, hD⟩ := PDq.join (w := [(p2, .inl (cA 1, 10, .inr (.inl fna))), (p6, .inl (cA 1, 8, .inr (.inl fpn))), (oX4 r0 r1 p0 (nI ((ti + 1) + 1)) (fk ((ti + 1) + 1)) (ft ((ti + 1) + 1)) (fv ((ti + 1) + 1)) ((fv (ti + 1)).toInt32) iek iep), (oX5 r1 k1 k2 k3 (nI ct)), (k1, .inl (cA 0, 701, .inl fk)), (k2, .inl (cA 0, 701, .inl ft)), (k3, .inl (cA 1, 701, .inr (.inl fv))), (oX3 p0 pr pb pe pg p1 (nI nd) p2 p3 p4 p5 (nI cn) p6 (nI pq) p7 p8 p9 (nI (sc + 1))), (p7, .inl (cA 0, 350, .inl fn79)), (p8, .inl (cA 0, 350, .inl fn80))]) 7 hP hD [0, 3, 4] [1, 2, 5, 6, 7, 8, 9] rfl rfl (by decide) (by decide +kernel) hk1 hFc hP1 hD1 rfl
                                    generalize H1 = H at hP hS ⊢
                                    obtain rfl : rn78 = 1 := hw
                                    refine lv_if_eq (tgt := 215) hx hb dX4_readFact_208 (by decide) (fun c9 => absurd c9 (by decide)) (fun c83 => ?_)
                                    refine lv_iconst (v := 1) hx hb dX4_readFact_211 (by decide) ?_
                                    refine lv_goto (tgt := 216) hx hb dX4_readFact_212 (by decide) ?_
                                    obtain ⟨hP9, hD9⟩ := PDq.sub (ws' := [(oX4 r0 r1 p0 (nI ((ti + 1) + 1)) (fk ((ti + 1) + 1)) (ft ((ti + 1) + 1)) (fv ((ti + 1) + 1)) ((fv (ti + 1)).toInt32) iek iep), (oX5 r1 k1 k2 k3 (nI ct)), (k1, .inl (cA 0, 701, .inl fk)), (k2, .inl (cA 0, 701, .inl ft)), (k3, .inl (cA 1, 701, .inr (.inl fv))), (oX3 p0 pr pb pe pg p1 (nI nd) p2 p3 p4 p5 (nI cn) p6 (nI pq) p7 p8 p9 (nI (sc + 1))), (p2, .inl (cA 1, 10, .inr (.inl fna))), (p6, .inl (cA 1, 8, .inr (.inl fpn))), (p7, .inl (cA 0, 350, .inl fn79)), (p8, .inl (cA 0, 350, .inl fn80))]) hP hD [2, 3, 4, 5, 6, 7, 0, 1, 8, 9] (by decide +kernel) rfl
                                    refine W.widen (k := 0) (n := 0) (Nat.le_of_ble_eq_true rfl) (Nat.le_of_ble_eq_true rfl) ?_
                                    exact (W.zret (v := 1) hx hb hr (by first | rfl | decide) (fun t ht hW => ⟨⟨1, 1, rfl, ⟨rfl, by decide⟩, ((ti + 1) + 1), pq, (sc + 1), ((fv (ti + 1)).toInt32), iek, iep, fpn, fn79, fn80, pl, hn65, hn66, (by omega), hpq, (by omega), hNP, (fun _ => rfl), (fun _ => rfl), (fun _ => (by omega)), (fun _ => (by omega)), (fun _ => (P_day hn59 hn72)), (fun _ => (CD9.one (C_two hn59 (Or.inl rfl)) (by have q9 := hn81; rw [hn59] at q9; exact q9) hn82 (E_17 hn72 (by decide) rfl) (Ext9.rf pl) rfl)), (fun h9 => absurd h9 (by decide)), by rw [ht]; exact hP9, hD9⟩, hS.F ht⟩) hS.2.2 dX4_readFact_216)
                                · skip
                                  by_cases hn84 : (fk ti) = 18
                                  · skip
                                    refine W.eq (g2 := F0 m 52 ls [.int 18]) (by rw [hn84]) ?_
                                    refine lv_tableIn (off := 196) (tgt := 248) hx hb dX4_readFact_52 (by decide) (by decide) (by decide) (by decide) ?_
                                    refine lv_aload_n hx hb dX4_readFact_248 rfl (lv_at hl 1 rfl) ?_
                                    obtain ⟨hPc, hDc, hFc⟩ := PDq.cut (wc := [(oX4 r0 r1 p0 (nI (ti + 1)) (fk (ti + 1)) (ft (ti + 1)) (fv (ti + 1)) inb iek iep), (oX5 r1 k1 k2 k3 (nI ct)), (k1, .inl (cA 0, 701, .inl fk)), (k2, .inl (cA 0, 701, .inl ft)), (k3, .inl (cA 1, 701, .inr (.inl fv))), (oX3 p0 pr pb pe pg p1 (nI nd) p2 p3 p4 p5 (nI cn) p6 (nI pq) p7 p8 p9 (nI sc)), (p2, .inl (cA 1, 10, .inr (.inl fna))), (p6, .inl (cA 1, 8, .inr (.inl fpn))), (p7, .inl (cA 0, 350, .inl fst)), (p8, .inl (cA 0, 350, .inl fop))]) hP hD hS hA [5, 6, 7, 8, 9, 0, 1, 2, 3, 4] (by decide +kernel) rfl
                                    refine va_calli (va_runV (As := []) (rest := []) ⟨hx, hb, hml, hown, hts⟩ (x_readProofName l D cA sa r0 p0 (ti + 1) ln inb iek iep r1 k1 k2 k3 ct fk ft fv fb gP gR p1 p2 p3 p4 p5 p6 p7 p8 p9 cn pq nd sc pr pb pe pg fna fpn fst fop ml pl sl H.size hct hln hn45.1 hTX hcn hpq hnd hsc hNM hNP (by omega)) (cwV 0 hts gX4_readFact_X4_readProofName rfl rfl rfl (by decide +kernel) ⟨by show (1) + 1 ≤ 3 * (k9 + 1) + 20; omega, by show 8 + (2 + 11) + (23) ≤ 72 * (k9 + 1) + 320; omega⟩) ⟨Wd.blind, va_recv hK hPc (ci := 8) (q0 := 0) rfl rfl, fun U hU hW => ⟨rfl, Wd.call hPc hDc hK hC hZ hS hFc U hU hW⟩⟩ rfl rfl hl.1 rfl (lv_room (Nat.le_of_ble_eq_true rfl)) dX4_readFact_249 ⟨(Nat.le_of_ble_eq_true rfl), (Nat.le_of_ble_eq_true rfl)⟩) hS (fun q _ h => hFc q h) hFc (fun rn85 u t H1 locs ht hvm hw hB hz1 hk1 hS => ?_)
                                    obtain ⟨qn86, qn87, qn88, zn89, zn90, zn91, fn92, fn93, fn94, zn95, hn96, hn97, hn98, hn99, hn100, hn101, hn102, hn103, hn104, hn105, hn106, hn107, hn108, hn109, hn110, hn111, hn112, hn113, hP1, hD1⟩ := hB
                                    rw [ht] at hP1
                                    obtain ⟨hP, hD⟩ := PDq.join (w := [(oX4 r0 r1 p0 (nI qn86) (fk qn86) (ft qn86) (fv qn86) zn89 zn90 zn91), (oX5 r1 k1 k2 k3 (nI ct)), (k1, .inl (cA 0, 701, .inl fk)), (k2, .inl (cA 0, 701, .inl ft)), (k3, .inl (cA 1, 701, .inr (.inl fv))), (oX3 p0 pr pb pe pg p1 (nI nd) p2 p3 p4 p5 (nI cn) p6 (nI qn87) p7 p8 p9 (nI qn88)), (p2, .inl (cA 1, 10, .inr (.inl fna))), (p6, .inl (cA 1, 8, .inr (.inl fn92))), (p7, .inl (cA 0, 350, .inl fn93)), (p8, .inl (cA 0, 350, .inl fn94))]) 0 hP hD [5, 6, 7, 8, 9, 0, 1, 2, 3, 4] [] rfl rfl (by decide) (by decide +kernel) hk1 hFc hP1 hD1 rfl
                                    generalize H1 = H at hP hS ⊢
                                    rcases hw.2 with hr9 | hr9
                                    · skip
                                      have hn112 := hn112 (hw.1.trans hr9)
                                      have hn113 := hn113 (hw.1.trans hr9)
                                      subst hr9
                                      obtain ⟨hP9, hD9⟩ := PDq.sub (ws' := [(oX4 r0 r1 p0 (nI qn86) (fk qn86) (ft qn86) (fv qn86) zn89 zn90 zn91), (oX5 r1 k1 k2 k3 (nI ct)), (k1, .inl (cA 0, 701, .inl fk)), (k2, .inl (cA 0, 701, .inl ft)), (k3, .inl (cA 1, 701, .inr (.inl fv))), (oX3 p0 pr pb pe pg p1 (nI nd) p2 p3 p4 p5 (nI cn) p6 (nI qn87) p7 p8 p9 (nI qn88)), (p2, .inl (cA 1, 10, .inr (.inl fna))), (p6, .inl (cA 1, 8, .inr (.inl fn92))), (p7, .inl (cA 0, 350, .inl fn93)), (p8, .inl (cA 0, 350, .inl fn94))]) hP hD [0, 1, 2, 3, 4, 5, 6, 7, 8, 9] (by decide +kernel) rfl
                                      refine W.widen (k := 0) (n := 0) (Nat.le_of_ble_eq_true rfl) (Nat.le_of_ble_eq_true rfl) ?_
                                      exact (W.zret (v := 0) hx hb hr (by first | rfl | decide) (fun t ht hW => ⟨⟨0, 0, rfl, ⟨rfl, by decide⟩, qn86, qn87, qn88, zn89, zn90, zn91, fn92, fn93, fn94, zn95, hn96, hn97, (by omega), hn99, hn100, hn101, (fun h9 => absurd h9 (by decide)), (fun h9 => absurd h9 (by decide)), (fun h9 => absurd h9 (by decide)), (fun h9 => absurd h9 (by decide)), (fun h9 => absurd h9 (by decide)), (fun h9 => absurd h9 (by decide)), (fun _ => (P_pnE hn84 hn112 hn113)), by rw [ht]; exact hP9, hD9⟩, hS.F ht⟩) hS.2.2 dX4_readFact_252)
                                    · skip
                                      have hn102 := hn102 (hw.1.trans hr9)
                                      obtain rfl : iek = zn90 := hn102.symm
                                      obtain ⟨hP, hD⟩ : PDq D A [(oX4 r0 r1 p0 (nI qn86) (fk qn86) (ft qn86) (fv qn86) zn89 iek zn91), (oX5 r1 k1 k2 k3 (nI ct)), (k1, .inl (cA 0, 701, .inl fk)), (k2, .inl (cA 0, 701, .inl ft)), (k3, .inl (cA 1, 701, .inr (.inl fv))), (oX3 p0 pr pb pe pg p1 (nI nd) p2 p3 p4 p5 (nI cn) p6 (nI qn87) p7 p8 p9 (nI qn88)), (p2, .inl (cA 1, 10, .inr (.inl fna))), (p6, .inl (cA 1, 8, .inr (.inl fn92))), (p7, .inl (cA 0, 350, .inl fn93)), (p8, .inl (cA 0, 350, .inl fn94))] H := ⟨hP, hD⟩
                                      have hn103 := hn103 (hw.1.trans hr9)
                                      obtain rfl : iep = zn91 := hn103.symm
                                      obtain ⟨hP, hD⟩ : PDq D A [(oX4 r0 r1 p0 (nI qn86) (fk qn86) (ft qn86) (fv qn86) zn89 iek iep), (oX5 r1 k1 k2 k3 (nI ct)), (k1, .inl (cA 0, 701, .inl fk)), (k2, .inl (cA 0, 701, .inl ft)), (k3, .inl (cA 1, 701, .inr (.inl fv))), (oX3 p0 pr pb pe pg p1 (nI nd) p2 p3 p4 p5 (nI cn) p6 (nI qn87) p7 p8 p9 (nI qn88)), (p2, .inl (cA 1, 10, .inr (.inl fna))), (p6, .inl (cA 1, 8, .inr (.inl fn92))), (p7, .inl (cA 0, 350, .inl fn93)), (p8, .inl (cA 0, 350, .inl fn94))] H := ⟨hP, hD⟩
                                      have hn104 := hn104 (hw.1.trans hr9)
                                      subst hn104
                                      obtain ⟨hP, hD⟩ : PDq D A [(oX4 r0 r1 p0 (nI ((ti + 1) + 1)) (fk ((ti + 1) + 1)) (ft ((ti + 1) + 1)) (fv ((ti + 1) + 1)) zn89 iek iep), (oX5 r1 k1 k2 k3 (nI ct)), (k1, .inl (cA 0, 701, .inl fk)), (k2, .inl (cA 0, 701, .inl ft)), (k3, .inl (cA 1, 701, .inr (.inl fv))), (oX3 p0 pr pb pe pg p1 (nI nd) p2 p3 p4 p5 (nI cn) p6 (nI qn87) p7 p8 p9 (nI qn88)), (p2, .inl (cA 1, 10, .inr (.inl fna))), (p6, .inl (cA 1, 8, .inr (.inl fn92))), (p7, .inl (cA 0, 350, .inl fn93)), (p8, .inl (cA 0, 350, .inl fn94))] H := ⟨hP, hD⟩
                                      have hn105 := hn105 (hw.1.trans hr9)
                                      have hn106 := hn106 (hw.1.trans hr9)
                                      have hn107 := hn107 (hw.1.trans hr9)
                                      subst hn107
                                      obtain ⟨hP, hD⟩ : PDq D A [(oX4 r0 r1 p0 (nI ((ti + 1) + 1)) (fk ((ti + 1) + 1)) (ft ((ti + 1) + 1)) (fv ((ti + 1) + 1)) zn89 iek iep), (oX5 r1 k1 k2 k3 (nI ct)), (k1, .inl (cA 0, 701, .inl fk)), (k2, .inl (cA 0, 701, .inl ft)), (k3, .inl (cA 1, 701, .inr (.inl fv))), (oX3 p0 pr pb pe pg p1 (nI nd) p2 p3 p4 p5 (nI cn) p6 (nI qn87) p7 p8 p9 (nI (sc + 1))), (p2, .inl (cA 1, 10, .inr (.inl fna))), (p6, .inl (cA 1, 8, .inr (.inl fn92))), (p7, .inl (cA 0, 350, .inl fn93)), (p8, .inl (cA 0, 350, .inl fn94))] H := ⟨hP, hD⟩
                                      have hn108 := hn108 (hw.1.trans hr9)
                                      have hn109 := hn109 (hw.1.trans hr9)
                                      have hn110 := hn110 (hw.1.trans hr9)
                                      have hn111 := hn111 (hw.1.trans hr9)
                                      subst hr9
                                      obtain ⟨hP9, hD9⟩ := PDq.sub (ws' := [(oX4 r0 r1 p0 (nI ((ti + 1) + 1)) (fk ((ti + 1) + 1)) (ft ((ti + 1) + 1)) (fv ((ti + 1) + 1)) zn89 iek iep), (oX5 r1 k1 k2 k3 (nI ct)), (k1, .inl (cA 0, 701, .inl fk)), (k2, .inl (cA 0, 701, .inl ft)), (k3, .inl (cA 1, 701, .inr (.inl fv))), (oX3 p0 pr pb pe pg p1 (nI nd) p2 p3 p4 p5 (nI cn) p6 (nI qn87) p7 p8 p9 (nI (sc + 1))), (p2, .inl (cA 1, 10, .inr (.inl fna))), (p6, .inl (cA 1, 8, .inr (.inl fn92))), (p7, .inl (cA 0, 350, .inl fn93)), (p8, .inl (cA 0, 350, .inl fn94))]) hP hD [0, 1, 2, 3, 4, 5, 6, 7, 8, 9] (by decide +kernel) rfl
                                      refine W.widen (k := 0) (n := 0) (Nat.le_of_ble_eq_true rfl) (Nat.le_of_ble_eq_true rfl) ?_
                                      exact (W.zret (v := 1) hx hb hr (by first | rfl | decide) (fun t ht hW => ⟨⟨1, 1, rfl, ⟨rfl, by decide⟩, ((ti + 1) + 1), qn87, (sc + 1), zn89, iek, iep, fn92, fn93, fn94, zn95, hn96, hn97, (by omega), hn99, hn100, hn101, (fun _ => rfl), (fun _ => rfl), (fun _ => hn105), (fun _ => (by omega)), (fun _ => (P_pn hn84 hn106)), (fun _ => (CD9.one (C_two hn84 (Or.inr (Or.inl rfl))) hn110 hn111 (E_18 hn108 (by have q9 := hn101.1; omega) rfl) hn109 rfl)), (fun h9 => absurd h9 (by decide)), by rw [ht]; exact hP9, hD9⟩, hS.F ht⟩) hS.2.2 dX4_readFact_252)
                                  · skip
                                    by_cases hn114 : (fk ti) = 19
                                    · skip
                                      refine W.eq (g2 := F0 m 52 ls [.int 19]) (by rw [hn114]) ?_
                                      refine lv_tableIn (off := 201) (tgt := 253) hx hb dX4_readFact_52 (by decide) (by decide) (by decide) (by decide) ?_
                                      refine lv_aload_n hx hb dX4_readFact_253 rfl (lv_at hl 1 rfl) ?_
                                      obtain ⟨hPc, hDc, hFc⟩ := PDq.cut (wc := [(oX4 r0 r1 p0 (nI (ti + 1)) (fk (ti + 1)) (ft (ti + 1)) (fv (ti + 1)) inb iek iep), (oX5 r1 k1 k2 k3 (nI ct)), (k1, .inl (cA 0, 701, .inl fk)), (k2, .inl (cA 0, 701, .inl ft)), (k3, .inl (cA 1, 701, .inr (.inl fv))), (oX3 p0 pr pb pe pg p1 (nI nd) p2 p3 p4 p5 (nI cn) p6 (nI pq) p7 p8 p9 (nI sc)), (p2, .inl (cA 1, 10, .inr (.inl fna))), (p6, .inl (cA 1, 8, .inr (.inl fpn))), (p7, .inl (cA 0, 350, .inl fst)), (p8, .inl (cA 0, 350, .inl fop))]) hP hD hS hA [5, 6, 7, 8, 9, 0, 1, 2, 3, 4] (by decide +kernel) rfl
                                      refine va_calli (va_runV (As := []) (rest := []) ⟨hx, hb, hml, hown, hts⟩ (x_readDoneName l D cA sa r0 p0 (ti + 1) ln inb iek iep r1 k1 k2 k3 ct fk ft fv fb gP gR p1 p2 p3 p4 p5 p6 p7 p8 p9 cn pq nd sc pr pb pe pg fna fpn fst fop ml pl sl H.size hct hln hn45.1 hTX hcn hpq hnd hsc hNM hNP (by omega)) (cwV 0 hts gX4_readFact_X4_readDoneName rfl rfl rfl (by decide +kernel) ⟨by show (1) + 1 ≤ 3 * (k9 + 1) + 20; omega, by show 8 + (2 + 11) + (23) ≤ 72 * (k9 + 1) + 320; omega⟩) ⟨Wd.blind, va_recv hK hPc (ci := 8) (q0 := 0) rfl rfl, fun U hU hW => ⟨rfl, Wd.call hPc hDc hK hC hZ hS hFc U hU hW⟩⟩ rfl rfl hl.1 rfl (lv_room (Nat.le_of_ble_eq_true rfl)) dX4_readFact_254 ⟨(Nat.le_of_ble_eq_true rfl), (Nat.le_of_ble_eq_true rfl)⟩) hS (fun q _ h => hFc q h) hFc (fun rn115 u t H1 locs ht hvm hw hB hz1 hk1 hS => ?_)
                                      obtain ⟨qn116, qn117, qn118, zn119, zn120, zn121, fn122, fn123, fn124, zn125, hn126, hn127, hn128, hn129, hn130, hn131, hn132, hn133, hn134, hn135, hn136, hn137, hn138, hn139, hn140, hn141, hn142, hP1, hD1⟩ := hB
                                      rw [ht] at hP1
                                      obtain ⟨hP, hD⟩ := PDq.join (w := [(oX4 r0 r1 p0 (nI qn116) (fk qn116) (ft qn116) (fv qn116) zn119 zn120 zn121), (oX5 r1 k1 k2 k3 (nI ct)), (k1, .inl (cA 0, 701, .inl fk)), (k2, .inl (cA 0, 701, .inl ft)), (k3, .inl (cA 1, 701, .inr (.inl fv))), (oX3 p0 pr pb pe pg p1 (nI nd) p2 p3 p4 p5 (nI cn) p6 (nI qn117) p7 p8 p9 (nI qn118)), (p2, .inl (cA 1, 10, .inr (.inl fna))), (p6, .inl (cA 1, 8, .inr (.inl fn122))), (p7, .inl (cA 0, 350, .inl fn123)), (p8, .inl (cA 0, 350, .inl fn124))]) 0 hP hD [5, 6, 7, 8, 9, 0, 1, 2, 3, 4] [] rfl rfl (by decide) (by decide +kernel) hk1 hFc hP1 hD1 rfl
                                      generalize H1 = H at hP hS ⊢
                                      rcases hw.2 with hr9 | hr9
                                      · skip
                                        have hn141 := hn141 (hw.1.trans hr9)
                                        have hn142 := hn142 (hw.1.trans hr9)
                                        subst hr9
                                        obtain ⟨hP9, hD9⟩ := PDq.sub (ws' := [(oX4 r0 r1 p0 (nI qn116) (fk qn116) (ft qn116) (fv qn116) zn119 zn120 zn121), (oX5 r1 k1 k2 k3 (nI ct)), (k1, .inl (cA 0, 701, .inl fk)), (k2, .inl (cA 0, 701, .inl ft)), (k3, .inl (cA 1, 701, .inr (.inl fv))), (oX3 p0 pr pb pe pg p1 (nI nd) p2 p3 p4 p5 (nI cn) p6 (nI qn117) p7 p8 p9 (nI qn118)), (p2, .inl (cA 1, 10, .inr (.inl fna))), (p6, .inl (cA 1, 8, .inr (.inl fn122))), (p7, .inl (cA 0, 350, .inl fn123)), (p8, .inl (cA 0, 350, .inl fn124))]) hP hD [0, 1, 2, 3, 4, 5, 6, 7, 8, 9] (by decide +kernel) rfl
                                        refine W.widen (k := 0) (n := 0) (Nat.le_of_ble_eq_true rfl) (Nat.le_of_ble_eq_true rfl) ?_
                                        exact (W.zret (v := 0) hx hb hr (by first | rfl | decide) (fun t ht hW => ⟨⟨0, 0, rfl, ⟨rfl, by decide⟩, qn116, qn117, qn118, zn119, zn120, zn121, fn122, fn123, fn124, zn125, hn126, hn127, (by omega), hn129, hn130, hn131, (fun h9 => absurd h9 (by decide)), (fun h9 => absurd h9 (by decide)), (fun h9 => absurd h9 (by decide)), (fun h9 => absurd h9 (by decide)), (fun h9 => absurd h9 (by decide)), (fun h9 => absurd h9 (by decide)), (fun _ => (P_dnE hn114 hn141 hn142)), by rw [ht]; exact hP9, hD9⟩, hS.F ht⟩) hS.2.2 dX4_readFact_257)
                                      · skip
                                        have hn132 := hn132 (hw.1.trans hr9)
                                        obtain rfl : iek = zn120 := hn132.symm
                                        obtain ⟨hP, hD⟩ : PDq D A [(oX4 r0 r1 p0 (nI qn116) (fk qn116) (ft qn116) (fv qn116) zn119 iek zn121), (oX5 r1 k1 k2 k3 (nI ct)), (k1, .inl (cA 0, 701, .inl fk)), (k2, .inl (cA 0, 701, .inl ft)), (k3, .inl (cA 1, 701, .inr (.inl fv))), (oX3 p0 pr pb pe pg p1 (nI nd) p2 p3 p4 p5 (nI cn) p6 (nI qn117) p7 p8 p9 (nI qn118)), (p2, .inl (cA 1, 10, .inr (.inl fna))), (p6, .inl (cA 1, 8, .inr (.inl fn122))), (p7, .inl (cA 0, 350, .inl fn123)), (p8, .inl (cA 0, 350, .inl fn124))] H := ⟨hP, hD⟩
                                        have hn133 := hn133 (hw.1.trans hr9)
                                        obtain rfl : iep = zn121 := hn133.symm
                                        obtain ⟨hP, hD⟩ : PDq D A [(oX4 r0 r1 p0 (nI qn116) (fk qn116) (ft qn116) (fv qn116) zn119 iek iep), (oX5 r1 k1 k2 k3 (nI ct)), (k1, .inl (cA 0, 701, .inl fk)), (k2, .inl (cA 0, 701, .inl ft)), (k3, .inl (cA 1, 701, .inr (.inl fv))), (oX3 p0 pr pb pe pg p1 (nI nd) p2 p3 p4 p5 (nI cn) p6 (nI qn117) p7 p8 p9 (nI qn118)), (p2, .inl (cA 1, 10, .inr (.inl fna))), (p6, .inl (cA 1, 8, .inr (.inl fn122))), (p7, .inl (cA 0, 350, .inl fn123)), (p8, .inl (cA 0, 350, .inl fn124))] H := ⟨hP, hD⟩
                                        have hn134 := hn134 (hw.1.trans hr9)
                                        subst hn134
                                        obtain ⟨hP, hD⟩ : PDq D A [(oX4 r0 r1 p0 (nI ((ti + 1) + 1)) (fk ((ti + 1) + 1)) (ft ((ti + 1) + 1)) (fv ((ti + 1) + 1)) zn119 iek iep), (oX5 r1 k1 k2 k3 (nI ct)), (k1, .inl (cA 0, 701, .inl fk)), (k2, .inl (cA 0, 701, .inl ft)), (k3, .inl (cA 1, 701, .inr (.inl fv))), (oX3 p0 pr pb pe pg p1 (nI nd) p2 p3 p4 p5 (nI cn) p6 (nI qn117) p7 p8 p9 (nI qn118)), (p2, .inl (cA 1, 10, .inr (.inl fna))), (p6, .inl (cA 1, 8, .inr (.inl fn122))), (p7, .inl (cA 0, 350, .inl fn123)), (p8, .inl (cA 0, 350, .inl fn124))] H := ⟨hP, hD⟩
                                        have hn135 := hn135 (hw.1.trans hr9)
                                        have hn136 := hn136 (hw.1.trans hr9)
                                        obtain rfl : pl = zn125 := hn136.symm
                                        obtain ⟨hP, hD⟩ : PDq D A [(oX4 r0 r1 p0 (nI ((ti + 1) + 1)) (fk ((ti + 1) + 1)) (ft ((ti + 1) + 1)) (fv ((ti + 1) + 1)) zn119 iek iep), (oX5 r1 k1 k2 k3 (nI ct)), (k1, .inl (cA 0, 701, .inl fk)), (k2, .inl (cA 0, 701, .inl ft)), (k3, .inl (cA 1, 701, .inr (.inl fv))), (oX3 p0 pr pb pe pg p1 (nI nd) p2 p3 p4 p5 (nI cn) p6 (nI qn117) p7 p8 p9 (nI qn118)), (p2, .inl (cA 1, 10, .inr (.inl fna))), (p6, .inl (cA 1, 8, .inr (.inl fn122))), (p7, .inl (cA 0, 350, .inl fn123)), (p8, .inl (cA 0, 350, .inl fn124))] H := ⟨hP, hD⟩
                                        have hn137 := hn137 (hw.1.trans hr9)
                                        have hn138 := hn138 (hw.1.trans hr9)
                                        subst hn138
                                        obtain ⟨hP, hD⟩ : PDq D A [(oX4 r0 r1 p0 (nI ((ti + 1) + 1)) (fk ((ti + 1) + 1)) (ft ((ti + 1) + 1)) (fv ((ti + 1) + 1)) zn119 iek iep), (oX5 r1 k1 k2 k3 (nI ct)), (k1, .inl (cA 0, 701, .inl fk)), (k2, .inl (cA 0, 701, .inl ft)), (k3, .inl (cA 1, 701, .inr (.inl fv))), (oX3 p0 pr pb pe pg p1 (nI nd) p2 p3 p4 p5 (nI cn) p6 (nI qn117) p7 p8 p9 (nI (sc + 1))), (p2, .inl (cA 1, 10, .inr (.inl fna))), (p6, .inl (cA 1, 8, .inr (.inl fn122))), (p7, .inl (cA 0, 350, .inl fn123)), (p8, .inl (cA 0, 350, .inl fn124))] H := ⟨hP, hD⟩
                                        have hn139 := hn139 (hw.1.trans hr9)
                                        have hn140 := hn140 (hw.1.trans hr9)
                                        subst hr9
                                        obtain ⟨hP9, hD9⟩ := PDq.sub (ws' := [(oX4 r0 r1 p0 (nI ((ti + 1) + 1)) (fk ((ti + 1) + 1)) (ft ((ti + 1) + 1)) (fv ((ti + 1) + 1)) zn119 iek iep), (oX5 r1 k1 k2 k3 (nI ct)), (k1, .inl (cA 0, 701, .inl fk)), (k2, .inl (cA 0, 701, .inl ft)), (k3, .inl (cA 1, 701, .inr (.inl fv))), (oX3 p0 pr pb pe pg p1 (nI nd) p2 p3 p4 p5 (nI cn) p6 (nI qn117) p7 p8 p9 (nI (sc + 1))), (p2, .inl (cA 1, 10, .inr (.inl fna))), (p6, .inl (cA 1, 8, .inr (.inl fn122))), (p7, .inl (cA 0, 350, .inl fn123)), (p8, .inl (cA 0, 350, .inl fn124))]) hP hD [0, 1, 2, 3, 4, 5, 6, 7, 8, 9] (by decide +kernel) rfl
                                        refine W.widen (k := 0) (n := 0) (Nat.le_of_ble_eq_true rfl) (Nat.le_of_ble_eq_true rfl) ?_
                                        exact (W.zret (v := 1) hx hb hr (by first | rfl | decide) (fun t ht hW => ⟨⟨1, 1, rfl, ⟨rfl, by decide⟩, ((ti + 1) + 1), qn117, (sc + 1), zn119, iek, iep, fn122, fn123, fn124, pl, hn126, hn127, (by omega), hn129, hn130, hn131, (fun _ => rfl), (fun _ => rfl), (fun _ => hn135), (fun _ => (by omega)), (fun _ => (P_dn hn114 hn137)), (fun _ => (CD9.one (C_two hn114 (Or.inr (Or.inr (Or.inl rfl)))) hn139 hn140 (E_19 hn137.2 (by have q9 := hNM.1; omega) rfl) (Ext9.rf pl) rfl)), (fun h9 => absurd h9 (by decide)), by rw [ht]; exact hP9, hD9⟩, hS.F ht⟩) hS.2.2 dX4_readFact_257)
                                    · skip
                                      by_cases hn143 : (fk ti) = 20
                                      · skip
                                        refine W.eq (g2 := F0 m 52 ls [.int 20]) (by rw [hn143]) ?_
                                        refine lv_tableIn (off := 165) (tgt := 217) hx hb dX4_readFact_52 (by decide) (by decide) (by decide) (by decide) ?_
                                        refine lv_aload_n hx hb dX4_readFact_217 rfl (lv_at hl 1 rfl) ?_
                                        refine lv_iconst (v := 0) hx hb dX4_readFact_218 (by decide) ?_
                                        refine lv_ldc (v := 99999) hx hb hown (hts (.constant RX4 120 99999) (by decide +kernel)) dX4_readFact_219 ?_
                                        obtain ⟨hPc, hDc, hFc⟩ := PDq.cut (wc := [(oX4 r0 r1 p0 (nI (ti + 1)) (fk (ti + 1)) (ft (ti + 1)) (fv (ti + 1)) inb iek iep), (oX5 r1 k1 k2 k3 (nI ct)), (k1, .inl (cA 0, 701, .inl fk)), (k2, .inl (cA 0, 701, .inl ft)), (k3, .inl (cA 1, 701, .inr (.inl fv)))]) hP hD hS hA [5, 6, 7, 8, 9] (by decide) rfl
                                        refine va_calli (va_runV (As := [.int 0, .int 99999]) (rest := []) ⟨hx, hb, hml, hown, hts⟩ (x_takeNumber l D cA sa r0 p0 (ti + 1) ln inb iek iep r1 k1 k2 k3 ct fk ft fv fb gP gR 0 99999 H.size hct hln hn45.1 hTX (by omega) (by omega)) (cwV 2 hts gX4_readFact_X4_takeNumber rfl rfl rfl (by decide +kernel) ⟨by show (1) + 1 ≤ 3 * (k9 + 1) + 20; omega, by show 8 + (3 + 11) + (21) ≤ 72 * (k9 + 1) + 320; omega⟩) ⟨Wd.blind, va_recv hK hPc (ci := 8) (q0 := 0) rfl rfl, fun U hU hW => ⟨rfl, Wd.call hPc hDc hK hC hZ hS hFc U hU hW⟩⟩ rfl rfl hl.1 rfl (lv_room (Nat.le_of_ble_eq_true rfl)) dX4_readFact_221 ⟨(Nat.le_of_ble_eq_true rfl), (Nat.le_of_ble_eq_true rfl)⟩) hS (fun q _ h => hFc q h) hFc (fun rn144 u t H1 locs ht hvm hw hB hz1 hk1 hS => ?_)
                                        obtain ⟨qn145, zn146, zn147, zn148, hn149, hn150, hn151, hn152, hn153, hn154, hn155, hn156, hn157, hn158, hn159, hP1, hD1⟩ := hB
                                        rw [ht] at hP1
                                        obtain ⟨hP, hD⟩ := PDq.join (w := [(oX3 p0 pr pb pe pg p1 (nI nd) p2 p3 p4 p5 (nI cn) p6 (nI pq) p7 p8 p9 (nI sc)), (p2, .inl (cA 1, 10, .inr (.inl fna))), (p6, .inl (cA 1, 8, .inr (.inl fpn))), (p7, .inl (cA 0, 350, .inl fst)), (p8, .inl (cA 0, 350, .inl fop)), (oX4 r0 r1 p0 (nI qn145) (fk qn145) (ft qn145) (fv qn145) zn146 zn147 zn148), (oX5 r1 k1 k2 k3 (nI ct)), (k1, .inl (cA 0, 701, .inl fk)), (k2, .inl (cA 0, 701, .inl ft)), (k3, .inl (cA 1, 701, .inr (.inl fv)))]) 5 hP hD [5, 6, 7, 8, 9] [0, 1, 2, 3, 4] rfl rfl (by decide) (by decide +kernel) hk1 hFc hP1 hD1 rfl
                                        generalize H1 = H at hP hS ⊢
                                        rcases hw.2 with hr9 | hr9
                                        · skip
                                          have hn158 := hn158 (hw.1.trans hr9)
                                          have hn159 := hn159 (hw.1.trans hr9)
                                          subst hr9
                                          refine lv_if_eq (tgt := 246) hx hb dX4_readFact_224 (by decide) (fun c160 => ?_) (fun c9 => absurd c9 (by decide))
                                          refine lv_iconst (v := 0) hx hb dX4_readFact_246 (by decide) ?_
                                          obtain ⟨hP9, hD9⟩ := PDq.sub (ws' := [(oX4 r0 r1 p0 (nI qn145) (fk qn145) (ft qn145) (fv qn145) zn146 zn147 zn148), (oX5 r1 k1 k2 k3 (nI ct)), (k1, .inl (cA 0, 701, .inl fk)), (k2, .inl (cA 0, 701, .inl ft)), (k3, .inl (cA 1, 701, .inr (.inl fv))), (oX3 p0 pr pb pe pg p1 (nI nd) p2 p3 p4 p5 (nI cn) p6 (nI pq) p7 p8 p9 (nI sc)), (p2, .inl (cA 1, 10, .inr (.inl fna))), (p6, .inl (cA 1, 8, .inr (.inl fpn))), (p7, .inl (cA 0, 350, .inl fst)), (p8, .inl (cA 0, 350, .inl fop))]) hP hD [5, 6, 7, 8, 9, 0, 1, 2, 3, 4] (by decide +kernel) rfl
                                          refine W.widen (k := 0) (n := 0) (Nat.le_of_ble_eq_true rfl) (Nat.le_of_ble_eq_true rfl) ?_
                                          exact (W.zret (v := 0) hx hb hr (by first | rfl | decide) (fun t ht hW => ⟨⟨0, 0, rfl, ⟨rfl, by decide⟩, qn145, pq, sc, zn146, zn147, zn148, fpn, fst, fop, pl, hn149, hn150, (by omega), hpq, hsc, hNP, (fun h9 => absurd h9 (by decide)), (fun h9 => absurd h9 (by decide)), (fun h9 => absurd h9 (by decide)), (fun h9 => absurd h9 (by decide)), (fun h9 => absurd h9 (by decide)), (fun h9 => absurd h9 (by decide)), (fun _ => (P_sumEx hn143 hn158 hn159)), by rw [ht]; exact hP9, hD9⟩, hS.F ht⟩) hS.2.2 dX4_readFact_247)
                                        · skip
                                          have hn152 := hn152 (hw.1.trans hr9)
                                          subst hn152
                                          obtain ⟨hP, hD⟩ : PDq D A [(oX3 p0 pr pb pe pg p1 (nI nd) p2 p3 p4 p5 (nI cn) p6 (nI pq) p7 p8 p9 (nI sc)), (p2, .inl (cA 1, 10, .inr (.inl fna))), (p6, .inl (cA 1, 8, .inr (.inl fpn))), (p7, .inl (cA 0, 350, .inl fst)), (p8, .inl (cA 0, 350, .inl fop)), (oX4 r0 r1 p0 (nI ((ti + 1) + 1)) (fk ((ti + 1) + 1)) (ft ((ti + 1) + 1)) (fv ((ti + 1) + 1)) zn146 zn147 zn148), (oX5 r1 k1 k2 k3 (nI ct)), (k1, .inl (cA 0, 701, .inl fk)), (k2, .inl (cA 0, 701, .inl ft)), (k3, .inl (cA 1, 701, .inr (.inl fv)))] H := ⟨hP, hD⟩
                                          have hn153 := hn153 (hw.1.trans hr9)
                                          obtain rfl : iek = zn147 := hn153.symm
                                          obtain ⟨hP, hD⟩ : PDq D A [(oX3 p0 pr pb pe pg p1 (nI nd) p2 p3 p4 p5 (nI cn) p6 (nI pq) p7 p8 p9 (nI sc)), (p2, .inl (cA 1, 10, .inr (.inl fna))), (p6, .inl (cA 1, 8, .inr (.inl fpn))), (p7, .inl (cA 0, 350, .inl fst)), (p8, .inl (cA 0, 350, .inl fop)), (oX4 r0 r1 p0 (nI ((ti + 1) + 1)) (fk ((ti + 1) + 1)) (ft ((ti + 1) + 1)) (fv ((ti + 1) + 1)) zn146 iek zn148), (oX5 r1 k1 k2 k3 (nI ct)), (k1, .inl (cA 0, 701, .inl fk)), (k2, .inl (cA 0, 701, .inl ft)), (k3, .inl (cA 1, 701, .inr (.inl fv)))] H := ⟨hP, hD⟩
                                          have hn154 := hn154 (hw.1.trans hr9)
                                          obtain rfl : iep = zn148 := hn154.symm
                                          obtain ⟨hP, hD⟩ : PDq D A [(oX3 p0 pr pb pe pg p1 (nI nd) p2 p3 p4 p5 (nI cn) p6 (nI pq) p7 p8 p9 (nI sc)), (p2, .inl (cA 1, 10, .inr (.inl fna))), (p6, .inl (cA 1, 8, .inr (.inl fpn))), (p7, .inl (cA 0, 350, .inl fst)), (p8, .inl (cA 0, 350, .inl fop)), (oX4 r0 r1 p0 (nI ((ti + 1) + 1)) (fk ((ti + 1) + 1)) (ft ((ti + 1) + 1)) (fv ((ti + 1) + 1)) zn146 iek iep), (oX5 r1 k1 k2 k3 (nI ct)), (k1, .inl (cA 0, 701, .inl fk)), (k2, .inl (cA 0, 701, .inl ft)), (k3, .inl (cA 1, 701, .inr (.inl fv)))] H := ⟨hP, hD⟩
                                          have hn155 := hn155 (hw.1.trans hr9)
                                          have hn156 := hn156 (hw.1.trans hr9)
                                          have hn157 := hn157 (hw.1.trans hr9)
                                          subst hn157
                                          obtain ⟨hP, hD⟩ : PDq D A [(oX3 p0 pr pb pe pg p1 (nI nd) p2 p3 p4 p5 (nI cn) p6 (nI pq) p7 p8 p9 (nI sc)), (p2, .inl (cA 1, 10, .inr (.inl fna))), (p6, .inl (cA 1, 8, .inr (.inl fpn))), (p7, .inl (cA 0, 350, .inl fst)), (p8, .inl (cA 0, 350, .inl fop)), (oX4 r0 r1 p0 (nI ((ti + 1) + 1)) (fk ((ti + 1) + 1)) (ft ((ti + 1) + 1)) (fv ((ti + 1) + 1)) ((fv (ti + 1)).toInt32) iek iep), (oX5 r1 k1 k2 k3 (nI ct)), (k1, .inl (cA 0, 701, .inl fk)), (k2, .inl (cA 0, 701, .inl ft)), (k3, .inl (cA 1, 701, .inr (.inl fv)))] H := ⟨hP, hD⟩
                                          subst hr9
                                          refine lv_if_eq (tgt := 246) hx hb dX4_readFact_224 (by decide) (fun c9 => absurd c9 (by decide)) (fun c161 => ?_)
                                          refine lv_aload_n hx hb dX4_readFact_227 rfl (lv_at hl 1 rfl) ?_
                                          refine va_get (D := D) (ci := 8) (v := .ref p0) (C := RX4) (T := TX4) (N := 9) hx hb hts inX4 hown hK hP 5 rfl rfl 1 (by decide) (hts (.fieldLink RX4 25 "EscrowDesk$Reader" "plan" "LEscrowDesk$Plan;") (by decide +kernel)) (fun _ h9 => h9) rfl dX4_readFact_228 ?_
                                          refine lv_iload_n hx hb dX4_readFact_231 rfl (lv_at hl 0 rfl) ?_
                                          refine lv_aload_n hx hb dX4_readFact_232 rfl (lv_at hl 1 rfl) ?_
                                          refine va_get (D := D) (ci := 8) (v := .int ((fv (ti + 1)).toInt32)) (C := RX4) (T := TX4) (N := 9) hx hb hts inX4 hown hK hP 5 rfl rfl 6 (by decide) (hts (.fieldLink RX4 91 "EscrowDesk$Reader" "number" "I") (by decide +kernel)) (fun _ h9 => h9) rfl dX4_readFact_233 ?_
                                          obtain ⟨hPc, hDc, hFc⟩ := PDq.cut (wc := [(oX3 p0 pr pb pe pg p1 (nI nd) p2 p3 p4 p5 (nI cn) p6 (nI pq) p7 p8 p9 (nI sc)), (p7, .inl (cA 0, 350, .inl fst)), (p8, .inl (cA 0, 350, .inl fop))]) hP hD hS hA [0, 3, 4] (by decide) rfl
                                          refine va_calli (va_runV (As := [.int (fk ti), .int ((fv (ti + 1)).toInt32)]) (rest := []) ⟨hx, hb, hml, hown, hts⟩ (x_addStep l D cA sa p0 p1 p2 p3 p4 p5 p6 p7 p8 p9 cn pq nd sc pr pb pe pg (fk ti) ((fv (ti + 1)).toInt32) fst fop H.size (by omega)) (cwV 2 hts gX4_readFact_X3_addStep rfl rfl rfl (by decide +kernel) ⟨by show (0) + 1 ≤ 3 * (k9 + 1) + 20; omega, by show 8 + (3 + 11) + (0) ≤ 72 * (k9 + 1) + 320; omega⟩) ⟨Wd.blind, va_recv hK hPc (ci := 7) (q0 := 0) rfl rfl, fun U hU hW => ⟨rfl, Wd.call hPc hDc hK hC hZ hS hFc U hU hW⟩⟩ rfl rfl hl.1 rfl (lv_room (Nat.le_of_ble_eq_true rfl)) dX4_readFact_236 ⟨(Nat.le_of_ble_eq_true rfl), (Nat.le_of_ble_eq_true rfl)⟩) hS (fun q _ h => hFc q h) hFc (fun rn162 u t H1 locs ht hvm hw hB hz1 hk1 hS => ?_)
                                          obtain ⟨fn163, fn164, hn165, hn166, hP1, hD1⟩ := hB
                                          rw [ht] at hP1
                                          obtain ⟨hP, hD⟩ := PDq.join (w := [(p2, .inl (cA 1, 10, .inr (.inl fna))), (p6, .inl (cA 1, 8, .inr (.inl fpn))), (oX4 r0 r1 p0 (nI ((ti + 1) + 1)) (fk ((ti + 1) + 1)) (ft ((ti + 1) + 1)) (fv ((ti + 1) + 1)) ((fv (ti + 1)).toInt32) iek iep), (oX5 r1 k1 k2 k3 (nI ct)), (k1, .inl (cA 0, 701, .inl fk)), (k2, .inl (cA 0, 701, .inl ft)), (k3, .inl (cA 1, 701, .inr (.inl fv))), (oX3 p0 pr pb pe pg p1 (nI nd) p2 p3 p4 p5 (nI cn) p6 (nI pq) p7 p8 p9 (nI (sc + 1))), (p7, .inl (cA 0, 350, .inl fn163)), (p8, .inl (cA 0, 350, .inl fn164))]) 7 hP hD [0, 3, 4] [1, 2, 5, 6, 7, 8, 9] rfl rfl (by decide) (by decide +kernel) hk1 hFc hP1 hD1 rfl
                                          generalize H1 = H at hP hS ⊢
                                          obtain rfl : rn162 = 1 := hw
                                          refine lv_if_eq (tgt := 246) hx hb dX4_readFact_239 (by decide) (fun c9 => absurd c9 (by decide)) (fun c167 => ?_)
                                          refine lv_iconst (v := 1) hx hb dX4_readFact_242 (by decide) ?_
                                          refine lv_goto (tgt := 247) hx hb dX4_readFact_243 (by decide) ?_
                                          obtain ⟨hP9, hD9⟩ := PDq.sub (ws' := [(oX4 r0 r1 p0 (nI ((ti + 1) + 1)) (fk ((ti + 1) + 1)) (ft ((ti + 1) + 1)) (fv ((ti + 1) + 1)) ((fv (ti + 1)).toInt32) iek iep), (oX5 r1 k1 k2 k3 (nI ct)), (k1, .inl (cA 0, 701, .inl fk)), (k2, .inl (cA 0, 701, .inl ft)), (k3, .inl (cA 1, 701, .inr (.inl fv))), (oX3 p0 pr pb pe pg p1 (nI nd) p2 p3 p4 p5 (nI cn) p6 (nI pq) p7 p8 p9 (nI (sc + 1))), (p2, .inl (cA 1, 10, .inr (.inl fna))), (p6, .inl (cA 1, 8, .inr (.inl fpn))), (p7, .inl (cA 0, 350, .inl fn163)), (p8, .inl (cA 0, 350, .inl fn164))]) hP hD [2, 3, 4, 5, 6, 7, 0, 1, 8, 9] (by decide +kernel) rfl
                                          refine W.widen (k := 0) (n := 0) (Nat.le_of_ble_eq_true rfl) (Nat.le_of_ble_eq_true rfl) ?_
                                          exact (W.zret (v := 1) hx hb hr (by first | rfl | decide) (fun t ht hW => ⟨⟨1, 1, rfl, ⟨rfl, by decide⟩, ((ti + 1) + 1), pq, (sc + 1), ((fv (ti + 1)).toInt32), iek, iep, fpn, fn163, fn164, pl, hn149, hn150, (by omega), hpq, (by omega), hNP, (fun _ => rfl), (fun _ => rfl), (fun _ => (by omega)), (fun _ => (by omega)), (fun _ => (P_sum hn143 hn156)), (fun _ => (CD9.one (C_two hn143 (Or.inr (Or.inr (Or.inr rfl)))) (by have q9 := hn165; rw [hn143] at q9; exact q9) hn166 (E_20 hn156 (by decide) rfl) (Ext9.rf pl) rfl)), (fun h9 => absurd h9 (by decide)), by rw [ht]; exact hP9, hD9⟩, hS.F ht⟩) hS.2.2 dX4_readFact_247)
                                      · skip
                                        refine lv_tableOut (tgt := 258) hx hb dX4_readFact_52 (by have q0 : ¬ ((fk ti)).toInt = 5 := fun e9 => hn47 (Int32.toInt_inj.mp (e9.trans (by decide))); have q1 : ¬ ((fk ti)).toInt = 6 := fun e9 => hn48 (Int32.toInt_inj.mp (e9.trans (by decide))); have q2 : ¬ ((fk ti)).toInt = 7 := fun e9 => hn49 (Int32.toInt_inj.mp (e9.trans (by decide))); have q3 : ¬ ((fk ti)).toInt = 8 := fun e9 => hn50 (Int32.toInt_inj.mp (e9.trans (by decide))); have q4 : ¬ ((fk ti)).toInt = 9 := fun e9 => hn51 (Int32.toInt_inj.mp (e9.trans (by decide))); have q5 : ¬ ((fk ti)).toInt = 10 := fun e9 => hn52 (Int32.toInt_inj.mp (e9.trans (by decide))); have q6 : ¬ ((fk ti)).toInt = 11 := fun e9 => hn53 (Int32.toInt_inj.mp (e9.trans (by decide))); have q7 : ¬ ((fk ti)).toInt = 12 := fun e9 => hn54 (Int32.toInt_inj.mp (e9.trans (by decide))); have q8 : ¬ ((fk ti)).toInt = 13 := fun e9 => hn55 (Int32.toInt_inj.mp (e9.trans (by decide))); have q9 : ¬ ((fk ti)).toInt = 14 := fun e9 => hn56 (Int32.toInt_inj.mp (e9.trans (by decide))); have q10 : ¬ ((fk ti)).toInt = 15 := fun e9 => hn57 (Int32.toInt_inj.mp (e9.trans (by decide))); have q11 : ¬ ((fk ti)).toInt = 16 := fun e9 => hn58 (Int32.toInt_inj.mp (e9.trans (by decide))); have q12 : ¬ ((fk ti)).toInt = 17 := fun e9 => hn59 (Int32.toInt_inj.mp (e9.trans (by decide))); have q13 : ¬ ((fk ti)).toInt = 18 := fun e9 => hn84 (Int32.toInt_inj.mp (e9.trans (by decide))); have q14 : ¬ ((fk ti)).toInt = 19 := fun e9 => hn114 (Int32.toInt_inj.mp (e9.trans (by decide))); have q15 : ¬ ((fk ti)).toInt = 20 := fun e9 => hn143 (Int32.toInt_inj.mp (e9.trans (by decide))); omega) (by decide) ?_
                                        have hn168 := k2122 hn43 hn47 hn58 hn59 hn84 hn114 hn143
                                        refine lv_aload_n hx hb dX4_readFact_258 rfl (lv_at hl 1 rfl) ?_
                                        refine va_get (D := D) (ci := 8) (v := .ref p0) (C := RX4) (T := TX4) (N := 9) hx hb hts inX4 hown hK hP 5 rfl rfl 1 (by decide) (hts (.fieldLink RX4 25 "EscrowDesk$Reader" "plan" "LEscrowDesk$Plan;") (by decide +kernel)) (fun _ h9 => h9) rfl dX4_readFact_259 ?_
                                        refine lv_iload_n hx hb dX4_readFact_262 rfl (lv_at hl 0 rfl) ?_
                                        refine lv_iconst (v := 0) hx hb dX4_readFact_263 (by decide) ?_
                                        obtain ⟨hPc, hDc, hFc⟩ := PDq.cut (wc := [(oX3 p0 pr pb pe pg p1 (nI nd) p2 p3 p4 p5 (nI cn) p6 (nI pq) p7 p8 p9 (nI sc)), (p7, .inl (cA 0, 350, .inl fst)), (p8, .inl (cA 0, 350, .inl fop))]) hP hD hS hA [0, 3, 4] (by decide) rfl
                                        refine va_calli (va_runV (As := [.int (fk ti), .int 0]) (rest := []) ⟨hx, hb, hml, hown, hts⟩ (x_addStep l D cA sa p0 p1 p2 p3 p4 p5 p6 p7 p8 p9 cn pq nd sc pr pb pe pg (fk ti) 0 fst fop H.size (by omega)) (cwV 2 hts gX4_readFact_X3_addStep rfl rfl rfl (by decide +kernel) ⟨by show (0) + 1 ≤ 3 * (k9 + 1) + 20; omega, by show 8 + (3 + 11) + (0) ≤ 72 * (k9 + 1) + 320; omega⟩) ⟨Wd.blind, va_recv hK hPc (ci := 7) (q0 := 0) rfl rfl, fun U hU hW => ⟨rfl, Wd.call hPc hDc hK hC hZ hS hFc U hU hW⟩⟩ rfl rfl hl.1 rfl (lv_room (Nat.le_of_ble_eq_true rfl)) dX4_readFact_264 ⟨(Nat.le_of_ble_eq_true rfl), (Nat.le_of_ble_eq_true rfl)⟩) hS (fun q _ h => hFc q h) hFc (fun rn169 u t H1 locs ht hvm hw hB hz1 hk1 hS => ?_)
                                        obtain ⟨fn170, fn171, hn172, hn173, hP1, hD1⟩ := hB
                                        rw [ht] at hP1
                                        obtain ⟨hP, hD⟩ := PDq.join (w := [(p2, .inl (cA 1, 10, .inr (.inl fna))), (p6, .inl (cA 1, 8, .inr (.inl fpn))), (oX4 r0 r1 p0 (nI (ti + 1)) (fk (ti + 1)) (ft (ti + 1)) (fv (ti + 1)) inb iek iep), (oX5 r1 k1 k2 k3 (nI ct)), (k1, .inl (cA 0, 701, .inl fk)), (k2, .inl (cA 0, 701, .inl ft)), (k3, .inl (cA 1, 701, .inr (.inl fv))), (oX3 p0 pr pb pe pg p1 (nI nd) p2 p3 p4 p5 (nI cn) p6 (nI pq) p7 p8 p9 (nI (sc + 1))), (p7, .inl (cA 0, 350, .inl fn170)), (p8, .inl (cA 0, 350, .inl fn171))]) 7 hP hD [0, 3, 4] [1, 2, 5, 6, 7, 8, 9] rfl rfl (by decide) (by decide +kernel) hk1 hFc hP1 hD1 rfl
                                        generalize H1 = H at hP hS ⊢
                                        obtain rfl : rn169 = 1 := hw
                                        obtain ⟨hP9, hD9⟩ := PDq.sub (ws' := [(oX4 r0 r1 p0 (nI (ti + 1)) (fk (ti + 1)) (ft (ti + 1)) (fv (ti + 1)) inb iek iep), (oX5 r1 k1 k2 k3 (nI ct)), (k1, .inl (cA 0, 701, .inl fk)), (k2, .inl (cA 0, 701, .inl ft)), (k3, .inl (cA 1, 701, .inr (.inl fv))), (oX3 p0 pr pb pe pg p1 (nI nd) p2 p3 p4 p5 (nI cn) p6 (nI pq) p7 p8 p9 (nI (sc + 1))), (p2, .inl (cA 1, 10, .inr (.inl fna))), (p6, .inl (cA 1, 8, .inr (.inl fpn))), (p7, .inl (cA 0, 350, .inl fn170)), (p8, .inl (cA 0, 350, .inl fn171))]) hP hD [2, 3, 4, 5, 6, 7, 0, 1, 8, 9] (by decide +kernel) rfl
                                        refine W.widen (k := 0) (n := 0) (Nat.le_of_ble_eq_true rfl) (Nat.le_of_ble_eq_true rfl) ?_
                                        exact (W.zret (v := 1) hx hb hr (by first | rfl | decide) (fun t ht hW => ⟨⟨1, 1, rfl, ⟨rfl, by decide⟩, (ti + 1), pq, (sc + 1), inb, iek, iep, fpn, fn170, fn171, pl, hn45.1, (by omega), (by omega), hpq, (by omega), hNP, (fun _ => rfl), (fun _ => rfl), (fun _ => (by omega)), (fun _ => (by omega)), (fun _ => (P_plain hn168)), (fun _ => (CD9.one (C_plain hn168) hn172 hn173 (E_pl hn168) (Ext9.rf pl) rfl)), (fun h9 => absurd h9 (by decide)), by rw [ht]; exact hP9, hD9⟩, hS.F ht⟩) hS.2.2 dX4_readFact_267)
      · skip
        subst hr9
        refine lv_if_ne (tgt := 41) hx hb dX4_readFact_32 (by decide) (fun c9 => absurd c9 (by decide)) (fun c174 => ?_)
        refine lv_aload_n hx hb dX4_readFact_35 rfl (lv_at hl 1 rfl) ?_
        refine lv_iconst (v := 2) hx hb dX4_readFact_36 (by decide) ?_
        obtain ⟨hPc, hDc, hFc⟩ := PDq.cut (wc := [(oX4 r0 r1 p0 (nI ti) (fk ti) (ft ti) (fv ti) inb iek iep)]) hP hD hS hA [0] (by decide) rfl
        refine va_calli (va_runV (As := [.int 2]) (rest := []) ⟨hx, hb, hml, hown, hts⟩ (x_fail l D cA sa r0 r1 p0 (nI ti) (fk ti) (ft ti) inb iek iep (fv ti) 2 H.size) (cwV 1 hts gX4_readFact_X4_fail rfl rfl rfl (by decide +kernel) ⟨by show (0) + 1 ≤ 3 * (k9 + 1) + 20; omega, by show 8 + (2 + 11) + (0) ≤ 72 * (k9 + 1) + 320; omega⟩) ⟨Wd.blind, va_recv hK hPc (ci := 8) (q0 := 0) rfl rfl, fun U hU hW => ⟨rfl, Wd.call hPc hDc hK hC hZ hS hFc U hU hW⟩⟩ rfl rfl hl.1 rfl (lv_room (Nat.le_of_ble_eq_true rfl)) dX4_readFact_37 ⟨(Nat.le_of_ble_eq_true rfl), (Nat.le_of_ble_eq_true rfl)⟩) hS (fun q _ h => hFc q h) hFc (fun rn175 u t H1 locs ht hvm hw hB hz1 hk1 hS => ?_)
        obtain ⟨zn176, hn177, hP1, hD1⟩ := hB
        rw [ht] at hP1
        obtain ⟨hP, hD⟩ := PDq.join (w := [(oX5 r1 k1 k2 k3 (nI ct)), (k1, .inl (cA 0, 701, .inl fk)), (k2, .inl (cA 0, 701, .inl ft)), (k3, .inl (cA 1, 701, .inr (.inl fv))), (oX3 p0 pr pb pe pg p1 (nI nd) p2 p3 p4 p5 (nI cn) p6 (nI pq) p7 p8 p9 (nI sc)), (p2, .inl (cA 1, 10, .inr (.inl fna))), (p6, .inl (cA 1, 8, .inr (.inl fpn))), (p7, .inl (cA 0, 350, .inl fst)), (p8, .inl (cA 0, 350, .inl fop)), (oX4 r0 r1 p0 (nI ti) (fk ti) (ft ti) (fv ti) inb zn176 (ft ti))]) 9 hP hD [0] [1, 2, 3, 4, 5, 6, 7, 8, 9] rfl rfl (by decide +kernel) (by decide +kernel) hk1 hFc hP1 hD1 rfl
        generalize H1 = H at hP hS ⊢
        obtain rfl : rn175 = 0 := hw
        obtain ⟨hP9, hD9⟩ := PDq.sub (ws' := [(oX4 r0 r1 p0 (nI ti) (fk ti) (ft ti) (fv ti) inb zn176 (ft ti)), (oX5 r1 k1 k2 k3 (nI ct)), (k1, .inl (cA 0, 701, .inl fk)), (k2, .inl (cA 0, 701, .inl ft)), (k3, .inl (cA 1, 701, .inr (.inl fv))), (oX3 p0 pr pb pe pg p1 (nI nd) p2 p3 p4 p5 (nI cn) p6 (nI pq) p7 p8 p9 (nI sc)), (p2, .inl (cA 1, 10, .inr (.inl fna))), (p6, .inl (cA 1, 8, .inr (.inl fpn))), (p7, .inl (cA 0, 350, .inl fst)), (p8, .inl (cA 0, 350, .inl fop))]) hP hD [9, 0, 1, 2, 3, 4, 5, 6, 7, 8] (by decide +kernel) rfl
        refine W.widen (k := 0) (n := 0) (Nat.le_of_ble_eq_true rfl) (Nat.le_of_ble_eq_true rfl) ?_
        exact (W.zret (v := 0) hx hb hr (by first | rfl | decide) (fun t ht hW => ⟨⟨0, 0, rfl, ⟨rfl, by decide⟩, ti, pq, sc, inb, zn176, (ft ti), fpn, fst, fop, pl, hti, (by omega), (by omega), hpq, hsc, hNP, (fun h9 => absurd h9 (by decide)), (fun h9 => absurd h9 (by decide)), (fun h9 => absurd h9 (by decide)), (fun h9 => absurd h9 (by decide)), (fun h9 => absurd h9 (by decide)), (fun h9 => absurd h9 (by decide)), (fun _ => (P_nonex (fun z9 => hn43 (Or.inl z9)) (fun z9 => hn43 (Or.inr z9)) hn177 rfl)), by rw [ht]; exact hP9, hD9⟩, hS.F ht⟩) hS.2.2 dX4_readFact_40)
    · skip
      rw [c41] at hl
      have hl : lv_has ls 3 [(2, .int 5), (0, .ref r0), (1, .int (nI o9))] := hl
      refine lv_iload_n hx hb dX4_readFact_16 rfl (lv_at hl 2 rfl) ?_
      refine lv_bipush (v := 8) hx hb dX4_readFact_17 (by decide) ?_
      refine lv_icmp_lt (tgt := 28) hx hb dX4_readFact_19 (by decide) (fun c178 => ?_) (fun c9 => absurd (nI_lt (a := o9) (b := 8) (show o9 < 8 by omega) (by omega)) c9)
      refine lv_iload_n hx hb dX4_readFact_28 rfl (lv_at hl 0 rfl) ?_
      obtain ⟨hPc, hDc, hFc⟩ := PDq.cut (wc := []) hP hD hS hA [] (by decide) rfl
      refine va_calli (va_runS (As := [.int 5]) (rest := []) ⟨hx, hb, hml, hown, hts⟩ (x_beginsFact l D cA sa 5 s.heap.size) (va_cwS 1 hts gX4_readFact_X7_beginsFact rfl rfl rfl (by decide +kernel) ⟨by show (0) + 1 ≤ 3 * (k9 + 1) + 20; omega, by show 8 + (1 + 11) + (0) ≤ 72 * (k9 + 1) + 320; omega⟩) ⟨Wd.blind, fun U hU hW => ⟨rfl, Wd.call hPc hDc hK hC hZ hS hFc U hU hW⟩⟩ rfl rfl hl.1 rfl (lv_room (Nat.le_of_ble_eq_true rfl)) dX4_readFact_29 ⟨(Nat.le_of_ble_eq_true rfl), (Nat.le_of_ble_eq_true rfl)⟩) hS (fun q _ h => hFc q h) hFc (fun rn179 u t H1 locs ht hvm hw hB hz1 hk1 hS => ?_)
      obtain ⟨hP1, hD1⟩ := hB
      rw [ht] at hP1
      obtain ⟨hP, hD⟩ := PDq.join (w := [(oX4 r0 r1 p0 (nI ti) (fk ti) (ft ti) (fv ti) inb iek iep), (oX5 r1 k1 k2 k3 (nI ct)), (k1, .inl (cA 0, 701, .inl fk)), (k2, .inl (cA 0, 701, .inl ft)), (k3, .inl (cA 1, 701, .inr (.inl fv))), (oX3 p0 pr pb pe pg p1 (nI nd) p2 p3 p4 p5 (nI cn) p6 (nI pq) p7 p8 p9 (nI sc)), (p2, .inl (cA 1, 10, .inr (.inl fna))), (p6, .inl (cA 1, 8, .inr (.inl fpn))), (p7, .inl (cA 0, 350, .inl fst)), (p8, .inl (cA 0, 350, .inl fop))]) 10 hP hD [] [0, 1, 2, 3, 4, 5, 6, 7, 8, 9] rfl rfl (by decide +kernel) (by decide +kernel) hk1 hFc hP1 hD1 rfl
      generalize H1 = H at hP hS ⊢
      rcases hw with ⟨hr9, hn180⟩ | ⟨hr9, hn180⟩
      · skip
        subst hr9
        refine lv_if_ne (tgt := 41) hx hb dX4_readFact_32 (by decide) (fun c181 => ?_) (fun c9 => absurd c9 (by decide))
        have hn182 := TX.go hTX (show ti < ct by omega) (by rw [c41]; decide)
        have hn182a := hn182.2.1
        have hn182b := hn182.2.2
        have hn182c := hn182.1
        refine lv_aload_n hx hb dX4_readFact_41 rfl (lv_at hl 1 rfl) ?_
        refine lv_aload_n hx hb dX4_readFact_42 rfl (lv_at hl 1 rfl) ?_
        refine va_get (D := D) (ci := 8) (v := .int (nI ti)) (C := RX4) (T := TX4) (N := 9) hx hb hts inX4 hown hK hP 0 rfl rfl 2 (by decide) (hts (.fieldLink RX4 70 "EscrowDesk$Reader" "token" "I") (by decide +kernel)) (fun _ h9 => h9) rfl dX4_readFact_43 ?_
        refine lv_iconst (v := 1) hx hb dX4_readFact_46 (by decide) ?_
        refine lv_iadd hx hb dX4_readFact_47 ?_
        refine lv_topi (fun yn183 eyn183 => ?_)
        obtain rfl : yn183 = (nI (ti + 1)) := eyn183.trans (nI_add ti 1)
        obtain ⟨hPc, hDc, hFc⟩ := PDq.cut (wc := [(oX4 r0 r1 p0 (nI ti) (fk ti) (ft ti) (fv ti) inb iek iep), (oX5 r1 k1 k2 k3 (nI ct)), (k1, .inl (cA 0, 701, .inl fk)), (k2, .inl (cA 0, 701, .inl ft)), (k3, .inl (cA 1, 701, .inr (.inl fv)))]) hP hD hS hA [0, 1, 2, 3, 4] (by decide) rfl
        refine va_callv (va_runV (As := [.int (nI (ti + 1))]) (rest := []) ⟨hx, hb, hml, hown, hts⟩ (x_lookAt l D cA sa r0 p0 (ti + 1) (nI ti) (fk ti) (ft ti) inb iek iep (fv ti) r1 k1 k2 k3 ct fk ft fv H.size hct hn182.1) (cwV 1 hts gX4_readFact_X4_lookAt rfl rfl rfl (by decide +kernel) ⟨by show (0) + 1 ≤ 3 * (k9 + 1) + 20; omega, by show 8 + (2 + 11) + (0) ≤ 72 * (k9 + 1) + 320; omega⟩) ⟨Wd.blind, va_recv hK hPc (ci := 8) (q0 := 0) rfl rfl, fun U hU hW => ⟨rfl, Wd.call hPc hDc hK hC hZ hS hFc U hU hW⟩⟩ rfl rfl hl.1 rfl (lv_room (Nat.le_of_ble_eq_true rfl)) dX4_readFact_48 ⟨(Nat.le_of_ble_eq_true rfl), (Nat.le_of_ble_eq_true rfl)⟩) hS (fun q _ h => hFc q h) hFc (fun u t H1 locs ht hvm hw hB hz1 hk1 hS => ?_)
        obtain ⟨hP1, hD1⟩ := hB
        rw [ht] at hP1
        obtain ⟨hP, hD⟩ := PDq.join (w := [(oX3 p0 pr pb pe pg p1 (nI nd) p2 p3 p4 p5 (nI cn) p6 (nI pq) p7 p8 p9 (nI sc)), (p2, .inl (cA 1, 10, .inr (.inl fna))), (p6, .inl (cA 1, 8, .inr (.inl fpn))), (p7, .inl (cA 0, 350, .inl fst)), (p8, .inl (cA 0, 350, .inl fop)), (oX4 r0 r1 p0 (nI (ti + 1)) (fk (ti + 1)) (ft (ti + 1)) (fv (ti + 1)) inb iek iep), (oX5 r1 k1 k2 k3 (nI ct)), (k1, .inl (cA 0, 701, .inl fk)), (k2, .inl (cA 0, 701, .inl ft)), (k3, .inl (cA 1, 701, .inr (.inl fv)))]) 5 hP hD [0, 1, 2, 3, 4] [5, 6, 7, 8, 9] rfl rfl (by decide) (by decide +kernel) hk1 hFc hP1 hD1 rfl
        generalize H1 = H at hP hS ⊢
        refine lv_iload_n hx hb dX4_readFact_51 rfl (lv_at hl 0 rfl) ?_
        refine lv_tableIn (off := 80) (tgt := 132) hx hb dX4_readFact_52 (by decide) (by decide) (by decide) (by decide) ?_
        refine lv_aload_n hx hb dX4_readFact_132 rfl (lv_at hl 1 rfl) ?_
        refine lv_iload_n hx hb dX4_readFact_133 rfl (lv_at hl 2 rfl) ?_
        refine lv_iconst (v := 1) hx hb dX4_readFact_134 (by decide) ?_
        refine lv_iadd hx hb dX4_readFact_135 ?_
        refine lv_topi (fun yn184 eyn184 => ?_)
        obtain rfl : yn184 = (nI (o9 + 1)) := eyn184.trans (nI_add o9 1)
        obtain ⟨hPc, hDc, hFc⟩ := PDq.cut (wc := [(oX4 r0 r1 p0 (nI (ti + 1)) (fk (ti + 1)) (ft (ti + 1)) (fv (ti + 1)) inb iek iep), (oX5 r1 k1 k2 k3 (nI ct)), (k1, .inl (cA 0, 701, .inl fk)), (k2, .inl (cA 0, 701, .inl ft)), (k3, .inl (cA 1, 701, .inr (.inl fv))), (oX3 p0 pr pb pe pg p1 (nI nd) p2 p3 p4 p5 (nI cn) p6 (nI pq) p7 p8 p9 (nI sc)), (p2, .inl (cA 1, 10, .inr (.inl fna))), (p6, .inl (cA 1, 8, .inr (.inl fpn))), (p7, .inl (cA 0, 350, .inl fst)), (p8, .inl (cA 0, 350, .inl fop))]) hP hD hS hA [5, 6, 7, 8, 9, 0, 1, 2, 3, 4] (by decide +kernel) rfl
        refine va_calli (va_runV (As := [.int (nI (o9 + 1))]) (rest := []) ⟨hx, hb, hml, hown, hts⟩ (IHc r0 p0 (ti + 1) ln inb iek iep r1 k1 k2 k3 ct fk ft fv fb gP gR p1 p2 p3 p4 p5 p6 p7 p8 p9 cn pq nd sc pr pb pe pg fna fpn fst fop ml pl sl (o9 + 1) H.size hct hln hn182.1 hTX hcn hpq hnd hsc hNM hNP (by omega) (by omega)) (cwV 1 hts gX4_readFact_X4_readCondition rfl rfl rfl (by decide +kernel) ⟨by show (3 * k9 + 22) + 1 ≤ 3 * (k9 + 1) + 20; omega, by show 8 + (4 + 11) + (72 * k9 + 368) ≤ 72 * (k9 + 1) + 320; omega⟩) ⟨Wd.blind, va_recv hK hPc (ci := 8) (q0 := 0) rfl rfl, fun U hU hW => ⟨rfl, Wd.call hPc hDc hK hC hZ hS hFc U hU hW⟩⟩ rfl rfl hl.1 rfl (lv_room (Nat.le_of_ble_eq_true rfl)) dX4_readFact_136 ⟨(Nat.le_of_ble_eq_true rfl), (Nat.le_of_ble_eq_true rfl)⟩) hS (fun q _ h => hFc q h) hFc (fun rn185 u t H1 locs ht hvm hw hB hz1 hk1 hS => ?_)
        obtain ⟨qn186, qn187, qn188, zn189, zn190, zn191, fn192, fn193, fn194, zn195, hn196, hn197, hn198, hn199, hn200, hn201, hn202, hn203, hn204, hn205, hn206, hn207, hn208, hP1, hD1⟩ := hB
        rw [ht] at hP1
        obtain ⟨hP, hD⟩ := PDq.join (w := [(oX4 r0 r1 p0 (nI qn186) (fk qn186) (ft qn186) (fv qn186) zn189 zn190 zn191), (oX5 r1 k1 k2 k3 (nI ct)), (k1, .inl (cA 0, 701, .inl fk)), (k2, .inl (cA 0, 701, .inl ft)), (k3, .inl (cA 1, 701, .inr (.inl fv))), (oX3 p0 pr pb pe pg p1 (nI nd) p2 p3 p4 p5 (nI cn) p6 (nI qn187) p7 p8 p9 (nI qn188)), (p2, .inl (cA 1, 10, .inr (.inl fna))), (p6, .inl (cA 1, 8, .inr (.inl fn192))), (p7, .inl (cA 0, 350, .inl fn193)), (p8, .inl (cA 0, 350, .inl fn194))]) 0 hP hD [5, 6, 7, 8, 9, 0, 1, 2, 3, 4] [] rfl rfl (by decide) (by decide +kernel) hk1 hFc hP1 hD1 rfl
        generalize H1 = H at hP hS ⊢
        rcases hw.2 with hr9 | hr9
        · skip
          have hn208 := hn208 (hw.1.trans hr9)
          subst hr9
          refine lv_if_eq (tgt := 155) hx hb dX4_readFact_139 (by decide) (fun c209 => ?_) (fun c9 => absurd c9 (by decide))
          refine lv_iconst (v := 0) hx hb dX4_readFact_155 (by decide) ?_
          obtain ⟨hP9, hD9⟩ := PDq.sub (ws' := [(oX4 r0 r1 p0 (nI qn186) (fk qn186) (ft qn186) (fv qn186) zn189 zn190 zn191), (oX5 r1 k1 k2 k3 (nI ct)), (k1, .inl (cA 0, 701, .inl fk)), (k2, .inl (cA 0, 701, .inl ft)), (k3, .inl (cA 1, 701, .inr (.inl fv))), (oX3 p0 pr pb pe pg p1 (nI nd) p2 p3 p4 p5 (nI cn) p6 (nI qn187) p7 p8 p9 (nI qn188)), (p2, .inl (cA 1, 10, .inr (.inl fna))), (p6, .inl (cA 1, 8, .inr (.inl fn192))), (p7, .inl (cA 0, 350, .inl fn193)), (p8, .inl (cA 0, 350, .inl fn194))]) hP hD [0, 1, 2, 3, 4, 5, 6, 7, 8, 9] (by decide +kernel) rfl
          refine W.widen (k := 0) (n := 0) (Nat.le_of_ble_eq_true rfl) (Nat.le_of_ble_eq_true rfl) ?_
          exact (W.zret (v := 0) hx hb hr (by first | rfl | decide) (fun t ht hW => ⟨⟨0, 0, rfl, ⟨rfl, by decide⟩, qn186, qn187, qn188, zn189, zn190, zn191, fn192, fn193, fn194, zn195, hn196, hn197, (by omega), hn199, hn200, hn201, (fun h9 => absurd h9 (by decide)), (fun h9 => absurd h9 (by decide)), (fun h9 => absurd h9 (by decide)), (fun h9 => absurd h9 (by decide)), (fun h9 => absurd h9 (by decide)), (fun h9 => absurd h9 (by decide)), (fun _ => (P_openE c41 (by omega) hn208)), by rw [ht]; exact hP9, hD9⟩, hS.F ht⟩) hS.2.2 dX4_readFact_156)
        · skip
          have hn202 := hn202 (hw.1.trans hr9)
          obtain rfl : iek = zn190 := hn202.symm
          obtain ⟨hP, hD⟩ : PDq D A [(oX4 r0 r1 p0 (nI qn186) (fk qn186) (ft qn186) (fv qn186) zn189 iek zn191), (oX5 r1 k1 k2 k3 (nI ct)), (k1, .inl (cA 0, 701, .inl fk)), (k2, .inl (cA 0, 701, .inl ft)), (k3, .inl (cA 1, 701, .inr (.inl fv))), (oX3 p0 pr pb pe pg p1 (nI nd) p2 p3 p4 p5 (nI cn) p6 (nI qn187) p7 p8 p9 (nI qn188)), (p2, .inl (cA 1, 10, .inr (.inl fna))), (p6, .inl (cA 1, 8, .inr (.inl fn192))), (p7, .inl (cA 0, 350, .inl fn193)), (p8, .inl (cA 0, 350, .inl fn194))] H := ⟨hP, hD⟩
          have hn203 := hn203 (hw.1.trans hr9)
          obtain rfl : iep = zn191 := hn203.symm
          obtain ⟨hP, hD⟩ : PDq D A [(oX4 r0 r1 p0 (nI qn186) (fk qn186) (ft qn186) (fv qn186) zn189 iek iep), (oX5 r1 k1 k2 k3 (nI ct)), (k1, .inl (cA 0, 701, .inl fk)), (k2, .inl (cA 0, 701, .inl ft)), (k3, .inl (cA 1, 701, .inr (.inl fv))), (oX3 p0 pr pb pe pg p1 (nI nd) p2 p3 p4 p5 (nI cn) p6 (nI qn187) p7 p8 p9 (nI qn188)), (p2, .inl (cA 1, 10, .inr (.inl fna))), (p6, .inl (cA 1, 8, .inr (.inl fn192))), (p7, .inl (cA 0, 350, .inl fn193)), (p8, .inl (cA 0, 350, .inl fn194))] H := ⟨hP, hD⟩
          have hn204 := hn204 (hw.1.trans hr9)
          have hn205 := hn205 (hw.1.trans hr9)
          have hn206 := hn206 (hw.1.trans hr9)
          have hn207 := hn207 (hw.1.trans hr9)
          subst hr9
          refine lv_if_eq (tgt := 155) hx hb dX4_readFact_139 (by decide) (fun c9 => absurd c9 (by decide)) (fun c210 => ?_)
          refine lv_aload_n hx hb dX4_readFact_142 rfl (lv_at hl 1 rfl) ?_
          refine lv_bipush (v := 6) hx hb dX4_readFact_143 (by decide) ?_
          obtain ⟨hPc, hDc, hFc⟩ := PDq.cut (wc := [(oX4 r0 r1 p0 (nI qn186) (fk qn186) (ft qn186) (fv qn186) zn189 iek iep), (oX5 r1 k1 k2 k3 (nI ct)), (k1, .inl (cA 0, 701, .inl fk)), (k2, .inl (cA 0, 701, .inl ft)), (k3, .inl (cA 1, 701, .inr (.inl fv)))]) hP hD hS hA [0, 1, 2, 3, 4] (by decide) rfl
          refine va_calli (va_runV (As := [.int 6]) (rest := []) ⟨hx, hb, hml, hown, hts⟩ (x_take l D cA sa r0 p0 qn186 ln zn189 iek iep r1 k1 k2 k3 ct fk ft fv fb gP gR 6 H.size hct hln hn196 hTX (by decide)) (cwV 1 hts gX4_readFact_X4_take rfl rfl rfl (by decide +kernel) ⟨by show (1) + 1 ≤ 3 * (k9 + 1) + 20; omega, by show 8 + (2 + 11) + (21) ≤ 72 * (k9 + 1) + 320; omega⟩) ⟨Wd.blind, va_recv hK hPc (ci := 8) (q0 := 0) rfl rfl, fun U hU hW => ⟨rfl, Wd.call hPc hDc hK hC hZ hS hFc U hU hW⟩⟩ rfl rfl hl.1 rfl (lv_room (Nat.le_of_ble_eq_true rfl)) dX4_readFact_145 ⟨(Nat.le_of_ble_eq_true rfl), (Nat.le_of_ble_eq_true rfl)⟩) hS (fun q _ h => hFc q h) hFc (fun rn211 u t H1 locs ht hvm hw hB hz1 hk1 hS => ?_)
          obtain ⟨qn212, zn213, zn214, hn215, hn216, hn217, hn218, hn219, hn220, hn221, hn222, hn223, hn224, hn225, hP1, hD1⟩ := hB
          rw [ht] at hP1
          obtain ⟨hP, hD⟩ := PDq.join (w := [(oX3 p0 pr pb pe pg p1 (nI nd) p2 p3 p4 p5 (nI cn) p6 (nI qn187) p7 p8 p9 (nI qn188)), (p2, .inl (cA 1, 10, .inr (.inl fna))), (p6, .inl (cA 1, 8, .inr (.inl fn192))), (p7, .inl (cA 0, 350, .inl fn193)), (p8, .inl (cA 0, 350, .inl fn194)), (oX4 r0 r1 p0 (nI qn212) (fk qn212) (ft qn212) (fv qn212) zn189 zn213 zn214), (oX5 r1 k1 k2 k3 (nI ct)), (k1, .inl (cA 0, 701, .inl fk)), (k2, .inl (cA 0, 701, .inl ft)), (k3, .inl (cA 1, 701, .inr (.inl fv)))]) 5 hP hD [0, 1, 2, 3, 4] [5, 6, 7, 8, 9] rfl rfl (by decide) (by decide +kernel) hk1 hFc hP1 hD1 rfl
          generalize H1 = H at hP hS ⊢
          rcases hw.2 with hr9 | hr9
          · skip
            have hn223 := hn223 (hw.1.trans hr9)
            have hn224 := hn224 (hw.1.trans hr9)
            have hn225 := hn225 (hw.1.trans hr9)
            subst hr9
            refine lv_if_eq (tgt := 155) hx hb dX4_readFact_148 (by decide) (fun c226 => ?_) (fun c9 => absurd c9 (by decide))
            refine lv_iconst (v := 0) hx hb dX4_readFact_155 (by decide) ?_
            obtain ⟨hP9, hD9⟩ := PDq.sub (ws' := [(oX4 r0 r1 p0 (nI qn212) (fk qn212) (ft qn212) (fv qn212) zn189 zn213 zn214), (oX5 r1 k1 k2 k3 (nI ct)), (k1, .inl (cA 0, 701, .inl fk)), (k2, .inl (cA 0, 701, .inl ft)), (k3, .inl (cA 1, 701, .inr (.inl fv))), (oX3 p0 pr pb pe pg p1 (nI nd) p2 p3 p4 p5 (nI cn) p6 (nI qn187) p7 p8 p9 (nI qn188)), (p2, .inl (cA 1, 10, .inr (.inl fna))), (p6, .inl (cA 1, 8, .inr (.inl fn192))), (p7, .inl (cA 0, 350, .inl fn193)), (p8, .inl (cA 0, 350, .inl fn194))]) hP hD [5, 6, 7, 8, 9, 0, 1, 2, 3, 4] (by decide +kernel) rfl
            refine W.widen (k := 0) (n := 0) (Nat.le_of_ble_eq_true rfl) (Nat.le_of_ble_eq_true rfl) ?_
            exact (W.zret (v := 0) hx hb hr (by first | rfl | decide) (fun t ht hW => ⟨⟨0, 0, rfl, ⟨rfl, by decide⟩, qn212, qn187, qn188, zn189, zn213, zn214, fn192, fn193, fn194, zn195, hn215, hn216, (by omega), hn199, hn200, hn201, (fun h9 => absurd h9 (by decide)), (fun h9 => absurd h9 (by decide)), (fun h9 => absurd h9 (by decide)), (fun h9 => absurd h9 (by decide)), (fun h9 => absurd h9 (by decide)), (fun h9 => absurd h9 (by decide)), (fun _ => (P_openCx c41 (by omega) hn206 hn225 hn223 hn224)), by rw [ht]; exact hP9, hD9⟩, hS.F ht⟩) hS.2.2 dX4_readFact_156)
          · skip
            have hn218 := hn218 (hw.1.trans hr9)
            subst hn218
            obtain ⟨hP, hD⟩ : PDq D A [(oX3 p0 pr pb pe pg p1 (nI nd) p2 p3 p4 p5 (nI cn) p6 (nI qn187) p7 p8 p9 (nI qn188)), (p2, .inl (cA 1, 10, .inr (.inl fna))), (p6, .inl (cA 1, 8, .inr (.inl fn192))), (p7, .inl (cA 0, 350, .inl fn193)), (p8, .inl (cA 0, 350, .inl fn194)), (oX4 r0 r1 p0 (nI (qn186 + 1)) (fk (qn186 + 1)) (ft (qn186 + 1)) (fv (qn186 + 1)) zn189 zn213 zn214), (oX5 r1 k1 k2 k3 (nI ct)), (k1, .inl (cA 0, 701, .inl fk)), (k2, .inl (cA 0, 701, .inl ft)), (k3, .inl (cA 1, 701, .inr (.inl fv)))] H := ⟨hP, hD⟩
            have hn219 := hn219 (hw.1.trans hr9)
            obtain rfl : iek = zn213 := hn219.symm
            obtain ⟨hP, hD⟩ : PDq D A [(oX3 p0 pr pb pe pg p1 (nI nd) p2 p3 p4 p5 (nI cn) p6 (nI qn187) p7 p8 p9 (nI qn188)), (p2, .inl (cA 1, 10, .inr (.inl fna))), (p6, .inl (cA 1, 8, .inr (.inl fn192))), (p7, .inl (cA 0, 350, .inl fn193)), (p8, .inl (cA 0, 350, .inl fn194)), (oX4 r0 r1 p0 (nI (qn186 + 1)) (fk (qn186 + 1)) (ft (qn186 + 1)) (fv (qn186 + 1)) zn189 iek zn214), (oX5 r1 k1 k2 k3 (nI ct)), (k1, .inl (cA 0, 701, .inl fk)), (k2, .inl (cA 0, 701, .inl ft)), (k3, .inl (cA 1, 701, .inr (.inl fv)))] H := ⟨hP, hD⟩
            have hn220 := hn220 (hw.1.trans hr9)
            obtain rfl : iep = zn214 := hn220.symm
            obtain ⟨hP, hD⟩ : PDq D A [(oX3 p0 pr pb pe pg p1 (nI nd) p2 p3 p4 p5 (nI cn) p6 (nI qn187) p7 p8 p9 (nI qn188)), (p2, .inl (cA 1, 10, .inr (.inl fna))), (p6, .inl (cA 1, 8, .inr (.inl fn192))), (p7, .inl (cA 0, 350, .inl fn193)), (p8, .inl (cA 0, 350, .inl fn194)), (oX4 r0 r1 p0 (nI (qn186 + 1)) (fk (qn186 + 1)) (ft (qn186 + 1)) (fv (qn186 + 1)) zn189 iek iep), (oX5 r1 k1 k2 k3 (nI ct)), (k1, .inl (cA 0, 701, .inl fk)), (k2, .inl (cA 0, 701, .inl ft)), (k3, .inl (cA 1, 701, .inr (.inl fv)))] H := ⟨hP, hD⟩
            have hn221 := hn221 (hw.1.trans hr9)
            have hn222 := hn222 (hw.1.trans hr9)
            subst hr9
            refine lv_if_eq (tgt := 155) hx hb dX4_readFact_148 (by decide) (fun c9 => absurd c9 (by decide)) (fun c227 => ?_)
            refine lv_iconst (v := 1) hx hb dX4_readFact_151 (by decide) ?_
            refine lv_goto (tgt := 156) hx hb dX4_readFact_152 (by decide) ?_
            obtain ⟨hP9, hD9⟩ := PDq.sub (ws' := [(oX4 r0 r1 p0 (nI (qn186 + 1)) (fk (qn186 + 1)) (ft (qn186 + 1)) (fv (qn186 + 1)) zn189 iek iep), (oX5 r1 k1 k2 k3 (nI ct)), (k1, .inl (cA 0, 701, .inl fk)), (k2, .inl (cA 0, 701, .inl ft)), (k3, .inl (cA 1, 701, .inr (.inl fv))), (oX3 p0 pr pb pe pg p1 (nI nd) p2 p3 p4 p5 (nI cn) p6 (nI qn187) p7 p8 p9 (nI qn188)), (p2, .inl (cA 1, 10, .inr (.inl fna))), (p6, .inl (cA 1, 8, .inr (.inl fn192))), (p7, .inl (cA 0, 350, .inl fn193)), (p8, .inl (cA 0, 350, .inl fn194))]) hP hD [5, 6, 7, 8, 9, 0, 1, 2, 3, 4] (by decide +kernel) rfl
            refine W.widen (k := 0) (n := 0) (Nat.le_of_ble_eq_true rfl) (Nat.le_of_ble_eq_true rfl) ?_
            exact (W.zret (v := 1) hx hb hr (by first | rfl | decide) (fun t ht hW => ⟨⟨1, 1, rfl, ⟨rfl, by decide⟩, (qn186 + 1), qn187, qn188, zn189, iek, iep, fn192, fn193, fn194, zn195, hn215, hn216, (by omega), hn199, hn200, hn201, (fun _ => rfl), (fun _ => rfl), (fun _ => (by omega)), (fun _ => (by omega)), (fun _ => (P_open c41 (by omega) hn206 hn222)), (fun _ => (CD9.opn c41 hn207 rfl)), (fun h9 => absurd h9 (by decide)), by rw [ht]; exact hP9, hD9⟩, hS.F ht⟩) hS.2.2 dX4_readFact_156)
      · skip
        subst hr9
        exact absurd (by decide) hn180

set_option maxHeartbeats 4000000 in
set_option maxRecDepth 100000 in
/-- readBoth -/
theorem x_readBoth_S (l : Launch) (D : va_G) (cA : Nat → ClassId) (sa : Nat → Nat) (k9 : Nat) (IHf : XFactC l D cA sa k9) (IHc : XCondC l D cA sa k9) (r0 : Nat) (p0 : Nat) (ti : Nat) (ln : Nat) (inb : Int32) (iek : Int32) (iep : Int32) (r1 : Nat) (k1 : Nat) (k2 : Nat) (k3 : Nat) (ct : Nat) (fk : Nat → Int32) (ft : Nat → Int32) (fv : Nat → Int64) (fb : Nat → Int32) (gP : Nat → Nat) (gR : Nat → Nat) (p1 : Nat) (p2 : Nat) (p3 : Nat) (p4 : Nat) (p5 : Nat) (p6 : Nat) (p7 : Nat) (p8 : Nat) (p9 : Nat) (cn : Nat) (pq : Nat) (nd : Nat) (sc : Nat) (pr : Int32) (pb : Int32) (pe : Int32) (pg : Int32) (fna : Nat → Int64) (fpn : Nat → Int64) (fst : Nat → Int32) (fop : Nat → Int32) (ml : List Int64) (pl : List Int64) (sl : Nat) (o9 : Nat) (sz : Nat) (hct : ct ≤ 701) (hln : ln ≤ 700) (hti : ti < ct) (hTX : TX fb ln ct gP gR ft fv fk) (hcn : cn ≤ 10) (hpq : pq ≤ 8) (hnd : nd ≤ 6) (hsc : sc ≤ 350) (hNM : NL ml cn fna) (hNP : NL pl pq fpn) (hsl : 2 * sc + sl ≤ gP ti) (ho : o9 + (k9 + 1) = 8) : Met l yX4_readBoth wsX4_readBoth ({ frames := 3 * (k9 + 1) + 21, cells := 0, slots := 0, locals := 72 * (k9 + 1) + 344 }) (va_Pc [.ref r0, .int (nI o9)] (Wd D cA sa [(oX4 r0 r1 p0 (nI ti) (fk ti) (ft ti) (fv ti) inb iek iep), (oX5 r1 k1 k2 k3 (nI ct)), (k1, .inl (cA 0, 701, .inl fk)), (k2, .inl (cA 0, 701, .inl ft)), (k3, .inl (cA 1, 701, .inr (.inl fv))), (oX3 p0 pr pb pe pg p1 (nI nd) p2 p3 p4 p5 (nI cn) p6 (nI pq) p7 p8 p9 (nI sc)), (p2, .inl (cA 1, 10, .inr (.inl fna))), (p6, .inl (cA 1, 8, .inr (.inl fpn))), (p7, .inl (cA 0, 350, .inl fst)), (p8, .inl (cA 0, 350, .inl fop))] sz)) (va_Qi (fun (r : Int32) (u9 : Int32) => u9 = r ∧ (r = 0 ∨ r = 1)) (fun (u9 : Int32) t => ∃ tj : Nat, ∃ qm : Nat, ∃ sm : Nat, ∃ znr : Int32, ∃ zek : Int32, ∃ zep : Int32, ∃ zpn : Nat → Int64, ∃ zst : Nat → Int32, ∃ zop : Nat → Int32, ∃ zpl : List Int64, tj < ct ∧ gP tj ≤ ln ∧ ti ≤ tj ∧ qm ≤ 8 ∧ sm ≤ 350 ∧ NL zpl qm zpn ∧ (u9 = 1 → zek = iek) ∧ (u9 = 1 → zep = iep) ∧ (u9 = 1 → 2 * sm + sl ≤ gP tj) ∧ (u9 = 1 → ti + 1 ≤ tj) ∧ (u9 = 1 → PRx fk ft fv ml 1 o9 ti pl (.inr (tj, zpl))) ∧ (u9 = 1 → CD9 fk fv 1 ti tj ml pl zpl sc sm fst fop zst zop) ∧ (u9 = 0 → PRx fk ft fv ml 1 o9 ti pl (.inl (zek, zep))) ∧ Wq D (va_A [(oX4 r0 r1 p0 (nI ti) (fk ti) (ft ti) (fv ti) inb iek iep), (oX5 r1 k1 k2 k3 (nI ct)), (k1, .inl (cA 0, 701, .inl fk)), (k2, .inl (cA 0, 701, .inl ft)), (k3, .inl (cA 1, 701, .inr (.inl fv))), (oX3 p0 pr pb pe pg p1 (nI nd) p2 p3 p4 p5 (nI cn) p6 (nI pq) p7 p8 p9 (nI sc)), (p2, .inl (cA 1, 10, .inr (.inl fna))), (p6, .inl (cA 1, 8, .inr (.inl fpn))), (p7, .inl (cA 0, 350, .inl fst)), (p8, .inl (cA 0, 350, .inl fop))] sz) [(oX4 r0 r1 p0 (nI tj) (fk tj) (ft tj) (fv tj) znr zek zep), (oX5 r1 k1 k2 k3 (nI ct)), (k1, .inl (cA 0, 701, .inl fk)), (k2, .inl (cA 0, 701, .inl ft)), (k3, .inl (cA 1, 701, .inr (.inl fv))), (oX3 p0 pr pb pe pg p1 (nI nd) p2 p3 p4 p5 (nI cn) p6 (nI qm) p7 p8 p9 (nI sm)), (p2, .inl (cA 1, 10, .inr (.inl fna))), (p6, .inl (cA 1, 8, .inr (.inl zpn))), (p7, .inl (cA 0, 350, .inl zst)), (p8, .inl (cA 0, 350, .inl zop))] t) (va_A [(oX4 r0 r1 p0 (nI ti) (fk ti) (ft ti) (fv ti) inb iek iep), (oX5 r1 k1 k2 k3 (nI ct)), (k1, .inl (cA 0, 701, .inl fk)), (k2, .inl (cA 0, 701, .inl ft)), (k3, .inl (cA 1, 701, .inr (.inl fv))), (oX3 p0 pr pb pe pg p1 (nI nd) p2 p3 p4 p5 (nI cn) p6 (nI pq) p7 p8 p9 (nI sc)), (p2, .inl (cA 1, 10, .inr (.inl fna))), (p6, .inl (cA 1, 8, .inr (.inl fpn))), (p7, .inl (cA 0, 350, .inl fst)), (p8, .inl (cA 0, 350, .inl fop))] sz)) 0 0 (va_A [(oX4 r0 r1 p0 (nI ti) (fk ti) (ft ti) (fv ti) inb iek iep), (oX5 r1 k1 k2 k3 (nI ct)), (k1, .inl (cA 0, 701, .inl fk)), (k2, .inl (cA 0, 701, .inl ft)), (k3, .inl (cA 1, 701, .inr (.inl fv))), (oX3 p0 pr pb pe pg p1 (nI nd) p2 p3 p4 p5 (nI cn) p6 (nI pq) p7 p8 p9 (nI sc)), (p2, .inl (cA 1, 10, .inr (.inl fna))), (p6, .inl (cA 1, 8, .inr (.inl fpn))), (p7, .inl (cA 0, 350, .inl fst)), (p8, .inl (cA 0, 350, .inl fop))] sz) := by
  refine Met.ofW (cc := cX4_readBoth) (maxL := 4) (ret := (some .boolean)) (by decide) rfl ?_
  intro p e s m args below meth c s₁ B hml hv
  obtain ⟨rfl, hsz, hP, hK, hD0, hC, hZ⟩ := hv
  have hx := B.exec
  have hb := B.bytes
  have hr := B.returns
  have hts := atoms_spec (ws := wsX4_readBoth) B.pre
  have hown : s.vm.findClass RX4 = some m.cls := findClass_of_methodNamed B.named
  have hlocks := B.notSynchronized
  subst hsz
  have hD := hD0.self (sz := s.heap.size)
  generalize hAe : va_A [(oX4 r0 r1 p0 (nI ti) (fk ti) (ft ti) (fv ti) inb iek iep), (oX5 r1 k1 k2 k3 (nI ct)), (k1, .inl (cA 0, 701, .inl fk)), (k2, .inl (cA 0, 701, .inl ft)), (k3, .inl (cA 1, 701, .inr (.inl fv))), (oX3 p0 pr pb pe pg p1 (nI nd) p2 p3 p4 p5 (nI cn) p6 (nI pq) p7 p8 p9 (nI sc)), (p2, .inl (cA 1, 10, .inr (.inl fna))), (p6, .inl (cA 1, 8, .inr (.inl fpn))), (p7, .inl (cA 0, 350, .inl fst)), (p8, .inl (cA 0, 350, .inl fop))] s.heap.size = A at hD hZ ⊢
  have hA : ∀ q : Nat, s.heap.size ≤ q → A q := fun q h => by rw [← hAe]; exact Or.inr h
  have hS : va_S A s.heap s.heap [] := va_S.rf
  have hP : va_P D vwCl [(oX4 r0 r1 p0 (nI ti) (fk ti) (ft ti) (fv ti) inb iek iep), (oX5 r1 k1 k2 k3 (nI ct)), (k1, .inl (cA 0, 701, .inl fk)), (k2, .inl (cA 0, 701, .inl ft)), (k3, .inl (cA 1, 701, .inr (.inl fv))), (oX3 p0 pr pb pe pg p1 (nI nd) p2 p3 p4 p5 (nI cn) p6 (nI pq) p7 p8 p9 (nI sc)), (p2, .inl (cA 1, 10, .inr (.inl fna))), (p6, .inl (cA 1, 8, .inr (.inl fpn))), (p7, .inl (cA 0, 350, .inl fst)), (p8, .inl (cA 0, 350, .inl fop))] s.heap := hP
  have hl := lv_entry ([.ref r0, .int (nI o9)]) (n := 4) (Nat.le_of_ble_eq_true rfl)
  rw [lg_entry_eq]
  generalize (lg_sl ([.ref r0, .int (nI o9)]) ++ List.replicate (4 - (lg_sl ([.ref r0, .int (nI o9)])).length) Slot.unset).toArray = ls at hl ⊢
  have hl : lv_has ls 4 [(0, .ref r0), (1, .int (nI o9))] := hl
  have inX4 : ∀ w ∈ u_ws RX4 TX4 9, w ∈ wsX4_readBoth := by decide +kernel
  have hle9 := TX.le hTX hti
  refine lv_aload_n hx hb dX4_readBoth_0 rfl (lv_at hl 0 rfl) ?_
  refine lv_iload_n hx hb dX4_readBoth_1 rfl (lv_at hl 1 rfl) ?_
  obtain ⟨hPc, hDc, hFc⟩ := PDq.cut (wc := [(oX4 r0 r1 p0 (nI ti) (fk ti) (ft ti) (fv ti) inb iek iep), (oX5 r1 k1 k2 k3 (nI ct)), (k1, .inl (cA 0, 701, .inl fk)), (k2, .inl (cA 0, 701, .inl ft)), (k3, .inl (cA 1, 701, .inr (.inl fv))), (oX3 p0 pr pb pe pg p1 (nI nd) p2 p3 p4 p5 (nI cn) p6 (nI pq) p7 p8 p9 (nI sc)), (p2, .inl (cA 1, 10, .inr (.inl fna))), (p6, .inl (cA 1, 8, .inr (.inl fpn))), (p7, .inl (cA 0, 350, .inl fst)), (p8, .inl (cA 0, 350, .inl fop))]) hP hD hS hA [0, 1, 2, 3, 4, 5, 6, 7, 8, 9] (by decide +kernel) rfl
  refine va_calli (va_runV (As := [.int (nI o9)]) (rest := []) ⟨hx, hb, hml, hown, hts⟩ (x_readFact_S l D cA sa k9 IHf IHc r0 p0 ti ln inb iek iep r1 k1 k2 k3 ct fk ft fv fb gP gR p1 p2 p3 p4 p5 p6 p7 p8 p9 cn pq nd sc pr pb pe pg fna fpn fst fop ml pl sl o9 s.heap.size hct hln hti hTX hcn hpq hnd hsc hNM hNP hsl ho) (cwV 1 hts gX4_readBoth_X4_readFact rfl rfl rfl (by decide +kernel) ⟨by show (3 * (k9 + 1) + 20) + 1 ≤ 3 * (k9 + 1) + 21; omega, by show 8 + (3 + 11) + (72 * (k9 + 1) + 320) ≤ 72 * (k9 + 1) + 344; omega⟩) ⟨Wd.blind, va_recv hK hPc (ci := 8) (q0 := 0) rfl rfl, fun U hU hW => ⟨rfl, Wd.call hPc hDc hK hC hZ hS hFc U hU hW⟩⟩ rfl rfl hl.1 rfl (lv_room (Nat.le_of_ble_eq_true rfl)) dX4_readBoth_2 ⟨(Nat.le_of_ble_eq_true rfl), (Nat.le_of_ble_eq_true rfl)⟩) hS (fun q _ h => hFc q h) hFc (fun rn1 u t H1 locs ht hvm hw hB hz1 hk1 hS => ?_)
  obtain ⟨qn2, qn3, qn4, zn5, zn6, zn7, fn8, fn9, fn10, zn11, hn12, hn13, hn14, hn15, hn16, hn17, hn18, hn19, hn20, hn21, hn22, hn23, hn24, hP1, hD1⟩ := hB
  rw [ht] at hP1
  obtain ⟨hP, hD⟩ := PDq.join (w := [(oX4 r0 r1 p0 (nI qn2) (fk qn2) (ft qn2) (fv qn2) zn5 zn6 zn7), (oX5 r1 k1 k2 k3 (nI ct)), (k1, .inl (cA 0, 701, .inl fk)), (k2, .inl (cA 0, 701, .inl ft)), (k3, .inl (cA 1, 701, .inr (.inl fv))), (oX3 p0 pr pb pe pg p1 (nI nd) p2 p3 p4 p5 (nI cn) p6 (nI qn3) p7 p8 p9 (nI qn4)), (p2, .inl (cA 1, 10, .inr (.inl fna))), (p6, .inl (cA 1, 8, .inr (.inl fn8))), (p7, .inl (cA 0, 350, .inl fn9)), (p8, .inl (cA 0, 350, .inl fn10))]) 0 hP hD [0, 1, 2, 3, 4, 5, 6, 7, 8, 9] [] rfl rfl (by decide) (by decide +kernel) hk1 hFc hP1 hD1 rfl
  generalize H1 = H at hP hS ⊢
  rcases hw.2 with hr9 | hr9
  · skip
    have hn24 := hn24 (hw.1.trans hr9)
    subst hr9
    refine lv_istore_n (lv' := [(2, .int 0), (0, .ref r0), (1, .int (nI o9))]) hx hb dX4_readBoth_5 rfl hl (by decide) rfl (fun ls hl => ?_)
    refine lv_iconst (v := 0) hx hb dX4_readBoth_6 (by decide) ?_
    refine lv_istore_n (lv' := [(3, .int 0), (2, .int 0), (0, .ref r0), (1, .int (nI o9))]) hx hb dX4_readBoth_7 rfl hl (by decide) rfl (fun ls hl => ?_)
    refine lv_iload_n hx hb dX4_readBoth_8 rfl (lv_at hl 1 rfl) ?_
    refine lv_if_eq (tgt := 71) hx hb dX4_readBoth_9 (by decide) (fun c25 => ?_) (fun c9 => absurd c9 (by decide))
    refine lv_iload_n hx hb dX4_readBoth_71 rfl (lv_at hl 1 rfl) ?_
    obtain ⟨hP9, hD9⟩ := PDq.sub (ws' := [(oX4 r0 r1 p0 (nI qn2) (fk qn2) (ft qn2) (fv qn2) zn5 zn6 zn7), (oX5 r1 k1 k2 k3 (nI ct)), (k1, .inl (cA 0, 701, .inl fk)), (k2, .inl (cA 0, 701, .inl ft)), (k3, .inl (cA 1, 701, .inr (.inl fv))), (oX3 p0 pr pb pe pg p1 (nI nd) p2 p3 p4 p5 (nI cn) p6 (nI qn3) p7 p8 p9 (nI qn4)), (p2, .inl (cA 1, 10, .inr (.inl fna))), (p6, .inl (cA 1, 8, .inr (.inl fn8))), (p7, .inl (cA 0, 350, .inl fn9)), (p8, .inl (cA 0, 350, .inl fn10))]) hP hD [0, 1, 2, 3, 4, 5, 6, 7, 8, 9] (by decide +kernel) rfl
    refine W.widen (k := 0) (n := 0) (Nat.le_of_ble_eq_true rfl) (Nat.le_of_ble_eq_true rfl) ?_
    exact (W.zret (v := 0) hx hb hr (by first | rfl | decide) (fun t ht hW => ⟨⟨0, 0, rfl, ⟨rfl, by decide⟩, qn2, qn3, qn4, zn5, zn6, zn7, fn8, fn9, fn10, zn11, hn12, hn13, hn14, hn15, hn16, hn17, (fun h9 => absurd h9 (by decide)), (fun h9 => absurd h9 (by decide)), (fun h9 => absurd h9 (by decide)), (fun h9 => absurd h9 (by decide)), (fun h9 => absurd h9 (by decide)), (fun h9 => absurd h9 (by decide)), (fun _ => (P_bothE hn24)), by rw [ht]; exact hP9, hD9⟩, hS.F ht⟩) hS.2.2 dX4_readBoth_72)
  · skip
    have hn18 := hn18 (hw.1.trans hr9)
    obtain rfl : iek = zn6 := hn18.symm
    obtain ⟨hP, hD⟩ : PDq D A [(oX4 r0 r1 p0 (nI qn2) (fk qn2) (ft qn2) (fv qn2) zn5 iek zn7), (oX5 r1 k1 k2 k3 (nI ct)), (k1, .inl (cA 0, 701, .inl fk)), (k2, .inl (cA 0, 701, .inl ft)), (k3, .inl (cA 1, 701, .inr (.inl fv))), (oX3 p0 pr pb pe pg p1 (nI nd) p2 p3 p4 p5 (nI cn) p6 (nI qn3) p7 p8 p9 (nI qn4)), (p2, .inl (cA 1, 10, .inr (.inl fna))), (p6, .inl (cA 1, 8, .inr (.inl fn8))), (p7, .inl (cA 0, 350, .inl fn9)), (p8, .inl (cA 0, 350, .inl fn10))] H := ⟨hP, hD⟩
    have hn19 := hn19 (hw.1.trans hr9)
    obtain rfl : iep = zn7 := hn19.symm
    obtain ⟨hP, hD⟩ : PDq D A [(oX4 r0 r1 p0 (nI qn2) (fk qn2) (ft qn2) (fv qn2) zn5 iek iep), (oX5 r1 k1 k2 k3 (nI ct)), (k1, .inl (cA 0, 701, .inl fk)), (k2, .inl (cA 0, 701, .inl ft)), (k3, .inl (cA 1, 701, .inr (.inl fv))), (oX3 p0 pr pb pe pg p1 (nI nd) p2 p3 p4 p5 (nI cn) p6 (nI qn3) p7 p8 p9 (nI qn4)), (p2, .inl (cA 1, 10, .inr (.inl fna))), (p6, .inl (cA 1, 8, .inr (.inl fn8))), (p7, .inl (cA 0, 350, .inl fn9)), (p8, .inl (cA 0, 350, .inl fn10))] H := ⟨hP, hD⟩
    have hn20 := hn20 (hw.1.trans hr9)
    have hn21 := hn21 (hw.1.trans hr9)
    have hn22 := hn22 (hw.1.trans hr9)
    have hn23 := hn23 (hw.1.trans hr9)
    subst hr9
    refine lv_istore_n (lv' := [(2, .int 1), (0, .ref r0), (1, .int (nI o9))]) hx hb dX4_readBoth_5 rfl hl (by decide) rfl (fun ls hl => ?_)
    refine lv_iconst (v := 0) hx hb dX4_readBoth_6 (by decide) ?_
    refine lv_istore_n (lv' := [(3, .int 0), (2, .int 1), (0, .ref r0), (1, .int (nI o9))]) hx hb dX4_readBoth_7 rfl hl (by decide) rfl (fun ls hl => ?_)
    have loop1 : ∀ (n1 i1 : Nat) (pli : List Int64) (tii : Nat) (u0_6_1 : Int32) (qmi : Nat) (smi : Nat) (f7_1 : Nat → Int64) (f8_1 : Nat → Int32) (f9_1 : Nat → Int32) (H : Heap) (locs : List Loc) (ls : Array Slot), i1 + n1 = 700 → ti + 1 + i1 ≤ tii → tii < ct → qmi ≤ 8 → smi ≤ 350 → 2 * smi + sl ≤ gP tii → gP tii ≤ ln → NL pli qmi f7_1 → Cn fk ft fv ml 1 o9 ti pl 2 tii pli → CDL fk fv 1 ti 2 tii ml pl pli sc smi fst fop f8_1 f9_1 → va_P D vwCl [(oX4 r0 r1 p0 (nI tii) (fk tii) (ft tii) (fv tii) u0_6_1 iek iep), (oX5 r1 k1 k2 k3 (nI ct)), (k1, .inl (cA 0, 701, .inl fk)), (k2, .inl (cA 0, 701, .inl ft)), (k3, .inl (cA 1, 701, .inr (.inl fv))), (oX3 p0 pr pb pe pg p1 (nI nd) p2 p3 p4 p5 (nI cn) p6 (nI qmi) p7 p8 p9 (nI smi)), (p2, .inl (cA 1, 10, .inr (.inl fna))), (p6, .inl (cA 1, 8, .inr (.inl f7_1))), (p7, .inl (cA 0, 350, .inl f8_1)), (p8, .inl (cA 0, 350, .inl f9_1))] H → va_D A [(oX4 r0 r1 p0 (nI tii) (fk tii) (ft tii) (fv tii) u0_6_1 iek iep), (oX5 r1 k1 k2 k3 (nI ct)), (k1, .inl (cA 0, 701, .inl fk)), (k2, .inl (cA 0, 701, .inl ft)), (k3, .inl (cA 1, 701, .inr (.inl fv))), (oX3 p0 pr pb pe pg p1 (nI nd) p2 p3 p4 p5 (nI cn) p6 (nI qmi) p7 p8 p9 (nI smi)), (p2, .inl (cA 1, 10, .inr (.inl fna))), (p6, .inl (cA 1, 8, .inr (.inl f7_1))), (p7, .inl (cA 0, 350, .inl f8_1)), (p8, .inl (cA 0, 350, .inl f9_1))] → va_S A s.heap H locs → lv_has ls 4 [(3, .int (nI i1)), (2, .int 1), (0, .ref r0), (1, .int (nI o9))] → W p l e (headSpec wsX4_readBoth ({ frames := 3 * (k9 + 1) + 21, cells := 0, slots := 0, locals := 72 * (k9 + 1) + 344 } : Room)).room s m ([.ref r0, .int (nI o9)] : List Value).toArray below meth c H locs 0 0 (MQ below (va_Qi (fun (r : Int32) (u9 : Int32) => u9 = r ∧ (r = 0 ∨ r = 1)) (fun (u9 : Int32) t => ∃ tj : Nat, ∃ qm : Nat, ∃ sm : Nat, ∃ znr : Int32, ∃ zek : Int32, ∃ zep : Int32, ∃ zpn : Nat → Int64, ∃ zst : Nat → Int32, ∃ zop : Nat → Int32, ∃ zpl : List Int64, tj < ct ∧ gP tj ≤ ln ∧ ti ≤ tj ∧ qm ≤ 8 ∧ sm ≤ 350 ∧ NL zpl qm zpn ∧ (u9 = 1 → zek = iek) ∧ (u9 = 1 → zep = iep) ∧ (u9 = 1 → 2 * sm + sl ≤ gP tj) ∧ (u9 = 1 → ti + 1 ≤ tj) ∧ (u9 = 1 → PRx fk ft fv ml 1 o9 ti pl (.inr (tj, zpl))) ∧ (u9 = 1 → CD9 fk fv 1 ti tj ml pl zpl sc sm fst fop zst zop) ∧ (u9 = 0 → PRx fk ft fv ml 1 o9 ti pl (.inl (zek, zep))) ∧ Wq D A [(oX4 r0 r1 p0 (nI tj) (fk tj) (ft tj) (fv tj) znr zek zep), (oX5 r1 k1 k2 k3 (nI ct)), (k1, .inl (cA 0, 701, .inl fk)), (k2, .inl (cA 0, 701, .inl ft)), (k3, .inl (cA 1, 701, .inr (.inl fv))), (oX3 p0 pr pb pe pg p1 (nI nd) p2 p3 p4 p5 (nI cn) p6 (nI qm) p7 p8 p9 (nI sm)), (p2, .inl (cA 1, 10, .inr (.inl fna))), (p6, .inl (cA 1, 8, .inr (.inl zpn))), (p7, .inl (cA 0, 350, .inl zst)), (p8, .inl (cA 0, 350, .inl zop))] t) A) ([.ref r0, .int (nI o9)] : List Value).toArray s 0 0 A) (F0 m 8 ls []) := by
      intro n1
      induction n1 with
      | zero =>
        intro i1 pli tii u0_6_1 qmi smi f7_1 f8_1 f9_1 H locs ls hi1 hv0_1 hv1_1 hv2_1 hv3_1 hv4_1 hv5_1 hv6_1 hv7_1 hv8_1 hP hD hS hl
        obtain rfl : 700 = i1 := by omega
        exact absurd hv0_1 (by omega)
      | succ n1 ih1 =>
        intro i1 pli tii u0_6_1 qmi smi f7_1 f8_1 f9_1 H locs ls hi1 hv0_1 hv1_1 hv2_1 hv3_1 hv4_1 hv5_1 hv6_1 hv7_1 hv8_1 hP hD hS hl
        refine lv_iload_n hx hb dX4_readBoth_8 rfl (lv_at hl 1 rfl) ?_
        refine lv_if_eq (tgt := 71) hx hb dX4_readBoth_9 (by decide) (fun c9 => absurd c9 (by decide)) (fun c26 => ?_)
        refine lv_iload_n hx hb dX4_readBoth_12 rfl (lv_at hl 0 rfl) ?_
        refine lv_sipush (v := 700) hx hb dX4_readBoth_13 (by decide) ?_
        refine lv_icmp_ge (tgt := 71) hx hb dX4_readBoth_16 (by decide) (fun c9 => absurd c9 (nI_ge (a := i1) (b := 700) (show i1 < 700 by omega) (by omega))) (fun c27 => ?_)
        refine lv_aload_n hx hb dX4_readBoth_19 rfl (lv_at hl 2 rfl) ?_
        refine va_get (D := D) (ci := 8) (v := .int (fk tii)) (C := RX4) (T := TX4) (N := 9) hx hb hts inX4 hown hK hP 0 rfl rfl 3 (by decide) (hts (.fieldLink RX4 42 "EscrowDesk$Reader" "kind" "I") (by decide +kernel)) (fun _ h9 => h9) rfl dX4_readBoth_20 ?_
        refine lv_bipush (v := 15) hx hb dX4_readBoth_23 (by decide) ?_
        refine lv_icmp_ne (tgt := 71) hx hb dX4_readBoth_25 (by decide) (fun c28 => ?_) (fun c28 => ?_)
        · skip
          refine lv_iload_n hx hb dX4_readBoth_71 rfl (lv_at hl 1 rfl) ?_
          obtain ⟨hP9, hD9⟩ := PDq.sub (ws' := [(oX4 r0 r1 p0 (nI tii) (fk tii) (ft tii) (fv tii) u0_6_1 iek iep), (oX5 r1 k1 k2 k3 (nI ct)), (k1, .inl (cA 0, 701, .inl fk)), (k2, .inl (cA 0, 701, .inl ft)), (k3, .inl (cA 1, 701, .inr (.inl fv))), (oX3 p0 pr pb pe pg p1 (nI nd) p2 p3 p4 p5 (nI cn) p6 (nI qmi) p7 p8 p9 (nI smi)), (p2, .inl (cA 1, 10, .inr (.inl fna))), (p6, .inl (cA 1, 8, .inr (.inl f7_1))), (p7, .inl (cA 0, 350, .inl f8_1)), (p8, .inl (cA 0, 350, .inl f9_1))]) hP hD [0, 1, 2, 3, 4, 5, 6, 7, 8, 9] (by decide +kernel) rfl
          refine W.widen (k := 0) (n := 0) (Nat.le_of_ble_eq_true rfl) (Nat.le_of_ble_eq_true rfl) ?_
          exact (W.zret (v := 1) hx hb hr (by first | rfl | decide) (fun t ht hW => ⟨⟨1, 1, rfl, ⟨rfl, by decide⟩, tii, qmi, smi, u0_6_1, iek, iep, f7_1, f8_1, f9_1, pli, hv1_1, hv5_1, (by omega), hv2_1, hv3_1, hv6_1, (fun _ => rfl), (fun _ => rfl), (fun _ => hv4_1), (fun _ => (by omega)), (fun _ => (hv7_1 _ (P_end2 c28))), (fun _ => (CDL.end2 hv8_1 c28)), (fun h9 => absurd h9 (by decide)), by rw [ht]; exact hP9, hD9⟩, hS.F ht⟩) hS.2.2 dX4_readBoth_72)
        · skip
          have hn29 := TX.go2 hTX (show tii < ct by omega) (by rw [c28]; decide)
          have hn29a := hn29.2.1
          have hn29b := hn29.2.2
          have hn29c := hn29.1
          refine lv_aload_n hx hb dX4_readBoth_28 rfl (lv_at hl 2 rfl) ?_
          refine lv_aload_n hx hb dX4_readBoth_29 rfl (lv_at hl 2 rfl) ?_
          refine va_get (D := D) (ci := 8) (v := .int (nI tii)) (C := RX4) (T := TX4) (N := 9) hx hb hts inX4 hown hK hP 0 rfl rfl 2 (by decide) (hts (.fieldLink RX4 70 "EscrowDesk$Reader" "token" "I") (by decide +kernel)) (fun _ h9 => h9) rfl dX4_readBoth_30 ?_
          refine lv_iconst (v := 1) hx hb dX4_readBoth_33 (by decide) ?_
          refine lv_iadd hx hb dX4_readBoth_34 ?_
          refine lv_topi (fun yn30 eyn30 => ?_)
          obtain rfl : yn30 = (nI (tii + 1)) := eyn30.trans (nI_add tii 1)
          obtain ⟨hPc, hDc, hFc⟩ := PDq.cut (wc := [(oX4 r0 r1 p0 (nI tii) (fk tii) (ft tii) (fv tii) u0_6_1 iek iep), (oX5 r1 k1 k2 k3 (nI ct)), (k1, .inl (cA 0, 701, .inl fk)), (k2, .inl (cA 0, 701, .inl ft)), (k3, .inl (cA 1, 701, .inr (.inl fv)))]) hP hD hS hA [0, 1, 2, 3, 4] (by decide) rfl
          refine va_callv (va_runV (As := [.int (nI (tii + 1))]) (rest := []) ⟨hx, hb, hml, hown, hts⟩ (x_lookAt l D cA sa r0 p0 (tii + 1) (nI tii) (fk tii) (ft tii) u0_6_1 iek iep (fv tii) r1 k1 k2 k3 ct fk ft fv H.size hct hn29.1) (cwV 1 hts gX4_readBoth_X4_lookAt rfl rfl rfl (by decide +kernel) ⟨by show (0) + 1 ≤ 3 * (k9 + 1) + 21; omega, by show 8 + (2 + 11) + (0) ≤ 72 * (k9 + 1) + 344; omega⟩) ⟨Wd.blind, va_recv hK hPc (ci := 8) (q0 := 0) rfl rfl, fun U hU hW => ⟨rfl, Wd.call hPc hDc hK hC hZ hS hFc U hU hW⟩⟩ rfl rfl hl.1 rfl (lv_room (Nat.le_of_ble_eq_true rfl)) dX4_readBoth_35 ⟨(Nat.le_of_ble_eq_true rfl), (Nat.le_of_ble_eq_true rfl)⟩) hS (fun q _ h => hFc q h) hFc (fun u t H1 locs ht hvm hw hB hz1 hk1 hS => ?_)
          obtain ⟨hP1, hD1⟩ := hB
          rw [ht] at hP1
          obtain ⟨hP, hD⟩ := PDq.join (w := [(oX3 p0 pr pb pe pg p1 (nI nd) p2 p3 p4 p5 (nI cn) p6 (nI qmi) p7 p8 p9 (nI smi)), (p2, .inl (cA 1, 10, .inr (.inl fna))), (p6, .inl (cA 1, 8, .inr (.inl f7_1))), (p7, .inl (cA 0, 350, .inl f8_1)), (p8, .inl (cA 0, 350, .inl f9_1)), (oX4 r0 r1 p0 (nI (tii + 1)) (fk (tii + 1)) (ft (tii + 1)) (fv (tii + 1)) u0_6_1 iek iep), (oX5 r1 k1 k2 k3 (nI ct)), (k1, .inl (cA 0, 701, .inl fk)), (k2, .inl (cA 0, 701, .inl ft)), (k3, .inl (cA 1, 701, .inr (.inl fv)))]) 5 hP hD [0, 1, 2, 3, 4] [5, 6, 7, 8, 9] rfl rfl (by decide) (by decide +kernel) hk1 hFc hP1 hD1 rfl
          generalize H1 = H at hP hS ⊢
          refine lv_aload_n hx hb dX4_readBoth_38 rfl (lv_at hl 2 rfl) ?_
          refine lv_iload_n hx hb dX4_readBoth_39 rfl (lv_at hl 3 rfl) ?_
          obtain ⟨hPc, hDc, hFc⟩ := PDq.cut (wc := [(oX4 r0 r1 p0 (nI (tii + 1)) (fk (tii + 1)) (ft (tii + 1)) (fv (tii + 1)) u0_6_1 iek iep), (oX5 r1 k1 k2 k3 (nI ct)), (k1, .inl (cA 0, 701, .inl fk)), (k2, .inl (cA 0, 701, .inl ft)), (k3, .inl (cA 1, 701, .inr (.inl fv))), (oX3 p0 pr pb pe pg p1 (nI nd) p2 p3 p4 p5 (nI cn) p6 (nI qmi) p7 p8 p9 (nI smi)), (p2, .inl (cA 1, 10, .inr (.inl fna))), (p6, .inl (cA 1, 8, .inr (.inl f7_1))), (p7, .inl (cA 0, 350, .inl f8_1)), (p8, .inl (cA 0, 350, .inl f9_1))]) hP hD hS hA [5, 6, 7, 8, 9, 0, 1, 2, 3, 4] (by decide +kernel) rfl
          refine va_calli (va_runV (As := [.int (nI o9)]) (rest := []) ⟨hx, hb, hml, hown, hts⟩ (x_readFact_S l D cA sa k9 IHf IHc r0 p0 (tii + 1) ln u0_6_1 iek iep r1 k1 k2 k3 ct fk ft fv fb gP gR p1 p2 p3 p4 p5 p6 p7 p8 p9 cn qmi nd smi pr pb pe pg fna f7_1 f8_1 f9_1 ml pli (sl + 2) o9 H.size hct hln hn29.1 hTX hcn hv2_1 hnd hv3_1 hNM hv6_1 (by omega) ho) (cwV 1 hts gX4_readBoth_X4_readFact rfl rfl rfl (by decide +kernel) ⟨by show (3 * (k9 + 1) + 20) + 1 ≤ 3 * (k9 + 1) + 21; omega, by show 8 + (3 + 11) + (72 * (k9 + 1) + 320) ≤ 72 * (k9 + 1) + 344; omega⟩) ⟨Wd.blind, va_recv hK hPc (ci := 8) (q0 := 0) rfl rfl, fun U hU hW => ⟨rfl, Wd.call hPc hDc hK hC hZ hS hFc U hU hW⟩⟩ rfl rfl hl.1 rfl (lv_room (Nat.le_of_ble_eq_true rfl)) dX4_readBoth_40 ⟨(Nat.le_of_ble_eq_true rfl), (Nat.le_of_ble_eq_true rfl)⟩) hS (fun q _ h => hFc q h) hFc (fun rn31 u t H1 locs ht hvm hw hB hz1 hk1 hS => ?_)
          obtain ⟨qn32, qn33, qn34, zn35, zn36, zn37, fn38, fn39, fn40, zn41, hn42, hn43, hn44, hn45, hn46, hn47, hn48, hn49, hn50, hn51, hn52, hn53, hn54, hP1, hD1⟩ := hB
          rw [ht] at hP1
          obtain ⟨hP, hD⟩ := PDq.join (w := [(oX4 r0 r1 p0 (nI qn32) (fk qn32) (ft qn32) (fv qn32) zn35 zn36 zn37), (oX5 r1 k1 k2 k3 (nI ct)), (k1, .inl (cA 0, 701, .inl fk)), (k2, .inl (cA 0, 701, .inl ft)), (k3, .inl (cA 1, 701, .inr (.inl fv))), (oX3 p0 pr pb pe pg p1 (nI nd) p2 p3 p4 p5 (nI cn) p6 (nI qn33) p7 p8 p9 (nI qn34)), (p2, .inl (cA 1, 10, .inr (.inl fna))), (p6, .inl (cA 1, 8, .inr (.inl fn38))), (p7, .inl (cA 0, 350, .inl fn39)), (p8, .inl (cA 0, 350, .inl fn40))]) 0 hP hD [5, 6, 7, 8, 9, 0, 1, 2, 3, 4] [] rfl rfl (by decide) (by decide +kernel) hk1 hFc hP1 hD1 rfl
          generalize H1 = H at hP hS ⊢
          rcases hw.2 with hr9 | hr9
          · skip
            have hn54 := hn54 (hw.1.trans hr9)
            subst hr9
            refine lv_if_eq (tgt := 63) hx hb dX4_readBoth_43 (by decide) (fun c55 => ?_) (fun c9 => absurd c9 (by decide))
            refine lv_iconst (v := 0) hx hb dX4_readBoth_63 (by decide) ?_
            refine lv_istore_n (lv' := [(2, .int 0), (3, .int (nI i1)), (0, .ref r0), (1, .int (nI o9))]) hx hb dX4_readBoth_64 rfl hl (by decide) rfl (fun ls hl => ?_)
            refine lv_iinc (v := (nI (i1 + 1))) (lv' := [(3, .int (nI (i1 + 1))), (2, .int 0), (0, .ref r0), (1, .int (nI o9))]) hx hb dX4_readBoth_65 hl (k := 1) rfl (nI_1 _) (by decide) rfl (fun ls hl => ?_)
            refine lv_goto (tgt := 8) hx hb dX4_readBoth_68 (by decide) ?_
            refine lv_iload_n hx hb dX4_readBoth_8 rfl (lv_at hl 1 rfl) ?_
            refine lv_if_eq (tgt := 71) hx hb dX4_readBoth_9 (by decide) (fun c56 => ?_) (fun c9 => absurd c9 (by decide))
            refine lv_iload_n hx hb dX4_readBoth_71 rfl (lv_at hl 1 rfl) ?_
            obtain ⟨hP9, hD9⟩ := PDq.sub (ws' := [(oX4 r0 r1 p0 (nI qn32) (fk qn32) (ft qn32) (fv qn32) zn35 zn36 zn37), (oX5 r1 k1 k2 k3 (nI ct)), (k1, .inl (cA 0, 701, .inl fk)), (k2, .inl (cA 0, 701, .inl ft)), (k3, .inl (cA 1, 701, .inr (.inl fv))), (oX3 p0 pr pb pe pg p1 (nI nd) p2 p3 p4 p5 (nI cn) p6 (nI qn33) p7 p8 p9 (nI qn34)), (p2, .inl (cA 1, 10, .inr (.inl fna))), (p6, .inl (cA 1, 8, .inr (.inl fn38))), (p7, .inl (cA 0, 350, .inl fn39)), (p8, .inl (cA 0, 350, .inl fn40))]) hP hD [0, 1, 2, 3, 4, 5, 6, 7, 8, 9] (by decide +kernel) rfl
            refine W.widen (k := 0) (n := 0) (Nat.le_of_ble_eq_true rfl) (Nat.le_of_ble_eq_true rfl) ?_
            exact (W.zret (v := 0) hx hb hr (by first | rfl | decide) (fun t ht hW => ⟨⟨0, 0, rfl, ⟨rfl, by decide⟩, qn32, qn33, qn34, zn35, zn36, zn37, fn38, fn39, fn40, zn41, hn42, hn43, (by omega), hn45, hn46, hn47, (fun h9 => absurd h9 (by decide)), (fun h9 => absurd h9 (by decide)), (fun h9 => absurd h9 (by decide)), (fun h9 => absurd h9 (by decide)), (fun h9 => absurd h9 (by decide)), (fun h9 => absurd h9 (by decide)), (fun _ => (hv7_1 _ (P_andE c28 hn54))), by rw [ht]; exact hP9, hD9⟩, hS.F ht⟩) hS.2.2 dX4_readBoth_72)
          · skip
            have hn48 := hn48 (hw.1.trans hr9)
            obtain rfl : iek = zn36 := hn48.symm
            obtain ⟨hP, hD⟩ : PDq D A [(oX4 r0 r1 p0 (nI qn32) (fk qn32) (ft qn32) (fv qn32) zn35 iek zn37), (oX5 r1 k1 k2 k3 (nI ct)), (k1, .inl (cA 0, 701, .inl fk)), (k2, .inl (cA 0, 701, .inl ft)), (k3, .inl (cA 1, 701, .inr (.inl fv))), (oX3 p0 pr pb pe pg p1 (nI nd) p2 p3 p4 p5 (nI cn) p6 (nI qn33) p7 p8 p9 (nI qn34)), (p2, .inl (cA 1, 10, .inr (.inl fna))), (p6, .inl (cA 1, 8, .inr (.inl fn38))), (p7, .inl (cA 0, 350, .inl fn39)), (p8, .inl (cA 0, 350, .inl fn40))] H := ⟨hP, hD⟩
            have hn49 := hn49 (hw.1.trans hr9)
            obtain rfl : iep = zn37 := hn49.symm
            obtain ⟨hP, hD⟩ : PDq D A [(oX4 r0 r1 p0 (nI qn32) (fk qn32) (ft qn32) (fv qn32) zn35 iek iep), (oX5 r1 k1 k2 k3 (nI ct)), (k1, .inl (cA 0, 701, .inl fk)), (k2, .inl (cA 0, 701, .inl ft)), (k3, .inl (cA 1, 701, .inr (.inl fv))), (oX3 p0 pr pb pe pg p1 (nI nd) p2 p3 p4 p5 (nI cn) p6 (nI qn33) p7 p8 p9 (nI qn34)), (p2, .inl (cA 1, 10, .inr (.inl fna))), (p6, .inl (cA 1, 8, .inr (.inl fn38))), (p7, .inl (cA 0, 350, .inl fn39)), (p8, .inl (cA 0, 350, .inl fn40))] H := ⟨hP, hD⟩
            have hn50 := hn50 (hw.1.trans hr9)
            have hn51 := hn51 (hw.1.trans hr9)
            have hn52 := hn52 (hw.1.trans hr9)
            have hn53 := hn53 (hw.1.trans hr9)
            subst hr9
            refine lv_if_eq (tgt := 63) hx hb dX4_readBoth_43 (by decide) (fun c9 => absurd c9 (by decide)) (fun c57 => ?_)
            refine lv_aload_n hx hb dX4_readBoth_46 rfl (lv_at hl 2 rfl) ?_
            refine va_get (D := D) (ci := 8) (v := .ref p0) (C := RX4) (T := TX4) (N := 9) hx hb hts inX4 hown hK hP 0 rfl rfl 1 (by decide) (hts (.fieldLink RX4 25 "EscrowDesk$Reader" "plan" "LEscrowDesk$Plan;") (by decide +kernel)) (fun _ h9 => h9) rfl dX4_readBoth_47 ?_
            refine lv_bipush (v := 15) hx hb dX4_readBoth_50 (by decide) ?_
            refine lv_iconst (v := 0) hx hb dX4_readBoth_52 (by decide) ?_
            obtain ⟨hPc, hDc, hFc⟩ := PDq.cut (wc := [(oX3 p0 pr pb pe pg p1 (nI nd) p2 p3 p4 p5 (nI cn) p6 (nI qn33) p7 p8 p9 (nI qn34)), (p7, .inl (cA 0, 350, .inl fn39)), (p8, .inl (cA 0, 350, .inl fn40))]) hP hD hS hA [5, 8, 9] (by decide) rfl
            refine va_calli (va_runV (As := [.int 15, .int 0]) (rest := []) ⟨hx, hb, hml, hown, hts⟩ (x_addStep l D cA sa p0 p1 p2 p3 p4 p5 p6 p7 p8 p9 cn qn33 nd qn34 pr pb pe pg 15 0 fn39 fn40 H.size (by omega)) (cwV 2 hts gX4_readBoth_X3_addStep rfl rfl rfl (by decide +kernel) ⟨by show (0) + 1 ≤ 3 * (k9 + 1) + 21; omega, by show 8 + (3 + 11) + (0) ≤ 72 * (k9 + 1) + 344; omega⟩) ⟨Wd.blind, va_recv hK hPc (ci := 7) (q0 := 0) rfl rfl, fun U hU hW => ⟨rfl, Wd.call hPc hDc hK hC hZ hS hFc U hU hW⟩⟩ rfl rfl hl.1 rfl (lv_room (Nat.le_of_ble_eq_true rfl)) dX4_readBoth_53 ⟨(Nat.le_of_ble_eq_true rfl), (Nat.le_of_ble_eq_true rfl)⟩) hS (fun q _ h => hFc q h) hFc (fun rn58 u t H1 locs ht hvm hw hB hz1 hk1 hS => ?_)
            obtain ⟨fn59, fn60, hn61, hn62, hP1, hD1⟩ := hB
            rw [ht] at hP1
            obtain ⟨hP, hD⟩ := PDq.join (w := [(oX4 r0 r1 p0 (nI qn32) (fk qn32) (ft qn32) (fv qn32) zn35 iek iep), (oX5 r1 k1 k2 k3 (nI ct)), (k1, .inl (cA 0, 701, .inl fk)), (k2, .inl (cA 0, 701, .inl ft)), (k3, .inl (cA 1, 701, .inr (.inl fv))), (p2, .inl (cA 1, 10, .inr (.inl fna))), (p6, .inl (cA 1, 8, .inr (.inl fn38))), (oX3 p0 pr pb pe pg p1 (nI nd) p2 p3 p4 p5 (nI cn) p6 (nI qn33) p7 p8 p9 (nI (qn34 + 1))), (p7, .inl (cA 0, 350, .inl fn59)), (p8, .inl (cA 0, 350, .inl fn60))]) 7 hP hD [5, 8, 9] [0, 1, 2, 3, 4, 6, 7] rfl rfl (by decide) (by decide +kernel) hk1 hFc hP1 hD1 rfl
            generalize H1 = H at hP hS ⊢
            obtain rfl : rn58 = 1 := hw
            refine lv_if_eq (tgt := 63) hx hb dX4_readBoth_56 (by decide) (fun c9 => absurd c9 (by decide)) (fun c63 => ?_)
            refine lv_iconst (v := 1) hx hb dX4_readBoth_59 (by decide) ?_
            refine lv_goto (tgt := 64) hx hb dX4_readBoth_60 (by decide) ?_
            refine lv_istore_n (lv' := [(2, .int 1), (3, .int (nI i1)), (0, .ref r0), (1, .int (nI o9))]) hx hb dX4_readBoth_64 rfl hl (by decide) rfl (fun ls hl => ?_)
            refine lv_iinc (v := (nI (i1 + 1))) (lv' := [(3, .int (nI (i1 + 1))), (2, .int 1), (0, .ref r0), (1, .int (nI o9))]) hx hb dX4_readBoth_65 hl (k := 1) rfl (nI_1 _) (by decide) rfl (fun ls hl => ?_)
            refine lv_goto (tgt := 8) hx hb dX4_readBoth_68 (by decide) ?_
            obtain ⟨hP9, hD9⟩ := PDq.sub (ws' := [(oX4 r0 r1 p0 (nI qn32) (fk qn32) (ft qn32) (fv qn32) zn35 iek iep), (oX5 r1 k1 k2 k3 (nI ct)), (k1, .inl (cA 0, 701, .inl fk)), (k2, .inl (cA 0, 701, .inl ft)), (k3, .inl (cA 1, 701, .inr (.inl fv))), (oX3 p0 pr pb pe pg p1 (nI nd) p2 p3 p4 p5 (nI cn) p6 (nI qn33) p7 p8 p9 (nI (qn34 + 1))), (p2, .inl (cA 1, 10, .inr (.inl fna))), (p6, .inl (cA 1, 8, .inr (.inl fn38))), (p7, .inl (cA 0, 350, .inl fn59)), (p8, .inl (cA 0, 350, .inl fn60))]) hP hD [0, 1, 2, 3, 4, 7, 5, 6, 8, 9] (by decide +kernel) rfl
            exact ih1 (i1 + 1) zn41 qn32 zn35 qn33 (qn34 + 1) fn38 fn59 fn60 H _ ls (by omega) (by omega) hn42 hn45 (by omega) (by omega) hn43 hn47 (fun r9 h9 => hv7_1 r9 (P_and c28 hn52 h9)) (CDL.and hv8_1 c28 hn53 hn61 hn62 rfl (by have q9 := hNM.1; omega) (by have q9 := hn47.1; omega)) hP9 hD9 hS (lv_sub hl [0, 1, 2, 3] rfl)
    obtain ⟨hP9, hD9⟩ := PDq.sub (ws' := [(oX4 r0 r1 p0 (nI qn2) (fk qn2) (ft qn2) (fv qn2) zn5 iek iep), (oX5 r1 k1 k2 k3 (nI ct)), (k1, .inl (cA 0, 701, .inl fk)), (k2, .inl (cA 0, 701, .inl ft)), (k3, .inl (cA 1, 701, .inr (.inl fv))), (oX3 p0 pr pb pe pg p1 (nI nd) p2 p3 p4 p5 (nI cn) p6 (nI qn3) p7 p8 p9 (nI qn4)), (p2, .inl (cA 1, 10, .inr (.inl fna))), (p6, .inl (cA 1, 8, .inr (.inl fn8))), (p7, .inl (cA 0, 350, .inl fn9)), (p8, .inl (cA 0, 350, .inl fn10))]) hP hD [0, 1, 2, 3, 4, 5, 6, 7, 8, 9] (by decide +kernel) rfl
    exact loop1 (700 - 0) 0 zn11 qn2 zn5 qn3 qn4 fn8 fn9 fn10 _ _ ls (by omega) (by omega) hn12 hn15 hn16 hn20 hn13 hn17 (fun r9 h9 => P_both hn22 h9) (CDL.both hn23) hP9 hD9 hS (lv_sub hl [0, 1, 2, 3] rfl)

set_option maxHeartbeats 4000000 in
set_option maxRecDepth 100000 in
/-- readCondition -/
theorem x_readCondition_S (l : Launch) (D : va_G) (cA : Nat → ClassId) (sa : Nat → Nat) (k9 : Nat) (IHf : XFactC l D cA sa k9) (IHc : XCondC l D cA sa k9) (r0 : Nat) (p0 : Nat) (ti : Nat) (ln : Nat) (inb : Int32) (iek : Int32) (iep : Int32) (r1 : Nat) (k1 : Nat) (k2 : Nat) (k3 : Nat) (ct : Nat) (fk : Nat → Int32) (ft : Nat → Int32) (fv : Nat → Int64) (fb : Nat → Int32) (gP : Nat → Nat) (gR : Nat → Nat) (p1 : Nat) (p2 : Nat) (p3 : Nat) (p4 : Nat) (p5 : Nat) (p6 : Nat) (p7 : Nat) (p8 : Nat) (p9 : Nat) (cn : Nat) (pq : Nat) (nd : Nat) (sc : Nat) (pr : Int32) (pb : Int32) (pe : Int32) (pg : Int32) (fna : Nat → Int64) (fpn : Nat → Int64) (fst : Nat → Int32) (fop : Nat → Int32) (ml : List Int64) (pl : List Int64) (sl : Nat) (o9 : Nat) (sz : Nat) (hct : ct ≤ 701) (hln : ln ≤ 700) (hti : ti < ct) (hTX : TX fb ln ct gP gR ft fv fk) (hcn : cn ≤ 10) (hpq : pq ≤ 8) (hnd : nd ≤ 6) (hsc : sc ≤ 350) (hNM : NL ml cn fna) (hNP : NL pl pq fpn) (hsl : 2 * sc + sl ≤ gP ti) (ho : o9 + (k9 + 1) = 8) : Met l yX4_readCondition wsX4_readCondition ({ frames := 3 * (k9 + 1) + 22, cells := 0, slots := 0, locals := 72 * (k9 + 1) + 368 }) (va_Pc [.ref r0, .int (nI o9)] (Wd D cA sa [(oX4 r0 r1 p0 (nI ti) (fk ti) (ft ti) (fv ti) inb iek iep), (oX5 r1 k1 k2 k3 (nI ct)), (k1, .inl (cA 0, 701, .inl fk)), (k2, .inl (cA 0, 701, .inl ft)), (k3, .inl (cA 1, 701, .inr (.inl fv))), (oX3 p0 pr pb pe pg p1 (nI nd) p2 p3 p4 p5 (nI cn) p6 (nI pq) p7 p8 p9 (nI sc)), (p2, .inl (cA 1, 10, .inr (.inl fna))), (p6, .inl (cA 1, 8, .inr (.inl fpn))), (p7, .inl (cA 0, 350, .inl fst)), (p8, .inl (cA 0, 350, .inl fop))] sz)) (va_Qi (fun (r : Int32) (u9 : Int32) => u9 = r ∧ (r = 0 ∨ r = 1)) (fun (u9 : Int32) t => ∃ tj : Nat, ∃ qm : Nat, ∃ sm : Nat, ∃ znr : Int32, ∃ zek : Int32, ∃ zep : Int32, ∃ zpn : Nat → Int64, ∃ zst : Nat → Int32, ∃ zop : Nat → Int32, ∃ zpl : List Int64, tj < ct ∧ gP tj ≤ ln ∧ ti ≤ tj ∧ qm ≤ 8 ∧ sm ≤ 350 ∧ NL zpl qm zpn ∧ (u9 = 1 → zek = iek) ∧ (u9 = 1 → zep = iep) ∧ (u9 = 1 → 2 * sm + sl ≤ gP tj) ∧ (u9 = 1 → ti + 1 ≤ tj) ∧ (u9 = 1 → PRx fk ft fv ml 3 o9 ti pl (.inr (tj, zpl))) ∧ (u9 = 1 → CD9 fk fv 3 ti tj ml pl zpl sc sm fst fop zst zop) ∧ (u9 = 0 → PRx fk ft fv ml 3 o9 ti pl (.inl (zek, zep))) ∧ Wq D (va_A [(oX4 r0 r1 p0 (nI ti) (fk ti) (ft ti) (fv ti) inb iek iep), (oX5 r1 k1 k2 k3 (nI ct)), (k1, .inl (cA 0, 701, .inl fk)), (k2, .inl (cA 0, 701, .inl ft)), (k3, .inl (cA 1, 701, .inr (.inl fv))), (oX3 p0 pr pb pe pg p1 (nI nd) p2 p3 p4 p5 (nI cn) p6 (nI pq) p7 p8 p9 (nI sc)), (p2, .inl (cA 1, 10, .inr (.inl fna))), (p6, .inl (cA 1, 8, .inr (.inl fpn))), (p7, .inl (cA 0, 350, .inl fst)), (p8, .inl (cA 0, 350, .inl fop))] sz) [(oX4 r0 r1 p0 (nI tj) (fk tj) (ft tj) (fv tj) znr zek zep), (oX5 r1 k1 k2 k3 (nI ct)), (k1, .inl (cA 0, 701, .inl fk)), (k2, .inl (cA 0, 701, .inl ft)), (k3, .inl (cA 1, 701, .inr (.inl fv))), (oX3 p0 pr pb pe pg p1 (nI nd) p2 p3 p4 p5 (nI cn) p6 (nI qm) p7 p8 p9 (nI sm)), (p2, .inl (cA 1, 10, .inr (.inl fna))), (p6, .inl (cA 1, 8, .inr (.inl zpn))), (p7, .inl (cA 0, 350, .inl zst)), (p8, .inl (cA 0, 350, .inl zop))] t) (va_A [(oX4 r0 r1 p0 (nI ti) (fk ti) (ft ti) (fv ti) inb iek iep), (oX5 r1 k1 k2 k3 (nI ct)), (k1, .inl (cA 0, 701, .inl fk)), (k2, .inl (cA 0, 701, .inl ft)), (k3, .inl (cA 1, 701, .inr (.inl fv))), (oX3 p0 pr pb pe pg p1 (nI nd) p2 p3 p4 p5 (nI cn) p6 (nI pq) p7 p8 p9 (nI sc)), (p2, .inl (cA 1, 10, .inr (.inl fna))), (p6, .inl (cA 1, 8, .inr (.inl fpn))), (p7, .inl (cA 0, 350, .inl fst)), (p8, .inl (cA 0, 350, .inl fop))] sz)) 0 0 (va_A [(oX4 r0 r1 p0 (nI ti) (fk ti) (ft ti) (fv ti) inb iek iep), (oX5 r1 k1 k2 k3 (nI ct)), (k1, .inl (cA 0, 701, .inl fk)), (k2, .inl (cA 0, 701, .inl ft)), (k3, .inl (cA 1, 701, .inr (.inl fv))), (oX3 p0 pr pb pe pg p1 (nI nd) p2 p3 p4 p5 (nI cn) p6 (nI pq) p7 p8 p9 (nI sc)), (p2, .inl (cA 1, 10, .inr (.inl fna))), (p6, .inl (cA 1, 8, .inr (.inl fpn))), (p7, .inl (cA 0, 350, .inl fst)), (p8, .inl (cA 0, 350, .inl fop))] sz) := by
  refine Met.ofW (cc := cX4_readCondition) (maxL := 4) (ret := (some .boolean)) (by decide) rfl ?_
  intro p e s m args below meth c s₁ B hml hv
  obtain ⟨rfl, hsz, hP, hK, hD0, hC, hZ⟩ := hv
  have hx := B.exec
  have hb := B.bytes
  have hr := B.returns
  have hts := atoms_spec (ws := wsX4_readCondition) B.pre
  have hown : s.vm.findClass RX4 = some m.cls := findClass_of_methodNamed B.named
  have hlocks := B.notSynchronized
  subst hsz
  have hD := hD0.self (sz := s.heap.size)
  generalize hAe : va_A [(oX4 r0 r1 p0 (nI ti) (fk ti) (ft ti) (fv ti) inb iek iep), (oX5 r1 k1 k2 k3 (nI ct)), (k1, .inl (cA 0, 701, .inl fk)), (k2, .inl (cA 0, 701, .inl ft)), (k3, .inl (cA 1, 701, .inr (.inl fv))), (oX3 p0 pr pb pe pg p1 (nI nd) p2 p3 p4 p5 (nI cn) p6 (nI pq) p7 p8 p9 (nI sc)), (p2, .inl (cA 1, 10, .inr (.inl fna))), (p6, .inl (cA 1, 8, .inr (.inl fpn))), (p7, .inl (cA 0, 350, .inl fst)), (p8, .inl (cA 0, 350, .inl fop))] s.heap.size = A at hD hZ ⊢
  have hA : ∀ q : Nat, s.heap.size ≤ q → A q := fun q h => by rw [← hAe]; exact Or.inr h
  have hS : va_S A s.heap s.heap [] := va_S.rf
  have hP : va_P D vwCl [(oX4 r0 r1 p0 (nI ti) (fk ti) (ft ti) (fv ti) inb iek iep), (oX5 r1 k1 k2 k3 (nI ct)), (k1, .inl (cA 0, 701, .inl fk)), (k2, .inl (cA 0, 701, .inl ft)), (k3, .inl (cA 1, 701, .inr (.inl fv))), (oX3 p0 pr pb pe pg p1 (nI nd) p2 p3 p4 p5 (nI cn) p6 (nI pq) p7 p8 p9 (nI sc)), (p2, .inl (cA 1, 10, .inr (.inl fna))), (p6, .inl (cA 1, 8, .inr (.inl fpn))), (p7, .inl (cA 0, 350, .inl fst)), (p8, .inl (cA 0, 350, .inl fop))] s.heap := hP
  have hl := lv_entry ([.ref r0, .int (nI o9)]) (n := 4) (Nat.le_of_ble_eq_true rfl)
  rw [lg_entry_eq]
  generalize (lg_sl ([.ref r0, .int (nI o9)]) ++ List.replicate (4 - (lg_sl ([.ref r0, .int (nI o9)])).length) Slot.unset).toArray = ls at hl ⊢
  have hl : lv_has ls 4 [(0, .ref r0), (1, .int (nI o9))] := hl
  have inX4 : ∀ w ∈ u_ws RX4 TX4 9, w ∈ wsX4_readCondition := by decide +kernel
  have hle9 := TX.le hTX hti
  refine lv_aload_n hx hb dX4_readCondition_0 rfl (lv_at hl 0 rfl) ?_
  refine lv_iload_n hx hb dX4_readCondition_1 rfl (lv_at hl 1 rfl) ?_
  obtain ⟨hPc, hDc, hFc⟩ := PDq.cut (wc := [(oX4 r0 r1 p0 (nI ti) (fk ti) (ft ti) (fv ti) inb iek iep), (oX5 r1 k1 k2 k3 (nI ct)), (k1, .inl (cA 0, 701, .inl fk)), (k2, .inl (cA 0, 701, .inl ft)), (k3, .inl (cA 1, 701, .inr (.inl fv))), (oX3 p0 pr pb pe pg p1 (nI nd) p2 p3 p4 p5 (nI cn) p6 (nI pq) p7 p8 p9 (nI sc)), (p2, .inl (cA 1, 10, .inr (.inl fna))), (p6, .inl (cA 1, 8, .inr (.inl fpn))), (p7, .inl (cA 0, 350, .inl fst)), (p8, .inl (cA 0, 350, .inl fop))]) hP hD hS hA [0, 1, 2, 3, 4, 5, 6, 7, 8, 9] (by decide +kernel) rfl
  refine va_calli (va_runV (As := [.int (nI o9)]) (rest := []) ⟨hx, hb, hml, hown, hts⟩ (x_readBoth_S l D cA sa k9 IHf IHc r0 p0 ti ln inb iek iep r1 k1 k2 k3 ct fk ft fv fb gP gR p1 p2 p3 p4 p5 p6 p7 p8 p9 cn pq nd sc pr pb pe pg fna fpn fst fop ml pl sl o9 s.heap.size hct hln hti hTX hcn hpq hnd hsc hNM hNP hsl ho) (cwV 1 hts gX4_readCondition_X4_readBoth rfl rfl rfl (by decide +kernel) ⟨by show (3 * (k9 + 1) + 21) + 1 ≤ 3 * (k9 + 1) + 22; omega, by show 8 + (4 + 11) + (72 * (k9 + 1) + 344) ≤ 72 * (k9 + 1) + 368; omega⟩) ⟨Wd.blind, va_recv hK hPc (ci := 8) (q0 := 0) rfl rfl, fun U hU hW => ⟨rfl, Wd.call hPc hDc hK hC hZ hS hFc U hU hW⟩⟩ rfl rfl hl.1 rfl (lv_room (Nat.le_of_ble_eq_true rfl)) dX4_readCondition_2 ⟨(Nat.le_of_ble_eq_true rfl), (Nat.le_of_ble_eq_true rfl)⟩) hS (fun q _ h => hFc q h) hFc (fun rn1 u t H1 locs ht hvm hw hB hz1 hk1 hS => ?_)
  obtain ⟨qn2, qn3, qn4, zn5, zn6, zn7, fn8, fn9, fn10, zn11, hn12, hn13, hn14, hn15, hn16, hn17, hn18, hn19, hn20, hn21, hn22, hn23, hn24, hP1, hD1⟩ := hB
  rw [ht] at hP1
  obtain ⟨hP, hD⟩ := PDq.join (w := [(oX4 r0 r1 p0 (nI qn2) (fk qn2) (ft qn2) (fv qn2) zn5 zn6 zn7), (oX5 r1 k1 k2 k3 (nI ct)), (k1, .inl (cA 0, 701, .inl fk)), (k2, .inl (cA 0, 701, .inl ft)), (k3, .inl (cA 1, 701, .inr (.inl fv))), (oX3 p0 pr pb pe pg p1 (nI nd) p2 p3 p4 p5 (nI cn) p6 (nI qn3) p7 p8 p9 (nI qn4)), (p2, .inl (cA 1, 10, .inr (.inl fna))), (p6, .inl (cA 1, 8, .inr (.inl fn8))), (p7, .inl (cA 0, 350, .inl fn9)), (p8, .inl (cA 0, 350, .inl fn10))]) 0 hP hD [0, 1, 2, 3, 4, 5, 6, 7, 8, 9] [] rfl rfl (by decide) (by decide +kernel) hk1 hFc hP1 hD1 rfl
  generalize H1 = H at hP hS ⊢
  rcases hw.2 with hr9 | hr9
  · skip
    have hn24 := hn24 (hw.1.trans hr9)
    subst hr9
    refine lv_istore_n (lv' := [(2, .int 0), (0, .ref r0), (1, .int (nI o9))]) hx hb dX4_readCondition_5 rfl hl (by decide) rfl (fun ls hl => ?_)
    refine lv_iconst (v := 0) hx hb dX4_readCondition_6 (by decide) ?_
    refine lv_istore_n (lv' := [(3, .int 0), (2, .int 0), (0, .ref r0), (1, .int (nI o9))]) hx hb dX4_readCondition_7 rfl hl (by decide) rfl (fun ls hl => ?_)
    refine lv_iload_n hx hb dX4_readCondition_8 rfl (lv_at hl 1 rfl) ?_
    refine lv_if_eq (tgt := 71) hx hb dX4_readCondition_9 (by decide) (fun c25 => ?_) (fun c9 => absurd c9 (by decide))
    refine lv_iload_n hx hb dX4_readCondition_71 rfl (lv_at hl 1 rfl) ?_
    obtain ⟨hP9, hD9⟩ := PDq.sub (ws' := [(oX4 r0 r1 p0 (nI qn2) (fk qn2) (ft qn2) (fv qn2) zn5 zn6 zn7), (oX5 r1 k1 k2 k3 (nI ct)), (k1, .inl (cA 0, 701, .inl fk)), (k2, .inl (cA 0, 701, .inl ft)), (k3, .inl (cA 1, 701, .inr (.inl fv))), (oX3 p0 pr pb pe pg p1 (nI nd) p2 p3 p4 p5 (nI cn) p6 (nI qn3) p7 p8 p9 (nI qn4)), (p2, .inl (cA 1, 10, .inr (.inl fna))), (p6, .inl (cA 1, 8, .inr (.inl fn8))), (p7, .inl (cA 0, 350, .inl fn9)), (p8, .inl (cA 0, 350, .inl fn10))]) hP hD [0, 1, 2, 3, 4, 5, 6, 7, 8, 9] (by decide +kernel) rfl
    refine W.widen (k := 0) (n := 0) (Nat.le_of_ble_eq_true rfl) (Nat.le_of_ble_eq_true rfl) ?_
    exact (W.zret (v := 0) hx hb hr (by first | rfl | decide) (fun t ht hW => ⟨⟨0, 0, rfl, ⟨rfl, by decide⟩, qn2, qn3, qn4, zn5, zn6, zn7, fn8, fn9, fn10, zn11, hn12, hn13, hn14, hn15, hn16, hn17, (fun h9 => absurd h9 (by decide)), (fun h9 => absurd h9 (by decide)), (fun h9 => absurd h9 (by decide)), (fun h9 => absurd h9 (by decide)), (fun h9 => absurd h9 (by decide)), (fun h9 => absurd h9 (by decide)), (fun _ => (P_condE hn24)), by rw [ht]; exact hP9, hD9⟩, hS.F ht⟩) hS.2.2 dX4_readCondition_72)
  · skip
    have hn18 := hn18 (hw.1.trans hr9)
    obtain rfl : iek = zn6 := hn18.symm
    obtain ⟨hP, hD⟩ : PDq D A [(oX4 r0 r1 p0 (nI qn2) (fk qn2) (ft qn2) (fv qn2) zn5 iek zn7), (oX5 r1 k1 k2 k3 (nI ct)), (k1, .inl (cA 0, 701, .inl fk)), (k2, .inl (cA 0, 701, .inl ft)), (k3, .inl (cA 1, 701, .inr (.inl fv))), (oX3 p0 pr pb pe pg p1 (nI nd) p2 p3 p4 p5 (nI cn) p6 (nI qn3) p7 p8 p9 (nI qn4)), (p2, .inl (cA 1, 10, .inr (.inl fna))), (p6, .inl (cA 1, 8, .inr (.inl fn8))), (p7, .inl (cA 0, 350, .inl fn9)), (p8, .inl (cA 0, 350, .inl fn10))] H := ⟨hP, hD⟩
    have hn19 := hn19 (hw.1.trans hr9)
    obtain rfl : iep = zn7 := hn19.symm
    obtain ⟨hP, hD⟩ : PDq D A [(oX4 r0 r1 p0 (nI qn2) (fk qn2) (ft qn2) (fv qn2) zn5 iek iep), (oX5 r1 k1 k2 k3 (nI ct)), (k1, .inl (cA 0, 701, .inl fk)), (k2, .inl (cA 0, 701, .inl ft)), (k3, .inl (cA 1, 701, .inr (.inl fv))), (oX3 p0 pr pb pe pg p1 (nI nd) p2 p3 p4 p5 (nI cn) p6 (nI qn3) p7 p8 p9 (nI qn4)), (p2, .inl (cA 1, 10, .inr (.inl fna))), (p6, .inl (cA 1, 8, .inr (.inl fn8))), (p7, .inl (cA 0, 350, .inl fn9)), (p8, .inl (cA 0, 350, .inl fn10))] H := ⟨hP, hD⟩
    have hn20 := hn20 (hw.1.trans hr9)
    have hn21 := hn21 (hw.1.trans hr9)
    have hn22 := hn22 (hw.1.trans hr9)
    have hn23 := hn23 (hw.1.trans hr9)
    subst hr9
    refine lv_istore_n (lv' := [(2, .int 1), (0, .ref r0), (1, .int (nI o9))]) hx hb dX4_readCondition_5 rfl hl (by decide) rfl (fun ls hl => ?_)
    refine lv_iconst (v := 0) hx hb dX4_readCondition_6 (by decide) ?_
    refine lv_istore_n (lv' := [(3, .int 0), (2, .int 1), (0, .ref r0), (1, .int (nI o9))]) hx hb dX4_readCondition_7 rfl hl (by decide) rfl (fun ls hl => ?_)
    have loop1 : ∀ (n1 i1 : Nat) (pli : List Int64) (tii : Nat) (u0_6_1 : Int32) (qmi : Nat) (smi : Nat) (f7_1 : Nat → Int64) (f8_1 : Nat → Int32) (f9_1 : Nat → Int32) (H : Heap) (locs : List Loc) (ls : Array Slot), i1 + n1 = 700 → ti + 1 + i1 ≤ tii → tii < ct → qmi ≤ 8 → smi ≤ 350 → 2 * smi + sl ≤ gP tii → gP tii ≤ ln → NL pli qmi f7_1 → Cn fk ft fv ml 3 o9 ti pl 4 tii pli → CDL fk fv 3 ti 4 tii ml pl pli sc smi fst fop f8_1 f9_1 → va_P D vwCl [(oX4 r0 r1 p0 (nI tii) (fk tii) (ft tii) (fv tii) u0_6_1 iek iep), (oX5 r1 k1 k2 k3 (nI ct)), (k1, .inl (cA 0, 701, .inl fk)), (k2, .inl (cA 0, 701, .inl ft)), (k3, .inl (cA 1, 701, .inr (.inl fv))), (oX3 p0 pr pb pe pg p1 (nI nd) p2 p3 p4 p5 (nI cn) p6 (nI qmi) p7 p8 p9 (nI smi)), (p2, .inl (cA 1, 10, .inr (.inl fna))), (p6, .inl (cA 1, 8, .inr (.inl f7_1))), (p7, .inl (cA 0, 350, .inl f8_1)), (p8, .inl (cA 0, 350, .inl f9_1))] H → va_D A [(oX4 r0 r1 p0 (nI tii) (fk tii) (ft tii) (fv tii) u0_6_1 iek iep), (oX5 r1 k1 k2 k3 (nI ct)), (k1, .inl (cA 0, 701, .inl fk)), (k2, .inl (cA 0, 701, .inl ft)), (k3, .inl (cA 1, 701, .inr (.inl fv))), (oX3 p0 pr pb pe pg p1 (nI nd) p2 p3 p4 p5 (nI cn) p6 (nI qmi) p7 p8 p9 (nI smi)), (p2, .inl (cA 1, 10, .inr (.inl fna))), (p6, .inl (cA 1, 8, .inr (.inl f7_1))), (p7, .inl (cA 0, 350, .inl f8_1)), (p8, .inl (cA 0, 350, .inl f9_1))] → va_S A s.heap H locs → lv_has ls 4 [(3, .int (nI i1)), (2, .int 1), (0, .ref r0), (1, .int (nI o9))] → W p l e (headSpec wsX4_readCondition ({ frames := 3 * (k9 + 1) + 22, cells := 0, slots := 0, locals := 72 * (k9 + 1) + 368 } : Room)).room s m ([.ref r0, .int (nI o9)] : List Value).toArray below meth c H locs 0 0 (MQ below (va_Qi (fun (r : Int32) (u9 : Int32) => u9 = r ∧ (r = 0 ∨ r = 1)) (fun (u9 : Int32) t => ∃ tj : Nat, ∃ qm : Nat, ∃ sm : Nat, ∃ znr : Int32, ∃ zek : Int32, ∃ zep : Int32, ∃ zpn : Nat → Int64, ∃ zst : Nat → Int32, ∃ zop : Nat → Int32, ∃ zpl : List Int64, tj < ct ∧ gP tj ≤ ln ∧ ti ≤ tj ∧ qm ≤ 8 ∧ sm ≤ 350 ∧ NL zpl qm zpn ∧ (u9 = 1 → zek = iek) ∧ (u9 = 1 → zep = iep) ∧ (u9 = 1 → 2 * sm + sl ≤ gP tj) ∧ (u9 = 1 → ti + 1 ≤ tj) ∧ (u9 = 1 → PRx fk ft fv ml 3 o9 ti pl (.inr (tj, zpl))) ∧ (u9 = 1 → CD9 fk fv 3 ti tj ml pl zpl sc sm fst fop zst zop) ∧ (u9 = 0 → PRx fk ft fv ml 3 o9 ti pl (.inl (zek, zep))) ∧ Wq D A [(oX4 r0 r1 p0 (nI tj) (fk tj) (ft tj) (fv tj) znr zek zep), (oX5 r1 k1 k2 k3 (nI ct)), (k1, .inl (cA 0, 701, .inl fk)), (k2, .inl (cA 0, 701, .inl ft)), (k3, .inl (cA 1, 701, .inr (.inl fv))), (oX3 p0 pr pb pe pg p1 (nI nd) p2 p3 p4 p5 (nI cn) p6 (nI qm) p7 p8 p9 (nI sm)), (p2, .inl (cA 1, 10, .inr (.inl fna))), (p6, .inl (cA 1, 8, .inr (.inl zpn))), (p7, .inl (cA 0, 350, .inl zst)), (p8, .inl (cA 0, 350, .inl zop))] t) A) ([.ref r0, .int (nI o9)] : List Value).toArray s 0 0 A) (F0 m 8 ls []) := by
      intro n1
      induction n1 with
      | zero =>
        intro i1 pli tii u0_6_1 qmi smi f7_1 f8_1 f9_1 H locs ls hi1 hv0_1 hv1_1 hv2_1 hv3_1 hv4_1 hv5_1 hv6_1 hv7_1 hv8_1 hP hD hS hl
        obtain rfl : 700 = i1 := by omega
        exact absurd hv0_1 (by omega)
      | succ n1 ih1 =>
        intro i1 pli tii u0_6_1 qmi smi f7_1 f8_1 f9_1 H locs ls hi1 hv0_1 hv1_1 hv2_1 hv3_1 hv4_1 hv5_1 hv6_1 hv7_1 hv8_1 hP hD hS hl
        refine lv_iload_n hx hb dX4_readCondition_8 rfl (lv_at hl 1 rfl) ?_
        refine lv_if_eq (tgt := 71) hx hb dX4_readCondition_9 (by decide) (fun c9 => absurd c9 (by decide)) (fun c26 => ?_)
        refine lv_iload_n hx hb dX4_readCondition_12 rfl (lv_at hl 0 rfl) ?_
        refine lv_sipush (v := 700) hx hb dX4_readCondition_13 (by decide) ?_
        refine lv_icmp_ge (tgt := 71) hx hb dX4_readCondition_16 (by decide) (fun c9 => absurd c9 (nI_ge (a := i1) (b := 700) (show i1 < 700 by omega) (by omega))) (fun c27 => ?_)
        refine lv_aload_n hx hb dX4_readCondition_19 rfl (lv_at hl 2 rfl) ?_
        refine va_get (D := D) (ci := 8) (v := .int (fk tii)) (C := RX4) (T := TX4) (N := 9) hx hb hts inX4 hown hK hP 0 rfl rfl 3 (by decide) (hts (.fieldLink RX4 42 "EscrowDesk$Reader" "kind" "I") (by decide +kernel)) (fun _ h9 => h9) rfl dX4_readCondition_20 ?_
        refine lv_bipush (v := 14) hx hb dX4_readCondition_23 (by decide) ?_
        refine lv_icmp_ne (tgt := 71) hx hb dX4_readCondition_25 (by decide) (fun c28 => ?_) (fun c28 => ?_)
        · skip
          refine lv_iload_n hx hb dX4_readCondition_71 rfl (lv_at hl 1 rfl) ?_
          obtain ⟨hP9, hD9⟩ := PDq.sub (ws' := [(oX4 r0 r1 p0 (nI tii) (fk tii) (ft tii) (fv tii) u0_6_1 iek iep), (oX5 r1 k1 k2 k3 (nI ct)), (k1, .inl (cA 0, 701, .inl fk)), (k2, .inl (cA 0, 701, .inl ft)), (k3, .inl (cA 1, 701, .inr (.inl fv))), (oX3 p0 pr pb pe pg p1 (nI nd) p2 p3 p4 p5 (nI cn) p6 (nI qmi) p7 p8 p9 (nI smi)), (p2, .inl (cA 1, 10, .inr (.inl fna))), (p6, .inl (cA 1, 8, .inr (.inl f7_1))), (p7, .inl (cA 0, 350, .inl f8_1)), (p8, .inl (cA 0, 350, .inl f9_1))]) hP hD [0, 1, 2, 3, 4, 5, 6, 7, 8, 9] (by decide +kernel) rfl
          refine W.widen (k := 0) (n := 0) (Nat.le_of_ble_eq_true rfl) (Nat.le_of_ble_eq_true rfl) ?_
          exact (W.zret (v := 1) hx hb hr (by first | rfl | decide) (fun t ht hW => ⟨⟨1, 1, rfl, ⟨rfl, by decide⟩, tii, qmi, smi, u0_6_1, iek, iep, f7_1, f8_1, f9_1, pli, hv1_1, hv5_1, (by omega), hv2_1, hv3_1, hv6_1, (fun _ => rfl), (fun _ => rfl), (fun _ => hv4_1), (fun _ => (by omega)), (fun _ => (hv7_1 _ (P_end4 c28))), (fun _ => (CDL.end4 hv8_1 c28)), (fun h9 => absurd h9 (by decide)), by rw [ht]; exact hP9, hD9⟩, hS.F ht⟩) hS.2.2 dX4_readCondition_72)
        · skip
          have hn29 := TX.go2 hTX (show tii < ct by omega) (by rw [c28]; decide)
          have hn29a := hn29.2.1
          have hn29b := hn29.2.2
          have hn29c := hn29.1
          refine lv_aload_n hx hb dX4_readCondition_28 rfl (lv_at hl 2 rfl) ?_
          refine lv_aload_n hx hb dX4_readCondition_29 rfl (lv_at hl 2 rfl) ?_
          refine va_get (D := D) (ci := 8) (v := .int (nI tii)) (C := RX4) (T := TX4) (N := 9) hx hb hts inX4 hown hK hP 0 rfl rfl 2 (by decide) (hts (.fieldLink RX4 70 "EscrowDesk$Reader" "token" "I") (by decide +kernel)) (fun _ h9 => h9) rfl dX4_readCondition_30 ?_
          refine lv_iconst (v := 1) hx hb dX4_readCondition_33 (by decide) ?_
          refine lv_iadd hx hb dX4_readCondition_34 ?_
          refine lv_topi (fun yn30 eyn30 => ?_)
          obtain rfl : yn30 = (nI (tii + 1)) := eyn30.trans (nI_add tii 1)
          obtain ⟨hPc, hDc, hFc⟩ := PDq.cut (wc := [(oX4 r0 r1 p0 (nI tii) (fk tii) (ft tii) (fv tii) u0_6_1 iek iep), (oX5 r1 k1 k2 k3 (nI ct)), (k1, .inl (cA 0, 701, .inl fk)), (k2, .inl (cA 0, 701, .inl ft)), (k3, .inl (cA 1, 701, .inr (.inl fv)))]) hP hD hS hA [0, 1, 2, 3, 4] (by decide) rfl
          refine va_callv (va_runV (As := [.int (nI (tii + 1))]) (rest := []) ⟨hx, hb, hml, hown, hts⟩ (x_lookAt l D cA sa r0 p0 (tii + 1) (nI tii) (fk tii) (ft tii) u0_6_1 iek iep (fv tii) r1 k1 k2 k3 ct fk ft fv H.size hct hn29.1) (cwV 1 hts gX4_readCondition_X4_lookAt rfl rfl rfl (by decide +kernel) ⟨by show (0) + 1 ≤ 3 * (k9 + 1) + 22; omega, by show 8 + (2 + 11) + (0) ≤ 72 * (k9 + 1) + 368; omega⟩) ⟨Wd.blind, va_recv hK hPc (ci := 8) (q0 := 0) rfl rfl, fun U hU hW => ⟨rfl, Wd.call hPc hDc hK hC hZ hS hFc U hU hW⟩⟩ rfl rfl hl.1 rfl (lv_room (Nat.le_of_ble_eq_true rfl)) dX4_readCondition_35 ⟨(Nat.le_of_ble_eq_true rfl), (Nat.le_of_ble_eq_true rfl)⟩) hS (fun q _ h => hFc q h) hFc (fun u t H1 locs ht hvm hw hB hz1 hk1 hS => ?_)
          obtain ⟨hP1, hD1⟩ := hB
          rw [ht] at hP1
          obtain ⟨hP, hD⟩ := PDq.join (w := [(oX3 p0 pr pb pe pg p1 (nI nd) p2 p3 p4 p5 (nI cn) p6 (nI qmi) p7 p8 p9 (nI smi)), (p2, .inl (cA 1, 10, .inr (.inl fna))), (p6, .inl (cA 1, 8, .inr (.inl f7_1))), (p7, .inl (cA 0, 350, .inl f8_1)), (p8, .inl (cA 0, 350, .inl f9_1)), (oX4 r0 r1 p0 (nI (tii + 1)) (fk (tii + 1)) (ft (tii + 1)) (fv (tii + 1)) u0_6_1 iek iep), (oX5 r1 k1 k2 k3 (nI ct)), (k1, .inl (cA 0, 701, .inl fk)), (k2, .inl (cA 0, 701, .inl ft)), (k3, .inl (cA 1, 701, .inr (.inl fv)))]) 5 hP hD [0, 1, 2, 3, 4] [5, 6, 7, 8, 9] rfl rfl (by decide) (by decide +kernel) hk1 hFc hP1 hD1 rfl
          generalize H1 = H at hP hS ⊢
          refine lv_aload_n hx hb dX4_readCondition_38 rfl (lv_at hl 2 rfl) ?_
          refine lv_iload_n hx hb dX4_readCondition_39 rfl (lv_at hl 3 rfl) ?_
          obtain ⟨hPc, hDc, hFc⟩ := PDq.cut (wc := [(oX4 r0 r1 p0 (nI (tii + 1)) (fk (tii + 1)) (ft (tii + 1)) (fv (tii + 1)) u0_6_1 iek iep), (oX5 r1 k1 k2 k3 (nI ct)), (k1, .inl (cA 0, 701, .inl fk)), (k2, .inl (cA 0, 701, .inl ft)), (k3, .inl (cA 1, 701, .inr (.inl fv))), (oX3 p0 pr pb pe pg p1 (nI nd) p2 p3 p4 p5 (nI cn) p6 (nI qmi) p7 p8 p9 (nI smi)), (p2, .inl (cA 1, 10, .inr (.inl fna))), (p6, .inl (cA 1, 8, .inr (.inl f7_1))), (p7, .inl (cA 0, 350, .inl f8_1)), (p8, .inl (cA 0, 350, .inl f9_1))]) hP hD hS hA [5, 6, 7, 8, 9, 0, 1, 2, 3, 4] (by decide +kernel) rfl
          refine va_calli (va_runV (As := [.int (nI o9)]) (rest := []) ⟨hx, hb, hml, hown, hts⟩ (x_readBoth_S l D cA sa k9 IHf IHc r0 p0 (tii + 1) ln u0_6_1 iek iep r1 k1 k2 k3 ct fk ft fv fb gP gR p1 p2 p3 p4 p5 p6 p7 p8 p9 cn qmi nd smi pr pb pe pg fna f7_1 f8_1 f9_1 ml pli (sl + 2) o9 H.size hct hln hn29.1 hTX hcn hv2_1 hnd hv3_1 hNM hv6_1 (by omega) ho) (cwV 1 hts gX4_readCondition_X4_readBoth rfl rfl rfl (by decide +kernel) ⟨by show (3 * (k9 + 1) + 21) + 1 ≤ 3 * (k9 + 1) + 22; omega, by show 8 + (4 + 11) + (72 * (k9 + 1) + 344) ≤ 72 * (k9 + 1) + 368; omega⟩) ⟨Wd.blind, va_recv hK hPc (ci := 8) (q0 := 0) rfl rfl, fun U hU hW => ⟨rfl, Wd.call hPc hDc hK hC hZ hS hFc U hU hW⟩⟩ rfl rfl hl.1 rfl (lv_room (Nat.le_of_ble_eq_true rfl)) dX4_readCondition_40 ⟨(Nat.le_of_ble_eq_true rfl), (Nat.le_of_ble_eq_true rfl)⟩) hS (fun q _ h => hFc q h) hFc (fun rn31 u t H1 locs ht hvm hw hB hz1 hk1 hS => ?_)
          obtain ⟨qn32, qn33, qn34, zn35, zn36, zn37, fn38, fn39, fn40, zn41, hn42, hn43, hn44, hn45, hn46, hn47, hn48, hn49, hn50, hn51, hn52, hn53, hn54, hP1, hD1⟩ := hB
          rw [ht] at hP1
          obtain ⟨hP, hD⟩ := PDq.join (w := [(oX4 r0 r1 p0 (nI qn32) (fk qn32) (ft qn32) (fv qn32) zn35 zn36 zn37), (oX5 r1 k1 k2 k3 (nI ct)), (k1, .inl (cA 0, 701, .inl fk)), (k2, .inl (cA 0, 701, .inl ft)), (k3, .inl (cA 1, 701, .inr (.inl fv))), (oX3 p0 pr pb pe pg p1 (nI nd) p2 p3 p4 p5 (nI cn) p6 (nI qn33) p7 p8 p9 (nI qn34)), (p2, .inl (cA 1, 10, .inr (.inl fna))), (p6, .inl (cA 1, 8, .inr (.inl fn38))), (p7, .inl (cA 0, 350, .inl fn39)), (p8, .inl (cA 0, 350, .inl fn40))]) 0 hP hD [5, 6, 7, 8, 9, 0, 1, 2, 3, 4] [] rfl rfl (by decide) (by decide +kernel) hk1 hFc hP1 hD1 rfl
          generalize H1 = H at hP hS ⊢
          rcases hw.2 with hr9 | hr9
          · skip
            have hn54 := hn54 (hw.1.trans hr9)
            subst hr9
            refine lv_if_eq (tgt := 63) hx hb dX4_readCondition_43 (by decide) (fun c55 => ?_) (fun c9 => absurd c9 (by decide))
            refine lv_iconst (v := 0) hx hb dX4_readCondition_63 (by decide) ?_
            refine lv_istore_n (lv' := [(2, .int 0), (3, .int (nI i1)), (0, .ref r0), (1, .int (nI o9))]) hx hb dX4_readCondition_64 rfl hl (by decide) rfl (fun ls hl => ?_)
            refine lv_iinc (v := (nI (i1 + 1))) (lv' := [(3, .int (nI (i1 + 1))), (2, .int 0), (0, .ref r0), (1, .int (nI o9))]) hx hb dX4_readCondition_65 hl (k := 1) rfl (nI_1 _) (by decide) rfl (fun ls hl => ?_)
            refine lv_goto (tgt := 8) hx hb dX4_readCondition_68 (by decide) ?_
            refine lv_iload_n hx hb dX4_readCondition_8 rfl (lv_at hl 1 rfl) ?_
            refine lv_if_eq (tgt := 71) hx hb dX4_readCondition_9 (by decide) (fun c56 => ?_) (fun c9 => absurd c9 (by decide))
            refine lv_iload_n hx hb dX4_readCondition_71 rfl (lv_at hl 1 rfl) ?_
            obtain ⟨hP9, hD9⟩ := PDq.sub (ws' := [(oX4 r0 r1 p0 (nI qn32) (fk qn32) (ft qn32) (fv qn32) zn35 zn36 zn37), (oX5 r1 k1 k2 k3 (nI ct)), (k1, .inl (cA 0, 701, .inl fk)), (k2, .inl (cA 0, 701, .inl ft)), (k3, .inl (cA 1, 701, .inr (.inl fv))), (oX3 p0 pr pb pe pg p1 (nI nd) p2 p3 p4 p5 (nI cn) p6 (nI qn33) p7 p8 p9 (nI qn34)), (p2, .inl (cA 1, 10, .inr (.inl fna))), (p6, .inl (cA 1, 8, .inr (.inl fn38))), (p7, .inl (cA 0, 350, .inl fn39)), (p8, .inl (cA 0, 350, .inl fn40))]) hP hD [0, 1, 2, 3, 4, 5, 6, 7, 8, 9] (by decide +kernel) rfl
            refine W.widen (k := 0) (n := 0) (Nat.le_of_ble_eq_true rfl) (Nat.le_of_ble_eq_true rfl) ?_
            exact (W.zret (v := 0) hx hb hr (by first | rfl | decide) (fun t ht hW => ⟨⟨0, 0, rfl, ⟨rfl, by decide⟩, qn32, qn33, qn34, zn35, zn36, zn37, fn38, fn39, fn40, zn41, hn42, hn43, (by omega), hn45, hn46, hn47, (fun h9 => absurd h9 (by decide)), (fun h9 => absurd h9 (by decide)), (fun h9 => absurd h9 (by decide)), (fun h9 => absurd h9 (by decide)), (fun h9 => absurd h9 (by decide)), (fun h9 => absurd h9 (by decide)), (fun _ => (hv7_1 _ (P_orE c28 hn54))), by rw [ht]; exact hP9, hD9⟩, hS.F ht⟩) hS.2.2 dX4_readCondition_72)
          · skip
            have hn48 := hn48 (hw.1.trans hr9)
            obtain rfl : iek = zn36 := hn48.symm
            obtain ⟨hP, hD⟩ : PDq D A [(oX4 r0 r1 p0 (nI qn32) (fk qn32) (ft qn32) (fv qn32) zn35 iek zn37), (oX5 r1 k1 k2 k3 (nI ct)), (k1, .inl (cA 0, 701, .inl fk)), (k2, .inl (cA 0, 701, .inl ft)), (k3, .inl (cA 1, 701, .inr (.inl fv))), (oX3 p0 pr pb pe pg p1 (nI nd) p2 p3 p4 p5 (nI cn) p6 (nI qn33) p7 p8 p9 (nI qn34)), (p2, .inl (cA 1, 10, .inr (.inl fna))), (p6, .inl (cA 1, 8, .inr (.inl fn38))), (p7, .inl (cA 0, 350, .inl fn39)), (p8, .inl (cA 0, 350, .inl fn40))] H := ⟨hP, hD⟩
            have hn49 := hn49 (hw.1.trans hr9)
            obtain rfl : iep = zn37 := hn49.symm
            obtain ⟨hP, hD⟩ : PDq D A [(oX4 r0 r1 p0 (nI qn32) (fk qn32) (ft qn32) (fv qn32) zn35 iek iep), (oX5 r1 k1 k2 k3 (nI ct)), (k1, .inl (cA 0, 701, .inl fk)), (k2, .inl (cA 0, 701, .inl ft)), (k3, .inl (cA 1, 701, .inr (.inl fv))), (oX3 p0 pr pb pe pg p1 (nI nd) p2 p3 p4 p5 (nI cn) p6 (nI qn33) p7 p8 p9 (nI qn34)), (p2, .inl (cA 1, 10, .inr (.inl fna))), (p6, .inl (cA 1, 8, .inr (.inl fn38))), (p7, .inl (cA 0, 350, .inl fn39)), (p8, .inl (cA 0, 350, .inl fn40))] H := ⟨hP, hD⟩
            have hn50 := hn50 (hw.1.trans hr9)
            have hn51 := hn51 (hw.1.trans hr9)
            have hn52 := hn52 (hw.1.trans hr9)
            have hn53 := hn53 (hw.1.trans hr9)
            subst hr9
            refine lv_if_eq (tgt := 63) hx hb dX4_readCondition_43 (by decide) (fun c9 => absurd c9 (by decide)) (fun c57 => ?_)
            refine lv_aload_n hx hb dX4_readCondition_46 rfl (lv_at hl 2 rfl) ?_
            refine va_get (D := D) (ci := 8) (v := .ref p0) (C := RX4) (T := TX4) (N := 9) hx hb hts inX4 hown hK hP 0 rfl rfl 1 (by decide) (hts (.fieldLink RX4 25 "EscrowDesk$Reader" "plan" "LEscrowDesk$Plan;") (by decide +kernel)) (fun _ h9 => h9) rfl dX4_readCondition_47 ?_
            refine lv_bipush (v := 14) hx hb dX4_readCondition_50 (by decide) ?_
            refine lv_iconst (v := 0) hx hb dX4_readCondition_52 (by decide) ?_
            obtain ⟨hPc, hDc, hFc⟩ := PDq.cut (wc := [(oX3 p0 pr pb pe pg p1 (nI nd) p2 p3 p4 p5 (nI cn) p6 (nI qn33) p7 p8 p9 (nI qn34)), (p7, .inl (cA 0, 350, .inl fn39)), (p8, .inl (cA 0, 350, .inl fn40))]) hP hD hS hA [5, 8, 9] (by decide) rfl
            refine va_calli (va_runV (As := [.int 14, .int 0]) (rest := []) ⟨hx, hb, hml, hown, hts⟩ (x_addStep l D cA sa p0 p1 p2 p3 p4 p5 p6 p7 p8 p9 cn qn33 nd qn34 pr pb pe pg 14 0 fn39 fn40 H.size (by omega)) (cwV 2 hts gX4_readCondition_X3_addStep rfl rfl rfl (by decide +kernel) ⟨by show (0) + 1 ≤ 3 * (k9 + 1) + 22; omega, by show 8 + (3 + 11) + (0) ≤ 72 * (k9 + 1) + 368; omega⟩) ⟨Wd.blind, va_recv hK hPc (ci := 7) (q0 := 0) rfl rfl, fun U hU hW => ⟨rfl, Wd.call hPc hDc hK hC hZ hS hFc U hU hW⟩⟩ rfl rfl hl.1 rfl (lv_room (Nat.le_of_ble_eq_true rfl)) dX4_readCondition_53 ⟨(Nat.le_of_ble_eq_true rfl), (Nat.le_of_ble_eq_true rfl)⟩) hS (fun q _ h => hFc q h) hFc (fun rn58 u t H1 locs ht hvm hw hB hz1 hk1 hS => ?_)
            obtain ⟨fn59, fn60, hn61, hn62, hP1, hD1⟩ := hB
            rw [ht] at hP1
            obtain ⟨hP, hD⟩ := PDq.join (w := [(oX4 r0 r1 p0 (nI qn32) (fk qn32) (ft qn32) (fv qn32) zn35 iek iep), (oX5 r1 k1 k2 k3 (nI ct)), (k1, .inl (cA 0, 701, .inl fk)), (k2, .inl (cA 0, 701, .inl ft)), (k3, .inl (cA 1, 701, .inr (.inl fv))), (p2, .inl (cA 1, 10, .inr (.inl fna))), (p6, .inl (cA 1, 8, .inr (.inl fn38))), (oX3 p0 pr pb pe pg p1 (nI nd) p2 p3 p4 p5 (nI cn) p6 (nI qn33) p7 p8 p9 (nI (qn34 + 1))), (p7, .inl (cA 0, 350, .inl fn59)), (p8, .inl (cA 0, 350, .inl fn60))]) 7 hP hD [5, 8, 9] [0, 1, 2, 3, 4, 6, 7] rfl rfl (by decide) (by decide +kernel) hk1 hFc hP1 hD1 rfl
            generalize H1 = H at hP hS ⊢
            obtain rfl : rn58 = 1 := hw
            refine lv_if_eq (tgt := 63) hx hb dX4_readCondition_56 (by decide) (fun c9 => absurd c9 (by decide)) (fun c63 => ?_)
            refine lv_iconst (v := 1) hx hb dX4_readCondition_59 (by decide) ?_
            refine lv_goto (tgt := 64) hx hb dX4_readCondition_60 (by decide) ?_
            refine lv_istore_n (lv' := [(2, .int 1), (3, .int (nI i1)), (0, .ref r0), (1, .int (nI o9))]) hx hb dX4_readCondition_64 rfl hl (by decide) rfl (fun ls hl => ?_)
            refine lv_iinc (v := (nI (i1 + 1))) (lv' := [(3, .int (nI (i1 + 1))), (2, .int 1), (0, .ref r0), (1, .int (nI o9))]) hx hb dX4_readCondition_65 hl (k := 1) rfl (nI_1 _) (by decide) rfl (fun ls hl => ?_)
            refine lv_goto (tgt := 8) hx hb dX4_readCondition_68 (by decide) ?_
            obtain ⟨hP9, hD9⟩ := PDq.sub (ws' := [(oX4 r0 r1 p0 (nI qn32) (fk qn32) (ft qn32) (fv qn32) zn35 iek iep), (oX5 r1 k1 k2 k3 (nI ct)), (k1, .inl (cA 0, 701, .inl fk)), (k2, .inl (cA 0, 701, .inl ft)), (k3, .inl (cA 1, 701, .inr (.inl fv))), (oX3 p0 pr pb pe pg p1 (nI nd) p2 p3 p4 p5 (nI cn) p6 (nI qn33) p7 p8 p9 (nI (qn34 + 1))), (p2, .inl (cA 1, 10, .inr (.inl fna))), (p6, .inl (cA 1, 8, .inr (.inl fn38))), (p7, .inl (cA 0, 350, .inl fn59)), (p8, .inl (cA 0, 350, .inl fn60))]) hP hD [0, 1, 2, 3, 4, 7, 5, 6, 8, 9] (by decide +kernel) rfl
            exact ih1 (i1 + 1) zn41 qn32 zn35 qn33 (qn34 + 1) fn38 fn59 fn60 H _ ls (by omega) (by omega) hn42 hn45 (by omega) (by omega) hn43 hn47 (fun r9 h9 => hv7_1 r9 (P_or c28 hn52 h9)) (CDL.or hv8_1 c28 hn53 hn61 hn62 rfl (by have q9 := hNM.1; omega) (by have q9 := hn47.1; omega)) hP9 hD9 hS (lv_sub hl [0, 1, 2, 3] rfl)
    obtain ⟨hP9, hD9⟩ := PDq.sub (ws' := [(oX4 r0 r1 p0 (nI qn2) (fk qn2) (ft qn2) (fv qn2) zn5 iek iep), (oX5 r1 k1 k2 k3 (nI ct)), (k1, .inl (cA 0, 701, .inl fk)), (k2, .inl (cA 0, 701, .inl ft)), (k3, .inl (cA 1, 701, .inr (.inl fv))), (oX3 p0 pr pb pe pg p1 (nI nd) p2 p3 p4 p5 (nI cn) p6 (nI qn3) p7 p8 p9 (nI qn4)), (p2, .inl (cA 1, 10, .inr (.inl fna))), (p6, .inl (cA 1, 8, .inr (.inl fn8))), (p7, .inl (cA 0, 350, .inl fn9)), (p8, .inl (cA 0, 350, .inl fn10))]) hP hD [0, 1, 2, 3, 4, 5, 6, 7, 8, 9] (by decide +kernel) rfl
    exact loop1 (700 - 0) 0 zn11 qn2 zn5 qn3 qn4 fn8 fn9 fn10 _ _ ls (by omega) (by omega) hn12 hn15 hn16 hn20 hn13 hn17 (fun r9 h9 => P_cond hn22 h9) (CDL.cond hn23) hP9 hD9 hS (lv_sub hl [0, 1, 2, 3] rfl)

set_option maxRecDepth 20000 in
theorem x_lv (l : Launch) (D : va_G) (cA : Nat → ClassId) (sa : Nat → Nat) : ∀ k9 : Nat, XFactC l D cA sa k9 ∧ XCondC l D cA sa k9 := by
  intro k9
  induction k9 with
  | zero => exact ⟨(fun r0 p0 ti ln inb iek iep r1 k1 k2 k3 ct fk ft fv fb gP gR p1 p2 p3 p4 p5 p6 p7 p8 p9 cn pq nd sc pr pb pe pg fna fpn fst fop ml pl sl o9 sz hct hln hti hTX hcn hpq hnd hsc hNM hNP hsl ho => x_readFact_B l D cA sa r0 p0 ti ln inb iek iep r1 k1 k2 k3 ct fk ft fv fb gP gR p1 p2 p3 p4 p5 p6 p7 p8 p9 cn pq nd sc pr pb pe pg fna fpn fst fop ml pl sl o9 sz hct hln hti hTX hcn hpq hnd hsc hNM hNP hsl (by omega)), (fun r0 p0 ti ln inb iek iep r1 k1 k2 k3 ct fk ft fv fb gP gR p1 p2 p3 p4 p5 p6 p7 p8 p9 cn pq nd sc pr pb pe pg fna fpn fst fop ml pl sl o9 sz hct hln hti hTX hcn hpq hnd hsc hNM hNP hsl ho => x_readCondition_B l D cA sa r0 p0 ti ln inb iek iep r1 k1 k2 k3 ct fk ft fv fb gP gR p1 p2 p3 p4 p5 p6 p7 p8 p9 cn pq nd sc pr pb pe pg fna fpn fst fop ml pl sl o9 sz hct hln hti hTX hcn hpq hnd hsc hNM hNP hsl (by omega))⟩
  | succ k9 ih => exact ⟨(fun r0 p0 ti ln inb iek iep r1 k1 k2 k3 ct fk ft fv fb gP gR p1 p2 p3 p4 p5 p6 p7 p8 p9 cn pq nd sc pr pb pe pg fna fpn fst fop ml pl sl o9 sz hct hln hti hTX hcn hpq hnd hsc hNM hNP hsl ho => x_readFact_S l D cA sa k9 ih.1 ih.2 r0 p0 ti ln inb iek iep r1 k1 k2 k3 ct fk ft fv fb gP gR p1 p2 p3 p4 p5 p6 p7 p8 p9 cn pq nd sc pr pb pe pg fna fpn fst fop ml pl sl o9 sz hct hln hti hTX hcn hpq hnd hsc hNM hNP hsl ho), (fun r0 p0 ti ln inb iek iep r1 k1 k2 k3 ct fk ft fv fb gP gR p1 p2 p3 p4 p5 p6 p7 p8 p9 cn pq nd sc pr pb pe pg fna fpn fst fop ml pl sl o9 sz hct hln hti hTX hcn hpq hnd hsc hNM hNP hsl ho => x_readCondition_S l D cA sa k9 ih.1 ih.2 r0 p0 ti ln inb iek iep r1 k1 k2 k3 ct fk ft fv fb gP gR p1 p2 p3 p4 p5 p6 p7 p8 p9 cn pq nd sc pr pb pe pg fna fpn fst fop ml pl sl o9 sz hct hln hti hTX hcn hpq hnd hsc hNM hNP hsl ho)⟩

theorem x_readCondition_0 (l : Launch) (D : va_G) (cA : Nat → ClassId) (sa : Nat → Nat) (r0 : Nat) (p0 : Nat) (ti : Nat) (ln : Nat) (inb : Int32) (iek : Int32) (iep : Int32) (r1 : Nat) (k1 : Nat) (k2 : Nat) (k3 : Nat) (ct : Nat) (fk : Nat → Int32) (ft : Nat → Int32) (fv : Nat → Int64) (fb : Nat → Int32) (gP : Nat → Nat) (gR : Nat → Nat) (p1 : Nat) (p2 : Nat) (p3 : Nat) (p4 : Nat) (p5 : Nat) (p6 : Nat) (p7 : Nat) (p8 : Nat) (p9 : Nat) (cn : Nat) (pq : Nat) (nd : Nat) (sc : Nat) (pr : Int32) (pb : Int32) (pe : Int32) (pg : Int32) (fna : Nat → Int64) (fpn : Nat → Int64) (fst : Nat → Int32) (fop : Nat → Int32) (ml : List Int64) (pl : List Int64) (sl : Nat)  (sz : Nat) (hct : ct ≤ 701) (hln : ln ≤ 700) (hti : ti < ct) (hTX : TX fb ln ct gP gR ft fv fk) (hcn : cn ≤ 10) (hpq : pq ≤ 8) (hnd : nd ≤ 6) (hsc : sc ≤ 350) (hNM : NL ml cn fna) (hNP : NL pl pq fpn) (hsl : 2 * sc + sl ≤ gP ti) : Met l yX4_readCondition wsX4_readCondition ({ frames := 46, cells := 0, slots := 0, locals := 944 }) (va_Pc [.ref r0, .int 0] (Wd D cA sa [(oX4 r0 r1 p0 (nI ti) (fk ti) (ft ti) (fv ti) inb iek iep), (oX5 r1 k1 k2 k3 (nI ct)), (k1, .inl (cA 0, 701, .inl fk)), (k2, .inl (cA 0, 701, .inl ft)), (k3, .inl (cA 1, 701, .inr (.inl fv))), (oX3 p0 pr pb pe pg p1 (nI nd) p2 p3 p4 p5 (nI cn) p6 (nI pq) p7 p8 p9 (nI sc)), (p2, .inl (cA 1, 10, .inr (.inl fna))), (p6, .inl (cA 1, 8, .inr (.inl fpn))), (p7, .inl (cA 0, 350, .inl fst)), (p8, .inl (cA 0, 350, .inl fop))] sz)) (va_Qi (fun (r : Int32) (u9 : Int32) => u9 = r ∧ (r = 0 ∨ r = 1)) (fun (u9 : Int32) t => ∃ tj : Nat, ∃ qm : Nat, ∃ sm : Nat, ∃ znr : Int32, ∃ zek : Int32, ∃ zep : Int32, ∃ zpn : Nat → Int64, ∃ zst : Nat → Int32, ∃ zop : Nat → Int32, ∃ zpl : List Int64, tj < ct ∧ gP tj ≤ ln ∧ ti ≤ tj ∧ qm ≤ 8 ∧ sm ≤ 350 ∧ NL zpl qm zpn ∧ (u9 = 1 → zek = iek) ∧ (u9 = 1 → zep = iep) ∧ (u9 = 1 → 2 * sm + sl ≤ gP tj) ∧ (u9 = 1 → ti + 1 ≤ tj) ∧ (u9 = 1 → PRx fk ft fv ml 3 0 ti pl (.inr (tj, zpl))) ∧ (u9 = 1 → CD9 fk fv 3 ti tj ml pl zpl sc sm fst fop zst zop) ∧ (u9 = 0 → PRx fk ft fv ml 3 0 ti pl (.inl (zek, zep))) ∧ Wq D (va_A [(oX4 r0 r1 p0 (nI ti) (fk ti) (ft ti) (fv ti) inb iek iep), (oX5 r1 k1 k2 k3 (nI ct)), (k1, .inl (cA 0, 701, .inl fk)), (k2, .inl (cA 0, 701, .inl ft)), (k3, .inl (cA 1, 701, .inr (.inl fv))), (oX3 p0 pr pb pe pg p1 (nI nd) p2 p3 p4 p5 (nI cn) p6 (nI pq) p7 p8 p9 (nI sc)), (p2, .inl (cA 1, 10, .inr (.inl fna))), (p6, .inl (cA 1, 8, .inr (.inl fpn))), (p7, .inl (cA 0, 350, .inl fst)), (p8, .inl (cA 0, 350, .inl fop))] sz) [(oX4 r0 r1 p0 (nI tj) (fk tj) (ft tj) (fv tj) znr zek zep), (oX5 r1 k1 k2 k3 (nI ct)), (k1, .inl (cA 0, 701, .inl fk)), (k2, .inl (cA 0, 701, .inl ft)), (k3, .inl (cA 1, 701, .inr (.inl fv))), (oX3 p0 pr pb pe pg p1 (nI nd) p2 p3 p4 p5 (nI cn) p6 (nI qm) p7 p8 p9 (nI sm)), (p2, .inl (cA 1, 10, .inr (.inl fna))), (p6, .inl (cA 1, 8, .inr (.inl zpn))), (p7, .inl (cA 0, 350, .inl zst)), (p8, .inl (cA 0, 350, .inl zop))] t) (va_A [(oX4 r0 r1 p0 (nI ti) (fk ti) (ft ti) (fv ti) inb iek iep), (oX5 r1 k1 k2 k3 (nI ct)), (k1, .inl (cA 0, 701, .inl fk)), (k2, .inl (cA 0, 701, .inl ft)), (k3, .inl (cA 1, 701, .inr (.inl fv))), (oX3 p0 pr pb pe pg p1 (nI nd) p2 p3 p4 p5 (nI cn) p6 (nI pq) p7 p8 p9 (nI sc)), (p2, .inl (cA 1, 10, .inr (.inl fna))), (p6, .inl (cA 1, 8, .inr (.inl fpn))), (p7, .inl (cA 0, 350, .inl fst)), (p8, .inl (cA 0, 350, .inl fop))] sz)) 0 0 (va_A [(oX4 r0 r1 p0 (nI ti) (fk ti) (ft ti) (fv ti) inb iek iep), (oX5 r1 k1 k2 k3 (nI ct)), (k1, .inl (cA 0, 701, .inl fk)), (k2, .inl (cA 0, 701, .inl ft)), (k3, .inl (cA 1, 701, .inr (.inl fv))), (oX3 p0 pr pb pe pg p1 (nI nd) p2 p3 p4 p5 (nI cn) p6 (nI pq) p7 p8 p9 (nI sc)), (p2, .inl (cA 1, 10, .inr (.inl fna))), (p6, .inl (cA 1, 8, .inr (.inl fpn))), (p7, .inl (cA 0, 350, .inl fst)), (p8, .inl (cA 0, 350, .inl fop))] sz) :=
  (x_lv l D cA sa 8).2 r0 p0 ti ln inb iek iep r1 k1 k2 k3 ct fk ft fv fb gP gR p1 p2 p3 p4 p5 p6 p7 p8 p9 cn pq nd sc pr pb pe pg fna fpn fst fop ml pl sl 0 sz hct hln hti hTX hcn hpq hnd hsc hNM hNP hsl (by omega)

set_option maxHeartbeats 4000000 in
set_option maxRecDepth 100000 in
/-- readRate -/
theorem x_readRate (l : Launch) (D : va_G) (cA : Nat → ClassId) (sa : Nat → Nat) (r0 : Nat) (p0 : Nat) (ti : Nat) (ln : Nat) (inb : Int32) (iek : Int32) (iep : Int32) (r1 : Nat) (k1 : Nat) (k2 : Nat) (k3 : Nat) (ct : Nat) (fk : Nat → Int32) (ft : Nat → Int32) (fv : Nat → Int64) (fb : Nat → Int32) (gP : Nat → Nat) (gR : Nat → Nat) (p1 : Nat) (p2 : Nat) (p3 : Nat) (p4 : Nat) (p5 : Nat) (p6 : Nat) (p7 : Nat) (p8 : Nat) (p9 : Nat) (cn : Nat) (pq : Nat) (nd : Nat) (sc : Nat) (pr : Int32) (pb : Int32) (pe : Int32) (pg : Int32) (ml : List Int64) (pl : List Int64) (fde : Nat → Int32) (fam : Nat → Int32) (fpi : Nat → Int32) (fen : Nat → Int32) (fst : Nat → Int32) (fop : Nat → Int32) (sz : Nat) (hct : ct ≤ 701) (hln : ln ≤ 700) (hti : ti < ct) (hTX : TX fb ln ct gP gR ft fv fk) (hsl : 2 * sc ≤ gP ti) (hTL : TL9 fk fv ml pl fde fam fpi fen fst fop pr pb pg nd cn sc ti) (hk : fk ti = 8) : Met l yX4_readRate wsX4_readRate ({ frames := 2, cells := 0, slots := 0, locals := 43 }) (va_Pc [.ref r0] (Wd D cA sa [(oX4 r0 r1 p0 (nI ti) (fk ti) (ft ti) (fv ti) inb iek iep), (oX5 r1 k1 k2 k3 (nI ct)), (k1, .inl (cA 0, 701, .inl fk)), (k2, .inl (cA 0, 701, .inl ft)), (k3, .inl (cA 1, 701, .inr (.inl fv))), (oX3 p0 pr pb pe pg p1 (nI nd) p2 p3 p4 p5 (nI cn) p6 (nI pq) p7 p8 p9 (nI sc))] sz)) (va_Qi (fun (r : Int32) (u9 : Int32) => u9 = r ∧ (r = 0 ∨ r = 1)) (fun (u9 : Int32) t => ∃ tj : Nat, ∃ znr : Int32, ∃ zek : Int32, ∃ zep : Int32, ∃ zra : Int32, ∃ zba : Int32, tj < ct ∧ gP tj ≤ ln ∧ (u9 = 1 → zek = iek) ∧ (u9 = 1 → zep = iep) ∧ (u9 = 1 → ti + 2 ≤ tj) ∧ (u9 = 1 → 2 * sc ≤ gP tj) ∧ (u9 = 1 → ST9 fk ft fv ti nd ml pl tj nd ml pl) ∧ (u9 = 1 → TL9 fk fv ml pl fde fam fpi fen fst fop zra zba pg nd cn sc tj) ∧ (u9 = 0 → SE9 fk ft fv ti nd ml pl zek zep) ∧ Wq D (va_A [(oX4 r0 r1 p0 (nI ti) (fk ti) (ft ti) (fv ti) inb iek iep), (oX5 r1 k1 k2 k3 (nI ct)), (k1, .inl (cA 0, 701, .inl fk)), (k2, .inl (cA 0, 701, .inl ft)), (k3, .inl (cA 1, 701, .inr (.inl fv))), (oX3 p0 pr pb pe pg p1 (nI nd) p2 p3 p4 p5 (nI cn) p6 (nI pq) p7 p8 p9 (nI sc))] sz) [(oX4 r0 r1 p0 (nI tj) (fk tj) (ft tj) (fv tj) znr zek zep), (oX5 r1 k1 k2 k3 (nI ct)), (k1, .inl (cA 0, 701, .inl fk)), (k2, .inl (cA 0, 701, .inl ft)), (k3, .inl (cA 1, 701, .inr (.inl fv))), (oX3 p0 zra zba pe pg p1 (nI nd) p2 p3 p4 p5 (nI cn) p6 (nI pq) p7 p8 p9 (nI sc))] t) (va_A [(oX4 r0 r1 p0 (nI ti) (fk ti) (ft ti) (fv ti) inb iek iep), (oX5 r1 k1 k2 k3 (nI ct)), (k1, .inl (cA 0, 701, .inl fk)), (k2, .inl (cA 0, 701, .inl ft)), (k3, .inl (cA 1, 701, .inr (.inl fv))), (oX3 p0 pr pb pe pg p1 (nI nd) p2 p3 p4 p5 (nI cn) p6 (nI pq) p7 p8 p9 (nI sc))] sz)) 0 0 (va_A [(oX4 r0 r1 p0 (nI ti) (fk ti) (ft ti) (fv ti) inb iek iep), (oX5 r1 k1 k2 k3 (nI ct)), (k1, .inl (cA 0, 701, .inl fk)), (k2, .inl (cA 0, 701, .inl ft)), (k3, .inl (cA 1, 701, .inr (.inl fv))), (oX3 p0 pr pb pe pg p1 (nI nd) p2 p3 p4 p5 (nI cn) p6 (nI pq) p7 p8 p9 (nI sc))] sz) := by
  refine Met.ofW (cc := cX4_readRate) (maxL := 1) (ret := (some .boolean)) (by decide) rfl ?_
  intro p e s m args below meth c s₁ B hml hv
  obtain ⟨rfl, hsz, hP, hK, hD0, hC, hZ⟩ := hv
  have hx := B.exec
  have hb := B.bytes
  have hr := B.returns
  have hts := atoms_spec (ws := wsX4_readRate) B.pre
  have hown : s.vm.findClass RX4 = some m.cls := findClass_of_methodNamed B.named
  have hlocks := B.notSynchronized
  subst hsz
  have hD := hD0.self (sz := s.heap.size)
  generalize hAe : va_A [(oX4 r0 r1 p0 (nI ti) (fk ti) (ft ti) (fv ti) inb iek iep), (oX5 r1 k1 k2 k3 (nI ct)), (k1, .inl (cA 0, 701, .inl fk)), (k2, .inl (cA 0, 701, .inl ft)), (k3, .inl (cA 1, 701, .inr (.inl fv))), (oX3 p0 pr pb pe pg p1 (nI nd) p2 p3 p4 p5 (nI cn) p6 (nI pq) p7 p8 p9 (nI sc))] s.heap.size = A at hD hZ ⊢
  have hA : ∀ q : Nat, s.heap.size ≤ q → A q := fun q h => by rw [← hAe]; exact Or.inr h
  have hS : va_S A s.heap s.heap [] := va_S.rf
  have hP : va_P D vwCl [(oX4 r0 r1 p0 (nI ti) (fk ti) (ft ti) (fv ti) inb iek iep), (oX5 r1 k1 k2 k3 (nI ct)), (k1, .inl (cA 0, 701, .inl fk)), (k2, .inl (cA 0, 701, .inl ft)), (k3, .inl (cA 1, 701, .inr (.inl fv))), (oX3 p0 pr pb pe pg p1 (nI nd) p2 p3 p4 p5 (nI cn) p6 (nI pq) p7 p8 p9 (nI sc))] s.heap := hP
  have hl := lv_entry ([.ref r0]) (n := 1) (Nat.le_of_ble_eq_true rfl)
  rw [lg_entry_eq]
  generalize (lg_sl ([.ref r0]) ++ List.replicate (1 - (lg_sl ([.ref r0])).length) Slot.unset).toArray = ls at hl ⊢
  have hl : lv_has ls 1 [(0, .ref r0)] := hl
  have inX3 : ∀ w ∈ u_ws RX3 TX3 17, w ∈ wsX4_readRate := by decide +kernel
  have inX4 : ∀ w ∈ u_ws RX4 TX4 9, w ∈ wsX4_readRate := by decide +kernel
  have hle9 := TX.le hTX hti
  have hn1 := TX.go2 hTX hti (by rw [hk]; decide)
  refine lv_aload_n hx hb dX4_readRate_0 rfl (lv_at hl 0 rfl) ?_
  refine lv_aload_n hx hb dX4_readRate_1 rfl (lv_at hl 0 rfl) ?_
  refine va_get (D := D) (ci := 8) (v := .int (nI ti)) (C := RX4) (T := TX4) (N := 9) hx hb hts inX4 hown hK hP 0 rfl rfl 2 (by decide) (hts (.fieldLink RX4 70 "EscrowDesk$Reader" "token" "I") (by decide +kernel)) (fun _ h9 => h9) rfl dX4_readRate_2 ?_
  refine lv_iconst (v := 1) hx hb dX4_readRate_5 (by decide) ?_
  refine lv_iadd hx hb dX4_readRate_6 ?_
  refine lv_topi (fun yn2 eyn2 => ?_)
  obtain rfl : yn2 = (nI (ti + 1)) := eyn2.trans (nI_add ti 1)
  obtain ⟨hPc, hDc, hFc⟩ := PDq.cut (wc := [(oX4 r0 r1 p0 (nI ti) (fk ti) (ft ti) (fv ti) inb iek iep), (oX5 r1 k1 k2 k3 (nI ct)), (k1, .inl (cA 0, 701, .inl fk)), (k2, .inl (cA 0, 701, .inl ft)), (k3, .inl (cA 1, 701, .inr (.inl fv)))]) hP hD hS hA [0, 1, 2, 3, 4] (by decide) rfl
  refine va_callv (va_runV (As := [.int (nI (ti + 1))]) (rest := []) ⟨hx, hb, hml, hown, hts⟩ (x_lookAt l D cA sa r0 p0 (ti + 1) (nI ti) (fk ti) (ft ti) inb iek iep (fv ti) r1 k1 k2 k3 ct fk ft fv s.heap.size hct hn1.1) (cwV 1 hts gX4_readRate_X4_lookAt rfl rfl rfl (by decide +kernel) ⟨(Nat.le_of_ble_eq_true rfl), (Nat.le_of_ble_eq_true rfl)⟩) ⟨Wd.blind, va_recv hK hPc (ci := 8) (q0 := 0) rfl rfl, fun U hU hW => ⟨rfl, Wd.call hPc hDc hK hC hZ hS hFc U hU hW⟩⟩ rfl rfl hl.1 rfl (lv_room (Nat.le_of_ble_eq_true rfl)) dX4_readRate_7 ⟨(Nat.le_of_ble_eq_true rfl), (Nat.le_of_ble_eq_true rfl)⟩) hS (fun q _ h => hFc q h) hFc (fun u t H1 locs ht hvm hw hB hz1 hk1 hS => ?_)
  obtain ⟨hP1, hD1⟩ := hB
  rw [ht] at hP1
  obtain ⟨hP, hD⟩ := PDq.join (w := [(oX3 p0 pr pb pe pg p1 (nI nd) p2 p3 p4 p5 (nI cn) p6 (nI pq) p7 p8 p9 (nI sc)), (oX4 r0 r1 p0 (nI (ti + 1)) (fk (ti + 1)) (ft (ti + 1)) (fv (ti + 1)) inb iek iep), (oX5 r1 k1 k2 k3 (nI ct)), (k1, .inl (cA 0, 701, .inl fk)), (k2, .inl (cA 0, 701, .inl ft)), (k3, .inl (cA 1, 701, .inr (.inl fv)))]) 1 hP hD [0, 1, 2, 3, 4] [5] rfl rfl (by decide) (by decide) hk1 hFc hP1 hD1 rfl
  generalize H1 = H at hP hS ⊢
  refine lv_aload_n hx hb dX4_readRate_10 rfl (lv_at hl 0 rfl) ?_
  refine lv_iconst (v := 0) hx hb dX4_readRate_11 (by decide) ?_
  refine lv_sipush (v := 3000) hx hb dX4_readRate_12 (by decide) ?_
  obtain ⟨hPc, hDc, hFc⟩ := PDq.cut (wc := [(oX4 r0 r1 p0 (nI (ti + 1)) (fk (ti + 1)) (ft (ti + 1)) (fv (ti + 1)) inb iek iep), (oX5 r1 k1 k2 k3 (nI ct)), (k1, .inl (cA 0, 701, .inl fk)), (k2, .inl (cA 0, 701, .inl ft)), (k3, .inl (cA 1, 701, .inr (.inl fv)))]) hP hD hS hA [1, 2, 3, 4, 5] (by decide) rfl
  refine va_calli (va_runV (As := [.int 0, .int 3000]) (rest := []) ⟨hx, hb, hml, hown, hts⟩ (x_takeNumber l D cA sa r0 p0 (ti + 1) ln inb iek iep r1 k1 k2 k3 ct fk ft fv fb gP gR 0 3000 H.size hct hln hn1.1 hTX (by omega) (by omega)) (cwV 2 hts gX4_readRate_X4_takeNumber rfl rfl rfl (by decide +kernel) ⟨(Nat.le_of_ble_eq_true rfl), (Nat.le_of_ble_eq_true rfl)⟩) ⟨Wd.blind, va_recv hK hPc (ci := 8) (q0 := 0) rfl rfl, fun U hU hW => ⟨rfl, Wd.call hPc hDc hK hC hZ hS hFc U hU hW⟩⟩ rfl rfl hl.1 rfl (lv_room (Nat.le_of_ble_eq_true rfl)) dX4_readRate_15 ⟨(Nat.le_of_ble_eq_true rfl), (Nat.le_of_ble_eq_true rfl)⟩) hS (fun q _ h => hFc q h) hFc (fun rn3 u t H1 locs ht hvm hw hB hz1 hk1 hS => ?_)
  obtain ⟨qn4, zn5, zn6, zn7, hn8, hn9, hn10, hn11, hn12, hn13, hn14, hn15, hn16, hn17, hn18, hP1, hD1⟩ := hB
  rw [ht] at hP1
  obtain ⟨hP, hD⟩ := PDq.join (w := [(oX3 p0 pr pb pe pg p1 (nI nd) p2 p3 p4 p5 (nI cn) p6 (nI pq) p7 p8 p9 (nI sc)), (oX4 r0 r1 p0 (nI qn4) (fk qn4) (ft qn4) (fv qn4) zn5 zn6 zn7), (oX5 r1 k1 k2 k3 (nI ct)), (k1, .inl (cA 0, 701, .inl fk)), (k2, .inl (cA 0, 701, .inl ft)), (k3, .inl (cA 1, 701, .inr (.inl fv)))]) 1 hP hD [1, 2, 3, 4, 5] [0] rfl rfl (by decide) (by decide) hk1 hFc hP1 hD1 rfl
  generalize H1 = H at hP hS ⊢
  rcases hw.2 with hr9 | hr9
  · skip
    have hn17 := hn17 (hw.1.trans hr9)
    have hn18 := hn18 (hw.1.trans hr9)
    subst hr9
    refine lv_if_ne (tgt := 23) hx hb dX4_readRate_18 (by decide) (fun c9 => absurd c9 (by decide)) (fun c19 => ?_)
    refine lv_iconst (v := 0) hx hb dX4_readRate_21 (by decide) ?_
    obtain ⟨hP9, hD9⟩ := PDq.sub (ws' := [(oX4 r0 r1 p0 (nI qn4) (fk qn4) (ft qn4) (fv qn4) zn5 zn6 zn7), (oX5 r1 k1 k2 k3 (nI ct)), (k1, .inl (cA 0, 701, .inl fk)), (k2, .inl (cA 0, 701, .inl ft)), (k3, .inl (cA 1, 701, .inr (.inl fv))), (oX3 p0 pr pb pe pg p1 (nI nd) p2 p3 p4 p5 (nI cn) p6 (nI pq) p7 p8 p9 (nI sc))]) hP hD [1, 2, 3, 4, 5, 0] (by decide) rfl
    refine W.widen (k := 0) (n := 0) (Nat.le_of_ble_eq_true rfl) (Nat.le_of_ble_eq_true rfl) ?_
    exact (W.zret (v := 0) hx hb hr (by first | rfl | decide) (fun t ht hW => ⟨⟨0, 0, rfl, ⟨rfl, by decide⟩, qn4, zn5, zn6, zn7, pr, pb, hn8, hn9, (fun h9 => absurd h9 (by decide)), (fun h9 => absurd h9 (by decide)), (fun h9 => absurd h9 (by decide)), (fun h9 => absurd h9 (by decide)), (fun h9 => absurd h9 (by decide)), (fun h9 => absurd h9 (by decide)), (fun _ => (Or.inl (S_rateEx hk hn17 hn18))), by rw [ht]; exact hP9, hD9⟩, hS.F ht⟩) hS.2.2 dX4_readRate_22)
  · skip
    have hn11 := hn11 (hw.1.trans hr9)
    subst hn11
    obtain ⟨hP, hD⟩ : PDq D A [(oX3 p0 pr pb pe pg p1 (nI nd) p2 p3 p4 p5 (nI cn) p6 (nI pq) p7 p8 p9 (nI sc)), (oX4 r0 r1 p0 (nI ((ti + 1) + 1)) (fk ((ti + 1) + 1)) (ft ((ti + 1) + 1)) (fv ((ti + 1) + 1)) zn5 zn6 zn7), (oX5 r1 k1 k2 k3 (nI ct)), (k1, .inl (cA 0, 701, .inl fk)), (k2, .inl (cA 0, 701, .inl ft)), (k3, .inl (cA 1, 701, .inr (.inl fv)))] H := ⟨hP, hD⟩
    have hn12 := hn12 (hw.1.trans hr9)
    obtain rfl : iek = zn6 := hn12.symm
    obtain ⟨hP, hD⟩ : PDq D A [(oX3 p0 pr pb pe pg p1 (nI nd) p2 p3 p4 p5 (nI cn) p6 (nI pq) p7 p8 p9 (nI sc)), (oX4 r0 r1 p0 (nI ((ti + 1) + 1)) (fk ((ti + 1) + 1)) (ft ((ti + 1) + 1)) (fv ((ti + 1) + 1)) zn5 iek zn7), (oX5 r1 k1 k2 k3 (nI ct)), (k1, .inl (cA 0, 701, .inl fk)), (k2, .inl (cA 0, 701, .inl ft)), (k3, .inl (cA 1, 701, .inr (.inl fv)))] H := ⟨hP, hD⟩
    have hn13 := hn13 (hw.1.trans hr9)
    obtain rfl : iep = zn7 := hn13.symm
    obtain ⟨hP, hD⟩ : PDq D A [(oX3 p0 pr pb pe pg p1 (nI nd) p2 p3 p4 p5 (nI cn) p6 (nI pq) p7 p8 p9 (nI sc)), (oX4 r0 r1 p0 (nI ((ti + 1) + 1)) (fk ((ti + 1) + 1)) (ft ((ti + 1) + 1)) (fv ((ti + 1) + 1)) zn5 iek iep), (oX5 r1 k1 k2 k3 (nI ct)), (k1, .inl (cA 0, 701, .inl fk)), (k2, .inl (cA 0, 701, .inl ft)), (k3, .inl (cA 1, 701, .inr (.inl fv)))] H := ⟨hP, hD⟩
    have hn14 := hn14 (hw.1.trans hr9)
    have hn15 := hn15 (hw.1.trans hr9)
    have hn16 := hn16 (hw.1.trans hr9)
    subst hn16
    obtain ⟨hP, hD⟩ : PDq D A [(oX3 p0 pr pb pe pg p1 (nI nd) p2 p3 p4 p5 (nI cn) p6 (nI pq) p7 p8 p9 (nI sc)), (oX4 r0 r1 p0 (nI ((ti + 1) + 1)) (fk ((ti + 1) + 1)) (ft ((ti + 1) + 1)) (fv ((ti + 1) + 1)) ((fv (ti + 1)).toInt32) iek iep), (oX5 r1 k1 k2 k3 (nI ct)), (k1, .inl (cA 0, 701, .inl fk)), (k2, .inl (cA 0, 701, .inl ft)), (k3, .inl (cA 1, 701, .inr (.inl fv)))] H := ⟨hP, hD⟩
    subst hr9
    refine lv_if_ne (tgt := 23) hx hb dX4_readRate_18 (by decide) (fun c20 => ?_) (fun c9 => absurd c9 (by decide))
    refine lv_aload_n hx hb dX4_readRate_23 rfl (lv_at hl 0 rfl) ?_
    refine va_get (D := D) (ci := 8) (v := .ref p0) (C := RX4) (T := TX4) (N := 9) hx hb hts inX4 hown hK hP 1 rfl rfl 1 (by decide) (hts (.fieldLink RX4 25 "EscrowDesk$Reader" "plan" "LEscrowDesk$Plan;") (by decide +kernel)) (fun _ h9 => h9) rfl dX4_readRate_24 ?_
    refine lv_aload_n hx hb dX4_readRate_27 rfl (lv_at hl 0 rfl) ?_
    refine va_get (D := D) (ci := 8) (v := .int ((fv (ti + 1)).toInt32)) (C := RX4) (T := TX4) (N := 9) hx hb hts inX4 hown hK hP 1 rfl rfl 6 (by decide) (hts (.fieldLink RX4 91 "EscrowDesk$Reader" "number" "I") (by decide +kernel)) (fun _ h9 => h9) rfl dX4_readRate_28 ?_
    refine va_putN (D := D) (ci := 7) (v := .int ((fv (ti + 1)).toInt32)) (ty := .int) (C := RX3) (T := TX3) (N := 17) hx hb hts inX3 tyX3 tyX3_ok nmX3 hown hK hP hD hS 0 rfl rfl 0 (by decide) (hC.f (A := _) (a := RX4) (i := 98) (b := "EscrowDesk$Plan") (n := "rate") (d := "I") (x := "EscrowDesk") (by decide +kernel)) (fun _ h9 => h9) rfl (by decide +kernel) rfl rfl (Nat.le_of_ble_eq_true rfl) dX4_readRate_31 (fun H locs hP hD hS => ?_)
    obtain ⟨hP, hD⟩ : PDq D A [(oX3 p0 ((fv (ti + 1)).toInt32) pb pe pg p1 (nI nd) p2 p3 p4 p5 (nI cn) p6 (nI pq) p7 p8 p9 (nI sc)), (oX4 r0 r1 p0 (nI ((ti + 1) + 1)) (fk ((ti + 1) + 1)) (ft ((ti + 1) + 1)) (fv ((ti + 1) + 1)) ((fv (ti + 1)).toInt32) iek iep), (oX5 r1 k1 k2 k3 (nI ct)), (k1, .inl (cA 0, 701, .inl fk)), (k2, .inl (cA 0, 701, .inl ft)), (k3, .inl (cA 1, 701, .inr (.inl fv)))] H := ⟨hP, hD⟩
    refine lv_aload_n hx hb dX4_readRate_34 rfl (lv_at hl 0 rfl) ?_
    refine va_get (D := D) (ci := 8) (v := .int (fk ((ti + 1) + 1))) (C := RX4) (T := TX4) (N := 9) hx hb hts inX4 hown hK hP 1 rfl rfl 3 (by decide) (hts (.fieldLink RX4 42 "EscrowDesk$Reader" "kind" "I") (by decide +kernel)) (fun _ h9 => h9) rfl dX4_readRate_35 ?_
    refine lv_iconst (v := 3) hx hb dX4_readRate_38 (by decide) ?_
    refine lv_icmp_ne (tgt := 58) hx hb dX4_readRate_39 (by decide) (fun c21 => ?_) (fun c21 => ?_)
    · skip
      refine lv_aload_n hx hb dX4_readRate_58 rfl (lv_at hl 0 rfl) ?_
      refine lv_sipush (v := 360) hx hb dX4_readRate_59 (by decide) ?_
      refine lv_sipush (v := 365) hx hb dX4_readRate_62 (by decide) ?_
      obtain ⟨hPc, hDc, hFc⟩ := PDq.cut (wc := [(oX4 r0 r1 p0 (nI ((ti + 1) + 1)) (fk ((ti + 1) + 1)) (ft ((ti + 1) + 1)) (fv ((ti + 1) + 1)) ((fv (ti + 1)).toInt32) iek iep), (oX5 r1 k1 k2 k3 (nI ct)), (k1, .inl (cA 0, 701, .inl fk)), (k2, .inl (cA 0, 701, .inl ft)), (k3, .inl (cA 1, 701, .inr (.inl fv)))]) hP hD hS hA [1, 2, 3, 4, 5] (by decide) rfl
      refine va_calli (va_runV (As := [.int 360, .int 365]) (rest := []) ⟨hx, hb, hml, hown, hts⟩ (x_takeNumber l D cA sa r0 p0 ((ti + 1) + 1) ln ((fv (ti + 1)).toInt32) iek iep r1 k1 k2 k3 ct fk ft fv fb gP gR 360 365 H.size hct hln hn8 hTX (by omega) (by omega)) (cwV 2 hts gX4_readRate_X4_takeNumber rfl rfl rfl (by decide +kernel) ⟨(Nat.le_of_ble_eq_true rfl), (Nat.le_of_ble_eq_true rfl)⟩) ⟨Wd.blind, va_recv hK hPc (ci := 8) (q0 := 0) rfl rfl, fun U hU hW => ⟨rfl, Wd.call hPc hDc hK hC hZ hS hFc U hU hW⟩⟩ rfl rfl hl.1 rfl (lv_room (Nat.le_of_ble_eq_true rfl)) dX4_readRate_65 ⟨(Nat.le_of_ble_eq_true rfl), (Nat.le_of_ble_eq_true rfl)⟩) hS (fun q _ h => hFc q h) hFc (fun rn22 u t H1 locs ht hvm hw hB hz1 hk1 hS => ?_)
      obtain ⟨qn23, zn24, zn25, zn26, hn27, hn28, hn29, hn30, hn31, hn32, hn33, hn34, hn35, hn36, hn37, hP1, hD1⟩ := hB
      rw [ht] at hP1
      obtain ⟨hP, hD⟩ := PDq.join (w := [(oX3 p0 ((fv (ti + 1)).toInt32) pb pe pg p1 (nI nd) p2 p3 p4 p5 (nI cn) p6 (nI pq) p7 p8 p9 (nI sc)), (oX4 r0 r1 p0 (nI qn23) (fk qn23) (ft qn23) (fv qn23) zn24 zn25 zn26), (oX5 r1 k1 k2 k3 (nI ct)), (k1, .inl (cA 0, 701, .inl fk)), (k2, .inl (cA 0, 701, .inl ft)), (k3, .inl (cA 1, 701, .inr (.inl fv)))]) 1 hP hD [1, 2, 3, 4, 5] [0] rfl rfl (by decide) (by decide) hk1 hFc hP1 hD1 rfl
      generalize H1 = H at hP hS ⊢
      rcases hw.2 with hr9 | hr9
      · skip
        have hn36 := hn36 (hw.1.trans hr9)
        have hn37 := hn37 (hw.1.trans hr9)
        subst hr9
        refine lv_if_ne (tgt := 73) hx hb dX4_readRate_68 (by decide) (fun c9 => absurd c9 (by decide)) (fun c38 => ?_)
        refine lv_iconst (v := 0) hx hb dX4_readRate_71 (by decide) ?_
        obtain ⟨hP9, hD9⟩ := PDq.sub (ws' := [(oX4 r0 r1 p0 (nI qn23) (fk qn23) (ft qn23) (fv qn23) zn24 zn25 zn26), (oX5 r1 k1 k2 k3 (nI ct)), (k1, .inl (cA 0, 701, .inl fk)), (k2, .inl (cA 0, 701, .inl ft)), (k3, .inl (cA 1, 701, .inr (.inl fv))), (oX3 p0 ((fv (ti + 1)).toInt32) pb pe pg p1 (nI nd) p2 p3 p4 p5 (nI cn) p6 (nI pq) p7 p8 p9 (nI sc))]) hP hD [1, 2, 3, 4, 5, 0] (by decide) rfl
        refine W.widen (k := 0) (n := 0) (Nat.le_of_ble_eq_true rfl) (Nat.le_of_ble_eq_true rfl) ?_
        exact (W.zret (v := 0) hx hb hr (by first | rfl | decide) (fun t ht hW => ⟨⟨0, 0, rfl, ⟨rfl, by decide⟩, qn23, zn24, zn25, zn26, ((fv (ti + 1)).toInt32), pb, hn27, hn28, (fun h9 => absurd h9 (by decide)), (fun h9 => absurd h9 (by decide)), (fun h9 => absurd h9 (by decide)), (fun h9 => absurd h9 (by decide)), (fun h9 => absurd h9 (by decide)), (fun h9 => absurd h9 (by decide)), (fun _ => (Or.inl (S_rateFx hk hn15 (fun q9 => c21 q9.1) hn36 hn37))), by rw [ht]; exact hP9, hD9⟩, hS.F ht⟩) hS.2.2 dX4_readRate_72)
      · skip
        have hn30 := hn30 (hw.1.trans hr9)
        subst hn30
        obtain ⟨hP, hD⟩ : PDq D A [(oX3 p0 ((fv (ti + 1)).toInt32) pb pe pg p1 (nI nd) p2 p3 p4 p5 (nI cn) p6 (nI pq) p7 p8 p9 (nI sc)), (oX4 r0 r1 p0 (nI (((ti + 1) + 1) + 1)) (fk (((ti + 1) + 1) + 1)) (ft (((ti + 1) + 1) + 1)) (fv (((ti + 1) + 1) + 1)) zn24 zn25 zn26), (oX5 r1 k1 k2 k3 (nI ct)), (k1, .inl (cA 0, 701, .inl fk)), (k2, .inl (cA 0, 701, .inl ft)), (k3, .inl (cA 1, 701, .inr (.inl fv)))] H := ⟨hP, hD⟩
        have hn31 := hn31 (hw.1.trans hr9)
        obtain rfl : iek = zn25 := hn31.symm
        obtain ⟨hP, hD⟩ : PDq D A [(oX3 p0 ((fv (ti + 1)).toInt32) pb pe pg p1 (nI nd) p2 p3 p4 p5 (nI cn) p6 (nI pq) p7 p8 p9 (nI sc)), (oX4 r0 r1 p0 (nI (((ti + 1) + 1) + 1)) (fk (((ti + 1) + 1) + 1)) (ft (((ti + 1) + 1) + 1)) (fv (((ti + 1) + 1) + 1)) zn24 iek zn26), (oX5 r1 k1 k2 k3 (nI ct)), (k1, .inl (cA 0, 701, .inl fk)), (k2, .inl (cA 0, 701, .inl ft)), (k3, .inl (cA 1, 701, .inr (.inl fv)))] H := ⟨hP, hD⟩
        have hn32 := hn32 (hw.1.trans hr9)
        obtain rfl : iep = zn26 := hn32.symm
        obtain ⟨hP, hD⟩ : PDq D A [(oX3 p0 ((fv (ti + 1)).toInt32) pb pe pg p1 (nI nd) p2 p3 p4 p5 (nI cn) p6 (nI pq) p7 p8 p9 (nI sc)), (oX4 r0 r1 p0 (nI (((ti + 1) + 1) + 1)) (fk (((ti + 1) + 1) + 1)) (ft (((ti + 1) + 1) + 1)) (fv (((ti + 1) + 1) + 1)) zn24 iek iep), (oX5 r1 k1 k2 k3 (nI ct)), (k1, .inl (cA 0, 701, .inl fk)), (k2, .inl (cA 0, 701, .inl ft)), (k3, .inl (cA 1, 701, .inr (.inl fv)))] H := ⟨hP, hD⟩
        have hn33 := hn33 (hw.1.trans hr9)
        have hn34 := hn34 (hw.1.trans hr9)
        have hn35 := hn35 (hw.1.trans hr9)
        subst hn35
        obtain ⟨hP, hD⟩ : PDq D A [(oX3 p0 ((fv (ti + 1)).toInt32) pb pe pg p1 (nI nd) p2 p3 p4 p5 (nI cn) p6 (nI pq) p7 p8 p9 (nI sc)), (oX4 r0 r1 p0 (nI (((ti + 1) + 1) + 1)) (fk (((ti + 1) + 1) + 1)) (ft (((ti + 1) + 1) + 1)) (fv (((ti + 1) + 1) + 1)) ((fv ((ti + 1) + 1)).toInt32) iek iep), (oX5 r1 k1 k2 k3 (nI ct)), (k1, .inl (cA 0, 701, .inl fk)), (k2, .inl (cA 0, 701, .inl ft)), (k3, .inl (cA 1, 701, .inr (.inl fv)))] H := ⟨hP, hD⟩
        subst hr9
        refine lv_if_ne (tgt := 73) hx hb dX4_readRate_68 (by decide) (fun c39 => ?_) (fun c9 => absurd c9 (by decide))
        refine lv_aload_n hx hb dX4_readRate_73 rfl (lv_at hl 0 rfl) ?_
        refine va_get (D := D) (ci := 8) (v := .ref p0) (C := RX4) (T := TX4) (N := 9) hx hb hts inX4 hown hK hP 1 rfl rfl 1 (by decide) (hts (.fieldLink RX4 25 "EscrowDesk$Reader" "plan" "LEscrowDesk$Plan;") (by decide +kernel)) (fun _ h9 => h9) rfl dX4_readRate_74 ?_
        refine lv_aload_n hx hb dX4_readRate_77 rfl (lv_at hl 0 rfl) ?_
        refine va_get (D := D) (ci := 8) (v := .int ((fv ((ti + 1) + 1)).toInt32)) (C := RX4) (T := TX4) (N := 9) hx hb hts inX4 hown hK hP 1 rfl rfl 6 (by decide) (hts (.fieldLink RX4 91 "EscrowDesk$Reader" "number" "I") (by decide +kernel)) (fun _ h9 => h9) rfl dX4_readRate_78 ?_
        refine va_putN (D := D) (ci := 7) (v := .int ((fv ((ti + 1) + 1)).toInt32)) (ty := .int) (C := RX3) (T := TX3) (N := 17) hx hb hts inX3 tyX3 tyX3_ok nmX3 hown hK hP hD hS 0 rfl rfl 1 (by decide) (hC.f (A := _) (a := RX4) (i := 105) (b := "EscrowDesk$Plan") (n := "basis") (d := "I") (x := "EscrowDesk") (by decide +kernel)) (fun _ h9 => h9) rfl (by decide +kernel) rfl rfl (Nat.le_of_ble_eq_true rfl) dX4_readRate_81 (fun H locs hP hD hS => ?_)
        obtain ⟨hP, hD⟩ : PDq D A [(oX3 p0 ((fv (ti + 1)).toInt32) ((fv ((ti + 1) + 1)).toInt32) pe pg p1 (nI nd) p2 p3 p4 p5 (nI cn) p6 (nI pq) p7 p8 p9 (nI sc)), (oX4 r0 r1 p0 (nI (((ti + 1) + 1) + 1)) (fk (((ti + 1) + 1) + 1)) (ft (((ti + 1) + 1) + 1)) (fv (((ti + 1) + 1) + 1)) ((fv ((ti + 1) + 1)).toInt32) iek iep), (oX5 r1 k1 k2 k3 (nI ct)), (k1, .inl (cA 0, 701, .inl fk)), (k2, .inl (cA 0, 701, .inl ft)), (k3, .inl (cA 1, 701, .inr (.inl fv)))] H := ⟨hP, hD⟩
        refine lv_aload_n hx hb dX4_readRate_84 rfl (lv_at hl 0 rfl) ?_
        refine lv_bipush (v := 7) hx hb dX4_readRate_85 (by decide) ?_
        obtain ⟨hPc, hDc, hFc⟩ := PDq.cut (wc := [(oX4 r0 r1 p0 (nI (((ti + 1) + 1) + 1)) (fk (((ti + 1) + 1) + 1)) (ft (((ti + 1) + 1) + 1)) (fv (((ti + 1) + 1) + 1)) ((fv ((ti + 1) + 1)).toInt32) iek iep), (oX5 r1 k1 k2 k3 (nI ct)), (k1, .inl (cA 0, 701, .inl fk)), (k2, .inl (cA 0, 701, .inl ft)), (k3, .inl (cA 1, 701, .inr (.inl fv)))]) hP hD hS hA [1, 2, 3, 4, 5] (by decide) rfl
        refine va_calli (va_runV (As := [.int 7]) (rest := []) ⟨hx, hb, hml, hown, hts⟩ (x_take l D cA sa r0 p0 (((ti + 1) + 1) + 1) ln ((fv ((ti + 1) + 1)).toInt32) iek iep r1 k1 k2 k3 ct fk ft fv fb gP gR 7 H.size hct hln hn27 hTX (by decide)) (cwV 1 hts gX4_readRate_X4_take rfl rfl rfl (by decide +kernel) ⟨(Nat.le_of_ble_eq_true rfl), (Nat.le_of_ble_eq_true rfl)⟩) ⟨Wd.blind, va_recv hK hPc (ci := 8) (q0 := 0) rfl rfl, fun U hU hW => ⟨rfl, Wd.call hPc hDc hK hC hZ hS hFc U hU hW⟩⟩ rfl rfl hl.1 rfl (lv_room (Nat.le_of_ble_eq_true rfl)) dX4_readRate_87 ⟨(Nat.le_of_ble_eq_true rfl), (Nat.le_of_ble_eq_true rfl)⟩) hS (fun q _ h => hFc q h) hFc (fun rn40 u t H1 locs ht hvm hw hB hz1 hk1 hS => ?_)
        obtain ⟨qn41, zn42, zn43, hn44, hn45, hn46, hn47, hn48, hn49, hn50, hn51, hn52, hn53, hn54, hP1, hD1⟩ := hB
        rw [ht] at hP1
        obtain ⟨hP, hD⟩ := PDq.join (w := [(oX3 p0 ((fv (ti + 1)).toInt32) ((fv ((ti + 1) + 1)).toInt32) pe pg p1 (nI nd) p2 p3 p4 p5 (nI cn) p6 (nI pq) p7 p8 p9 (nI sc)), (oX4 r0 r1 p0 (nI qn41) (fk qn41) (ft qn41) (fv qn41) ((fv ((ti + 1) + 1)).toInt32) zn42 zn43), (oX5 r1 k1 k2 k3 (nI ct)), (k1, .inl (cA 0, 701, .inl fk)), (k2, .inl (cA 0, 701, .inl ft)), (k3, .inl (cA 1, 701, .inr (.inl fv)))]) 1 hP hD [1, 2, 3, 4, 5] [0] rfl rfl (by decide) (by decide) hk1 hFc hP1 hD1 rfl
        generalize H1 = H at hP hS ⊢
        rcases hw.2 with hr9 | hr9
        · skip
          have hn52 := hn52 (hw.1.trans hr9)
          have hn53 := hn53 (hw.1.trans hr9)
          have hn54 := hn54 (hw.1.trans hr9)
          subst hr9
          obtain ⟨hP9, hD9⟩ := PDq.sub (ws' := [(oX4 r0 r1 p0 (nI qn41) (fk qn41) (ft qn41) (fv qn41) ((fv ((ti + 1) + 1)).toInt32) zn42 zn43), (oX5 r1 k1 k2 k3 (nI ct)), (k1, .inl (cA 0, 701, .inl fk)), (k2, .inl (cA 0, 701, .inl ft)), (k3, .inl (cA 1, 701, .inr (.inl fv))), (oX3 p0 ((fv (ti + 1)).toInt32) ((fv ((ti + 1) + 1)).toInt32) pe pg p1 (nI nd) p2 p3 p4 p5 (nI cn) p6 (nI pq) p7 p8 p9 (nI sc))]) hP hD [1, 2, 3, 4, 5, 0] (by decide) rfl
          refine W.widen (k := 0) (n := 0) (Nat.le_of_ble_eq_true rfl) (Nat.le_of_ble_eq_true rfl) ?_
          exact (W.zret (v := 0) hx hb hr (by first | rfl | decide) (fun t ht hW => ⟨⟨0, 0, rfl, ⟨rfl, by decide⟩, qn41, ((fv ((ti + 1) + 1)).toInt32), zn42, zn43, ((fv (ti + 1)).toInt32), ((fv ((ti + 1) + 1)).toInt32), hn44, hn45, (fun h9 => absurd h9 (by decide)), (fun h9 => absurd h9 (by decide)), (fun h9 => absurd h9 (by decide)), (fun h9 => absurd h9 (by decide)), (fun h9 => absurd h9 (by decide)), (fun h9 => absurd h9 (by decide)), (fun _ => (Or.inr ⟨_, _, _, _, S_rate hk hn15 (fun q9 => c21 q9.1) hn34, hn54, hn52, hn53⟩)), by rw [ht]; exact hP9, hD9⟩, hS.F ht⟩) hS.2.2 dX4_readRate_90)
        · skip
          have hn47 := hn47 (hw.1.trans hr9)
          subst hn47
          obtain ⟨hP, hD⟩ : PDq D A [(oX3 p0 ((fv (ti + 1)).toInt32) ((fv ((ti + 1) + 1)).toInt32) pe pg p1 (nI nd) p2 p3 p4 p5 (nI cn) p6 (nI pq) p7 p8 p9 (nI sc)), (oX4 r0 r1 p0 (nI ((((ti + 1) + 1) + 1) + 1)) (fk ((((ti + 1) + 1) + 1) + 1)) (ft ((((ti + 1) + 1) + 1) + 1)) (fv ((((ti + 1) + 1) + 1) + 1)) ((fv ((ti + 1) + 1)).toInt32) zn42 zn43), (oX5 r1 k1 k2 k3 (nI ct)), (k1, .inl (cA 0, 701, .inl fk)), (k2, .inl (cA 0, 701, .inl ft)), (k3, .inl (cA 1, 701, .inr (.inl fv)))] H := ⟨hP, hD⟩
          have hn48 := hn48 (hw.1.trans hr9)
          obtain rfl : iek = zn42 := hn48.symm
          obtain ⟨hP, hD⟩ : PDq D A [(oX3 p0 ((fv (ti + 1)).toInt32) ((fv ((ti + 1) + 1)).toInt32) pe pg p1 (nI nd) p2 p3 p4 p5 (nI cn) p6 (nI pq) p7 p8 p9 (nI sc)), (oX4 r0 r1 p0 (nI ((((ti + 1) + 1) + 1) + 1)) (fk ((((ti + 1) + 1) + 1) + 1)) (ft ((((ti + 1) + 1) + 1) + 1)) (fv ((((ti + 1) + 1) + 1) + 1)) ((fv ((ti + 1) + 1)).toInt32) iek zn43), (oX5 r1 k1 k2 k3 (nI ct)), (k1, .inl (cA 0, 701, .inl fk)), (k2, .inl (cA 0, 701, .inl ft)), (k3, .inl (cA 1, 701, .inr (.inl fv)))] H := ⟨hP, hD⟩
          have hn49 := hn49 (hw.1.trans hr9)
          obtain rfl : iep = zn43 := hn49.symm
          obtain ⟨hP, hD⟩ : PDq D A [(oX3 p0 ((fv (ti + 1)).toInt32) ((fv ((ti + 1) + 1)).toInt32) pe pg p1 (nI nd) p2 p3 p4 p5 (nI cn) p6 (nI pq) p7 p8 p9 (nI sc)), (oX4 r0 r1 p0 (nI ((((ti + 1) + 1) + 1) + 1)) (fk ((((ti + 1) + 1) + 1) + 1)) (ft ((((ti + 1) + 1) + 1) + 1)) (fv ((((ti + 1) + 1) + 1) + 1)) ((fv ((ti + 1) + 1)).toInt32) iek iep), (oX5 r1 k1 k2 k3 (nI ct)), (k1, .inl (cA 0, 701, .inl fk)), (k2, .inl (cA 0, 701, .inl ft)), (k3, .inl (cA 1, 701, .inr (.inl fv)))] H := ⟨hP, hD⟩
          have hn50 := hn50 (hw.1.trans hr9)
          have hn51 := hn51 (hw.1.trans hr9)
          subst hr9
          obtain ⟨hP9, hD9⟩ := PDq.sub (ws' := [(oX4 r0 r1 p0 (nI ((((ti + 1) + 1) + 1) + 1)) (fk ((((ti + 1) + 1) + 1) + 1)) (ft ((((ti + 1) + 1) + 1) + 1)) (fv ((((ti + 1) + 1) + 1) + 1)) ((fv ((ti + 1) + 1)).toInt32) iek iep), (oX5 r1 k1 k2 k3 (nI ct)), (k1, .inl (cA 0, 701, .inl fk)), (k2, .inl (cA 0, 701, .inl ft)), (k3, .inl (cA 1, 701, .inr (.inl fv))), (oX3 p0 ((fv (ti + 1)).toInt32) ((fv ((ti + 1) + 1)).toInt32) pe pg p1 (nI nd) p2 p3 p4 p5 (nI cn) p6 (nI pq) p7 p8 p9 (nI sc))]) hP hD [1, 2, 3, 4, 5, 0] (by decide) rfl
          refine W.widen (k := 0) (n := 0) (Nat.le_of_ble_eq_true rfl) (Nat.le_of_ble_eq_true rfl) ?_
          exact (W.zret (v := 1) hx hb hr (by first | rfl | decide) (fun t ht hW => ⟨⟨1, 1, rfl, ⟨rfl, by decide⟩, ((((ti + 1) + 1) + 1) + 1), ((fv ((ti + 1) + 1)).toInt32), iek, iep, ((fv (ti + 1)).toInt32), ((fv ((ti + 1) + 1)).toInt32), hn44, hn45, (fun _ => rfl), (fun _ => rfl), (fun _ => (by omega)), (fun _ => (by omega)), (fun _ => ⟨_, S_rate hk hn15 (fun q9 => c21 q9.1) hn34, hn51, rfl⟩), (fun _ => (TL9.rate hTL hk hn15 (absurd (nm_k3 hn34) c21) rfl rfl (by omega))), (fun h9 => absurd h9 (by decide)), by rw [ht]; exact hP9, hD9⟩, hS.F ht⟩) hS.2.2 dX4_readRate_90)
    · skip
      refine lv_aload_n hx hb dX4_readRate_42 rfl (lv_at hl 0 rfl) ?_
      refine va_get (D := D) (ci := 8) (v := .long (fv ((ti + 1) + 1))) (C := RX4) (T := TX4) (N := 9) hx hb hts inX4 hown hK hP 1 rfl rfl 5 (by decide) (hts (.fieldLink RX4 87 "EscrowDesk$Reader" "value" "J") (by decide +kernel)) (fun _ h9 => h9) rfl dX4_readRate_43 ?_
      obtain ⟨hPc, hDc, hFc⟩ := PDq.cut (wc := []) hP hD hS hA [] (by decide) rfl
      refine va_calli (va_runSN (As := [.long (fv ((ti + 1) + 1))]) (rest := []) ⟨hx, hb, hml, hown, hts⟩ (x_isBasis l D cA sa (fv ((ti + 1) + 1)) H.size) ⟨va_cnB (host := "EscrowDesk") 1 hts gX4_readRate_X9_isBasis_n101 rfl rfl rfl (hC.m (by decide +kernel)) (hts (.initialized RX9) (by decide +kernel)) (by decide +kernel) ⟨(Nat.le_of_ble_eq_true rfl), (Nat.le_of_ble_eq_true rfl)⟩, hts (.static yX9_isBasis) (by decide +kernel), trivial⟩ ⟨Wd.blind, fun U hU hW => ⟨rfl, Wd.call hPc hDc hK hC hZ hS hFc U hU hW⟩⟩ rfl rfl hl.1 rfl (lv_room (Nat.le_of_ble_eq_true rfl)) dX4_readRate_46 ⟨(Nat.le_of_ble_eq_true rfl), (Nat.le_of_ble_eq_true rfl)⟩) hS (fun q _ h => hFc q h) hFc (fun rn55 u t H1 locs ht hvm hw hB hz1 hk1 hS => ?_)
      obtain ⟨hP1, hD1⟩ := hB
      rw [ht] at hP1
      obtain ⟨hP, hD⟩ := PDq.join (w := [(oX3 p0 ((fv (ti + 1)).toInt32) pb pe pg p1 (nI nd) p2 p3 p4 p5 (nI cn) p6 (nI pq) p7 p8 p9 (nI sc)), (oX4 r0 r1 p0 (nI ((ti + 1) + 1)) (fk ((ti + 1) + 1)) (ft ((ti + 1) + 1)) (fv ((ti + 1) + 1)) ((fv (ti + 1)).toInt32) iek iep), (oX5 r1 k1 k2 k3 (nI ct)), (k1, .inl (cA 0, 701, .inl fk)), (k2, .inl (cA 0, 701, .inl ft)), (k3, .inl (cA 1, 701, .inr (.inl fv)))]) 6 hP hD [] [0, 1, 2, 3, 4, 5] rfl rfl (by decide) (by decide) hk1 hFc hP1 hD1 rfl
      generalize H1 = H at hP hS ⊢
      rcases hw with ⟨hr9, hn56⟩ | ⟨hr9, hn56⟩
      · skip
        subst hr9
        refine lv_if_ne (tgt := 58) hx hb dX4_readRate_49 (by decide) (fun c57 => ?_) (fun c9 => absurd c9 (by decide))
        refine lv_aload_n hx hb dX4_readRate_58 rfl (lv_at hl 0 rfl) ?_
        refine lv_sipush (v := 360) hx hb dX4_readRate_59 (by decide) ?_
        refine lv_sipush (v := 365) hx hb dX4_readRate_62 (by decide) ?_
        obtain ⟨hPc, hDc, hFc⟩ := PDq.cut (wc := [(oX4 r0 r1 p0 (nI ((ti + 1) + 1)) (fk ((ti + 1) + 1)) (ft ((ti + 1) + 1)) (fv ((ti + 1) + 1)) ((fv (ti + 1)).toInt32) iek iep), (oX5 r1 k1 k2 k3 (nI ct)), (k1, .inl (cA 0, 701, .inl fk)), (k2, .inl (cA 0, 701, .inl ft)), (k3, .inl (cA 1, 701, .inr (.inl fv)))]) hP hD hS hA [1, 2, 3, 4, 5] (by decide) rfl
        refine va_calli (va_runV (As := [.int 360, .int 365]) (rest := []) ⟨hx, hb, hml, hown, hts⟩ (x_takeNumber l D cA sa r0 p0 ((ti + 1) + 1) ln ((fv (ti + 1)).toInt32) iek iep r1 k1 k2 k3 ct fk ft fv fb gP gR 360 365 H.size hct hln hn8 hTX (by omega) (by omega)) (cwV 2 hts gX4_readRate_X4_takeNumber rfl rfl rfl (by decide +kernel) ⟨(Nat.le_of_ble_eq_true rfl), (Nat.le_of_ble_eq_true rfl)⟩) ⟨Wd.blind, va_recv hK hPc (ci := 8) (q0 := 0) rfl rfl, fun U hU hW => ⟨rfl, Wd.call hPc hDc hK hC hZ hS hFc U hU hW⟩⟩ rfl rfl hl.1 rfl (lv_room (Nat.le_of_ble_eq_true rfl)) dX4_readRate_65 ⟨(Nat.le_of_ble_eq_true rfl), (Nat.le_of_ble_eq_true rfl)⟩) hS (fun q _ h => hFc q h) hFc (fun rn58 u t H1 locs ht hvm hw hB hz1 hk1 hS => ?_)
        obtain ⟨qn59, zn60, zn61, zn62, hn63, hn64, hn65, hn66, hn67, hn68, hn69, hn70, hn71, hn72, hn73, hP1, hD1⟩ := hB
        rw [ht] at hP1
        obtain ⟨hP, hD⟩ := PDq.join (w := [(oX3 p0 ((fv (ti + 1)).toInt32) pb pe pg p1 (nI nd) p2 p3 p4 p5 (nI cn) p6 (nI pq) p7 p8 p9 (nI sc)), (oX4 r0 r1 p0 (nI qn59) (fk qn59) (ft qn59) (fv qn59) zn60 zn61 zn62), (oX5 r1 k1 k2 k3 (nI ct)), (k1, .inl (cA 0, 701, .inl fk)), (k2, .inl (cA 0, 701, .inl ft)), (k3, .inl (cA 1, 701, .inr (.inl fv)))]) 1 hP hD [1, 2, 3, 4, 5] [0] rfl rfl (by decide) (by decide) hk1 hFc hP1 hD1 rfl
        generalize H1 = H at hP hS ⊢
        rcases hw.2 with hr9 | hr9
        · skip
          have hn72 := hn72 (hw.1.trans hr9)
          have hn73 := hn73 (hw.1.trans hr9)
          subst hr9
          refine lv_if_ne (tgt := 73) hx hb dX4_readRate_68 (by decide) (fun c9 => absurd c9 (by decide)) (fun c74 => ?_)
          refine lv_iconst (v := 0) hx hb dX4_readRate_71 (by decide) ?_
          obtain ⟨hP9, hD9⟩ := PDq.sub (ws' := [(oX4 r0 r1 p0 (nI qn59) (fk qn59) (ft qn59) (fv qn59) zn60 zn61 zn62), (oX5 r1 k1 k2 k3 (nI ct)), (k1, .inl (cA 0, 701, .inl fk)), (k2, .inl (cA 0, 701, .inl ft)), (k3, .inl (cA 1, 701, .inr (.inl fv))), (oX3 p0 ((fv (ti + 1)).toInt32) pb pe pg p1 (nI nd) p2 p3 p4 p5 (nI cn) p6 (nI pq) p7 p8 p9 (nI sc))]) hP hD [1, 2, 3, 4, 5, 0] (by decide) rfl
          refine W.widen (k := 0) (n := 0) (Nat.le_of_ble_eq_true rfl) (Nat.le_of_ble_eq_true rfl) ?_
          exact (W.zret (v := 0) hx hb hr (by first | rfl | decide) (fun t ht hW => ⟨⟨0, 0, rfl, ⟨rfl, by decide⟩, qn59, zn60, zn61, zn62, ((fv (ti + 1)).toInt32), pb, hn63, hn64, (fun h9 => absurd h9 (by decide)), (fun h9 => absurd h9 (by decide)), (fun h9 => absurd h9 (by decide)), (fun h9 => absurd h9 (by decide)), (fun h9 => absurd h9 (by decide)), (fun h9 => absurd h9 (by decide)), (fun _ => (Or.inl (S_rateFx hk hn15 (fun q9 => q9.2 hn56) hn72 hn73))), by rw [ht]; exact hP9, hD9⟩, hS.F ht⟩) hS.2.2 dX4_readRate_72)
        · skip
          have hn66 := hn66 (hw.1.trans hr9)
          subst hn66
          obtain ⟨hP, hD⟩ : PDq D A [(oX3 p0 ((fv (ti + 1)).toInt32) pb pe pg p1 (nI nd) p2 p3 p4 p5 (nI cn) p6 (nI pq) p7 p8 p9 (nI sc)), (oX4 r0 r1 p0 (nI (((ti + 1) + 1) + 1)) (fk (((ti + 1) + 1) + 1)) (ft (((ti + 1) + 1) + 1)) (fv (((ti + 1) + 1) + 1)) zn60 zn61 zn62), (oX5 r1 k1 k2 k3 (nI ct)), (k1, .inl (cA 0, 701, .inl fk)), (k2, .inl (cA 0, 701, .inl ft)), (k3, .inl (cA 1, 701, .inr (.inl fv)))] H := ⟨hP, hD⟩
          have hn67 := hn67 (hw.1.trans hr9)
          obtain rfl : iek = zn61 := hn67.symm
          obtain ⟨hP, hD⟩ : PDq D A [(oX3 p0 ((fv (ti + 1)).toInt32) pb pe pg p1 (nI nd) p2 p3 p4 p5 (nI cn) p6 (nI pq) p7 p8 p9 (nI sc)), (oX4 r0 r1 p0 (nI (((ti + 1) + 1) + 1)) (fk (((ti + 1) + 1) + 1)) (ft (((ti + 1) + 1) + 1)) (fv (((ti + 1) + 1) + 1)) zn60 iek zn62), (oX5 r1 k1 k2 k3 (nI ct)), (k1, .inl (cA 0, 701, .inl fk)), (k2, .inl (cA 0, 701, .inl ft)), (k3, .inl (cA 1, 701, .inr (.inl fv)))] H := ⟨hP, hD⟩
          have hn68 := hn68 (hw.1.trans hr9)
          obtain rfl : iep = zn62 := hn68.symm
          obtain ⟨hP, hD⟩ : PDq D A [(oX3 p0 ((fv (ti + 1)).toInt32) pb pe pg p1 (nI nd) p2 p3 p4 p5 (nI cn) p6 (nI pq) p7 p8 p9 (nI sc)), (oX4 r0 r1 p0 (nI (((ti + 1) + 1) + 1)) (fk (((ti + 1) + 1) + 1)) (ft (((ti + 1) + 1) + 1)) (fv (((ti + 1) + 1) + 1)) zn60 iek iep), (oX5 r1 k1 k2 k3 (nI ct)), (k1, .inl (cA 0, 701, .inl fk)), (k2, .inl (cA 0, 701, .inl ft)), (k3, .inl (cA 1, 701, .inr (.inl fv)))] H := ⟨hP, hD⟩
          have hn69 := hn69 (hw.1.trans hr9)
          have hn70 := hn70 (hw.1.trans hr9)
          have hn71 := hn71 (hw.1.trans hr9)
          subst hn71
          obtain ⟨hP, hD⟩ : PDq D A [(oX3 p0 ((fv (ti + 1)).toInt32) pb pe pg p1 (nI nd) p2 p3 p4 p5 (nI cn) p6 (nI pq) p7 p8 p9 (nI sc)), (oX4 r0 r1 p0 (nI (((ti + 1) + 1) + 1)) (fk (((ti + 1) + 1) + 1)) (ft (((ti + 1) + 1) + 1)) (fv (((ti + 1) + 1) + 1)) ((fv ((ti + 1) + 1)).toInt32) iek iep), (oX5 r1 k1 k2 k3 (nI ct)), (k1, .inl (cA 0, 701, .inl fk)), (k2, .inl (cA 0, 701, .inl ft)), (k3, .inl (cA 1, 701, .inr (.inl fv)))] H := ⟨hP, hD⟩
          subst hr9
          refine lv_if_ne (tgt := 73) hx hb dX4_readRate_68 (by decide) (fun c75 => ?_) (fun c9 => absurd c9 (by decide))
          refine lv_aload_n hx hb dX4_readRate_73 rfl (lv_at hl 0 rfl) ?_
          refine va_get (D := D) (ci := 8) (v := .ref p0) (C := RX4) (T := TX4) (N := 9) hx hb hts inX4 hown hK hP 1 rfl rfl 1 (by decide) (hts (.fieldLink RX4 25 "EscrowDesk$Reader" "plan" "LEscrowDesk$Plan;") (by decide +kernel)) (fun _ h9 => h9) rfl dX4_readRate_74 ?_
          refine lv_aload_n hx hb dX4_readRate_77 rfl (lv_at hl 0 rfl) ?_
          refine va_get (D := D) (ci := 8) (v := .int ((fv ((ti + 1) + 1)).toInt32)) (C := RX4) (T := TX4) (N := 9) hx hb hts inX4 hown hK hP 1 rfl rfl 6 (by decide) (hts (.fieldLink RX4 91 "EscrowDesk$Reader" "number" "I") (by decide +kernel)) (fun _ h9 => h9) rfl dX4_readRate_78 ?_
          refine va_putN (D := D) (ci := 7) (v := .int ((fv ((ti + 1) + 1)).toInt32)) (ty := .int) (C := RX3) (T := TX3) (N := 17) hx hb hts inX3 tyX3 tyX3_ok nmX3 hown hK hP hD hS 0 rfl rfl 1 (by decide) (hC.f (A := _) (a := RX4) (i := 105) (b := "EscrowDesk$Plan") (n := "basis") (d := "I") (x := "EscrowDesk") (by decide +kernel)) (fun _ h9 => h9) rfl (by decide +kernel) rfl rfl (Nat.le_of_ble_eq_true rfl) dX4_readRate_81 (fun H locs hP hD hS => ?_)
          obtain ⟨hP, hD⟩ : PDq D A [(oX3 p0 ((fv (ti + 1)).toInt32) ((fv ((ti + 1) + 1)).toInt32) pe pg p1 (nI nd) p2 p3 p4 p5 (nI cn) p6 (nI pq) p7 p8 p9 (nI sc)), (oX4 r0 r1 p0 (nI (((ti + 1) + 1) + 1)) (fk (((ti + 1) + 1) + 1)) (ft (((ti + 1) + 1) + 1)) (fv (((ti + 1) + 1) + 1)) ((fv ((ti + 1) + 1)).toInt32) iek iep), (oX5 r1 k1 k2 k3 (nI ct)), (k1, .inl (cA 0, 701, .inl fk)), (k2, .inl (cA 0, 701, .inl ft)), (k3, .inl (cA 1, 701, .inr (.inl fv)))] H := ⟨hP, hD⟩
          refine lv_aload_n hx hb dX4_readRate_84 rfl (lv_at hl 0 rfl) ?_
          refine lv_bipush (v := 7) hx hb dX4_readRate_85 (by decide) ?_
          obtain ⟨hPc, hDc, hFc⟩ := PDq.cut (wc := [(oX4 r0 r1 p0 (nI (((ti + 1) + 1) + 1)) (fk (((ti + 1) + 1) + 1)) (ft (((ti + 1) + 1) + 1)) (fv (((ti + 1) + 1) + 1)) ((fv ((ti + 1) + 1)).toInt32) iek iep), (oX5 r1 k1 k2 k3 (nI ct)), (k1, .inl (cA 0, 701, .inl fk)), (k2, .inl (cA 0, 701, .inl ft)), (k3, .inl (cA 1, 701, .inr (.inl fv)))]) hP hD hS hA [1, 2, 3, 4, 5] (by decide) rfl
          refine va_calli (va_runV (As := [.int 7]) (rest := []) ⟨hx, hb, hml, hown, hts⟩ (x_take l D cA sa r0 p0 (((ti + 1) + 1) + 1) ln ((fv ((ti + 1) + 1)).toInt32) iek iep r1 k1 k2 k3 ct fk ft fv fb gP gR 7 H.size hct hln hn63 hTX (by decide)) (cwV 1 hts gX4_readRate_X4_take rfl rfl rfl (by decide +kernel) ⟨(Nat.le_of_ble_eq_true rfl), (Nat.le_of_ble_eq_true rfl)⟩) ⟨Wd.blind, va_recv hK hPc (ci := 8) (q0 := 0) rfl rfl, fun U hU hW => ⟨rfl, Wd.call hPc hDc hK hC hZ hS hFc U hU hW⟩⟩ rfl rfl hl.1 rfl (lv_room (Nat.le_of_ble_eq_true rfl)) dX4_readRate_87 ⟨(Nat.le_of_ble_eq_true rfl), (Nat.le_of_ble_eq_true rfl)⟩) hS (fun q _ h => hFc q h) hFc (fun rn76 u t H1 locs ht hvm hw hB hz1 hk1 hS => ?_)
          obtain ⟨qn77, zn78, zn79, hn80, hn81, hn82, hn83, hn84, hn85, hn86, hn87, hn88, hn89, hn90, hP1, hD1⟩ := hB
          rw [ht] at hP1
          obtain ⟨hP, hD⟩ := PDq.join (w := [(oX3 p0 ((fv (ti + 1)).toInt32) ((fv ((ti + 1) + 1)).toInt32) pe pg p1 (nI nd) p2 p3 p4 p5 (nI cn) p6 (nI pq) p7 p8 p9 (nI sc)), (oX4 r0 r1 p0 (nI qn77) (fk qn77) (ft qn77) (fv qn77) ((fv ((ti + 1) + 1)).toInt32) zn78 zn79), (oX5 r1 k1 k2 k3 (nI ct)), (k1, .inl (cA 0, 701, .inl fk)), (k2, .inl (cA 0, 701, .inl ft)), (k3, .inl (cA 1, 701, .inr (.inl fv)))]) 1 hP hD [1, 2, 3, 4, 5] [0] rfl rfl (by decide) (by decide) hk1 hFc hP1 hD1 rfl
          generalize H1 = H at hP hS ⊢
          rcases hw.2 with hr9 | hr9
          · skip
            have hn88 := hn88 (hw.1.trans hr9)
            have hn89 := hn89 (hw.1.trans hr9)
            have hn90 := hn90 (hw.1.trans hr9)
            subst hr9
            obtain ⟨hP9, hD9⟩ := PDq.sub (ws' := [(oX4 r0 r1 p0 (nI qn77) (fk qn77) (ft qn77) (fv qn77) ((fv ((ti + 1) + 1)).toInt32) zn78 zn79), (oX5 r1 k1 k2 k3 (nI ct)), (k1, .inl (cA 0, 701, .inl fk)), (k2, .inl (cA 0, 701, .inl ft)), (k3, .inl (cA 1, 701, .inr (.inl fv))), (oX3 p0 ((fv (ti + 1)).toInt32) ((fv ((ti + 1) + 1)).toInt32) pe pg p1 (nI nd) p2 p3 p4 p5 (nI cn) p6 (nI pq) p7 p8 p9 (nI sc))]) hP hD [1, 2, 3, 4, 5, 0] (by decide) rfl
            refine W.widen (k := 0) (n := 0) (Nat.le_of_ble_eq_true rfl) (Nat.le_of_ble_eq_true rfl) ?_
            exact (W.zret (v := 0) hx hb hr (by first | rfl | decide) (fun t ht hW => ⟨⟨0, 0, rfl, ⟨rfl, by decide⟩, qn77, ((fv ((ti + 1) + 1)).toInt32), zn78, zn79, ((fv (ti + 1)).toInt32), ((fv ((ti + 1) + 1)).toInt32), hn80, hn81, (fun h9 => absurd h9 (by decide)), (fun h9 => absurd h9 (by decide)), (fun h9 => absurd h9 (by decide)), (fun h9 => absurd h9 (by decide)), (fun h9 => absurd h9 (by decide)), (fun h9 => absurd h9 (by decide)), (fun _ => (Or.inr ⟨_, _, _, _, S_rate hk hn15 (fun q9 => q9.2 hn56) hn70, hn90, hn88, hn89⟩)), by rw [ht]; exact hP9, hD9⟩, hS.F ht⟩) hS.2.2 dX4_readRate_90)
          · skip
            have hn83 := hn83 (hw.1.trans hr9)
            subst hn83
            obtain ⟨hP, hD⟩ : PDq D A [(oX3 p0 ((fv (ti + 1)).toInt32) ((fv ((ti + 1) + 1)).toInt32) pe pg p1 (nI nd) p2 p3 p4 p5 (nI cn) p6 (nI pq) p7 p8 p9 (nI sc)), (oX4 r0 r1 p0 (nI ((((ti + 1) + 1) + 1) + 1)) (fk ((((ti + 1) + 1) + 1) + 1)) (ft ((((ti + 1) + 1) + 1) + 1)) (fv ((((ti + 1) + 1) + 1) + 1)) ((fv ((ti + 1) + 1)).toInt32) zn78 zn79), (oX5 r1 k1 k2 k3 (nI ct)), (k1, .inl (cA 0, 701, .inl fk)), (k2, .inl (cA 0, 701, .inl ft)), (k3, .inl (cA 1, 701, .inr (.inl fv)))] H := ⟨hP, hD⟩
            have hn84 := hn84 (hw.1.trans hr9)
            obtain rfl : iek = zn78 := hn84.symm
            obtain ⟨hP, hD⟩ : PDq D A [(oX3 p0 ((fv (ti + 1)).toInt32) ((fv ((ti + 1) + 1)).toInt32) pe pg p1 (nI nd) p2 p3 p4 p5 (nI cn) p6 (nI pq) p7 p8 p9 (nI sc)), (oX4 r0 r1 p0 (nI ((((ti + 1) + 1) + 1) + 1)) (fk ((((ti + 1) + 1) + 1) + 1)) (ft ((((ti + 1) + 1) + 1) + 1)) (fv ((((ti + 1) + 1) + 1) + 1)) ((fv ((ti + 1) + 1)).toInt32) iek zn79), (oX5 r1 k1 k2 k3 (nI ct)), (k1, .inl (cA 0, 701, .inl fk)), (k2, .inl (cA 0, 701, .inl ft)), (k3, .inl (cA 1, 701, .inr (.inl fv)))] H := ⟨hP, hD⟩
            have hn85 := hn85 (hw.1.trans hr9)
            obtain rfl : iep = zn79 := hn85.symm
            obtain ⟨hP, hD⟩ : PDq D A [(oX3 p0 ((fv (ti + 1)).toInt32) ((fv ((ti + 1) + 1)).toInt32) pe pg p1 (nI nd) p2 p3 p4 p5 (nI cn) p6 (nI pq) p7 p8 p9 (nI sc)), (oX4 r0 r1 p0 (nI ((((ti + 1) + 1) + 1) + 1)) (fk ((((ti + 1) + 1) + 1) + 1)) (ft ((((ti + 1) + 1) + 1) + 1)) (fv ((((ti + 1) + 1) + 1) + 1)) ((fv ((ti + 1) + 1)).toInt32) iek iep), (oX5 r1 k1 k2 k3 (nI ct)), (k1, .inl (cA 0, 701, .inl fk)), (k2, .inl (cA 0, 701, .inl ft)), (k3, .inl (cA 1, 701, .inr (.inl fv)))] H := ⟨hP, hD⟩
            have hn86 := hn86 (hw.1.trans hr9)
            have hn87 := hn87 (hw.1.trans hr9)
            subst hr9
            obtain ⟨hP9, hD9⟩ := PDq.sub (ws' := [(oX4 r0 r1 p0 (nI ((((ti + 1) + 1) + 1) + 1)) (fk ((((ti + 1) + 1) + 1) + 1)) (ft ((((ti + 1) + 1) + 1) + 1)) (fv ((((ti + 1) + 1) + 1) + 1)) ((fv ((ti + 1) + 1)).toInt32) iek iep), (oX5 r1 k1 k2 k3 (nI ct)), (k1, .inl (cA 0, 701, .inl fk)), (k2, .inl (cA 0, 701, .inl ft)), (k3, .inl (cA 1, 701, .inr (.inl fv))), (oX3 p0 ((fv (ti + 1)).toInt32) ((fv ((ti + 1) + 1)).toInt32) pe pg p1 (nI nd) p2 p3 p4 p5 (nI cn) p6 (nI pq) p7 p8 p9 (nI sc))]) hP hD [1, 2, 3, 4, 5, 0] (by decide) rfl
            refine W.widen (k := 0) (n := 0) (Nat.le_of_ble_eq_true rfl) (Nat.le_of_ble_eq_true rfl) ?_
            exact (W.zret (v := 1) hx hb hr (by first | rfl | decide) (fun t ht hW => ⟨⟨1, 1, rfl, ⟨rfl, by decide⟩, ((((ti + 1) + 1) + 1) + 1), ((fv ((ti + 1) + 1)).toInt32), iek, iep, ((fv (ti + 1)).toInt32), ((fv ((ti + 1) + 1)).toInt32), hn80, hn81, (fun _ => rfl), (fun _ => rfl), (fun _ => (by omega)), (fun _ => (by omega)), (fun _ => ⟨_, S_rate hk hn15 (fun q9 => q9.2 hn56) hn70, hn87, rfl⟩), (fun _ => (TL9.rate hTL hk hn15 hn56 rfl rfl (by omega))), (fun h9 => absurd h9 (by decide)), by rw [ht]; exact hP9, hD9⟩, hS.F ht⟩) hS.2.2 dX4_readRate_90)
      · skip
        subst hr9
        refine lv_if_ne (tgt := 58) hx hb dX4_readRate_49 (by decide) (fun c9 => absurd c9 (by decide)) (fun c91 => ?_)
        refine lv_aload_n hx hb dX4_readRate_52 rfl (lv_at hl 0 rfl) ?_
        refine lv_iconst (v := 3) hx hb dX4_readRate_53 (by decide) ?_
        obtain ⟨hPc, hDc, hFc⟩ := PDq.cut (wc := [(oX4 r0 r1 p0 (nI ((ti + 1) + 1)) (fk ((ti + 1) + 1)) (ft ((ti + 1) + 1)) (fv ((ti + 1) + 1)) ((fv (ti + 1)).toInt32) iek iep)]) hP hD hS hA [1] (by decide) rfl
        refine va_calli (va_runV (As := [.int 3]) (rest := []) ⟨hx, hb, hml, hown, hts⟩ (x_fail l D cA sa r0 r1 p0 (nI ((ti + 1) + 1)) (fk ((ti + 1) + 1)) (ft ((ti + 1) + 1)) ((fv (ti + 1)).toInt32) iek iep (fv ((ti + 1) + 1)) 3 H.size) (cwV 1 hts gX4_readRate_X4_fail rfl rfl rfl (by decide +kernel) ⟨(Nat.le_of_ble_eq_true rfl), (Nat.le_of_ble_eq_true rfl)⟩) ⟨Wd.blind, va_recv hK hPc (ci := 8) (q0 := 0) rfl rfl, fun U hU hW => ⟨rfl, Wd.call hPc hDc hK hC hZ hS hFc U hU hW⟩⟩ rfl rfl hl.1 rfl (lv_room (Nat.le_of_ble_eq_true rfl)) dX4_readRate_54 ⟨(Nat.le_of_ble_eq_true rfl), (Nat.le_of_ble_eq_true rfl)⟩) hS (fun q _ h => hFc q h) hFc (fun rn92 u t H1 locs ht hvm hw hB hz1 hk1 hS => ?_)
        obtain ⟨zn93, hn94, hP1, hD1⟩ := hB
        rw [ht] at hP1
        obtain ⟨hP, hD⟩ := PDq.join (w := [(oX3 p0 ((fv (ti + 1)).toInt32) pb pe pg p1 (nI nd) p2 p3 p4 p5 (nI cn) p6 (nI pq) p7 p8 p9 (nI sc)), (oX5 r1 k1 k2 k3 (nI ct)), (k1, .inl (cA 0, 701, .inl fk)), (k2, .inl (cA 0, 701, .inl ft)), (k3, .inl (cA 1, 701, .inr (.inl fv))), (oX4 r0 r1 p0 (nI ((ti + 1) + 1)) (fk ((ti + 1) + 1)) (ft ((ti + 1) + 1)) (fv ((ti + 1) + 1)) ((fv (ti + 1)).toInt32) zn93 (ft ((ti + 1) + 1)))]) 5 hP hD [1] [0, 2, 3, 4, 5] rfl rfl (by decide) (by decide) hk1 hFc hP1 hD1 rfl
        generalize H1 = H at hP hS ⊢
        obtain rfl : rn92 = 0 := hw
        obtain ⟨hP9, hD9⟩ := PDq.sub (ws' := [(oX4 r0 r1 p0 (nI ((ti + 1) + 1)) (fk ((ti + 1) + 1)) (ft ((ti + 1) + 1)) (fv ((ti + 1) + 1)) ((fv (ti + 1)).toInt32) zn93 (ft ((ti + 1) + 1))), (oX5 r1 k1 k2 k3 (nI ct)), (k1, .inl (cA 0, 701, .inl fk)), (k2, .inl (cA 0, 701, .inl ft)), (k3, .inl (cA 1, 701, .inr (.inl fv))), (oX3 p0 ((fv (ti + 1)).toInt32) pb pe pg p1 (nI nd) p2 p3 p4 p5 (nI cn) p6 (nI pq) p7 p8 p9 (nI sc))]) hP hD [5, 1, 2, 3, 4, 0] (by decide) rfl
        refine W.widen (k := 0) (n := 0) (Nat.le_of_ble_eq_true rfl) (Nat.le_of_ble_eq_true rfl) ?_
        exact (W.zret (v := 0) hx hb hr (by first | rfl | decide) (fun t ht hW => ⟨⟨0, 0, rfl, ⟨rfl, by decide⟩, ((ti + 1) + 1), ((fv (ti + 1)).toInt32), zn93, (ft ((ti + 1) + 1)), ((fv (ti + 1)).toInt32), pb, hn8, hn9, (fun h9 => absurd h9 (by decide)), (fun h9 => absurd h9 (by decide)), (fun h9 => absurd h9 (by decide)), (fun h9 => absurd h9 (by decide)), (fun h9 => absurd h9 (by decide)), (fun h9 => absurd h9 (by decide)), (fun _ => (Or.inl (S_rateBx hk hn15 ⟨c21, hn56⟩ hn94 rfl))), by rw [ht]; exact hP9, hD9⟩, hS.F ht⟩) hS.2.2 dX4_readRate_57)

set_option maxHeartbeats 4000000 in
set_option maxRecDepth 100000 in
/-- readFee -/
theorem x_readFee (l : Launch) (D : va_G) (cA : Nat → ClassId) (sa : Nat → Nat) (r0 : Nat) (p0 : Nat) (ti : Nat) (ln : Nat) (inb : Int32) (iek : Int32) (iep : Int32) (r1 : Nat) (k1 : Nat) (k2 : Nat) (k3 : Nat) (ct : Nat) (fk : Nat → Int32) (ft : Nat → Int32) (fv : Nat → Int64) (fb : Nat → Int32) (gP : Nat → Nat) (gR : Nat → Nat) (p1 : Nat) (p2 : Nat) (p3 : Nat) (p4 : Nat) (p5 : Nat) (p6 : Nat) (p7 : Nat) (p8 : Nat) (p9 : Nat) (cn : Nat) (pq : Nat) (nd : Nat) (sc : Nat) (pr : Int32) (pb : Int32) (pe : Int32) (pg : Int32) (ml : List Int64) (pl : List Int64) (fde : Nat → Int32) (fam : Nat → Int32) (fpi : Nat → Int32) (fen : Nat → Int32) (fst : Nat → Int32) (fop : Nat → Int32) (sz : Nat) (hct : ct ≤ 701) (hln : ln ≤ 700) (hti : ti < ct) (hTX : TX fb ln ct gP gR ft fv fk) (hsl : 2 * sc ≤ gP ti) (hTL : TL9 fk fv ml pl fde fam fpi fen fst fop pr pb pg nd cn sc ti) (hk : fk ti = 9) : Met l yX4_readFee wsX4_readFee ({ frames := 2, cells := 0, slots := 0, locals := 43 }) (va_Pc [.ref r0] (Wd D cA sa [(oX4 r0 r1 p0 (nI ti) (fk ti) (ft ti) (fv ti) inb iek iep), (oX5 r1 k1 k2 k3 (nI ct)), (k1, .inl (cA 0, 701, .inl fk)), (k2, .inl (cA 0, 701, .inl ft)), (k3, .inl (cA 1, 701, .inr (.inl fv))), (oX3 p0 pr pb pe pg p1 (nI nd) p2 p3 p4 p5 (nI cn) p6 (nI pq) p7 p8 p9 (nI sc))] sz)) (va_Qi (fun (r : Int32) (u9 : Int32) => u9 = r ∧ (r = 0 ∨ r = 1)) (fun (u9 : Int32) t => ∃ tj : Nat, ∃ znr : Int32, ∃ zek : Int32, ∃ zep : Int32, ∃ zea : Int32, tj < ct ∧ gP tj ≤ ln ∧ (u9 = 1 → zek = iek) ∧ (u9 = 1 → zep = iep) ∧ (u9 = 1 → ti + 2 ≤ tj) ∧ (u9 = 1 → 2 * sc ≤ gP tj) ∧ (u9 = 1 → ST9 fk ft fv ti nd ml pl tj nd ml pl) ∧ (u9 = 1 → TL9 fk fv ml pl fde fam fpi fen fst fop pr pb pg nd cn sc tj) ∧ (u9 = 0 → SE9 fk ft fv ti nd ml pl zek zep) ∧ Wq D (va_A [(oX4 r0 r1 p0 (nI ti) (fk ti) (ft ti) (fv ti) inb iek iep), (oX5 r1 k1 k2 k3 (nI ct)), (k1, .inl (cA 0, 701, .inl fk)), (k2, .inl (cA 0, 701, .inl ft)), (k3, .inl (cA 1, 701, .inr (.inl fv))), (oX3 p0 pr pb pe pg p1 (nI nd) p2 p3 p4 p5 (nI cn) p6 (nI pq) p7 p8 p9 (nI sc))] sz) [(oX4 r0 r1 p0 (nI tj) (fk tj) (ft tj) (fv tj) znr zek zep), (oX5 r1 k1 k2 k3 (nI ct)), (k1, .inl (cA 0, 701, .inl fk)), (k2, .inl (cA 0, 701, .inl ft)), (k3, .inl (cA 1, 701, .inr (.inl fv))), (oX3 p0 pr pb zea pg p1 (nI nd) p2 p3 p4 p5 (nI cn) p6 (nI pq) p7 p8 p9 (nI sc))] t) (va_A [(oX4 r0 r1 p0 (nI ti) (fk ti) (ft ti) (fv ti) inb iek iep), (oX5 r1 k1 k2 k3 (nI ct)), (k1, .inl (cA 0, 701, .inl fk)), (k2, .inl (cA 0, 701, .inl ft)), (k3, .inl (cA 1, 701, .inr (.inl fv))), (oX3 p0 pr pb pe pg p1 (nI nd) p2 p3 p4 p5 (nI cn) p6 (nI pq) p7 p8 p9 (nI sc))] sz)) 0 0 (va_A [(oX4 r0 r1 p0 (nI ti) (fk ti) (ft ti) (fv ti) inb iek iep), (oX5 r1 k1 k2 k3 (nI ct)), (k1, .inl (cA 0, 701, .inl fk)), (k2, .inl (cA 0, 701, .inl ft)), (k3, .inl (cA 1, 701, .inr (.inl fv))), (oX3 p0 pr pb pe pg p1 (nI nd) p2 p3 p4 p5 (nI cn) p6 (nI pq) p7 p8 p9 (nI sc))] sz) := by
  refine Met.ofW (cc := cX4_readFee) (maxL := 1) (ret := (some .boolean)) (by decide) rfl ?_
  intro p e s m args below meth c s₁ B hml hv
  obtain ⟨rfl, hsz, hP, hK, hD0, hC, hZ⟩ := hv
  have hx := B.exec
  have hb := B.bytes
  have hr := B.returns
  have hts := atoms_spec (ws := wsX4_readFee) B.pre
  have hown : s.vm.findClass RX4 = some m.cls := findClass_of_methodNamed B.named
  have hlocks := B.notSynchronized
  subst hsz
  have hD := hD0.self (sz := s.heap.size)
  generalize hAe : va_A [(oX4 r0 r1 p0 (nI ti) (fk ti) (ft ti) (fv ti) inb iek iep), (oX5 r1 k1 k2 k3 (nI ct)), (k1, .inl (cA 0, 701, .inl fk)), (k2, .inl (cA 0, 701, .inl ft)), (k3, .inl (cA 1, 701, .inr (.inl fv))), (oX3 p0 pr pb pe pg p1 (nI nd) p2 p3 p4 p5 (nI cn) p6 (nI pq) p7 p8 p9 (nI sc))] s.heap.size = A at hD hZ ⊢
  have hA : ∀ q : Nat, s.heap.size ≤ q → A q := fun q h => by rw [← hAe]; exact Or.inr h
  have hS : va_S A s.heap s.heap [] := va_S.rf
  have hP : va_P D vwCl [(oX4 r0 r1 p0 (nI ti) (fk ti) (ft ti) (fv ti) inb iek iep), (oX5 r1 k1 k2 k3 (nI ct)), (k1, .inl (cA 0, 701, .inl fk)), (k2, .inl (cA 0, 701, .inl ft)), (k3, .inl (cA 1, 701, .inr (.inl fv))), (oX3 p0 pr pb pe pg p1 (nI nd) p2 p3 p4 p5 (nI cn) p6 (nI pq) p7 p8 p9 (nI sc))] s.heap := hP
  have hl := lv_entry ([.ref r0]) (n := 1) (Nat.le_of_ble_eq_true rfl)
  rw [lg_entry_eq]
  generalize (lg_sl ([.ref r0]) ++ List.replicate (1 - (lg_sl ([.ref r0])).length) Slot.unset).toArray = ls at hl ⊢
  have hl : lv_has ls 1 [(0, .ref r0)] := hl
  have inX3 : ∀ w ∈ u_ws RX3 TX3 17, w ∈ wsX4_readFee := by decide +kernel
  have inX4 : ∀ w ∈ u_ws RX4 TX4 9, w ∈ wsX4_readFee := by decide +kernel
  have hle9 := TX.le hTX hti
  have hn1 := TX.go2 hTX hti (by rw [hk]; decide)
  refine lv_aload_n hx hb dX4_readFee_0 rfl (lv_at hl 0 rfl) ?_
  refine lv_aload_n hx hb dX4_readFee_1 rfl (lv_at hl 0 rfl) ?_
  refine va_get (D := D) (ci := 8) (v := .int (nI ti)) (C := RX4) (T := TX4) (N := 9) hx hb hts inX4 hown hK hP 0 rfl rfl 2 (by decide) (hts (.fieldLink RX4 70 "EscrowDesk$Reader" "token" "I") (by decide +kernel)) (fun _ h9 => h9) rfl dX4_readFee_2 ?_
  refine lv_iconst (v := 1) hx hb dX4_readFee_5 (by decide) ?_
  refine lv_iadd hx hb dX4_readFee_6 ?_
  refine lv_topi (fun yn2 eyn2 => ?_)
  obtain rfl : yn2 = (nI (ti + 1)) := eyn2.trans (nI_add ti 1)
  obtain ⟨hPc, hDc, hFc⟩ := PDq.cut (wc := [(oX4 r0 r1 p0 (nI ti) (fk ti) (ft ti) (fv ti) inb iek iep), (oX5 r1 k1 k2 k3 (nI ct)), (k1, .inl (cA 0, 701, .inl fk)), (k2, .inl (cA 0, 701, .inl ft)), (k3, .inl (cA 1, 701, .inr (.inl fv)))]) hP hD hS hA [0, 1, 2, 3, 4] (by decide) rfl
  refine va_callv (va_runV (As := [.int (nI (ti + 1))]) (rest := []) ⟨hx, hb, hml, hown, hts⟩ (x_lookAt l D cA sa r0 p0 (ti + 1) (nI ti) (fk ti) (ft ti) inb iek iep (fv ti) r1 k1 k2 k3 ct fk ft fv s.heap.size hct hn1.1) (cwV 1 hts gX4_readFee_X4_lookAt rfl rfl rfl (by decide +kernel) ⟨(Nat.le_of_ble_eq_true rfl), (Nat.le_of_ble_eq_true rfl)⟩) ⟨Wd.blind, va_recv hK hPc (ci := 8) (q0 := 0) rfl rfl, fun U hU hW => ⟨rfl, Wd.call hPc hDc hK hC hZ hS hFc U hU hW⟩⟩ rfl rfl hl.1 rfl (lv_room (Nat.le_of_ble_eq_true rfl)) dX4_readFee_7 ⟨(Nat.le_of_ble_eq_true rfl), (Nat.le_of_ble_eq_true rfl)⟩) hS (fun q _ h => hFc q h) hFc (fun u t H1 locs ht hvm hw hB hz1 hk1 hS => ?_)
  obtain ⟨hP1, hD1⟩ := hB
  rw [ht] at hP1
  obtain ⟨hP, hD⟩ := PDq.join (w := [(oX3 p0 pr pb pe pg p1 (nI nd) p2 p3 p4 p5 (nI cn) p6 (nI pq) p7 p8 p9 (nI sc)), (oX4 r0 r1 p0 (nI (ti + 1)) (fk (ti + 1)) (ft (ti + 1)) (fv (ti + 1)) inb iek iep), (oX5 r1 k1 k2 k3 (nI ct)), (k1, .inl (cA 0, 701, .inl fk)), (k2, .inl (cA 0, 701, .inl ft)), (k3, .inl (cA 1, 701, .inr (.inl fv)))]) 1 hP hD [0, 1, 2, 3, 4] [5] rfl rfl (by decide) (by decide) hk1 hFc hP1 hD1 rfl
  generalize H1 = H at hP hS ⊢
  refine lv_aload_n hx hb dX4_readFee_10 rfl (lv_at hl 0 rfl) ?_
  refine lv_iconst (v := 0) hx hb dX4_readFee_11 (by decide) ?_
  refine lv_sipush (v := 2000) hx hb dX4_readFee_12 (by decide) ?_
  obtain ⟨hPc, hDc, hFc⟩ := PDq.cut (wc := [(oX4 r0 r1 p0 (nI (ti + 1)) (fk (ti + 1)) (ft (ti + 1)) (fv (ti + 1)) inb iek iep), (oX5 r1 k1 k2 k3 (nI ct)), (k1, .inl (cA 0, 701, .inl fk)), (k2, .inl (cA 0, 701, .inl ft)), (k3, .inl (cA 1, 701, .inr (.inl fv)))]) hP hD hS hA [1, 2, 3, 4, 5] (by decide) rfl
  refine va_calli (va_runV (As := [.int 0, .int 2000]) (rest := []) ⟨hx, hb, hml, hown, hts⟩ (x_takeNumber l D cA sa r0 p0 (ti + 1) ln inb iek iep r1 k1 k2 k3 ct fk ft fv fb gP gR 0 2000 H.size hct hln hn1.1 hTX (by omega) (by omega)) (cwV 2 hts gX4_readFee_X4_takeNumber rfl rfl rfl (by decide +kernel) ⟨(Nat.le_of_ble_eq_true rfl), (Nat.le_of_ble_eq_true rfl)⟩) ⟨Wd.blind, va_recv hK hPc (ci := 8) (q0 := 0) rfl rfl, fun U hU hW => ⟨rfl, Wd.call hPc hDc hK hC hZ hS hFc U hU hW⟩⟩ rfl rfl hl.1 rfl (lv_room (Nat.le_of_ble_eq_true rfl)) dX4_readFee_15 ⟨(Nat.le_of_ble_eq_true rfl), (Nat.le_of_ble_eq_true rfl)⟩) hS (fun q _ h => hFc q h) hFc (fun rn3 u t H1 locs ht hvm hw hB hz1 hk1 hS => ?_)
  obtain ⟨qn4, zn5, zn6, zn7, hn8, hn9, hn10, hn11, hn12, hn13, hn14, hn15, hn16, hn17, hn18, hP1, hD1⟩ := hB
  rw [ht] at hP1
  obtain ⟨hP, hD⟩ := PDq.join (w := [(oX3 p0 pr pb pe pg p1 (nI nd) p2 p3 p4 p5 (nI cn) p6 (nI pq) p7 p8 p9 (nI sc)), (oX4 r0 r1 p0 (nI qn4) (fk qn4) (ft qn4) (fv qn4) zn5 zn6 zn7), (oX5 r1 k1 k2 k3 (nI ct)), (k1, .inl (cA 0, 701, .inl fk)), (k2, .inl (cA 0, 701, .inl ft)), (k3, .inl (cA 1, 701, .inr (.inl fv)))]) 1 hP hD [1, 2, 3, 4, 5] [0] rfl rfl (by decide) (by decide) hk1 hFc hP1 hD1 rfl
  generalize H1 = H at hP hS ⊢
  rcases hw.2 with hr9 | hr9
  · skip
    have hn17 := hn17 (hw.1.trans hr9)
    have hn18 := hn18 (hw.1.trans hr9)
    subst hr9
    refine lv_if_ne (tgt := 23) hx hb dX4_readFee_18 (by decide) (fun c9 => absurd c9 (by decide)) (fun c19 => ?_)
    refine lv_iconst (v := 0) hx hb dX4_readFee_21 (by decide) ?_
    obtain ⟨hP9, hD9⟩ := PDq.sub (ws' := [(oX4 r0 r1 p0 (nI qn4) (fk qn4) (ft qn4) (fv qn4) zn5 zn6 zn7), (oX5 r1 k1 k2 k3 (nI ct)), (k1, .inl (cA 0, 701, .inl fk)), (k2, .inl (cA 0, 701, .inl ft)), (k3, .inl (cA 1, 701, .inr (.inl fv))), (oX3 p0 pr pb pe pg p1 (nI nd) p2 p3 p4 p5 (nI cn) p6 (nI pq) p7 p8 p9 (nI sc))]) hP hD [1, 2, 3, 4, 5, 0] (by decide) rfl
    refine W.widen (k := 0) (n := 0) (Nat.le_of_ble_eq_true rfl) (Nat.le_of_ble_eq_true rfl) ?_
    exact (W.zret (v := 0) hx hb hr (by first | rfl | decide) (fun t ht hW => ⟨⟨0, 0, rfl, ⟨rfl, by decide⟩, qn4, zn5, zn6, zn7, pe, hn8, hn9, (fun h9 => absurd h9 (by decide)), (fun h9 => absurd h9 (by decide)), (fun h9 => absurd h9 (by decide)), (fun h9 => absurd h9 (by decide)), (fun h9 => absurd h9 (by decide)), (fun h9 => absurd h9 (by decide)), (fun _ => (Or.inl (S_feeEx hk hn17 hn18))), by rw [ht]; exact hP9, hD9⟩, hS.F ht⟩) hS.2.2 dX4_readFee_22)
  · skip
    have hn11 := hn11 (hw.1.trans hr9)
    subst hn11
    obtain ⟨hP, hD⟩ : PDq D A [(oX3 p0 pr pb pe pg p1 (nI nd) p2 p3 p4 p5 (nI cn) p6 (nI pq) p7 p8 p9 (nI sc)), (oX4 r0 r1 p0 (nI ((ti + 1) + 1)) (fk ((ti + 1) + 1)) (ft ((ti + 1) + 1)) (fv ((ti + 1) + 1)) zn5 zn6 zn7), (oX5 r1 k1 k2 k3 (nI ct)), (k1, .inl (cA 0, 701, .inl fk)), (k2, .inl (cA 0, 701, .inl ft)), (k3, .inl (cA 1, 701, .inr (.inl fv)))] H := ⟨hP, hD⟩
    have hn12 := hn12 (hw.1.trans hr9)
    obtain rfl : iek = zn6 := hn12.symm
    obtain ⟨hP, hD⟩ : PDq D A [(oX3 p0 pr pb pe pg p1 (nI nd) p2 p3 p4 p5 (nI cn) p6 (nI pq) p7 p8 p9 (nI sc)), (oX4 r0 r1 p0 (nI ((ti + 1) + 1)) (fk ((ti + 1) + 1)) (ft ((ti + 1) + 1)) (fv ((ti + 1) + 1)) zn5 iek zn7), (oX5 r1 k1 k2 k3 (nI ct)), (k1, .inl (cA 0, 701, .inl fk)), (k2, .inl (cA 0, 701, .inl ft)), (k3, .inl (cA 1, 701, .inr (.inl fv)))] H := ⟨hP, hD⟩
    have hn13 := hn13 (hw.1.trans hr9)
    obtain rfl : iep = zn7 := hn13.symm
    obtain ⟨hP, hD⟩ : PDq D A [(oX3 p0 pr pb pe pg p1 (nI nd) p2 p3 p4 p5 (nI cn) p6 (nI pq) p7 p8 p9 (nI sc)), (oX4 r0 r1 p0 (nI ((ti + 1) + 1)) (fk ((ti + 1) + 1)) (ft ((ti + 1) + 1)) (fv ((ti + 1) + 1)) zn5 iek iep), (oX5 r1 k1 k2 k3 (nI ct)), (k1, .inl (cA 0, 701, .inl fk)), (k2, .inl (cA 0, 701, .inl ft)), (k3, .inl (cA 1, 701, .inr (.inl fv)))] H := ⟨hP, hD⟩
    have hn14 := hn14 (hw.1.trans hr9)
    have hn15 := hn15 (hw.1.trans hr9)
    have hn16 := hn16 (hw.1.trans hr9)
    subst hn16
    obtain ⟨hP, hD⟩ : PDq D A [(oX3 p0 pr pb pe pg p1 (nI nd) p2 p3 p4 p5 (nI cn) p6 (nI pq) p7 p8 p9 (nI sc)), (oX4 r0 r1 p0 (nI ((ti + 1) + 1)) (fk ((ti + 1) + 1)) (ft ((ti + 1) + 1)) (fv ((ti + 1) + 1)) ((fv (ti + 1)).toInt32) iek iep), (oX5 r1 k1 k2 k3 (nI ct)), (k1, .inl (cA 0, 701, .inl fk)), (k2, .inl (cA 0, 701, .inl ft)), (k3, .inl (cA 1, 701, .inr (.inl fv)))] H := ⟨hP, hD⟩
    subst hr9
    refine lv_if_ne (tgt := 23) hx hb dX4_readFee_18 (by decide) (fun c20 => ?_) (fun c9 => absurd c9 (by decide))
    refine lv_aload_n hx hb dX4_readFee_23 rfl (lv_at hl 0 rfl) ?_
    refine va_get (D := D) (ci := 8) (v := .ref p0) (C := RX4) (T := TX4) (N := 9) hx hb hts inX4 hown hK hP 1 rfl rfl 1 (by decide) (hts (.fieldLink RX4 25 "EscrowDesk$Reader" "plan" "LEscrowDesk$Plan;") (by decide +kernel)) (fun _ h9 => h9) rfl dX4_readFee_24 ?_
    refine lv_aload_n hx hb dX4_readFee_27 rfl (lv_at hl 0 rfl) ?_
    refine va_get (D := D) (ci := 8) (v := .int ((fv (ti + 1)).toInt32)) (C := RX4) (T := TX4) (N := 9) hx hb hts inX4 hown hK hP 1 rfl rfl 6 (by decide) (hts (.fieldLink RX4 91 "EscrowDesk$Reader" "number" "I") (by decide +kernel)) (fun _ h9 => h9) rfl dX4_readFee_28 ?_
    refine va_putN (D := D) (ci := 7) (v := .int ((fv (ti + 1)).toInt32)) (ty := .int) (C := RX3) (T := TX3) (N := 17) hx hb hts inX3 tyX3 tyX3_ok nmX3 hown hK hP hD hS 0 rfl rfl 2 (by decide) (hC.f (A := _) (a := RX4) (i := 111) (b := "EscrowDesk$Plan") (n := "fee") (d := "I") (x := "EscrowDesk") (by decide +kernel)) (fun _ h9 => h9) rfl (by decide +kernel) rfl rfl (Nat.le_of_ble_eq_true rfl) dX4_readFee_31 (fun H locs hP hD hS => ?_)
    obtain ⟨hP, hD⟩ : PDq D A [(oX3 p0 pr pb ((fv (ti + 1)).toInt32) pg p1 (nI nd) p2 p3 p4 p5 (nI cn) p6 (nI pq) p7 p8 p9 (nI sc)), (oX4 r0 r1 p0 (nI ((ti + 1) + 1)) (fk ((ti + 1) + 1)) (ft ((ti + 1) + 1)) (fv ((ti + 1) + 1)) ((fv (ti + 1)).toInt32) iek iep), (oX5 r1 k1 k2 k3 (nI ct)), (k1, .inl (cA 0, 701, .inl fk)), (k2, .inl (cA 0, 701, .inl ft)), (k3, .inl (cA 1, 701, .inr (.inl fv)))] H := ⟨hP, hD⟩
    refine lv_aload_n hx hb dX4_readFee_34 rfl (lv_at hl 0 rfl) ?_
    refine lv_bipush (v := 7) hx hb dX4_readFee_35 (by decide) ?_
    obtain ⟨hPc, hDc, hFc⟩ := PDq.cut (wc := [(oX4 r0 r1 p0 (nI ((ti + 1) + 1)) (fk ((ti + 1) + 1)) (ft ((ti + 1) + 1)) (fv ((ti + 1) + 1)) ((fv (ti + 1)).toInt32) iek iep), (oX5 r1 k1 k2 k3 (nI ct)), (k1, .inl (cA 0, 701, .inl fk)), (k2, .inl (cA 0, 701, .inl ft)), (k3, .inl (cA 1, 701, .inr (.inl fv)))]) hP hD hS hA [1, 2, 3, 4, 5] (by decide) rfl
    refine va_calli (va_runV (As := [.int 7]) (rest := []) ⟨hx, hb, hml, hown, hts⟩ (x_take l D cA sa r0 p0 ((ti + 1) + 1) ln ((fv (ti + 1)).toInt32) iek iep r1 k1 k2 k3 ct fk ft fv fb gP gR 7 H.size hct hln hn8 hTX (by decide)) (cwV 1 hts gX4_readFee_X4_take rfl rfl rfl (by decide +kernel) ⟨(Nat.le_of_ble_eq_true rfl), (Nat.le_of_ble_eq_true rfl)⟩) ⟨Wd.blind, va_recv hK hPc (ci := 8) (q0 := 0) rfl rfl, fun U hU hW => ⟨rfl, Wd.call hPc hDc hK hC hZ hS hFc U hU hW⟩⟩ rfl rfl hl.1 rfl (lv_room (Nat.le_of_ble_eq_true rfl)) dX4_readFee_37 ⟨(Nat.le_of_ble_eq_true rfl), (Nat.le_of_ble_eq_true rfl)⟩) hS (fun q _ h => hFc q h) hFc (fun rn21 u t H1 locs ht hvm hw hB hz1 hk1 hS => ?_)
    obtain ⟨qn22, zn23, zn24, hn25, hn26, hn27, hn28, hn29, hn30, hn31, hn32, hn33, hn34, hn35, hP1, hD1⟩ := hB
    rw [ht] at hP1
    obtain ⟨hP, hD⟩ := PDq.join (w := [(oX3 p0 pr pb ((fv (ti + 1)).toInt32) pg p1 (nI nd) p2 p3 p4 p5 (nI cn) p6 (nI pq) p7 p8 p9 (nI sc)), (oX4 r0 r1 p0 (nI qn22) (fk qn22) (ft qn22) (fv qn22) ((fv (ti + 1)).toInt32) zn23 zn24), (oX5 r1 k1 k2 k3 (nI ct)), (k1, .inl (cA 0, 701, .inl fk)), (k2, .inl (cA 0, 701, .inl ft)), (k3, .inl (cA 1, 701, .inr (.inl fv)))]) 1 hP hD [1, 2, 3, 4, 5] [0] rfl rfl (by decide) (by decide) hk1 hFc hP1 hD1 rfl
    generalize H1 = H at hP hS ⊢
    rcases hw.2 with hr9 | hr9
    · skip
      have hn33 := hn33 (hw.1.trans hr9)
      have hn34 := hn34 (hw.1.trans hr9)
      have hn35 := hn35 (hw.1.trans hr9)
      subst hr9
      obtain ⟨hP9, hD9⟩ := PDq.sub (ws' := [(oX4 r0 r1 p0 (nI qn22) (fk qn22) (ft qn22) (fv qn22) ((fv (ti + 1)).toInt32) zn23 zn24), (oX5 r1 k1 k2 k3 (nI ct)), (k1, .inl (cA 0, 701, .inl fk)), (k2, .inl (cA 0, 701, .inl ft)), (k3, .inl (cA 1, 701, .inr (.inl fv))), (oX3 p0 pr pb ((fv (ti + 1)).toInt32) pg p1 (nI nd) p2 p3 p4 p5 (nI cn) p6 (nI pq) p7 p8 p9 (nI sc))]) hP hD [1, 2, 3, 4, 5, 0] (by decide) rfl
      refine W.widen (k := 0) (n := 0) (Nat.le_of_ble_eq_true rfl) (Nat.le_of_ble_eq_true rfl) ?_
      exact (W.zret (v := 0) hx hb hr (by first | rfl | decide) (fun t ht hW => ⟨⟨0, 0, rfl, ⟨rfl, by decide⟩, qn22, ((fv (ti + 1)).toInt32), zn23, zn24, ((fv (ti + 1)).toInt32), hn25, hn26, (fun h9 => absurd h9 (by decide)), (fun h9 => absurd h9 (by decide)), (fun h9 => absurd h9 (by decide)), (fun h9 => absurd h9 (by decide)), (fun h9 => absurd h9 (by decide)), (fun h9 => absurd h9 (by decide)), (fun _ => (Or.inr ⟨_, _, _, _, S_fee hk hn15, hn35, hn33, hn34⟩)), by rw [ht]; exact hP9, hD9⟩, hS.F ht⟩) hS.2.2 dX4_readFee_40)
    · skip
      have hn28 := hn28 (hw.1.trans hr9)
      subst hn28
      obtain ⟨hP, hD⟩ : PDq D A [(oX3 p0 pr pb ((fv (ti + 1)).toInt32) pg p1 (nI nd) p2 p3 p4 p5 (nI cn) p6 (nI pq) p7 p8 p9 (nI sc)), (oX4 r0 r1 p0 (nI (((ti + 1) + 1) + 1)) (fk (((ti + 1) + 1) + 1)) (ft (((ti + 1) + 1) + 1)) (fv (((ti + 1) + 1) + 1)) ((fv (ti + 1)).toInt32) zn23 zn24), (oX5 r1 k1 k2 k3 (nI ct)), (k1, .inl (cA 0, 701, .inl fk)), (k2, .inl (cA 0, 701, .inl ft)), (k3, .inl (cA 1, 701, .inr (.inl fv)))] H := ⟨hP, hD⟩
      have hn29 := hn29 (hw.1.trans hr9)
      obtain rfl : iek = zn23 := hn29.symm
      obtain ⟨hP, hD⟩ : PDq D A [(oX3 p0 pr pb ((fv (ti + 1)).toInt32) pg p1 (nI nd) p2 p3 p4 p5 (nI cn) p6 (nI pq) p7 p8 p9 (nI sc)), (oX4 r0 r1 p0 (nI (((ti + 1) + 1) + 1)) (fk (((ti + 1) + 1) + 1)) (ft (((ti + 1) + 1) + 1)) (fv (((ti + 1) + 1) + 1)) ((fv (ti + 1)).toInt32) iek zn24), (oX5 r1 k1 k2 k3 (nI ct)), (k1, .inl (cA 0, 701, .inl fk)), (k2, .inl (cA 0, 701, .inl ft)), (k3, .inl (cA 1, 701, .inr (.inl fv)))] H := ⟨hP, hD⟩
      have hn30 := hn30 (hw.1.trans hr9)
      obtain rfl : iep = zn24 := hn30.symm
      obtain ⟨hP, hD⟩ : PDq D A [(oX3 p0 pr pb ((fv (ti + 1)).toInt32) pg p1 (nI nd) p2 p3 p4 p5 (nI cn) p6 (nI pq) p7 p8 p9 (nI sc)), (oX4 r0 r1 p0 (nI (((ti + 1) + 1) + 1)) (fk (((ti + 1) + 1) + 1)) (ft (((ti + 1) + 1) + 1)) (fv (((ti + 1) + 1) + 1)) ((fv (ti + 1)).toInt32) iek iep), (oX5 r1 k1 k2 k3 (nI ct)), (k1, .inl (cA 0, 701, .inl fk)), (k2, .inl (cA 0, 701, .inl ft)), (k3, .inl (cA 1, 701, .inr (.inl fv)))] H := ⟨hP, hD⟩
      have hn31 := hn31 (hw.1.trans hr9)
      have hn32 := hn32 (hw.1.trans hr9)
      subst hr9
      obtain ⟨hP9, hD9⟩ := PDq.sub (ws' := [(oX4 r0 r1 p0 (nI (((ti + 1) + 1) + 1)) (fk (((ti + 1) + 1) + 1)) (ft (((ti + 1) + 1) + 1)) (fv (((ti + 1) + 1) + 1)) ((fv (ti + 1)).toInt32) iek iep), (oX5 r1 k1 k2 k3 (nI ct)), (k1, .inl (cA 0, 701, .inl fk)), (k2, .inl (cA 0, 701, .inl ft)), (k3, .inl (cA 1, 701, .inr (.inl fv))), (oX3 p0 pr pb ((fv (ti + 1)).toInt32) pg p1 (nI nd) p2 p3 p4 p5 (nI cn) p6 (nI pq) p7 p8 p9 (nI sc))]) hP hD [1, 2, 3, 4, 5, 0] (by decide) rfl
      refine W.widen (k := 0) (n := 0) (Nat.le_of_ble_eq_true rfl) (Nat.le_of_ble_eq_true rfl) ?_
      exact (W.zret (v := 1) hx hb hr (by first | rfl | decide) (fun t ht hW => ⟨⟨1, 1, rfl, ⟨rfl, by decide⟩, (((ti + 1) + 1) + 1), ((fv (ti + 1)).toInt32), iek, iep, ((fv (ti + 1)).toInt32), hn25, hn26, (fun _ => rfl), (fun _ => rfl), (fun _ => (by omega)), (fun _ => (by omega)), (fun _ => ⟨_, S_fee hk hn15, hn32, rfl⟩), (fun _ => (TL9.fee hTL hk (by omega))), (fun h9 => absurd h9 (by decide)), by rw [ht]; exact hP9, hD9⟩, hS.F ht⟩) hS.2.2 dX4_readFee_40)

set_option maxHeartbeats 4000000 in
set_option maxRecDepth 100000 in
/-- readGrace -/
theorem x_readGrace (l : Launch) (D : va_G) (cA : Nat → ClassId) (sa : Nat → Nat) (r0 : Nat) (p0 : Nat) (ti : Nat) (ln : Nat) (inb : Int32) (iek : Int32) (iep : Int32) (r1 : Nat) (k1 : Nat) (k2 : Nat) (k3 : Nat) (ct : Nat) (fk : Nat → Int32) (ft : Nat → Int32) (fv : Nat → Int64) (fb : Nat → Int32) (gP : Nat → Nat) (gR : Nat → Nat) (p1 : Nat) (p2 : Nat) (p3 : Nat) (p4 : Nat) (p5 : Nat) (p6 : Nat) (p7 : Nat) (p8 : Nat) (p9 : Nat) (cn : Nat) (pq : Nat) (nd : Nat) (sc : Nat) (pr : Int32) (pb : Int32) (pe : Int32) (pg : Int32) (ml : List Int64) (pl : List Int64) (fde : Nat → Int32) (fam : Nat → Int32) (fpi : Nat → Int32) (fen : Nat → Int32) (fst : Nat → Int32) (fop : Nat → Int32) (sz : Nat) (hct : ct ≤ 701) (hln : ln ≤ 700) (hti : ti < ct) (hTX : TX fb ln ct gP gR ft fv fk) (hsl : 2 * sc ≤ gP ti) (hTL : TL9 fk fv ml pl fde fam fpi fen fst fop pr pb pg nd cn sc ti) (hk : fk ti = 10) : Met l yX4_readGrace wsX4_readGrace ({ frames := 2, cells := 0, slots := 0, locals := 43 }) (va_Pc [.ref r0] (Wd D cA sa [(oX4 r0 r1 p0 (nI ti) (fk ti) (ft ti) (fv ti) inb iek iep), (oX5 r1 k1 k2 k3 (nI ct)), (k1, .inl (cA 0, 701, .inl fk)), (k2, .inl (cA 0, 701, .inl ft)), (k3, .inl (cA 1, 701, .inr (.inl fv))), (oX3 p0 pr pb pe pg p1 (nI nd) p2 p3 p4 p5 (nI cn) p6 (nI pq) p7 p8 p9 (nI sc))] sz)) (va_Qi (fun (r : Int32) (u9 : Int32) => u9 = r ∧ (r = 0 ∨ r = 1)) (fun (u9 : Int32) t => ∃ tj : Nat, ∃ znr : Int32, ∃ zek : Int32, ∃ zep : Int32, ∃ zga : Int32, tj < ct ∧ gP tj ≤ ln ∧ (u9 = 1 → zek = iek) ∧ (u9 = 1 → zep = iep) ∧ (u9 = 1 → ti + 2 ≤ tj) ∧ (u9 = 1 → 2 * sc ≤ gP tj) ∧ (u9 = 1 → ST9 fk ft fv ti nd ml pl tj nd ml pl) ∧ (u9 = 1 → TL9 fk fv ml pl fde fam fpi fen fst fop pr pb zga nd cn sc tj) ∧ (u9 = 0 → SE9 fk ft fv ti nd ml pl zek zep) ∧ Wq D (va_A [(oX4 r0 r1 p0 (nI ti) (fk ti) (ft ti) (fv ti) inb iek iep), (oX5 r1 k1 k2 k3 (nI ct)), (k1, .inl (cA 0, 701, .inl fk)), (k2, .inl (cA 0, 701, .inl ft)), (k3, .inl (cA 1, 701, .inr (.inl fv))), (oX3 p0 pr pb pe pg p1 (nI nd) p2 p3 p4 p5 (nI cn) p6 (nI pq) p7 p8 p9 (nI sc))] sz) [(oX4 r0 r1 p0 (nI tj) (fk tj) (ft tj) (fv tj) znr zek zep), (oX5 r1 k1 k2 k3 (nI ct)), (k1, .inl (cA 0, 701, .inl fk)), (k2, .inl (cA 0, 701, .inl ft)), (k3, .inl (cA 1, 701, .inr (.inl fv))), (oX3 p0 pr pb pe zga p1 (nI nd) p2 p3 p4 p5 (nI cn) p6 (nI pq) p7 p8 p9 (nI sc))] t) (va_A [(oX4 r0 r1 p0 (nI ti) (fk ti) (ft ti) (fv ti) inb iek iep), (oX5 r1 k1 k2 k3 (nI ct)), (k1, .inl (cA 0, 701, .inl fk)), (k2, .inl (cA 0, 701, .inl ft)), (k3, .inl (cA 1, 701, .inr (.inl fv))), (oX3 p0 pr pb pe pg p1 (nI nd) p2 p3 p4 p5 (nI cn) p6 (nI pq) p7 p8 p9 (nI sc))] sz)) 0 0 (va_A [(oX4 r0 r1 p0 (nI ti) (fk ti) (ft ti) (fv ti) inb iek iep), (oX5 r1 k1 k2 k3 (nI ct)), (k1, .inl (cA 0, 701, .inl fk)), (k2, .inl (cA 0, 701, .inl ft)), (k3, .inl (cA 1, 701, .inr (.inl fv))), (oX3 p0 pr pb pe pg p1 (nI nd) p2 p3 p4 p5 (nI cn) p6 (nI pq) p7 p8 p9 (nI sc))] sz) := by
  refine Met.ofW (cc := cX4_readGrace) (maxL := 1) (ret := (some .boolean)) (by decide) rfl ?_
  intro p e s m args below meth c s₁ B hml hv
  obtain ⟨rfl, hsz, hP, hK, hD0, hC, hZ⟩ := hv
  have hx := B.exec
  have hb := B.bytes
  have hr := B.returns
  have hts := atoms_spec (ws := wsX4_readGrace) B.pre
  have hown : s.vm.findClass RX4 = some m.cls := findClass_of_methodNamed B.named
  have hlocks := B.notSynchronized
  subst hsz
  have hD := hD0.self (sz := s.heap.size)
  generalize hAe : va_A [(oX4 r0 r1 p0 (nI ti) (fk ti) (ft ti) (fv ti) inb iek iep), (oX5 r1 k1 k2 k3 (nI ct)), (k1, .inl (cA 0, 701, .inl fk)), (k2, .inl (cA 0, 701, .inl ft)), (k3, .inl (cA 1, 701, .inr (.inl fv))), (oX3 p0 pr pb pe pg p1 (nI nd) p2 p3 p4 p5 (nI cn) p6 (nI pq) p7 p8 p9 (nI sc))] s.heap.size = A at hD hZ ⊢
  have hA : ∀ q : Nat, s.heap.size ≤ q → A q := fun q h => by rw [← hAe]; exact Or.inr h
  have hS : va_S A s.heap s.heap [] := va_S.rf
  have hP : va_P D vwCl [(oX4 r0 r1 p0 (nI ti) (fk ti) (ft ti) (fv ti) inb iek iep), (oX5 r1 k1 k2 k3 (nI ct)), (k1, .inl (cA 0, 701, .inl fk)), (k2, .inl (cA 0, 701, .inl ft)), (k3, .inl (cA 1, 701, .inr (.inl fv))), (oX3 p0 pr pb pe pg p1 (nI nd) p2 p3 p4 p5 (nI cn) p6 (nI pq) p7 p8 p9 (nI sc))] s.heap := hP
  have hl := lv_entry ([.ref r0]) (n := 1) (Nat.le_of_ble_eq_true rfl)
  rw [lg_entry_eq]
  generalize (lg_sl ([.ref r0]) ++ List.replicate (1 - (lg_sl ([.ref r0])).length) Slot.unset).toArray = ls at hl ⊢
  have hl : lv_has ls 1 [(0, .ref r0)] := hl
  have inX3 : ∀ w ∈ u_ws RX3 TX3 17, w ∈ wsX4_readGrace := by decide +kernel
  have inX4 : ∀ w ∈ u_ws RX4 TX4 9, w ∈ wsX4_readGrace := by decide +kernel
  have hle9 := TX.le hTX hti
  have hn1 := TX.go2 hTX hti (by rw [hk]; decide)
  refine lv_aload_n hx hb dX4_readGrace_0 rfl (lv_at hl 0 rfl) ?_
  refine lv_aload_n hx hb dX4_readGrace_1 rfl (lv_at hl 0 rfl) ?_
  refine va_get (D := D) (ci := 8) (v := .int (nI ti)) (C := RX4) (T := TX4) (N := 9) hx hb hts inX4 hown hK hP 0 rfl rfl 2 (by decide) (hts (.fieldLink RX4 70 "EscrowDesk$Reader" "token" "I") (by decide +kernel)) (fun _ h9 => h9) rfl dX4_readGrace_2 ?_
  refine lv_iconst (v := 1) hx hb dX4_readGrace_5 (by decide) ?_
  refine lv_iadd hx hb dX4_readGrace_6 ?_
  refine lv_topi (fun yn2 eyn2 => ?_)
  obtain rfl : yn2 = (nI (ti + 1)) := eyn2.trans (nI_add ti 1)
  obtain ⟨hPc, hDc, hFc⟩ := PDq.cut (wc := [(oX4 r0 r1 p0 (nI ti) (fk ti) (ft ti) (fv ti) inb iek iep), (oX5 r1 k1 k2 k3 (nI ct)), (k1, .inl (cA 0, 701, .inl fk)), (k2, .inl (cA 0, 701, .inl ft)), (k3, .inl (cA 1, 701, .inr (.inl fv)))]) hP hD hS hA [0, 1, 2, 3, 4] (by decide) rfl
  refine va_callv (va_runV (As := [.int (nI (ti + 1))]) (rest := []) ⟨hx, hb, hml, hown, hts⟩ (x_lookAt l D cA sa r0 p0 (ti + 1) (nI ti) (fk ti) (ft ti) inb iek iep (fv ti) r1 k1 k2 k3 ct fk ft fv s.heap.size hct hn1.1) (cwV 1 hts gX4_readGrace_X4_lookAt rfl rfl rfl (by decide +kernel) ⟨(Nat.le_of_ble_eq_true rfl), (Nat.le_of_ble_eq_true rfl)⟩) ⟨Wd.blind, va_recv hK hPc (ci := 8) (q0 := 0) rfl rfl, fun U hU hW => ⟨rfl, Wd.call hPc hDc hK hC hZ hS hFc U hU hW⟩⟩ rfl rfl hl.1 rfl (lv_room (Nat.le_of_ble_eq_true rfl)) dX4_readGrace_7 ⟨(Nat.le_of_ble_eq_true rfl), (Nat.le_of_ble_eq_true rfl)⟩) hS (fun q _ h => hFc q h) hFc (fun u t H1 locs ht hvm hw hB hz1 hk1 hS => ?_)
  obtain ⟨hP1, hD1⟩ := hB
  rw [ht] at hP1
  obtain ⟨hP, hD⟩ := PDq.join (w := [(oX3 p0 pr pb pe pg p1 (nI nd) p2 p3 p4 p5 (nI cn) p6 (nI pq) p7 p8 p9 (nI sc)), (oX4 r0 r1 p0 (nI (ti + 1)) (fk (ti + 1)) (ft (ti + 1)) (fv (ti + 1)) inb iek iep), (oX5 r1 k1 k2 k3 (nI ct)), (k1, .inl (cA 0, 701, .inl fk)), (k2, .inl (cA 0, 701, .inl ft)), (k3, .inl (cA 1, 701, .inr (.inl fv)))]) 1 hP hD [0, 1, 2, 3, 4] [5] rfl rfl (by decide) (by decide) hk1 hFc hP1 hD1 rfl
  generalize H1 = H at hP hS ⊢
  refine lv_aload_n hx hb dX4_readGrace_10 rfl (lv_at hl 0 rfl) ?_
  refine lv_iconst (v := 0) hx hb dX4_readGrace_11 (by decide) ?_
  refine lv_bipush (v := 60) hx hb dX4_readGrace_12 (by decide) ?_
  obtain ⟨hPc, hDc, hFc⟩ := PDq.cut (wc := [(oX4 r0 r1 p0 (nI (ti + 1)) (fk (ti + 1)) (ft (ti + 1)) (fv (ti + 1)) inb iek iep), (oX5 r1 k1 k2 k3 (nI ct)), (k1, .inl (cA 0, 701, .inl fk)), (k2, .inl (cA 0, 701, .inl ft)), (k3, .inl (cA 1, 701, .inr (.inl fv)))]) hP hD hS hA [1, 2, 3, 4, 5] (by decide) rfl
  refine va_calli (va_runV (As := [.int 0, .int 60]) (rest := []) ⟨hx, hb, hml, hown, hts⟩ (x_takeNumber l D cA sa r0 p0 (ti + 1) ln inb iek iep r1 k1 k2 k3 ct fk ft fv fb gP gR 0 60 H.size hct hln hn1.1 hTX (by omega) (by omega)) (cwV 2 hts gX4_readGrace_X4_takeNumber rfl rfl rfl (by decide +kernel) ⟨(Nat.le_of_ble_eq_true rfl), (Nat.le_of_ble_eq_true rfl)⟩) ⟨Wd.blind, va_recv hK hPc (ci := 8) (q0 := 0) rfl rfl, fun U hU hW => ⟨rfl, Wd.call hPc hDc hK hC hZ hS hFc U hU hW⟩⟩ rfl rfl hl.1 rfl (lv_room (Nat.le_of_ble_eq_true rfl)) dX4_readGrace_14 ⟨(Nat.le_of_ble_eq_true rfl), (Nat.le_of_ble_eq_true rfl)⟩) hS (fun q _ h => hFc q h) hFc (fun rn3 u t H1 locs ht hvm hw hB hz1 hk1 hS => ?_)
  obtain ⟨qn4, zn5, zn6, zn7, hn8, hn9, hn10, hn11, hn12, hn13, hn14, hn15, hn16, hn17, hn18, hP1, hD1⟩ := hB
  rw [ht] at hP1
  obtain ⟨hP, hD⟩ := PDq.join (w := [(oX3 p0 pr pb pe pg p1 (nI nd) p2 p3 p4 p5 (nI cn) p6 (nI pq) p7 p8 p9 (nI sc)), (oX4 r0 r1 p0 (nI qn4) (fk qn4) (ft qn4) (fv qn4) zn5 zn6 zn7), (oX5 r1 k1 k2 k3 (nI ct)), (k1, .inl (cA 0, 701, .inl fk)), (k2, .inl (cA 0, 701, .inl ft)), (k3, .inl (cA 1, 701, .inr (.inl fv)))]) 1 hP hD [1, 2, 3, 4, 5] [0] rfl rfl (by decide) (by decide) hk1 hFc hP1 hD1 rfl
  generalize H1 = H at hP hS ⊢
  rcases hw.2 with hr9 | hr9
  · skip
    have hn17 := hn17 (hw.1.trans hr9)
    have hn18 := hn18 (hw.1.trans hr9)
    subst hr9
    refine lv_if_ne (tgt := 22) hx hb dX4_readGrace_17 (by decide) (fun c9 => absurd c9 (by decide)) (fun c19 => ?_)
    refine lv_iconst (v := 0) hx hb dX4_readGrace_20 (by decide) ?_
    obtain ⟨hP9, hD9⟩ := PDq.sub (ws' := [(oX4 r0 r1 p0 (nI qn4) (fk qn4) (ft qn4) (fv qn4) zn5 zn6 zn7), (oX5 r1 k1 k2 k3 (nI ct)), (k1, .inl (cA 0, 701, .inl fk)), (k2, .inl (cA 0, 701, .inl ft)), (k3, .inl (cA 1, 701, .inr (.inl fv))), (oX3 p0 pr pb pe pg p1 (nI nd) p2 p3 p4 p5 (nI cn) p6 (nI pq) p7 p8 p9 (nI sc))]) hP hD [1, 2, 3, 4, 5, 0] (by decide) rfl
    refine W.widen (k := 0) (n := 0) (Nat.le_of_ble_eq_true rfl) (Nat.le_of_ble_eq_true rfl) ?_
    exact (W.zret (v := 0) hx hb hr (by first | rfl | decide) (fun t ht hW => ⟨⟨0, 0, rfl, ⟨rfl, by decide⟩, qn4, zn5, zn6, zn7, pg, hn8, hn9, (fun h9 => absurd h9 (by decide)), (fun h9 => absurd h9 (by decide)), (fun h9 => absurd h9 (by decide)), (fun h9 => absurd h9 (by decide)), (fun h9 => absurd h9 (by decide)), (fun h9 => absurd h9 (by decide)), (fun _ => (Or.inl (S_graceEx hk hn17 hn18))), by rw [ht]; exact hP9, hD9⟩, hS.F ht⟩) hS.2.2 dX4_readGrace_21)
  · skip
    have hn11 := hn11 (hw.1.trans hr9)
    subst hn11
    obtain ⟨hP, hD⟩ : PDq D A [(oX3 p0 pr pb pe pg p1 (nI nd) p2 p3 p4 p5 (nI cn) p6 (nI pq) p7 p8 p9 (nI sc)), (oX4 r0 r1 p0 (nI ((ti + 1) + 1)) (fk ((ti + 1) + 1)) (ft ((ti + 1) + 1)) (fv ((ti + 1) + 1)) zn5 zn6 zn7), (oX5 r1 k1 k2 k3 (nI ct)), (k1, .inl (cA 0, 701, .inl fk)), (k2, .inl (cA 0, 701, .inl ft)), (k3, .inl (cA 1, 701, .inr (.inl fv)))] H := ⟨hP, hD⟩
    have hn12 := hn12 (hw.1.trans hr9)
    obtain rfl : iek = zn6 := hn12.symm
    obtain ⟨hP, hD⟩ : PDq D A [(oX3 p0 pr pb pe pg p1 (nI nd) p2 p3 p4 p5 (nI cn) p6 (nI pq) p7 p8 p9 (nI sc)), (oX4 r0 r1 p0 (nI ((ti + 1) + 1)) (fk ((ti + 1) + 1)) (ft ((ti + 1) + 1)) (fv ((ti + 1) + 1)) zn5 iek zn7), (oX5 r1 k1 k2 k3 (nI ct)), (k1, .inl (cA 0, 701, .inl fk)), (k2, .inl (cA 0, 701, .inl ft)), (k3, .inl (cA 1, 701, .inr (.inl fv)))] H := ⟨hP, hD⟩
    have hn13 := hn13 (hw.1.trans hr9)
    obtain rfl : iep = zn7 := hn13.symm
    obtain ⟨hP, hD⟩ : PDq D A [(oX3 p0 pr pb pe pg p1 (nI nd) p2 p3 p4 p5 (nI cn) p6 (nI pq) p7 p8 p9 (nI sc)), (oX4 r0 r1 p0 (nI ((ti + 1) + 1)) (fk ((ti + 1) + 1)) (ft ((ti + 1) + 1)) (fv ((ti + 1) + 1)) zn5 iek iep), (oX5 r1 k1 k2 k3 (nI ct)), (k1, .inl (cA 0, 701, .inl fk)), (k2, .inl (cA 0, 701, .inl ft)), (k3, .inl (cA 1, 701, .inr (.inl fv)))] H := ⟨hP, hD⟩
    have hn14 := hn14 (hw.1.trans hr9)
    have hn15 := hn15 (hw.1.trans hr9)
    have hn16 := hn16 (hw.1.trans hr9)
    subst hn16
    obtain ⟨hP, hD⟩ : PDq D A [(oX3 p0 pr pb pe pg p1 (nI nd) p2 p3 p4 p5 (nI cn) p6 (nI pq) p7 p8 p9 (nI sc)), (oX4 r0 r1 p0 (nI ((ti + 1) + 1)) (fk ((ti + 1) + 1)) (ft ((ti + 1) + 1)) (fv ((ti + 1) + 1)) ((fv (ti + 1)).toInt32) iek iep), (oX5 r1 k1 k2 k3 (nI ct)), (k1, .inl (cA 0, 701, .inl fk)), (k2, .inl (cA 0, 701, .inl ft)), (k3, .inl (cA 1, 701, .inr (.inl fv)))] H := ⟨hP, hD⟩
    subst hr9
    refine lv_if_ne (tgt := 22) hx hb dX4_readGrace_17 (by decide) (fun c20 => ?_) (fun c9 => absurd c9 (by decide))
    refine lv_aload_n hx hb dX4_readGrace_22 rfl (lv_at hl 0 rfl) ?_
    refine va_get (D := D) (ci := 8) (v := .ref p0) (C := RX4) (T := TX4) (N := 9) hx hb hts inX4 hown hK hP 1 rfl rfl 1 (by decide) (hts (.fieldLink RX4 25 "EscrowDesk$Reader" "plan" "LEscrowDesk$Plan;") (by decide +kernel)) (fun _ h9 => h9) rfl dX4_readGrace_23 ?_
    refine lv_aload_n hx hb dX4_readGrace_26 rfl (lv_at hl 0 rfl) ?_
    refine va_get (D := D) (ci := 8) (v := .int ((fv (ti + 1)).toInt32)) (C := RX4) (T := TX4) (N := 9) hx hb hts inX4 hown hK hP 1 rfl rfl 6 (by decide) (hts (.fieldLink RX4 91 "EscrowDesk$Reader" "number" "I") (by decide +kernel)) (fun _ h9 => h9) rfl dX4_readGrace_27 ?_
    refine va_putN (D := D) (ci := 7) (v := .int ((fv (ti + 1)).toInt32)) (ty := .int) (C := RX3) (T := TX3) (N := 17) hx hb hts inX3 tyX3 tyX3_ok nmX3 hown hK hP hD hS 0 rfl rfl 3 (by decide) (hC.f (A := _) (a := RX4) (i := 114) (b := "EscrowDesk$Plan") (n := "grace") (d := "I") (x := "EscrowDesk") (by decide +kernel)) (fun _ h9 => h9) rfl (by decide +kernel) rfl rfl (Nat.le_of_ble_eq_true rfl) dX4_readGrace_30 (fun H locs hP hD hS => ?_)
    obtain ⟨hP, hD⟩ : PDq D A [(oX3 p0 pr pb pe ((fv (ti + 1)).toInt32) p1 (nI nd) p2 p3 p4 p5 (nI cn) p6 (nI pq) p7 p8 p9 (nI sc)), (oX4 r0 r1 p0 (nI ((ti + 1) + 1)) (fk ((ti + 1) + 1)) (ft ((ti + 1) + 1)) (fv ((ti + 1) + 1)) ((fv (ti + 1)).toInt32) iek iep), (oX5 r1 k1 k2 k3 (nI ct)), (k1, .inl (cA 0, 701, .inl fk)), (k2, .inl (cA 0, 701, .inl ft)), (k3, .inl (cA 1, 701, .inr (.inl fv)))] H := ⟨hP, hD⟩
    refine lv_aload_n hx hb dX4_readGrace_33 rfl (lv_at hl 0 rfl) ?_
    refine lv_bipush (v := 7) hx hb dX4_readGrace_34 (by decide) ?_
    obtain ⟨hPc, hDc, hFc⟩ := PDq.cut (wc := [(oX4 r0 r1 p0 (nI ((ti + 1) + 1)) (fk ((ti + 1) + 1)) (ft ((ti + 1) + 1)) (fv ((ti + 1) + 1)) ((fv (ti + 1)).toInt32) iek iep), (oX5 r1 k1 k2 k3 (nI ct)), (k1, .inl (cA 0, 701, .inl fk)), (k2, .inl (cA 0, 701, .inl ft)), (k3, .inl (cA 1, 701, .inr (.inl fv)))]) hP hD hS hA [1, 2, 3, 4, 5] (by decide) rfl
    refine va_calli (va_runV (As := [.int 7]) (rest := []) ⟨hx, hb, hml, hown, hts⟩ (x_take l D cA sa r0 p0 ((ti + 1) + 1) ln ((fv (ti + 1)).toInt32) iek iep r1 k1 k2 k3 ct fk ft fv fb gP gR 7 H.size hct hln hn8 hTX (by decide)) (cwV 1 hts gX4_readGrace_X4_take rfl rfl rfl (by decide +kernel) ⟨(Nat.le_of_ble_eq_true rfl), (Nat.le_of_ble_eq_true rfl)⟩) ⟨Wd.blind, va_recv hK hPc (ci := 8) (q0 := 0) rfl rfl, fun U hU hW => ⟨rfl, Wd.call hPc hDc hK hC hZ hS hFc U hU hW⟩⟩ rfl rfl hl.1 rfl (lv_room (Nat.le_of_ble_eq_true rfl)) dX4_readGrace_36 ⟨(Nat.le_of_ble_eq_true rfl), (Nat.le_of_ble_eq_true rfl)⟩) hS (fun q _ h => hFc q h) hFc (fun rn21 u t H1 locs ht hvm hw hB hz1 hk1 hS => ?_)
    obtain ⟨qn22, zn23, zn24, hn25, hn26, hn27, hn28, hn29, hn30, hn31, hn32, hn33, hn34, hn35, hP1, hD1⟩ := hB
    rw [ht] at hP1
    obtain ⟨hP, hD⟩ := PDq.join (w := [(oX3 p0 pr pb pe ((fv (ti + 1)).toInt32) p1 (nI nd) p2 p3 p4 p5 (nI cn) p6 (nI pq) p7 p8 p9 (nI sc)), (oX4 r0 r1 p0 (nI qn22) (fk qn22) (ft qn22) (fv qn22) ((fv (ti + 1)).toInt32) zn23 zn24), (oX5 r1 k1 k2 k3 (nI ct)), (k1, .inl (cA 0, 701, .inl fk)), (k2, .inl (cA 0, 701, .inl ft)), (k3, .inl (cA 1, 701, .inr (.inl fv)))]) 1 hP hD [1, 2, 3, 4, 5] [0] rfl rfl (by decide) (by decide) hk1 hFc hP1 hD1 rfl
    generalize H1 = H at hP hS ⊢
    rcases hw.2 with hr9 | hr9
    · skip
      have hn33 := hn33 (hw.1.trans hr9)
      have hn34 := hn34 (hw.1.trans hr9)
      have hn35 := hn35 (hw.1.trans hr9)
      subst hr9
      obtain ⟨hP9, hD9⟩ := PDq.sub (ws' := [(oX4 r0 r1 p0 (nI qn22) (fk qn22) (ft qn22) (fv qn22) ((fv (ti + 1)).toInt32) zn23 zn24), (oX5 r1 k1 k2 k3 (nI ct)), (k1, .inl (cA 0, 701, .inl fk)), (k2, .inl (cA 0, 701, .inl ft)), (k3, .inl (cA 1, 701, .inr (.inl fv))), (oX3 p0 pr pb pe ((fv (ti + 1)).toInt32) p1 (nI nd) p2 p3 p4 p5 (nI cn) p6 (nI pq) p7 p8 p9 (nI sc))]) hP hD [1, 2, 3, 4, 5, 0] (by decide) rfl
      refine W.widen (k := 0) (n := 0) (Nat.le_of_ble_eq_true rfl) (Nat.le_of_ble_eq_true rfl) ?_
      exact (W.zret (v := 0) hx hb hr (by first | rfl | decide) (fun t ht hW => ⟨⟨0, 0, rfl, ⟨rfl, by decide⟩, qn22, ((fv (ti + 1)).toInt32), zn23, zn24, ((fv (ti + 1)).toInt32), hn25, hn26, (fun h9 => absurd h9 (by decide)), (fun h9 => absurd h9 (by decide)), (fun h9 => absurd h9 (by decide)), (fun h9 => absurd h9 (by decide)), (fun h9 => absurd h9 (by decide)), (fun h9 => absurd h9 (by decide)), (fun _ => (Or.inr ⟨_, _, _, _, S_grace hk hn15, hn35, hn33, hn34⟩)), by rw [ht]; exact hP9, hD9⟩, hS.F ht⟩) hS.2.2 dX4_readGrace_39)
    · skip
      have hn28 := hn28 (hw.1.trans hr9)
      subst hn28
      obtain ⟨hP, hD⟩ : PDq D A [(oX3 p0 pr pb pe ((fv (ti + 1)).toInt32) p1 (nI nd) p2 p3 p4 p5 (nI cn) p6 (nI pq) p7 p8 p9 (nI sc)), (oX4 r0 r1 p0 (nI (((ti + 1) + 1) + 1)) (fk (((ti + 1) + 1) + 1)) (ft (((ti + 1) + 1) + 1)) (fv (((ti + 1) + 1) + 1)) ((fv (ti + 1)).toInt32) zn23 zn24), (oX5 r1 k1 k2 k3 (nI ct)), (k1, .inl (cA 0, 701, .inl fk)), (k2, .inl (cA 0, 701, .inl ft)), (k3, .inl (cA 1, 701, .inr (.inl fv)))] H := ⟨hP, hD⟩
      have hn29 := hn29 (hw.1.trans hr9)
      obtain rfl : iek = zn23 := hn29.symm
      obtain ⟨hP, hD⟩ : PDq D A [(oX3 p0 pr pb pe ((fv (ti + 1)).toInt32) p1 (nI nd) p2 p3 p4 p5 (nI cn) p6 (nI pq) p7 p8 p9 (nI sc)), (oX4 r0 r1 p0 (nI (((ti + 1) + 1) + 1)) (fk (((ti + 1) + 1) + 1)) (ft (((ti + 1) + 1) + 1)) (fv (((ti + 1) + 1) + 1)) ((fv (ti + 1)).toInt32) iek zn24), (oX5 r1 k1 k2 k3 (nI ct)), (k1, .inl (cA 0, 701, .inl fk)), (k2, .inl (cA 0, 701, .inl ft)), (k3, .inl (cA 1, 701, .inr (.inl fv)))] H := ⟨hP, hD⟩
      have hn30 := hn30 (hw.1.trans hr9)
      obtain rfl : iep = zn24 := hn30.symm
      obtain ⟨hP, hD⟩ : PDq D A [(oX3 p0 pr pb pe ((fv (ti + 1)).toInt32) p1 (nI nd) p2 p3 p4 p5 (nI cn) p6 (nI pq) p7 p8 p9 (nI sc)), (oX4 r0 r1 p0 (nI (((ti + 1) + 1) + 1)) (fk (((ti + 1) + 1) + 1)) (ft (((ti + 1) + 1) + 1)) (fv (((ti + 1) + 1) + 1)) ((fv (ti + 1)).toInt32) iek iep), (oX5 r1 k1 k2 k3 (nI ct)), (k1, .inl (cA 0, 701, .inl fk)), (k2, .inl (cA 0, 701, .inl ft)), (k3, .inl (cA 1, 701, .inr (.inl fv)))] H := ⟨hP, hD⟩
      have hn31 := hn31 (hw.1.trans hr9)
      have hn32 := hn32 (hw.1.trans hr9)
      subst hr9
      obtain ⟨hP9, hD9⟩ := PDq.sub (ws' := [(oX4 r0 r1 p0 (nI (((ti + 1) + 1) + 1)) (fk (((ti + 1) + 1) + 1)) (ft (((ti + 1) + 1) + 1)) (fv (((ti + 1) + 1) + 1)) ((fv (ti + 1)).toInt32) iek iep), (oX5 r1 k1 k2 k3 (nI ct)), (k1, .inl (cA 0, 701, .inl fk)), (k2, .inl (cA 0, 701, .inl ft)), (k3, .inl (cA 1, 701, .inr (.inl fv))), (oX3 p0 pr pb pe ((fv (ti + 1)).toInt32) p1 (nI nd) p2 p3 p4 p5 (nI cn) p6 (nI pq) p7 p8 p9 (nI sc))]) hP hD [1, 2, 3, 4, 5, 0] (by decide) rfl
      refine W.widen (k := 0) (n := 0) (Nat.le_of_ble_eq_true rfl) (Nat.le_of_ble_eq_true rfl) ?_
      exact (W.zret (v := 1) hx hb hr (by first | rfl | decide) (fun t ht hW => ⟨⟨1, 1, rfl, ⟨rfl, by decide⟩, (((ti + 1) + 1) + 1), ((fv (ti + 1)).toInt32), iek, iep, ((fv (ti + 1)).toInt32), hn25, hn26, (fun _ => rfl), (fun _ => rfl), (fun _ => (by omega)), (fun _ => (by omega)), (fun _ => ⟨_, S_grace hk hn15, hn32, rfl⟩), (fun _ => (TL9.grace hTL hk hn15 rfl (by omega))), (fun h9 => absurd h9 (by decide)), by rw [ht]; exact hP9, hD9⟩, hS.F ht⟩) hS.2.2 dX4_readGrace_39)

set_option maxHeartbeats 4000000 in
set_option maxRecDepth 100000 in
/-- hasRoomForDeposit -/
theorem x_roomDep (l : Launch) (D : va_G) (cA : Nat → ClassId) (sa : Nat → Nat) (p0 : Nat) (p1 : Nat) (p2 : Nat) (p3 : Nat) (p4 : Nat) (p5 : Nat) (p6 : Nat) (p7 : Nat) (p8 : Nat) (p9 : Nat) (cn : Nat) (pq : Nat) (nd : Nat) (sc : Nat) (pr : Int32) (pb : Int32) (pe : Int32) (pg : Int32) (fde : Nat → Int32) (sz : Nat) (hcn : cn ≤ 10) (hpq : pq ≤ 8) (hnd : nd ≤ 6) (hsc : sc ≤ 350) : Met l yX3_hasRoomForDeposit wsX3_hasRoomForDeposit ({ frames := 0, cells := 0, slots := 0, locals := 0 }) (va_Pc [.ref p0] (Wd D cA sa [(oX3 p0 pr pb pe pg p1 (nI nd) p2 p3 p4 p5 (nI cn) p6 (nI pq) p7 p8 p9 (nI sc)), (p1, .inl (cA 0, 6, .inl fde))] sz)) (va_Qi (fun (r : Int32) (_ : Unit) => (r = 1 ∧ (nd < 6)) ∨ (r = 0 ∧ ¬ (nd < 6))) (fun (_ : Unit) t => Wq D (va_A [(oX3 p0 pr pb pe pg p1 (nI nd) p2 p3 p4 p5 (nI cn) p6 (nI pq) p7 p8 p9 (nI sc)), (p1, .inl (cA 0, 6, .inl fde))] sz) [(oX3 p0 pr pb pe pg p1 (nI nd) p2 p3 p4 p5 (nI cn) p6 (nI pq) p7 p8 p9 (nI sc)), (p1, .inl (cA 0, 6, .inl fde))] t) (va_A [(oX3 p0 pr pb pe pg p1 (nI nd) p2 p3 p4 p5 (nI cn) p6 (nI pq) p7 p8 p9 (nI sc)), (p1, .inl (cA 0, 6, .inl fde))] sz)) 0 0 (va_A [(oX3 p0 pr pb pe pg p1 (nI nd) p2 p3 p4 p5 (nI cn) p6 (nI pq) p7 p8 p9 (nI sc)), (p1, .inl (cA 0, 6, .inl fde))] sz) := by
  refine Met.ofW (cc := cX3_hasRoomForDeposit) (maxL := 1) (ret := (some .boolean)) (by decide) rfl ?_
  intro p e s m args below meth c s₁ B hml hv
  obtain ⟨rfl, hsz, hP, hK, hD0, hC, hZ⟩ := hv
  have hx := B.exec
  have hb := B.bytes
  have hr := B.returns
  have hts := atoms_spec (ws := wsX3_hasRoomForDeposit) B.pre
  have hown : s.vm.findClass RX3 = some m.cls := findClass_of_methodNamed B.named
  have hlocks := B.notSynchronized
  subst hsz
  have hD := hD0.self (sz := s.heap.size)
  generalize hAe : va_A [(oX3 p0 pr pb pe pg p1 (nI nd) p2 p3 p4 p5 (nI cn) p6 (nI pq) p7 p8 p9 (nI sc)), (p1, .inl (cA 0, 6, .inl fde))] s.heap.size = A at hD hZ ⊢
  have hA : ∀ q : Nat, s.heap.size ≤ q → A q := fun q h => by rw [← hAe]; exact Or.inr h
  have hS : va_S A s.heap s.heap [] := va_S.rf
  have hP : va_P D vwCl [(oX3 p0 pr pb pe pg p1 (nI nd) p2 p3 p4 p5 (nI cn) p6 (nI pq) p7 p8 p9 (nI sc)), (p1, .inl (cA 0, 6, .inl fde))] s.heap := hP
  have hl := lv_entry ([.ref p0]) (n := 1) (Nat.le_of_ble_eq_true rfl)
  rw [lg_entry_eq]
  generalize (lg_sl ([.ref p0]) ++ List.replicate (1 - (lg_sl ([.ref p0])).length) Slot.unset).toArray = ls at hl ⊢
  have hl : lv_has ls 1 [(0, .ref p0)] := hl
  have inX3 : ∀ w ∈ u_ws RX3 TX3 17, w ∈ wsX3_hasRoomForDeposit := by decide +kernel
  refine lv_aload_n hx hb dX3_hasRoomForDeposit_0 rfl (lv_at hl 0 rfl) ?_
  refine va_get (D := D) (ci := 7) (v := .int (nI nd)) (C := RX3) (T := TX3) (N := 17) hx hb hts inX3 hown hK hP 0 rfl rfl 5 (by decide) (hts (.fieldLink RX3 53 "EscrowDesk$Plan" "depositCount" "I") (by decide +kernel)) (fun _ h9 => h9) rfl dX3_hasRoomForDeposit_1 ?_
  refine lv_aload_n hx hb dX3_hasRoomForDeposit_4 rfl (lv_at hl 0 rfl) ?_
  refine va_get (D := D) (ci := 7) (v := .ref p1) (C := RX3) (T := TX3) (N := 17) hx hb hts inX3 hown hK hP 0 rfl rfl 4 (by decide) (hts (.fieldLink RX3 15 "EscrowDesk$Plan" "deposits" "[I") (by decide +kernel)) (fun _ h9 => h9) rfl dX3_hasRoomForDeposit_5 ?_
  refine va_alen (v := 6) hx hb hK hP 1 0 rfl rfl rfl dX3_hasRoomForDeposit_8 ?_
  refine lv_icmp_ge (tgt := 16) hx hb dX3_hasRoomForDeposit_9 (by decide) (fun c1 => ?_) (fun c1 => ?_)
  · skip
    have hn2 : 6 ≤ nd := (nI_leI (a := 6) (b := nd) (by omega) (by omega)).mp c1
    refine lv_iconst (v := 0) hx hb dX3_hasRoomForDeposit_16 (by decide) ?_
    obtain ⟨hP9, hD9⟩ := PDq.sub (ws' := [(oX3 p0 pr pb pe pg p1 (nI nd) p2 p3 p4 p5 (nI cn) p6 (nI pq) p7 p8 p9 (nI sc)), (p1, .inl (cA 0, 6, .inl fde))]) hP hD [0, 1] (by decide) rfl
    refine W.widen (k := 0) (n := 0) (Nat.le_of_ble_eq_true rfl) (Nat.le_of_ble_eq_true rfl) ?_
    exact (W.zret (v := 0) hx hb hr (by first | rfl | decide) (fun t ht hW => ⟨⟨0, (), rfl, (Or.inr ⟨rfl, (by omega)⟩), by rw [ht]; exact hP9, hD9⟩, hS.F ht⟩) hS.2.2 dX3_hasRoomForDeposit_17)
  · skip
    have hn3 : nd < 6 := Nat.lt_of_not_le (fun h9 => c1 (nI_le (a := 6) (b := nd) h9 (by omega)))
    refine lv_iconst (v := 1) hx hb dX3_hasRoomForDeposit_12 (by decide) ?_
    refine lv_goto (tgt := 17) hx hb dX3_hasRoomForDeposit_13 (by decide) ?_
    obtain ⟨hP9, hD9⟩ := PDq.sub (ws' := [(oX3 p0 pr pb pe pg p1 (nI nd) p2 p3 p4 p5 (nI cn) p6 (nI pq) p7 p8 p9 (nI sc)), (p1, .inl (cA 0, 6, .inl fde))]) hP hD [0, 1] (by decide) rfl
    refine W.widen (k := 0) (n := 0) (Nat.le_of_ble_eq_true rfl) (Nat.le_of_ble_eq_true rfl) ?_
    exact (W.zret (v := 1) hx hb hr (by first | rfl | decide) (fun t ht hW => ⟨⟨1, (), rfl, (Or.inl ⟨rfl, (by omega)⟩), by rw [ht]; exact hP9, hD9⟩, hS.F ht⟩) hS.2.2 dX3_hasRoomForDeposit_17)

set_option maxHeartbeats 4000000 in
set_option maxRecDepth 100000 in
/-- hasRoomForMilestone -/
theorem x_roomMil (l : Launch) (D : va_G) (cA : Nat → ClassId) (sa : Nat → Nat) (p0 : Nat) (p1 : Nat) (p2 : Nat) (p3 : Nat) (p4 : Nat) (p5 : Nat) (p6 : Nat) (p7 : Nat) (p8 : Nat) (p9 : Nat) (cn : Nat) (pq : Nat) (nd : Nat) (sc : Nat) (pr : Int32) (pb : Int32) (pe : Int32) (pg : Int32) (sz : Nat) (hcn : cn ≤ 10) (hpq : pq ≤ 8) (hnd : nd ≤ 6) (hsc : sc ≤ 350) : Met l yX3_hasRoomForMilestone wsX3_hasRoomForMilestone ({ frames := 0, cells := 0, slots := 0, locals := 0 }) (va_Pc [.ref p0] (Wd D cA sa [(oX3 p0 pr pb pe pg p1 (nI nd) p2 p3 p4 p5 (nI cn) p6 (nI pq) p7 p8 p9 (nI sc))] sz)) (va_Qi (fun (r : Int32) (_ : Unit) => (r = 1 ∧ (cn < 10)) ∨ (r = 0 ∧ ¬ (cn < 10))) (fun (_ : Unit) t => Wq D (va_A [(oX3 p0 pr pb pe pg p1 (nI nd) p2 p3 p4 p5 (nI cn) p6 (nI pq) p7 p8 p9 (nI sc))] sz) [(oX3 p0 pr pb pe pg p1 (nI nd) p2 p3 p4 p5 (nI cn) p6 (nI pq) p7 p8 p9 (nI sc))] t) (va_A [(oX3 p0 pr pb pe pg p1 (nI nd) p2 p3 p4 p5 (nI cn) p6 (nI pq) p7 p8 p9 (nI sc))] sz)) 0 0 (va_A [(oX3 p0 pr pb pe pg p1 (nI nd) p2 p3 p4 p5 (nI cn) p6 (nI pq) p7 p8 p9 (nI sc))] sz) := by
  refine Met.ofW (cc := cX3_hasRoomForMilestone) (maxL := 1) (ret := (some .boolean)) (by decide) rfl ?_
  intro p e s m args below meth c s₁ B hml hv
  obtain ⟨rfl, hsz, hP, hK, hD0, hC, hZ⟩ := hv
  have hx := B.exec
  have hb := B.bytes
  have hr := B.returns
  have hts := atoms_spec (ws := wsX3_hasRoomForMilestone) B.pre
  have hown : s.vm.findClass RX3 = some m.cls := findClass_of_methodNamed B.named
  have hlocks := B.notSynchronized
  subst hsz
  have hD := hD0.self (sz := s.heap.size)
  generalize hAe : va_A [(oX3 p0 pr pb pe pg p1 (nI nd) p2 p3 p4 p5 (nI cn) p6 (nI pq) p7 p8 p9 (nI sc))] s.heap.size = A at hD hZ ⊢
  have hA : ∀ q : Nat, s.heap.size ≤ q → A q := fun q h => by rw [← hAe]; exact Or.inr h
  have hS : va_S A s.heap s.heap [] := va_S.rf
  have hP : va_P D vwCl [(oX3 p0 pr pb pe pg p1 (nI nd) p2 p3 p4 p5 (nI cn) p6 (nI pq) p7 p8 p9 (nI sc))] s.heap := hP
  have hl := lv_entry ([.ref p0]) (n := 1) (Nat.le_of_ble_eq_true rfl)
  rw [lg_entry_eq]
  generalize (lg_sl ([.ref p0]) ++ List.replicate (1 - (lg_sl ([.ref p0])).length) Slot.unset).toArray = ls at hl ⊢
  have hl : lv_has ls 1 [(0, .ref p0)] := hl
  have inX3 : ∀ w ∈ u_ws RX3 TX3 17, w ∈ wsX3_hasRoomForMilestone := by decide +kernel
  refine lv_aload_n hx hb dX3_hasRoomForMilestone_0 rfl (lv_at hl 0 rfl) ?_
  refine va_get (D := D) (ci := 7) (v := .int (nI cn)) (C := RX3) (T := TX3) (N := 17) hx hb hts inX3 hown hK hP 0 rfl rfl 10 (by decide) (hts (.fieldLink RX3 56 "EscrowDesk$Plan" "milestoneCount" "I") (by decide +kernel)) (fun _ h9 => h9) rfl dX3_hasRoomForMilestone_1 ?_
  refine lv_bipush (v := 10) hx hb dX3_hasRoomForMilestone_4 (by decide) ?_
  refine lv_icmp_ge (tgt := 13) hx hb dX3_hasRoomForMilestone_6 (by decide) (fun c1 => ?_) (fun c1 => ?_)
  · skip
    have hn2 : 10 ≤ cn := (nI_leI (a := 10) (b := cn) (by omega) (by omega)).mp c1
    refine lv_iconst (v := 0) hx hb dX3_hasRoomForMilestone_13 (by decide) ?_
    obtain ⟨hP9, hD9⟩ := PDq.sub (ws' := [(oX3 p0 pr pb pe pg p1 (nI nd) p2 p3 p4 p5 (nI cn) p6 (nI pq) p7 p8 p9 (nI sc))]) hP hD [0] (by decide) rfl
    refine W.widen (k := 0) (n := 0) (Nat.le_of_ble_eq_true rfl) (Nat.le_of_ble_eq_true rfl) ?_
    exact (W.zret (v := 0) hx hb hr (by first | rfl | decide) (fun t ht hW => ⟨⟨0, (), rfl, (Or.inr ⟨rfl, (by omega)⟩), by rw [ht]; exact hP9, hD9⟩, hS.F ht⟩) hS.2.2 dX3_hasRoomForMilestone_14)
  · skip
    have hn3 : cn < 10 := Nat.lt_of_not_le (fun h9 => c1 (nI_le (a := 10) (b := cn) h9 (by omega)))
    refine lv_iconst (v := 1) hx hb dX3_hasRoomForMilestone_9 (by decide) ?_
    refine lv_goto (tgt := 14) hx hb dX3_hasRoomForMilestone_10 (by decide) ?_
    obtain ⟨hP9, hD9⟩ := PDq.sub (ws' := [(oX3 p0 pr pb pe pg p1 (nI nd) p2 p3 p4 p5 (nI cn) p6 (nI pq) p7 p8 p9 (nI sc))]) hP hD [0] (by decide) rfl
    refine W.widen (k := 0) (n := 0) (Nat.le_of_ble_eq_true rfl) (Nat.le_of_ble_eq_true rfl) ?_
    exact (W.zret (v := 1) hx hb hr (by first | rfl | decide) (fun t ht hW => ⟨⟨1, (), rfl, (Or.inl ⟨rfl, (by omega)⟩), by rw [ht]; exact hP9, hD9⟩, hS.F ht⟩) hS.2.2 dX3_hasRoomForMilestone_14)

set_option maxHeartbeats 4000000 in
set_option maxRecDepth 100000 in
/-- addDeposit -/
theorem x_addDeposit (l : Launch) (D : va_G) (cA : Nat → ClassId) (sa : Nat → Nat) (p0 : Nat) (p1 : Nat) (p2 : Nat) (p3 : Nat) (p4 : Nat) (p5 : Nat) (p6 : Nat) (p7 : Nat) (p8 : Nat) (p9 : Nat) (cn : Nat) (pq : Nat) (nd : Nat) (sc : Nat) (pr : Int32) (pb : Int32) (pe : Int32) (pg : Int32) (a : Int32) (fde : Nat → Int32) (sz : Nat) (hcn : cn ≤ 10) (hpq : pq ≤ 8) (hnd : nd ≤ 6) (hsc : sc ≤ 350) (hn6 : nd < 6) : Met l yX3_addDeposit wsX3_addDeposit ({ frames := 1, cells := 0, slots := 0, locals := 20 }) (va_Pc [.ref p0, .int a] (Wd D cA sa [(oX3 p0 pr pb pe pg p1 (nI nd) p2 p3 p4 p5 (nI cn) p6 (nI pq) p7 p8 p9 (nI sc)), (p1, .inl (cA 0, 6, .inl fde))] sz)) (va_Qv (fun _ : Unit => True) (fun (_ : Unit) t => ∃ zde : Nat → Int32, Upp nd a fde zde ∧ Wq D (va_A [(oX3 p0 pr pb pe pg p1 (nI nd) p2 p3 p4 p5 (nI cn) p6 (nI pq) p7 p8 p9 (nI sc)), (p1, .inl (cA 0, 6, .inl fde))] sz) [(oX3 p0 pr pb pe pg p1 (nI (nd + 1)) p2 p3 p4 p5 (nI cn) p6 (nI pq) p7 p8 p9 (nI sc)), (p1, .inl (cA 0, 6, .inl zde))] t) (va_A [(oX3 p0 pr pb pe pg p1 (nI nd) p2 p3 p4 p5 (nI cn) p6 (nI pq) p7 p8 p9 (nI sc)), (p1, .inl (cA 0, 6, .inl fde))] sz)) 0 0 (va_A [(oX3 p0 pr pb pe pg p1 (nI nd) p2 p3 p4 p5 (nI cn) p6 (nI pq) p7 p8 p9 (nI sc)), (p1, .inl (cA 0, 6, .inl fde))] sz) := by
  refine Met.ofW (cc := cX3_addDeposit) (maxL := 2) (ret := none) (by decide) rfl ?_
  intro p e s m args below meth c s₁ B hml hv
  obtain ⟨rfl, hsz, hP, hK, hD0, hC, hZ⟩ := hv
  have hx := B.exec
  have hb := B.bytes
  have hr := B.returns
  have hts := atoms_spec (ws := wsX3_addDeposit) B.pre
  have hown : s.vm.findClass RX3 = some m.cls := findClass_of_methodNamed B.named
  have hlocks := B.notSynchronized
  subst hsz
  have hD := hD0.self (sz := s.heap.size)
  generalize hAe : va_A [(oX3 p0 pr pb pe pg p1 (nI nd) p2 p3 p4 p5 (nI cn) p6 (nI pq) p7 p8 p9 (nI sc)), (p1, .inl (cA 0, 6, .inl fde))] s.heap.size = A at hD hZ ⊢
  have hA : ∀ q : Nat, s.heap.size ≤ q → A q := fun q h => by rw [← hAe]; exact Or.inr h
  have hS : va_S A s.heap s.heap [] := va_S.rf
  have hP : va_P D vwCl [(oX3 p0 pr pb pe pg p1 (nI nd) p2 p3 p4 p5 (nI cn) p6 (nI pq) p7 p8 p9 (nI sc)), (p1, .inl (cA 0, 6, .inl fde))] s.heap := hP
  have hl := lv_entry ([.ref p0, .int a]) (n := 2) (Nat.le_of_ble_eq_true rfl)
  rw [lg_entry_eq]
  generalize (lg_sl ([.ref p0, .int a]) ++ List.replicate (2 - (lg_sl ([.ref p0, .int a])).length) Slot.unset).toArray = ls at hl ⊢
  have hl : lv_has ls 2 [(0, .ref p0), (1, .int a)] := hl
  have inX3 : ∀ w ∈ u_ws RX3 TX3 17, w ∈ wsX3_addDeposit := by decide +kernel
  refine lv_aload_n hx hb dX3_addDeposit_0 rfl (lv_at hl 0 rfl) ?_
  obtain ⟨hPc, hDc, hFc⟩ := PDq.cut (wc := [(oX3 p0 pr pb pe pg p1 (nI nd) p2 p3 p4 p5 (nI cn) p6 (nI pq) p7 p8 p9 (nI sc)), (p1, .inl (cA 0, 6, .inl fde))]) hP hD hS hA [0, 1] (by decide) rfl
  refine va_calli (va_runV (As := []) (rest := []) ⟨hx, hb, hml, hown, hts⟩ (x_roomDep l D cA sa p0 p1 p2 p3 p4 p5 p6 p7 p8 p9 cn pq nd sc pr pb pe pg fde s.heap.size hcn hpq hnd hsc) (cwV 0 hts gX3_addDeposit_X3_hasRoomForDeposit rfl rfl rfl (by decide +kernel) ⟨(Nat.le_of_ble_eq_true rfl), (Nat.le_of_ble_eq_true rfl)⟩) ⟨Wd.blind, va_recv hK hPc (ci := 7) (q0 := 0) rfl rfl, fun U hU hW => ⟨rfl, Wd.call hPc hDc hK hC hZ hS hFc U hU hW⟩⟩ rfl rfl hl.1 rfl (lv_room (Nat.le_of_ble_eq_true rfl)) dX3_addDeposit_1 ⟨(Nat.le_of_ble_eq_true rfl), (Nat.le_of_ble_eq_true rfl)⟩) hS (fun q _ h => hFc q h) hFc (fun rn1 u t H1 locs ht hvm hw hB hz1 hk1 hS => ?_)
  obtain ⟨hP1, hD1⟩ := hB
  rw [ht] at hP1
  obtain ⟨hP, hD⟩ := PDq.join (w := [(oX3 p0 pr pb pe pg p1 (nI nd) p2 p3 p4 p5 (nI cn) p6 (nI pq) p7 p8 p9 (nI sc)), (p1, .inl (cA 0, 6, .inl fde))]) 0 hP hD [0, 1] [] rfl rfl (by decide) (by decide) hk1 hFc hP1 hD1 rfl
  generalize H1 = H at hP hS ⊢
  rcases hw with ⟨hr9, hn2⟩ | ⟨hr9, hn2⟩
  · skip
    subst hr9
    refine lv_if_eq (tgt := 27) hx hb dX3_addDeposit_4 (by decide) (fun c9 => absurd c9 (by decide)) (fun c3 => ?_)
    refine lv_aload_n hx hb dX3_addDeposit_7 rfl (lv_at hl 0 rfl) ?_
    refine va_get (D := D) (ci := 7) (v := .ref p1) (C := RX3) (T := TX3) (N := 17) hx hb hts inX3 hown hK hP 0 rfl rfl 4 (by decide) (hts (.fieldLink RX3 15 "EscrowDesk$Plan" "deposits" "[I") (by decide +kernel)) (fun _ h9 => h9) rfl dX3_addDeposit_8 ?_
    refine lv_aload_n hx hb dX3_addDeposit_11 rfl (lv_at hl 0 rfl) ?_
    refine va_get (D := D) (ci := 7) (v := .int (nI nd)) (C := RX3) (T := TX3) (N := 17) hx hb hts inX3 hown hK hP 0 rfl rfl 5 (by decide) (hts (.fieldLink RX3 53 "EscrowDesk$Plan" "depositCount" "I") (by decide +kernel)) (fun _ h9 => h9) rfl dX3_addDeposit_12 ?_
    refine lv_iload_n hx hb dX3_addDeposit_15 rfl (lv_at hl 1 rfl) ?_
    refine va_iast hx hb hK hP hD hS 1 0 rfl rfl (vp_in_nI (n := nd) (N := 6) (show nd < 6 by omega) (by decide)) dX3_addDeposit_16 (fun H locs hP hD hS => ?_)
    obtain ⟨hP, hD⟩ : PDq D A [(oX3 p0 pr pb pe pg p1 (nI nd) p2 p3 p4 p5 (nI cn) p6 (nI pq) p7 p8 p9 (nI sc)), (p1, .inl (cA 0, 6, .inl (upd fde (((nI nd)).toNatClampNeg) a)))] H := ⟨hP, hD⟩
    have hn5 : Upp nd a fde (upd fde (((nI nd)).toNatClampNeg) a) := Upp.of (by omega)
    have hn6 : Rdd (upd fde (((nI nd)).toNatClampNeg) a) := rfl
    generalize (upd fde (((nI nd)).toNatClampNeg) a) = fn4 at hP hD hn5 hn6
    obtain ⟨hP, hD⟩ : PDq D A [(oX3 p0 pr pb pe pg p1 (nI nd) p2 p3 p4 p5 (nI cn) p6 (nI pq) p7 p8 p9 (nI sc)), (p1, .inl (cA 0, 6, .inl fn4))] H := ⟨hP, hD⟩
    refine lv_aload_n hx hb dX3_addDeposit_17 rfl (lv_at hl 0 rfl) ?_
    refine lv_dup hx hb dX3_addDeposit_18 rfl ?_
    refine va_get (D := D) (ci := 7) (v := .int (nI nd)) (C := RX3) (T := TX3) (N := 17) hx hb hts inX3 hown hK hP 0 rfl rfl 5 (by decide) (hts (.fieldLink RX3 53 "EscrowDesk$Plan" "depositCount" "I") (by decide +kernel)) (fun _ h9 => h9) rfl dX3_addDeposit_19 ?_
    refine lv_iconst (v := 1) hx hb dX3_addDeposit_22 (by decide) ?_
    refine lv_iadd hx hb dX3_addDeposit_23 ?_
    refine lv_topi (fun yn7 eyn7 => ?_)
    obtain rfl : yn7 = (nI (nd + 1)) := eyn7.trans (nI_add nd 1)
    refine va_put (D := D) (ci := 7) (v := .int (nI (nd + 1))) (ty := .int) (C := RX3) (T := TX3) (N := 17) hx hb hts inX3 tyX3 tyX3_ok nmX3 hown hK hP hD hS 0 rfl rfl 5 (by decide) (hts (.fieldLink RX3 53 "EscrowDesk$Plan" "depositCount" "I") (by decide +kernel)) (fun _ h9 => h9) rfl (by decide +kernel) rfl rfl (Nat.le_of_ble_eq_true rfl) dX3_addDeposit_24 (fun H locs hP hD hS => ?_)
    obtain ⟨hP, hD⟩ : PDq D A [(oX3 p0 pr pb pe pg p1 (nI (nd + 1)) p2 p3 p4 p5 (nI cn) p6 (nI pq) p7 p8 p9 (nI sc)), (p1, .inl (cA 0, 6, .inl fn4))] H := ⟨hP, hD⟩
    obtain ⟨hP9, hD9⟩ := PDq.sub (ws' := [(oX3 p0 pr pb pe pg p1 (nI (nd + 1)) p2 p3 p4 p5 (nI cn) p6 (nI pq) p7 p8 p9 (nI sc)), (p1, .inl (cA 0, 6, .inl fn4))]) hP hD [0, 1] (by decide) rfl
    refine W.widen (k := 0) (n := 0) (Nat.le_of_ble_eq_true rfl) (Nat.le_of_ble_eq_true rfl) ?_
    exact (W.vret hx hb hr (fun t ht hW => ⟨⟨(), rfl, trivial, fn4, hn5, by rw [ht]; exact hP9, hD9⟩, hS.F ht⟩) hS.2.2 dX3_addDeposit_27)
  · skip
    subst hr9
    exact absurd (show nd < 6 by omega) hn2

set_option maxHeartbeats 4000000 in
set_option maxRecDepth 100000 in
/-- readDeposit -/
theorem x_readDeposit (l : Launch) (D : va_G) (cA : Nat → ClassId) (sa : Nat → Nat) (r0 : Nat) (p0 : Nat) (ti : Nat) (ln : Nat) (inb : Int32) (iek : Int32) (iep : Int32) (r1 : Nat) (k1 : Nat) (k2 : Nat) (k3 : Nat) (ct : Nat) (fk : Nat → Int32) (ft : Nat → Int32) (fv : Nat → Int64) (fb : Nat → Int32) (gP : Nat → Nat) (gR : Nat → Nat) (p1 : Nat) (p2 : Nat) (p3 : Nat) (p4 : Nat) (p5 : Nat) (p6 : Nat) (p7 : Nat) (p8 : Nat) (p9 : Nat) (cn : Nat) (pq : Nat) (nd : Nat) (sc : Nat) (pr : Int32) (pb : Int32) (pe : Int32) (pg : Int32) (ml : List Int64) (pl : List Int64) (fde : Nat → Int32) (fam : Nat → Int32) (fpi : Nat → Int32) (fen : Nat → Int32) (fst : Nat → Int32) (fop : Nat → Int32) (sz : Nat) (hct : ct ≤ 701) (hln : ln ≤ 700) (hti : ti < ct) (hTX : TX fb ln ct gP gR ft fv fk) (hsl : 2 * sc ≤ gP ti) (hcn : cn ≤ 10) (hpq : pq ≤ 8) (hnd : nd ≤ 6) (hsc : sc ≤ 350) (hTL : TL9 fk fv ml pl fde fam fpi fen fst fop pr pb pg nd cn sc ti) (hk : fk ti = 11) : Met l yX4_readDeposit wsX4_readDeposit ({ frames := 2, cells := 0, slots := 0, locals := 43 }) (va_Pc [.ref r0] (Wd D cA sa [(oX4 r0 r1 p0 (nI ti) (fk ti) (ft ti) (fv ti) inb iek iep), (oX5 r1 k1 k2 k3 (nI ct)), (k1, .inl (cA 0, 701, .inl fk)), (k2, .inl (cA 0, 701, .inl ft)), (k3, .inl (cA 1, 701, .inr (.inl fv))), (oX3 p0 pr pb pe pg p1 (nI nd) p2 p3 p4 p5 (nI cn) p6 (nI pq) p7 p8 p9 (nI sc)), (p1, .inl (cA 0, 6, .inl fde))] sz)) (va_Qi (fun (r : Int32) (u9 : Int32) => u9 = r ∧ (r = 0 ∨ r = 1)) (fun (u9 : Int32) t => ∃ tj : Nat, ∃ znr : Int32, ∃ zek : Int32, ∃ zep : Int32, ∃ dm : Nat, ∃ zde : Nat → Int32, tj < ct ∧ gP tj ≤ ln ∧ dm ≤ 6 ∧ (u9 = 1 → zek = iek) ∧ (u9 = 1 → zep = iep) ∧ (u9 = 1 → ti + 2 ≤ tj) ∧ (u9 = 1 → 2 * sc ≤ gP tj) ∧ (u9 = 1 → ST9 fk ft fv ti nd ml pl tj dm ml pl) ∧ (u9 = 1 → TL9 fk fv ml pl zde fam fpi fen fst fop pr pb pg dm cn sc tj) ∧ (u9 = 0 → SE9 fk ft fv ti nd ml pl zek zep) ∧ Wq D (va_A [(oX4 r0 r1 p0 (nI ti) (fk ti) (ft ti) (fv ti) inb iek iep), (oX5 r1 k1 k2 k3 (nI ct)), (k1, .inl (cA 0, 701, .inl fk)), (k2, .inl (cA 0, 701, .inl ft)), (k3, .inl (cA 1, 701, .inr (.inl fv))), (oX3 p0 pr pb pe pg p1 (nI nd) p2 p3 p4 p5 (nI cn) p6 (nI pq) p7 p8 p9 (nI sc)), (p1, .inl (cA 0, 6, .inl fde))] sz) [(oX4 r0 r1 p0 (nI tj) (fk tj) (ft tj) (fv tj) znr zek zep), (oX5 r1 k1 k2 k3 (nI ct)), (k1, .inl (cA 0, 701, .inl fk)), (k2, .inl (cA 0, 701, .inl ft)), (k3, .inl (cA 1, 701, .inr (.inl fv))), (oX3 p0 pr pb pe pg p1 (nI dm) p2 p3 p4 p5 (nI cn) p6 (nI pq) p7 p8 p9 (nI sc)), (p1, .inl (cA 0, 6, .inl zde))] t) (va_A [(oX4 r0 r1 p0 (nI ti) (fk ti) (ft ti) (fv ti) inb iek iep), (oX5 r1 k1 k2 k3 (nI ct)), (k1, .inl (cA 0, 701, .inl fk)), (k2, .inl (cA 0, 701, .inl ft)), (k3, .inl (cA 1, 701, .inr (.inl fv))), (oX3 p0 pr pb pe pg p1 (nI nd) p2 p3 p4 p5 (nI cn) p6 (nI pq) p7 p8 p9 (nI sc)), (p1, .inl (cA 0, 6, .inl fde))] sz)) 0 0 (va_A [(oX4 r0 r1 p0 (nI ti) (fk ti) (ft ti) (fv ti) inb iek iep), (oX5 r1 k1 k2 k3 (nI ct)), (k1, .inl (cA 0, 701, .inl fk)), (k2, .inl (cA 0, 701, .inl ft)), (k3, .inl (cA 1, 701, .inr (.inl fv))), (oX3 p0 pr pb pe pg p1 (nI nd) p2 p3 p4 p5 (nI cn) p6 (nI pq) p7 p8 p9 (nI sc)), (p1, .inl (cA 0, 6, .inl fde))] sz) := by
  refine Met.ofW (cc := cX4_readDeposit) (maxL := 1) (ret := (some .boolean)) (by decide) rfl ?_
  intro p e s m args below meth c s₁ B hml hv
  obtain ⟨rfl, hsz, hP, hK, hD0, hC, hZ⟩ := hv
  have hx := B.exec
  have hb := B.bytes
  have hr := B.returns
  have hts := atoms_spec (ws := wsX4_readDeposit) B.pre
  have hown : s.vm.findClass RX4 = some m.cls := findClass_of_methodNamed B.named
  have hlocks := B.notSynchronized
  subst hsz
  have hD := hD0.self (sz := s.heap.size)
  generalize hAe : va_A [(oX4 r0 r1 p0 (nI ti) (fk ti) (ft ti) (fv ti) inb iek iep), (oX5 r1 k1 k2 k3 (nI ct)), (k1, .inl (cA 0, 701, .inl fk)), (k2, .inl (cA 0, 701, .inl ft)), (k3, .inl (cA 1, 701, .inr (.inl fv))), (oX3 p0 pr pb pe pg p1 (nI nd) p2 p3 p4 p5 (nI cn) p6 (nI pq) p7 p8 p9 (nI sc)), (p1, .inl (cA 0, 6, .inl fde))] s.heap.size = A at hD hZ ⊢
  have hA : ∀ q : Nat, s.heap.size ≤ q → A q := fun q h => by rw [← hAe]; exact Or.inr h
  have hS : va_S A s.heap s.heap [] := va_S.rf
  have hP : va_P D vwCl [(oX4 r0 r1 p0 (nI ti) (fk ti) (ft ti) (fv ti) inb iek iep), (oX5 r1 k1 k2 k3 (nI ct)), (k1, .inl (cA 0, 701, .inl fk)), (k2, .inl (cA 0, 701, .inl ft)), (k3, .inl (cA 1, 701, .inr (.inl fv))), (oX3 p0 pr pb pe pg p1 (nI nd) p2 p3 p4 p5 (nI cn) p6 (nI pq) p7 p8 p9 (nI sc)), (p1, .inl (cA 0, 6, .inl fde))] s.heap := hP
  have hl := lv_entry ([.ref r0]) (n := 1) (Nat.le_of_ble_eq_true rfl)
  rw [lg_entry_eq]
  generalize (lg_sl ([.ref r0]) ++ List.replicate (1 - (lg_sl ([.ref r0])).length) Slot.unset).toArray = ls at hl ⊢
  have hl : lv_has ls 1 [(0, .ref r0)] := hl
  have inX4 : ∀ w ∈ u_ws RX4 TX4 9, w ∈ wsX4_readDeposit := by decide +kernel
  have hle9 := TX.le hTX hti
  have hn1 := TX.go2 hTX hti (by rw [hk]; decide)
  refine lv_aload_n hx hb dX4_readDeposit_0 rfl (lv_at hl 0 rfl) ?_
  refine va_get (D := D) (ci := 8) (v := .ref p0) (C := RX4) (T := TX4) (N := 9) hx hb hts inX4 hown hK hP 0 rfl rfl 1 (by decide) (hts (.fieldLink RX4 25 "EscrowDesk$Reader" "plan" "LEscrowDesk$Plan;") (by decide +kernel)) (fun _ h9 => h9) rfl dX4_readDeposit_1 ?_
  obtain ⟨hPc, hDc, hFc⟩ := PDq.cut (wc := [(oX3 p0 pr pb pe pg p1 (nI nd) p2 p3 p4 p5 (nI cn) p6 (nI pq) p7 p8 p9 (nI sc)), (p1, .inl (cA 0, 6, .inl fde))]) hP hD hS hA [5, 6] (by decide) rfl
  refine va_calli (va_runV (As := []) (rest := []) ⟨hx, hb, hml, hown, hts⟩ (x_roomDep l D cA sa p0 p1 p2 p3 p4 p5 p6 p7 p8 p9 cn pq nd sc pr pb pe pg fde s.heap.size hcn hpq hnd hsc) (cwV 0 hts gX4_readDeposit_X3_hasRoomForDeposit rfl rfl rfl (by decide +kernel) ⟨(Nat.le_of_ble_eq_true rfl), (Nat.le_of_ble_eq_true rfl)⟩) ⟨Wd.blind, va_recv hK hPc (ci := 7) (q0 := 0) rfl rfl, fun U hU hW => ⟨rfl, Wd.call hPc hDc hK hC hZ hS hFc U hU hW⟩⟩ rfl rfl hl.1 rfl (lv_room (Nat.le_of_ble_eq_true rfl)) dX4_readDeposit_4 ⟨(Nat.le_of_ble_eq_true rfl), (Nat.le_of_ble_eq_true rfl)⟩) hS (fun q _ h => hFc q h) hFc (fun rn2 u t H1 locs ht hvm hw hB hz1 hk1 hS => ?_)
  obtain ⟨hP1, hD1⟩ := hB
  rw [ht] at hP1
  obtain ⟨hP, hD⟩ := PDq.join (w := [(oX4 r0 r1 p0 (nI ti) (fk ti) (ft ti) (fv ti) inb iek iep), (oX5 r1 k1 k2 k3 (nI ct)), (k1, .inl (cA 0, 701, .inl fk)), (k2, .inl (cA 0, 701, .inl ft)), (k3, .inl (cA 1, 701, .inr (.inl fv))), (oX3 p0 pr pb pe pg p1 (nI nd) p2 p3 p4 p5 (nI cn) p6 (nI pq) p7 p8 p9 (nI sc)), (p1, .inl (cA 0, 6, .inl fde))]) 5 hP hD [5, 6] [0, 1, 2, 3, 4] rfl rfl (by decide) (by decide) hk1 hFc hP1 hD1 rfl
  generalize H1 = H at hP hS ⊢
  rcases hw with ⟨hr9, hn3⟩ | ⟨hr9, hn3⟩
  · skip
    subst hr9
    refine lv_if_ne (tgt := 16) hx hb dX4_readDeposit_7 (by decide) (fun c4 => ?_) (fun c9 => absurd c9 (by decide))
    refine lv_aload_n hx hb dX4_readDeposit_16 rfl (lv_at hl 0 rfl) ?_
    refine lv_aload_n hx hb dX4_readDeposit_17 rfl (lv_at hl 0 rfl) ?_
    refine va_get (D := D) (ci := 8) (v := .int (nI ti)) (C := RX4) (T := TX4) (N := 9) hx hb hts inX4 hown hK hP 0 rfl rfl 2 (by decide) (hts (.fieldLink RX4 70 "EscrowDesk$Reader" "token" "I") (by decide +kernel)) (fun _ h9 => h9) rfl dX4_readDeposit_18 ?_
    refine lv_iconst (v := 1) hx hb dX4_readDeposit_21 (by decide) ?_
    refine lv_iadd hx hb dX4_readDeposit_22 ?_
    refine lv_topi (fun yn5 eyn5 => ?_)
    obtain rfl : yn5 = (nI (ti + 1)) := eyn5.trans (nI_add ti 1)
    obtain ⟨hPc, hDc, hFc⟩ := PDq.cut (wc := [(oX4 r0 r1 p0 (nI ti) (fk ti) (ft ti) (fv ti) inb iek iep), (oX5 r1 k1 k2 k3 (nI ct)), (k1, .inl (cA 0, 701, .inl fk)), (k2, .inl (cA 0, 701, .inl ft)), (k3, .inl (cA 1, 701, .inr (.inl fv)))]) hP hD hS hA [0, 1, 2, 3, 4] (by decide) rfl
    refine va_callv (va_runV (As := [.int (nI (ti + 1))]) (rest := []) ⟨hx, hb, hml, hown, hts⟩ (x_lookAt l D cA sa r0 p0 (ti + 1) (nI ti) (fk ti) (ft ti) inb iek iep (fv ti) r1 k1 k2 k3 ct fk ft fv H.size hct hn1.1) (cwV 1 hts gX4_readDeposit_X4_lookAt rfl rfl rfl (by decide +kernel) ⟨(Nat.le_of_ble_eq_true rfl), (Nat.le_of_ble_eq_true rfl)⟩) ⟨Wd.blind, va_recv hK hPc (ci := 8) (q0 := 0) rfl rfl, fun U hU hW => ⟨rfl, Wd.call hPc hDc hK hC hZ hS hFc U hU hW⟩⟩ rfl rfl hl.1 rfl (lv_room (Nat.le_of_ble_eq_true rfl)) dX4_readDeposit_23 ⟨(Nat.le_of_ble_eq_true rfl), (Nat.le_of_ble_eq_true rfl)⟩) hS (fun q _ h => hFc q h) hFc (fun u t H1 locs ht hvm hw hB hz1 hk1 hS => ?_)
    obtain ⟨hP1, hD1⟩ := hB
    rw [ht] at hP1
    obtain ⟨hP, hD⟩ := PDq.join (w := [(oX3 p0 pr pb pe pg p1 (nI nd) p2 p3 p4 p5 (nI cn) p6 (nI pq) p7 p8 p9 (nI sc)), (p1, .inl (cA 0, 6, .inl fde)), (oX4 r0 r1 p0 (nI (ti + 1)) (fk (ti + 1)) (ft (ti + 1)) (fv (ti + 1)) inb iek iep), (oX5 r1 k1 k2 k3 (nI ct)), (k1, .inl (cA 0, 701, .inl fk)), (k2, .inl (cA 0, 701, .inl ft)), (k3, .inl (cA 1, 701, .inr (.inl fv)))]) 2 hP hD [0, 1, 2, 3, 4] [5, 6] rfl rfl (by decide) (by decide) hk1 hFc hP1 hD1 rfl
    generalize H1 = H at hP hS ⊢
    refine lv_aload_n hx hb dX4_readDeposit_26 rfl (lv_at hl 0 rfl) ?_
    refine lv_iconst (v := 1) hx hb dX4_readDeposit_27 (by decide) ?_
    refine lv_ldc (v := 99999) hx hb hown (hts (.constant RX4 120 99999) (by decide +kernel)) dX4_readDeposit_28 ?_
    obtain ⟨hPc, hDc, hFc⟩ := PDq.cut (wc := [(oX4 r0 r1 p0 (nI (ti + 1)) (fk (ti + 1)) (ft (ti + 1)) (fv (ti + 1)) inb iek iep), (oX5 r1 k1 k2 k3 (nI ct)), (k1, .inl (cA 0, 701, .inl fk)), (k2, .inl (cA 0, 701, .inl ft)), (k3, .inl (cA 1, 701, .inr (.inl fv)))]) hP hD hS hA [2, 3, 4, 5, 6] (by decide) rfl
    refine va_calli (va_runV (As := [.int 1, .int 99999]) (rest := []) ⟨hx, hb, hml, hown, hts⟩ (x_takeNumber l D cA sa r0 p0 (ti + 1) ln inb iek iep r1 k1 k2 k3 ct fk ft fv fb gP gR 1 99999 H.size hct hln hn1.1 hTX (by omega) (by omega)) (cwV 2 hts gX4_readDeposit_X4_takeNumber rfl rfl rfl (by decide +kernel) ⟨(Nat.le_of_ble_eq_true rfl), (Nat.le_of_ble_eq_true rfl)⟩) ⟨Wd.blind, va_recv hK hPc (ci := 8) (q0 := 0) rfl rfl, fun U hU hW => ⟨rfl, Wd.call hPc hDc hK hC hZ hS hFc U hU hW⟩⟩ rfl rfl hl.1 rfl (lv_room (Nat.le_of_ble_eq_true rfl)) dX4_readDeposit_30 ⟨(Nat.le_of_ble_eq_true rfl), (Nat.le_of_ble_eq_true rfl)⟩) hS (fun q _ h => hFc q h) hFc (fun rn6 u t H1 locs ht hvm hw hB hz1 hk1 hS => ?_)
    obtain ⟨qn7, zn8, zn9, zn10, hn11, hn12, hn13, hn14, hn15, hn16, hn17, hn18, hn19, hn20, hn21, hP1, hD1⟩ := hB
    rw [ht] at hP1
    obtain ⟨hP, hD⟩ := PDq.join (w := [(oX3 p0 pr pb pe pg p1 (nI nd) p2 p3 p4 p5 (nI cn) p6 (nI pq) p7 p8 p9 (nI sc)), (p1, .inl (cA 0, 6, .inl fde)), (oX4 r0 r1 p0 (nI qn7) (fk qn7) (ft qn7) (fv qn7) zn8 zn9 zn10), (oX5 r1 k1 k2 k3 (nI ct)), (k1, .inl (cA 0, 701, .inl fk)), (k2, .inl (cA 0, 701, .inl ft)), (k3, .inl (cA 1, 701, .inr (.inl fv)))]) 2 hP hD [2, 3, 4, 5, 6] [0, 1] rfl rfl (by decide) (by decide) hk1 hFc hP1 hD1 rfl
    generalize H1 = H at hP hS ⊢
    rcases hw.2 with hr9 | hr9
    · skip
      have hn20 := hn20 (hw.1.trans hr9)
      have hn21 := hn21 (hw.1.trans hr9)
      subst hr9
      refine lv_if_ne (tgt := 38) hx hb dX4_readDeposit_33 (by decide) (fun c9 => absurd c9 (by decide)) (fun c22 => ?_)
      refine lv_iconst (v := 0) hx hb dX4_readDeposit_36 (by decide) ?_
      obtain ⟨hP9, hD9⟩ := PDq.sub (ws' := [(oX4 r0 r1 p0 (nI qn7) (fk qn7) (ft qn7) (fv qn7) zn8 zn9 zn10), (oX5 r1 k1 k2 k3 (nI ct)), (k1, .inl (cA 0, 701, .inl fk)), (k2, .inl (cA 0, 701, .inl ft)), (k3, .inl (cA 1, 701, .inr (.inl fv))), (oX3 p0 pr pb pe pg p1 (nI nd) p2 p3 p4 p5 (nI cn) p6 (nI pq) p7 p8 p9 (nI sc)), (p1, .inl (cA 0, 6, .inl fde))]) hP hD [2, 3, 4, 5, 6, 0, 1] (by decide) rfl
      refine W.widen (k := 0) (n := 0) (Nat.le_of_ble_eq_true rfl) (Nat.le_of_ble_eq_true rfl) ?_
      exact (W.zret (v := 0) hx hb hr (by first | rfl | decide) (fun t ht hW => ⟨⟨0, 0, rfl, ⟨rfl, by decide⟩, qn7, zn8, zn9, zn10, nd, fde, hn11, hn12, hnd, (fun h9 => absurd h9 (by decide)), (fun h9 => absurd h9 (by decide)), (fun h9 => absurd h9 (by decide)), (fun h9 => absurd h9 (by decide)), (fun h9 => absurd h9 (by decide)), (fun h9 => absurd h9 (by decide)), (fun _ => (Or.inl (S_depEx hk (by omega) hn20 hn21))), by rw [ht]; exact hP9, hD9⟩, hS.F ht⟩) hS.2.2 dX4_readDeposit_37)
    · skip
      have hn14 := hn14 (hw.1.trans hr9)
      subst hn14
      obtain ⟨hP, hD⟩ : PDq D A [(oX3 p0 pr pb pe pg p1 (nI nd) p2 p3 p4 p5 (nI cn) p6 (nI pq) p7 p8 p9 (nI sc)), (p1, .inl (cA 0, 6, .inl fde)), (oX4 r0 r1 p0 (nI ((ti + 1) + 1)) (fk ((ti + 1) + 1)) (ft ((ti + 1) + 1)) (fv ((ti + 1) + 1)) zn8 zn9 zn10), (oX5 r1 k1 k2 k3 (nI ct)), (k1, .inl (cA 0, 701, .inl fk)), (k2, .inl (cA 0, 701, .inl ft)), (k3, .inl (cA 1, 701, .inr (.inl fv)))] H := ⟨hP, hD⟩
      have hn15 := hn15 (hw.1.trans hr9)
      obtain rfl : iek = zn9 := hn15.symm
      obtain ⟨hP, hD⟩ : PDq D A [(oX3 p0 pr pb pe pg p1 (nI nd) p2 p3 p4 p5 (nI cn) p6 (nI pq) p7 p8 p9 (nI sc)), (p1, .inl (cA 0, 6, .inl fde)), (oX4 r0 r1 p0 (nI ((ti + 1) + 1)) (fk ((ti + 1) + 1)) (ft ((ti + 1) + 1)) (fv ((ti + 1) + 1)) zn8 iek zn10), (oX5 r1 k1 k2 k3 (nI ct)), (k1, .inl (cA 0, 701, .inl fk)), (k2, .inl (cA 0, 701, .inl ft)), (k3, .inl (cA 1, 701, .inr (.inl fv)))] H := ⟨hP, hD⟩
      have hn16 := hn16 (hw.1.trans hr9)
      obtain rfl : iep = zn10 := hn16.symm
      obtain ⟨hP, hD⟩ : PDq D A [(oX3 p0 pr pb pe pg p1 (nI nd) p2 p3 p4 p5 (nI cn) p6 (nI pq) p7 p8 p9 (nI sc)), (p1, .inl (cA 0, 6, .inl fde)), (oX4 r0 r1 p0 (nI ((ti + 1) + 1)) (fk ((ti + 1) + 1)) (ft ((ti + 1) + 1)) (fv ((ti + 1) + 1)) zn8 iek iep), (oX5 r1 k1 k2 k3 (nI ct)), (k1, .inl (cA 0, 701, .inl fk)), (k2, .inl (cA 0, 701, .inl ft)), (k3, .inl (cA 1, 701, .inr (.inl fv)))] H := ⟨hP, hD⟩
      have hn17 := hn17 (hw.1.trans hr9)
      have hn18 := hn18 (hw.1.trans hr9)
      have hn19 := hn19 (hw.1.trans hr9)
      subst hn19
      obtain ⟨hP, hD⟩ : PDq D A [(oX3 p0 pr pb pe pg p1 (nI nd) p2 p3 p4 p5 (nI cn) p6 (nI pq) p7 p8 p9 (nI sc)), (p1, .inl (cA 0, 6, .inl fde)), (oX4 r0 r1 p0 (nI ((ti + 1) + 1)) (fk ((ti + 1) + 1)) (ft ((ti + 1) + 1)) (fv ((ti + 1) + 1)) ((fv (ti + 1)).toInt32) iek iep), (oX5 r1 k1 k2 k3 (nI ct)), (k1, .inl (cA 0, 701, .inl fk)), (k2, .inl (cA 0, 701, .inl ft)), (k3, .inl (cA 1, 701, .inr (.inl fv)))] H := ⟨hP, hD⟩
      subst hr9
      refine lv_if_ne (tgt := 38) hx hb dX4_readDeposit_33 (by decide) (fun c23 => ?_) (fun c9 => absurd c9 (by decide))
      refine lv_aload_n hx hb dX4_readDeposit_38 rfl (lv_at hl 0 rfl) ?_
      refine va_get (D := D) (ci := 8) (v := .ref p0) (C := RX4) (T := TX4) (N := 9) hx hb hts inX4 hown hK hP 2 rfl rfl 1 (by decide) (hts (.fieldLink RX4 25 "EscrowDesk$Reader" "plan" "LEscrowDesk$Plan;") (by decide +kernel)) (fun _ h9 => h9) rfl dX4_readDeposit_39 ?_
      refine lv_aload_n hx hb dX4_readDeposit_42 rfl (lv_at hl 0 rfl) ?_
      refine va_get (D := D) (ci := 8) (v := .int ((fv (ti + 1)).toInt32)) (C := RX4) (T := TX4) (N := 9) hx hb hts inX4 hown hK hP 2 rfl rfl 6 (by decide) (hts (.fieldLink RX4 91 "EscrowDesk$Reader" "number" "I") (by decide +kernel)) (fun _ h9 => h9) rfl dX4_readDeposit_43 ?_
      obtain ⟨hPc, hDc, hFc⟩ := PDq.cut (wc := [(oX3 p0 pr pb pe pg p1 (nI nd) p2 p3 p4 p5 (nI cn) p6 (nI pq) p7 p8 p9 (nI sc)), (p1, .inl (cA 0, 6, .inl fde))]) hP hD hS hA [0, 1] (by decide) rfl
      refine va_callv (va_runV (As := [.int ((fv (ti + 1)).toInt32)]) (rest := []) ⟨hx, hb, hml, hown, hts⟩ (x_addDeposit l D cA sa p0 p1 p2 p3 p4 p5 p6 p7 p8 p9 cn pq nd sc pr pb pe pg ((fv (ti + 1)).toInt32) fde H.size hcn hpq hnd hsc hn3) (cwV 1 hts gX4_readDeposit_X3_addDeposit rfl rfl rfl (by decide +kernel) ⟨(Nat.le_of_ble_eq_true rfl), (Nat.le_of_ble_eq_true rfl)⟩) ⟨Wd.blind, va_recv hK hPc (ci := 7) (q0 := 0) rfl rfl, fun U hU hW => ⟨rfl, Wd.call hPc hDc hK hC hZ hS hFc U hU hW⟩⟩ rfl rfl hl.1 rfl (lv_room (Nat.le_of_ble_eq_true rfl)) dX4_readDeposit_46 ⟨(Nat.le_of_ble_eq_true rfl), (Nat.le_of_ble_eq_true rfl)⟩) hS (fun q _ h => hFc q h) hFc (fun u t H1 locs ht hvm hw hB hz1 hk1 hS => ?_)
      obtain ⟨fn24, hn25, hP1, hD1⟩ := hB
      rw [ht] at hP1
      obtain ⟨hP, hD⟩ := PDq.join (w := [(oX4 r0 r1 p0 (nI ((ti + 1) + 1)) (fk ((ti + 1) + 1)) (ft ((ti + 1) + 1)) (fv ((ti + 1) + 1)) ((fv (ti + 1)).toInt32) iek iep), (oX5 r1 k1 k2 k3 (nI ct)), (k1, .inl (cA 0, 701, .inl fk)), (k2, .inl (cA 0, 701, .inl ft)), (k3, .inl (cA 1, 701, .inr (.inl fv))), (oX3 p0 pr pb pe pg p1 (nI (nd + 1)) p2 p3 p4 p5 (nI cn) p6 (nI pq) p7 p8 p9 (nI sc)), (p1, .inl (cA 0, 6, .inl fn24))]) 5 hP hD [0, 1] [2, 3, 4, 5, 6] rfl rfl (by decide) (by decide) hk1 hFc hP1 hD1 rfl
      generalize H1 = H at hP hS ⊢
      refine lv_aload_n hx hb dX4_readDeposit_49 rfl (lv_at hl 0 rfl) ?_
      refine lv_bipush (v := 7) hx hb dX4_readDeposit_50 (by decide) ?_
      obtain ⟨hPc, hDc, hFc⟩ := PDq.cut (wc := [(oX4 r0 r1 p0 (nI ((ti + 1) + 1)) (fk ((ti + 1) + 1)) (ft ((ti + 1) + 1)) (fv ((ti + 1) + 1)) ((fv (ti + 1)).toInt32) iek iep), (oX5 r1 k1 k2 k3 (nI ct)), (k1, .inl (cA 0, 701, .inl fk)), (k2, .inl (cA 0, 701, .inl ft)), (k3, .inl (cA 1, 701, .inr (.inl fv)))]) hP hD hS hA [0, 1, 2, 3, 4] (by decide) rfl
      refine va_calli (va_runV (As := [.int 7]) (rest := []) ⟨hx, hb, hml, hown, hts⟩ (x_take l D cA sa r0 p0 ((ti + 1) + 1) ln ((fv (ti + 1)).toInt32) iek iep r1 k1 k2 k3 ct fk ft fv fb gP gR 7 H.size hct hln hn11 hTX (by decide)) (cwV 1 hts gX4_readDeposit_X4_take rfl rfl rfl (by decide +kernel) ⟨(Nat.le_of_ble_eq_true rfl), (Nat.le_of_ble_eq_true rfl)⟩) ⟨Wd.blind, va_recv hK hPc (ci := 8) (q0 := 0) rfl rfl, fun U hU hW => ⟨rfl, Wd.call hPc hDc hK hC hZ hS hFc U hU hW⟩⟩ rfl rfl hl.1 rfl (lv_room (Nat.le_of_ble_eq_true rfl)) dX4_readDeposit_52 ⟨(Nat.le_of_ble_eq_true rfl), (Nat.le_of_ble_eq_true rfl)⟩) hS (fun q _ h => hFc q h) hFc (fun rn26 u t H1 locs ht hvm hw hB hz1 hk1 hS => ?_)
      obtain ⟨qn27, zn28, zn29, hn30, hn31, hn32, hn33, hn34, hn35, hn36, hn37, hn38, hn39, hn40, hP1, hD1⟩ := hB
      rw [ht] at hP1
      obtain ⟨hP, hD⟩ := PDq.join (w := [(oX3 p0 pr pb pe pg p1 (nI (nd + 1)) p2 p3 p4 p5 (nI cn) p6 (nI pq) p7 p8 p9 (nI sc)), (p1, .inl (cA 0, 6, .inl fn24)), (oX4 r0 r1 p0 (nI qn27) (fk qn27) (ft qn27) (fv qn27) ((fv (ti + 1)).toInt32) zn28 zn29), (oX5 r1 k1 k2 k3 (nI ct)), (k1, .inl (cA 0, 701, .inl fk)), (k2, .inl (cA 0, 701, .inl ft)), (k3, .inl (cA 1, 701, .inr (.inl fv)))]) 2 hP hD [0, 1, 2, 3, 4] [5, 6] rfl rfl (by decide) (by decide) hk1 hFc hP1 hD1 rfl
      generalize H1 = H at hP hS ⊢
      rcases hw.2 with hr9 | hr9
      · skip
        have hn38 := hn38 (hw.1.trans hr9)
        have hn39 := hn39 (hw.1.trans hr9)
        have hn40 := hn40 (hw.1.trans hr9)
        subst hr9
        obtain ⟨hP9, hD9⟩ := PDq.sub (ws' := [(oX4 r0 r1 p0 (nI qn27) (fk qn27) (ft qn27) (fv qn27) ((fv (ti + 1)).toInt32) zn28 zn29), (oX5 r1 k1 k2 k3 (nI ct)), (k1, .inl (cA 0, 701, .inl fk)), (k2, .inl (cA 0, 701, .inl ft)), (k3, .inl (cA 1, 701, .inr (.inl fv))), (oX3 p0 pr pb pe pg p1 (nI (nd + 1)) p2 p3 p4 p5 (nI cn) p6 (nI pq) p7 p8 p9 (nI sc)), (p1, .inl (cA 0, 6, .inl fn24))]) hP hD [2, 3, 4, 5, 6, 0, 1] (by decide) rfl
        refine W.widen (k := 0) (n := 0) (Nat.le_of_ble_eq_true rfl) (Nat.le_of_ble_eq_true rfl) ?_
        exact (W.zret (v := 0) hx hb hr (by first | rfl | decide) (fun t ht hW => ⟨⟨0, 0, rfl, ⟨rfl, by decide⟩, qn27, ((fv (ti + 1)).toInt32), zn28, zn29, (nd + 1), fn24, hn30, hn31, (by omega), (fun h9 => absurd h9 (by decide)), (fun h9 => absurd h9 (by decide)), (fun h9 => absurd h9 (by decide)), (fun h9 => absurd h9 (by decide)), (fun h9 => absurd h9 (by decide)), (fun h9 => absurd h9 (by decide)), (fun _ => (Or.inr ⟨_, _, _, _, S_dep hk (by omega) hn18, hn40, hn38, hn39⟩)), by rw [ht]; exact hP9, hD9⟩, hS.F ht⟩) hS.2.2 dX4_readDeposit_55)
      · skip
        have hn33 := hn33 (hw.1.trans hr9)
        subst hn33
        obtain ⟨hP, hD⟩ : PDq D A [(oX3 p0 pr pb pe pg p1 (nI (nd + 1)) p2 p3 p4 p5 (nI cn) p6 (nI pq) p7 p8 p9 (nI sc)), (p1, .inl (cA 0, 6, .inl fn24)), (oX4 r0 r1 p0 (nI (((ti + 1) + 1) + 1)) (fk (((ti + 1) + 1) + 1)) (ft (((ti + 1) + 1) + 1)) (fv (((ti + 1) + 1) + 1)) ((fv (ti + 1)).toInt32) zn28 zn29), (oX5 r1 k1 k2 k3 (nI ct)), (k1, .inl (cA 0, 701, .inl fk)), (k2, .inl (cA 0, 701, .inl ft)), (k3, .inl (cA 1, 701, .inr (.inl fv)))] H := ⟨hP, hD⟩
        have hn34 := hn34 (hw.1.trans hr9)
        obtain rfl : iek = zn28 := hn34.symm
        obtain ⟨hP, hD⟩ : PDq D A [(oX3 p0 pr pb pe pg p1 (nI (nd + 1)) p2 p3 p4 p5 (nI cn) p6 (nI pq) p7 p8 p9 (nI sc)), (p1, .inl (cA 0, 6, .inl fn24)), (oX4 r0 r1 p0 (nI (((ti + 1) + 1) + 1)) (fk (((ti + 1) + 1) + 1)) (ft (((ti + 1) + 1) + 1)) (fv (((ti + 1) + 1) + 1)) ((fv (ti + 1)).toInt32) iek zn29), (oX5 r1 k1 k2 k3 (nI ct)), (k1, .inl (cA 0, 701, .inl fk)), (k2, .inl (cA 0, 701, .inl ft)), (k3, .inl (cA 1, 701, .inr (.inl fv)))] H := ⟨hP, hD⟩
        have hn35 := hn35 (hw.1.trans hr9)
        obtain rfl : iep = zn29 := hn35.symm
        obtain ⟨hP, hD⟩ : PDq D A [(oX3 p0 pr pb pe pg p1 (nI (nd + 1)) p2 p3 p4 p5 (nI cn) p6 (nI pq) p7 p8 p9 (nI sc)), (p1, .inl (cA 0, 6, .inl fn24)), (oX4 r0 r1 p0 (nI (((ti + 1) + 1) + 1)) (fk (((ti + 1) + 1) + 1)) (ft (((ti + 1) + 1) + 1)) (fv (((ti + 1) + 1) + 1)) ((fv (ti + 1)).toInt32) iek iep), (oX5 r1 k1 k2 k3 (nI ct)), (k1, .inl (cA 0, 701, .inl fk)), (k2, .inl (cA 0, 701, .inl ft)), (k3, .inl (cA 1, 701, .inr (.inl fv)))] H := ⟨hP, hD⟩
        have hn36 := hn36 (hw.1.trans hr9)
        have hn37 := hn37 (hw.1.trans hr9)
        subst hr9
        obtain ⟨hP9, hD9⟩ := PDq.sub (ws' := [(oX4 r0 r1 p0 (nI (((ti + 1) + 1) + 1)) (fk (((ti + 1) + 1) + 1)) (ft (((ti + 1) + 1) + 1)) (fv (((ti + 1) + 1) + 1)) ((fv (ti + 1)).toInt32) iek iep), (oX5 r1 k1 k2 k3 (nI ct)), (k1, .inl (cA 0, 701, .inl fk)), (k2, .inl (cA 0, 701, .inl ft)), (k3, .inl (cA 1, 701, .inr (.inl fv))), (oX3 p0 pr pb pe pg p1 (nI (nd + 1)) p2 p3 p4 p5 (nI cn) p6 (nI pq) p7 p8 p9 (nI sc)), (p1, .inl (cA 0, 6, .inl fn24))]) hP hD [2, 3, 4, 5, 6, 0, 1] (by decide) rfl
        refine W.widen (k := 0) (n := 0) (Nat.le_of_ble_eq_true rfl) (Nat.le_of_ble_eq_true rfl) ?_
        exact (W.zret (v := 1) hx hb hr (by first | rfl | decide) (fun t ht hW => ⟨⟨1, 1, rfl, ⟨rfl, by decide⟩, (((ti + 1) + 1) + 1), ((fv (ti + 1)).toInt32), iek, iep, (nd + 1), fn24, hn30, hn31, (by omega), (fun _ => rfl), (fun _ => rfl), (fun _ => (by omega)), (fun _ => (by omega)), (fun _ => ⟨_, S_dep hk (by omega) hn18, hn37, rfl⟩), (fun _ => (TL9.dep hTL hk hn18 hn25 rfl (by omega) (by omega))), (fun h9 => absurd h9 (by decide)), by rw [ht]; exact hP9, hD9⟩, hS.F ht⟩) hS.2.2 dX4_readDeposit_55)
  · skip
    subst hr9
    refine lv_if_ne (tgt := 16) hx hb dX4_readDeposit_7 (by decide) (fun c9 => absurd c9 (by decide)) (fun c41 => ?_)
    refine lv_aload_n hx hb dX4_readDeposit_10 rfl (lv_at hl 0 rfl) ?_
    refine lv_iconst (v := 5) hx hb dX4_readDeposit_11 (by decide) ?_
    obtain ⟨hPc, hDc, hFc⟩ := PDq.cut (wc := [(oX4 r0 r1 p0 (nI ti) (fk ti) (ft ti) (fv ti) inb iek iep)]) hP hD hS hA [0] (by decide) rfl
    refine va_calli (va_runV (As := [.int 5]) (rest := []) ⟨hx, hb, hml, hown, hts⟩ (x_fail l D cA sa r0 r1 p0 (nI ti) (fk ti) (ft ti) inb iek iep (fv ti) 5 H.size) (cwV 1 hts gX4_readDeposit_X4_fail rfl rfl rfl (by decide +kernel) ⟨(Nat.le_of_ble_eq_true rfl), (Nat.le_of_ble_eq_true rfl)⟩) ⟨Wd.blind, va_recv hK hPc (ci := 8) (q0 := 0) rfl rfl, fun U hU hW => ⟨rfl, Wd.call hPc hDc hK hC hZ hS hFc U hU hW⟩⟩ rfl rfl hl.1 rfl (lv_room (Nat.le_of_ble_eq_true rfl)) dX4_readDeposit_12 ⟨(Nat.le_of_ble_eq_true rfl), (Nat.le_of_ble_eq_true rfl)⟩) hS (fun q _ h => hFc q h) hFc (fun rn42 u t H1 locs ht hvm hw hB hz1 hk1 hS => ?_)
    obtain ⟨zn43, hn44, hP1, hD1⟩ := hB
    rw [ht] at hP1
    obtain ⟨hP, hD⟩ := PDq.join (w := [(oX5 r1 k1 k2 k3 (nI ct)), (k1, .inl (cA 0, 701, .inl fk)), (k2, .inl (cA 0, 701, .inl ft)), (k3, .inl (cA 1, 701, .inr (.inl fv))), (oX3 p0 pr pb pe pg p1 (nI nd) p2 p3 p4 p5 (nI cn) p6 (nI pq) p7 p8 p9 (nI sc)), (p1, .inl (cA 0, 6, .inl fde)), (oX4 r0 r1 p0 (nI ti) (fk ti) (ft ti) (fv ti) inb zn43 (ft ti))]) 6 hP hD [0] [1, 2, 3, 4, 5, 6] rfl rfl (by decide) (by decide) hk1 hFc hP1 hD1 rfl
    generalize H1 = H at hP hS ⊢
    obtain rfl : rn42 = 0 := hw
    obtain ⟨hP9, hD9⟩ := PDq.sub (ws' := [(oX4 r0 r1 p0 (nI ti) (fk ti) (ft ti) (fv ti) inb zn43 (ft ti)), (oX5 r1 k1 k2 k3 (nI ct)), (k1, .inl (cA 0, 701, .inl fk)), (k2, .inl (cA 0, 701, .inl ft)), (k3, .inl (cA 1, 701, .inr (.inl fv))), (oX3 p0 pr pb pe pg p1 (nI nd) p2 p3 p4 p5 (nI cn) p6 (nI pq) p7 p8 p9 (nI sc)), (p1, .inl (cA 0, 6, .inl fde))]) hP hD [6, 0, 1, 2, 3, 4, 5] (by decide) rfl
    refine W.widen (k := 0) (n := 0) (Nat.le_of_ble_eq_true rfl) (Nat.le_of_ble_eq_true rfl) ?_
    exact (W.zret (v := 0) hx hb hr (by first | rfl | decide) (fun t ht hW => ⟨⟨0, 0, rfl, ⟨rfl, by decide⟩, ti, inb, zn43, (ft ti), nd, fde, hti, (by omega), hnd, (fun h9 => absurd h9 (by decide)), (fun h9 => absurd h9 (by decide)), (fun h9 => absurd h9 (by decide)), (fun h9 => absurd h9 (by decide)), (fun h9 => absurd h9 (by decide)), (fun h9 => absurd h9 (by decide)), (fun _ => (Or.inl (S_depFx hk (by omega) hn44 rfl))), by rw [ht]; exact hP9, hD9⟩, hS.F ht⟩) hS.2.2 dX4_readDeposit_15)

