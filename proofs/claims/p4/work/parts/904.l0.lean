set_option maxHeartbeats 4000000 in
set_option maxRecDepth 100000 in
/-- kindOf -/
theorem x_kindOf_look (l : Launch) (D : va_G) (cA : Nat → ClassId) (sa : Nat → Nat) (a : Int32) (sz : Nat) : Met l yX5_kindOf wsX5_kindOf ({ frames := 0, cells := 0, slots := 0, locals := 0 }) (va_Pc [.int a] (Wd D cA sa [] sz)) (va_Qi (fun (r : Int32) (_ : Unit) => r = ckd a) (fun (_ : Unit) t => Wq D (va_A [] sz) [] t) (va_A [] sz)) 0 0 (va_A [] sz) := by
  refine Met.ofW (cc := cX5_kindOf) (maxL := 1) (ret := (some .int)) (by decide) rfl ?_
  intro p e s m args below meth c s₁ B hml hv
  obtain ⟨rfl, hsz, hP, hK, hD0, hC, hZ⟩ := hv
  have hx := B.exec
  have hb := B.bytes
  have hr := B.returns
  have hts := atoms_spec (ws := wsX5_kindOf) B.pre
  have hown : s.vm.findClass RX5 = some m.cls := findClass_of_methodNamed B.named
  have hlocks := B.notSynchronized
  subst hsz
  have hD := hD0.self (sz := s.heap.size)
  generalize hAe : va_A [] s.heap.size = A at hD hZ ⊢
  have hA : ∀ q : Nat, s.heap.size ≤ q → A q := fun q h => by rw [← hAe]; exact Or.inr h
  have hS : va_S A s.heap s.heap [] := va_S.rf
  have hP : va_P D vwCl [] s.heap := hP
  have hl := lv_entry ([.int a]) (n := 1) (Nat.le_of_ble_eq_true rfl)
  rw [lg_entry_eq]
  generalize (lg_sl ([.int a]) ++ List.replicate (1 - (lg_sl ([.int a])).length) Slot.unset).toArray = ls at hl ⊢
  have hl : lv_has ls 1 [(0, .int a)] := hl
  refine lv_iload_n hx hb dX5_kindOf_0 rfl (lv_at hl 0 rfl) ?_
  refine lv_bipush (v := 97) hx hb dX5_kindOf_1 (by decide) ?_
  refine lv_icmp_lt (tgt := 14) hx hb dX5_kindOf_3 (by decide) (fun c1 => ?_) (fun c1 => ?_)
  · skip
    refine lv_iload_n hx hb dX5_kindOf_14 rfl (lv_at hl 0 rfl) ?_
    refine lv_bipush (v := 48) hx hb dX5_kindOf_15 (by decide) ?_
    refine lv_icmp_lt (tgt := 28) hx hb dX5_kindOf_17 (by decide) (fun c2 => ?_) (fun c2 => ?_)
    · skip
      refine lv_iload_n hx hb dX5_kindOf_28 rfl (lv_at hl 0 rfl) ?_
      refine lv_bipush (v := 32) hx hb dX5_kindOf_29 (by decide) ?_
      refine lv_icmp_eq (tgt := 40) hx hb dX5_kindOf_31 (by decide) (fun c3 => ?_) (fun c3 => ?_)
      · skip
        rw [c3] at hl
        have hl : lv_has ls 1 [(0, .int 32)] := hl
        refine lv_iconst (v := 0) hx hb dX5_kindOf_40 (by decide) ?_
        obtain ⟨hP9, hD9⟩ := PDq.sub (ws' := []) hP hD [] (by decide) rfl
        refine W.widen (k := 0) (n := 0) (Nat.le_of_ble_eq_true rfl) (Nat.le_of_ble_eq_true rfl) ?_
        exact (W.iret (v := 0) hx hb hr (fun t ht hW => ⟨⟨0, (), rfl, (by unfold ckd; rw [if_neg (fun q : 97 ≤ a ∧ a ≤ 122 => absurd q.1 (Int32.not_le.mpr c1)), if_neg (fun q : 48 ≤ a ∧ a ≤ 57 => absurd q.1 (Int32.not_le.mpr c2)), if_pos (Or.inl c3)]), by rw [ht]; exact hP9, hD9⟩, hS.F ht⟩) hS.2.2 dX5_kindOf_41)
      · skip
        refine lv_iload_n hx hb dX5_kindOf_34 rfl (lv_at hl 0 rfl) ?_
        refine lv_bipush (v := 10) hx hb dX5_kindOf_35 (by decide) ?_
        refine lv_icmp_ne (tgt := 42) hx hb dX5_kindOf_37 (by decide) (fun c4 => ?_) (fun c4 => ?_)
        · skip
          refine lv_iload_n hx hb dX5_kindOf_42 rfl (lv_at hl 0 rfl) ?_
          refine lv_bipush (v := 40) hx hb dX5_kindOf_43 (by decide) ?_
          refine lv_icmp_ne (tgt := 50) hx hb dX5_kindOf_45 (by decide) (fun c5 => ?_) (fun c5 => ?_)
          · skip
            refine lv_iload_n hx hb dX5_kindOf_50 rfl (lv_at hl 0 rfl) ?_
            refine lv_bipush (v := 41) hx hb dX5_kindOf_51 (by decide) ?_
            refine lv_icmp_ne (tgt := 59) hx hb dX5_kindOf_53 (by decide) (fun c6 => ?_) (fun c6 => ?_)
            · skip
              refine lv_iload_n hx hb dX5_kindOf_59 rfl (lv_at hl 0 rfl) ?_
              refine lv_bipush (v := 59) hx hb dX5_kindOf_60 (by decide) ?_
              refine lv_icmp_ne (tgt := 70) hx hb dX5_kindOf_62 (by decide) (fun c7 => ?_) (fun c7 => ?_)
              · skip
                refine lv_iconst (v := 2) hx hb dX5_kindOf_70 (by decide) ?_
                obtain ⟨hP9, hD9⟩ := PDq.sub (ws' := []) hP hD [] (by decide) rfl
                refine W.widen (k := 0) (n := 0) (Nat.le_of_ble_eq_true rfl) (Nat.le_of_ble_eq_true rfl) ?_
                exact (W.iret (v := 2) hx hb hr (fun t ht hW => ⟨⟨2, (), rfl, (by unfold ckd; rw [if_neg (fun q : 97 ≤ a ∧ a ≤ 122 => absurd q.1 (Int32.not_le.mpr c1)), if_neg (fun q : 48 ≤ a ∧ a ≤ 57 => absurd q.1 (Int32.not_le.mpr c2)), if_neg (fun q : a = 32 ∨ a = 10 => q.elim c3 c4), if_neg c5, if_neg c6, if_neg c7]), by rw [ht]; exact hP9, hD9⟩, hS.F ht⟩) hS.2.2 dX5_kindOf_71)
              · skip
                rw [c7] at hl
                have hl : lv_has ls 1 [(0, .int 59)] := hl
                refine lv_bipush (v := 7) hx hb dX5_kindOf_65 (by decide) ?_
                refine lv_goto (tgt := 71) hx hb dX5_kindOf_67 (by decide) ?_
                obtain ⟨hP9, hD9⟩ := PDq.sub (ws' := []) hP hD [] (by decide) rfl
                refine W.widen (k := 0) (n := 0) (Nat.le_of_ble_eq_true rfl) (Nat.le_of_ble_eq_true rfl) ?_
                exact (W.iret (v := 7) hx hb hr (fun t ht hW => ⟨⟨7, (), rfl, (by unfold ckd; rw [if_neg (fun q : 97 ≤ a ∧ a ≤ 122 => absurd q.1 (Int32.not_le.mpr c1)), if_neg (fun q : 48 ≤ a ∧ a ≤ 57 => absurd q.1 (Int32.not_le.mpr c2)), if_neg (fun q : a = 32 ∨ a = 10 => q.elim c3 c4), if_neg c5, if_neg c6, if_pos c7]), by rw [ht]; exact hP9, hD9⟩, hS.F ht⟩) hS.2.2 dX5_kindOf_71)
            · skip
              rw [c6] at hl
              have hl : lv_has ls 1 [(0, .int 41)] := hl
              refine lv_bipush (v := 6) hx hb dX5_kindOf_56 (by decide) ?_
              obtain ⟨hP9, hD9⟩ := PDq.sub (ws' := []) hP hD [] (by decide) rfl
              refine W.widen (k := 0) (n := 0) (Nat.le_of_ble_eq_true rfl) (Nat.le_of_ble_eq_true rfl) ?_
              exact (W.iret (v := 6) hx hb hr (fun t ht hW => ⟨⟨6, (), rfl, (by unfold ckd; rw [if_neg (fun q : 97 ≤ a ∧ a ≤ 122 => absurd q.1 (Int32.not_le.mpr c1)), if_neg (fun q : 48 ≤ a ∧ a ≤ 57 => absurd q.1 (Int32.not_le.mpr c2)), if_neg (fun q : a = 32 ∨ a = 10 => q.elim c3 c4), if_neg c5, if_pos c6]), by rw [ht]; exact hP9, hD9⟩, hS.F ht⟩) hS.2.2 dX5_kindOf_58)
          · skip
            rw [c5] at hl
            have hl : lv_has ls 1 [(0, .int 40)] := hl
            refine lv_iconst (v := 5) hx hb dX5_kindOf_48 (by decide) ?_
            obtain ⟨hP9, hD9⟩ := PDq.sub (ws' := []) hP hD [] (by decide) rfl
            refine W.widen (k := 0) (n := 0) (Nat.le_of_ble_eq_true rfl) (Nat.le_of_ble_eq_true rfl) ?_
            exact (W.iret (v := 5) hx hb hr (fun t ht hW => ⟨⟨5, (), rfl, (by unfold ckd; rw [if_neg (fun q : 97 ≤ a ∧ a ≤ 122 => absurd q.1 (Int32.not_le.mpr c1)), if_neg (fun q : 48 ≤ a ∧ a ≤ 57 => absurd q.1 (Int32.not_le.mpr c2)), if_neg (fun q : a = 32 ∨ a = 10 => q.elim c3 c4), if_pos c5]), by rw [ht]; exact hP9, hD9⟩, hS.F ht⟩) hS.2.2 dX5_kindOf_49)
        · skip
          rw [c4] at hl
          have hl : lv_has ls 1 [(0, .int 10)] := hl
          refine lv_iconst (v := 0) hx hb dX5_kindOf_40 (by decide) ?_
          obtain ⟨hP9, hD9⟩ := PDq.sub (ws' := []) hP hD [] (by decide) rfl
          refine W.widen (k := 0) (n := 0) (Nat.le_of_ble_eq_true rfl) (Nat.le_of_ble_eq_true rfl) ?_
          exact (W.iret (v := 0) hx hb hr (fun t ht hW => ⟨⟨0, (), rfl, (by unfold ckd; rw [if_neg (fun q : 97 ≤ a ∧ a ≤ 122 => absurd q.1 (Int32.not_le.mpr c1)), if_neg (fun q : 48 ≤ a ∧ a ≤ 57 => absurd q.1 (Int32.not_le.mpr c2)), if_pos (Or.inr c4)]), by rw [ht]; exact hP9, hD9⟩, hS.F ht⟩) hS.2.2 dX5_kindOf_41)
    · skip
      refine lv_iload_n hx hb dX5_kindOf_20 rfl (lv_at hl 0 rfl) ?_
      refine lv_bipush (v := 57) hx hb dX5_kindOf_21 (by decide) ?_
      refine lv_icmp_gt (tgt := 28) hx hb dX5_kindOf_23 (by decide) (fun c8 => ?_) (fun c8 => ?_)
      · skip
        refine lv_iload_n hx hb dX5_kindOf_28 rfl (lv_at hl 0 rfl) ?_
        refine lv_bipush (v := 32) hx hb dX5_kindOf_29 (by decide) ?_
        refine lv_icmp_eq (tgt := 40) hx hb dX5_kindOf_31 (by decide) (fun c9 => ?_) (fun c9 => ?_)
        · skip
          rw [c9] at hl
          have hl : lv_has ls 1 [(0, .int 32)] := hl
          refine lv_iconst (v := 0) hx hb dX5_kindOf_40 (by decide) ?_
          obtain ⟨hP9, hD9⟩ := PDq.sub (ws' := []) hP hD [] (by decide) rfl
          refine W.widen (k := 0) (n := 0) (Nat.le_of_ble_eq_true rfl) (Nat.le_of_ble_eq_true rfl) ?_
          exact (W.iret (v := 0) hx hb hr (fun t ht hW => ⟨⟨0, (), rfl, (by unfold ckd; rw [if_neg (fun q : 97 ≤ a ∧ a ≤ 122 => absurd q.1 (Int32.not_le.mpr c1)), if_neg (fun q : 48 ≤ a ∧ a ≤ 57 => absurd q.2 (Int32.not_le.mpr c8)), if_pos (Or.inl c9)]), by rw [ht]; exact hP9, hD9⟩, hS.F ht⟩) hS.2.2 dX5_kindOf_41)
        · skip
          refine lv_iload_n hx hb dX5_kindOf_34 rfl (lv_at hl 0 rfl) ?_
          refine lv_bipush (v := 10) hx hb dX5_kindOf_35 (by decide) ?_
          refine lv_icmp_ne (tgt := 42) hx hb dX5_kindOf_37 (by decide) (fun c10 => ?_) (fun c10 => ?_)
          · skip
            refine lv_iload_n hx hb dX5_kindOf_42 rfl (lv_at hl 0 rfl) ?_
            refine lv_bipush (v := 40) hx hb dX5_kindOf_43 (by decide) ?_
            refine lv_icmp_ne (tgt := 50) hx hb dX5_kindOf_45 (by decide) (fun c11 => ?_) (fun c11 => ?_)
            · skip
              refine lv_iload_n hx hb dX5_kindOf_50 rfl (lv_at hl 0 rfl) ?_
              refine lv_bipush (v := 41) hx hb dX5_kindOf_51 (by decide) ?_
              refine lv_icmp_ne (tgt := 59) hx hb dX5_kindOf_53 (by decide) (fun c12 => ?_) (fun c12 => ?_)
              · skip
                refine lv_iload_n hx hb dX5_kindOf_59 rfl (lv_at hl 0 rfl) ?_
                refine lv_bipush (v := 59) hx hb dX5_kindOf_60 (by decide) ?_
                refine lv_icmp_ne (tgt := 70) hx hb dX5_kindOf_62 (by decide) (fun c13 => ?_) (fun c13 => ?_)
                · skip
                  refine lv_iconst (v := 2) hx hb dX5_kindOf_70 (by decide) ?_
                  obtain ⟨hP9, hD9⟩ := PDq.sub (ws' := []) hP hD [] (by decide) rfl
                  refine W.widen (k := 0) (n := 0) (Nat.le_of_ble_eq_true rfl) (Nat.le_of_ble_eq_true rfl) ?_
                  exact (W.iret (v := 2) hx hb hr (fun t ht hW => ⟨⟨2, (), rfl, (by unfold ckd; rw [if_neg (fun q : 97 ≤ a ∧ a ≤ 122 => absurd q.1 (Int32.not_le.mpr c1)), if_neg (fun q : 48 ≤ a ∧ a ≤ 57 => absurd q.2 (Int32.not_le.mpr c8)), if_neg (fun q : a = 32 ∨ a = 10 => q.elim c9 c10), if_neg c11, if_neg c12, if_neg c13]), by rw [ht]; exact hP9, hD9⟩, hS.F ht⟩) hS.2.2 dX5_kindOf_71)
                · skip
                  rw [c13] at hl
                  have hl : lv_has ls 1 [(0, .int 59)] := hl
                  refine lv_bipush (v := 7) hx hb dX5_kindOf_65 (by decide) ?_
                  refine lv_goto (tgt := 71) hx hb dX5_kindOf_67 (by decide) ?_
                  obtain ⟨hP9, hD9⟩ := PDq.sub (ws' := []) hP hD [] (by decide) rfl
                  refine W.widen (k := 0) (n := 0) (Nat.le_of_ble_eq_true rfl) (Nat.le_of_ble_eq_true rfl) ?_
                  exact (W.iret (v := 7) hx hb hr (fun t ht hW => ⟨⟨7, (), rfl, (by unfold ckd; rw [if_neg (fun q : 97 ≤ a ∧ a ≤ 122 => absurd q.1 (Int32.not_le.mpr c1)), if_neg (fun q : 48 ≤ a ∧ a ≤ 57 => absurd q.2 (Int32.not_le.mpr c8)), if_neg (fun q : a = 32 ∨ a = 10 => q.elim c9 c10), if_neg c11, if_neg c12, if_pos c13]), by rw [ht]; exact hP9, hD9⟩, hS.F ht⟩) hS.2.2 dX5_kindOf_71)
              · skip
                rw [c12] at hl
                have hl : lv_has ls 1 [(0, .int 41)] := hl
                refine lv_bipush (v := 6) hx hb dX5_kindOf_56 (by decide) ?_
                obtain ⟨hP9, hD9⟩ := PDq.sub (ws' := []) hP hD [] (by decide) rfl
                refine W.widen (k := 0) (n := 0) (Nat.le_of_ble_eq_true rfl) (Nat.le_of_ble_eq_true rfl) ?_
                exact (W.iret (v := 6) hx hb hr (fun t ht hW => ⟨⟨6, (), rfl, (by unfold ckd; rw [if_neg (fun q : 97 ≤ a ∧ a ≤ 122 => absurd q.1 (Int32.not_le.mpr c1)), if_neg (fun q : 48 ≤ a ∧ a ≤ 57 => absurd q.2 (Int32.not_le.mpr c8)), if_neg (fun q : a = 32 ∨ a = 10 => q.elim c9 c10), if_neg c11, if_pos c12]), by rw [ht]; exact hP9, hD9⟩, hS.F ht⟩) hS.2.2 dX5_kindOf_58)
            · skip
              rw [c11] at hl
              have hl : lv_has ls 1 [(0, .int 40)] := hl
              refine lv_iconst (v := 5) hx hb dX5_kindOf_48 (by decide) ?_
              obtain ⟨hP9, hD9⟩ := PDq.sub (ws' := []) hP hD [] (by decide) rfl
              refine W.widen (k := 0) (n := 0) (Nat.le_of_ble_eq_true rfl) (Nat.le_of_ble_eq_true rfl) ?_
              exact (W.iret (v := 5) hx hb hr (fun t ht hW => ⟨⟨5, (), rfl, (by unfold ckd; rw [if_neg (fun q : 97 ≤ a ∧ a ≤ 122 => absurd q.1 (Int32.not_le.mpr c1)), if_neg (fun q : 48 ≤ a ∧ a ≤ 57 => absurd q.2 (Int32.not_le.mpr c8)), if_neg (fun q : a = 32 ∨ a = 10 => q.elim c9 c10), if_pos c11]), by rw [ht]; exact hP9, hD9⟩, hS.F ht⟩) hS.2.2 dX5_kindOf_49)
          · skip
            rw [c10] at hl
            have hl : lv_has ls 1 [(0, .int 10)] := hl
            refine lv_iconst (v := 0) hx hb dX5_kindOf_40 (by decide) ?_
            obtain ⟨hP9, hD9⟩ := PDq.sub (ws' := []) hP hD [] (by decide) rfl
            refine W.widen (k := 0) (n := 0) (Nat.le_of_ble_eq_true rfl) (Nat.le_of_ble_eq_true rfl) ?_
            exact (W.iret (v := 0) hx hb hr (fun t ht hW => ⟨⟨0, (), rfl, (by unfold ckd; rw [if_neg (fun q : 97 ≤ a ∧ a ≤ 122 => absurd q.1 (Int32.not_le.mpr c1)), if_neg (fun q : 48 ≤ a ∧ a ≤ 57 => absurd q.2 (Int32.not_le.mpr c8)), if_pos (Or.inr c10)]), by rw [ht]; exact hP9, hD9⟩, hS.F ht⟩) hS.2.2 dX5_kindOf_41)
      · skip
        refine lv_iconst (v := 3) hx hb dX5_kindOf_26 (by decide) ?_
        obtain ⟨hP9, hD9⟩ := PDq.sub (ws' := []) hP hD [] (by decide) rfl
        refine W.widen (k := 0) (n := 0) (Nat.le_of_ble_eq_true rfl) (Nat.le_of_ble_eq_true rfl) ?_
        exact (W.iret (v := 3) hx hb hr (fun t ht hW => ⟨⟨3, (), rfl, (by unfold ckd; rw [if_neg (fun q : 97 ≤ a ∧ a ≤ 122 => absurd q.1 (Int32.not_le.mpr c1)), if_pos (And.intro (Int32.not_lt.mp c2) (Int32.not_lt.mp c8))]), by rw [ht]; exact hP9, hD9⟩, hS.F ht⟩) hS.2.2 dX5_kindOf_27)
  · skip
    refine lv_iload_n hx hb dX5_kindOf_6 rfl (lv_at hl 0 rfl) ?_
    refine lv_bipush (v := 122) hx hb dX5_kindOf_7 (by decide) ?_
    refine lv_icmp_gt (tgt := 14) hx hb dX5_kindOf_9 (by decide) (fun c14 => ?_) (fun c14 => ?_)
    · skip
      refine lv_iload_n hx hb dX5_kindOf_14 rfl (lv_at hl 0 rfl) ?_
      refine lv_bipush (v := 48) hx hb dX5_kindOf_15 (by decide) ?_
      refine lv_icmp_lt (tgt := 28) hx hb dX5_kindOf_17 (by decide) (fun c15 => ?_) (fun c15 => ?_)
      · skip
        refine lv_iload_n hx hb dX5_kindOf_28 rfl (lv_at hl 0 rfl) ?_
        refine lv_bipush (v := 32) hx hb dX5_kindOf_29 (by decide) ?_
        refine lv_icmp_eq (tgt := 40) hx hb dX5_kindOf_31 (by decide) (fun c16 => ?_) (fun c16 => ?_)
        · skip
          rw [c16] at hl
          have hl : lv_has ls 1 [(0, .int 32)] := hl
          refine lv_iconst (v := 0) hx hb dX5_kindOf_40 (by decide) ?_
          obtain ⟨hP9, hD9⟩ := PDq.sub (ws' := []) hP hD [] (by decide) rfl
          refine W.widen (k := 0) (n := 0) (Nat.le_of_ble_eq_true rfl) (Nat.le_of_ble_eq_true rfl) ?_
          exact (W.iret (v := 0) hx hb hr (fun t ht hW => ⟨⟨0, (), rfl, (by unfold ckd; rw [if_neg (fun q : 97 ≤ a ∧ a ≤ 122 => absurd q.2 (Int32.not_le.mpr c14)), if_neg (fun q : 48 ≤ a ∧ a ≤ 57 => absurd q.1 (Int32.not_le.mpr c15)), if_pos (Or.inl c16)]), by rw [ht]; exact hP9, hD9⟩, hS.F ht⟩) hS.2.2 dX5_kindOf_41)
        · skip
          refine lv_iload_n hx hb dX5_kindOf_34 rfl (lv_at hl 0 rfl) ?_
          refine lv_bipush (v := 10) hx hb dX5_kindOf_35 (by decide) ?_
          refine lv_icmp_ne (tgt := 42) hx hb dX5_kindOf_37 (by decide) (fun c17 => ?_) (fun c17 => ?_)
          · skip
            refine lv_iload_n hx hb dX5_kindOf_42 rfl (lv_at hl 0 rfl) ?_
            refine lv_bipush (v := 40) hx hb dX5_kindOf_43 (by decide) ?_
            refine lv_icmp_ne (tgt := 50) hx hb dX5_kindOf_45 (by decide) (fun c18 => ?_) (fun c18 => ?_)
            · skip
              refine lv_iload_n hx hb dX5_kindOf_50 rfl (lv_at hl 0 rfl) ?_
              refine lv_bipush (v := 41) hx hb dX5_kindOf_51 (by decide) ?_
              refine lv_icmp_ne (tgt := 59) hx hb dX5_kindOf_53 (by decide) (fun c19 => ?_) (fun c19 => ?_)
              · skip
                refine lv_iload_n hx hb dX5_kindOf_59 rfl (lv_at hl 0 rfl) ?_
                refine lv_bipush (v := 59) hx hb dX5_kindOf_60 (by decide) ?_
                refine lv_icmp_ne (tgt := 70) hx hb dX5_kindOf_62 (by decide) (fun c20 => ?_) (fun c20 => ?_)
                · skip
                  refine lv_iconst (v := 2) hx hb dX5_kindOf_70 (by decide) ?_
                  obtain ⟨hP9, hD9⟩ := PDq.sub (ws' := []) hP hD [] (by decide) rfl
                  refine W.widen (k := 0) (n := 0) (Nat.le_of_ble_eq_true rfl) (Nat.le_of_ble_eq_true rfl) ?_
                  exact (W.iret (v := 2) hx hb hr (fun t ht hW => ⟨⟨2, (), rfl, (by unfold ckd; rw [if_neg (fun q : 97 ≤ a ∧ a ≤ 122 => absurd q.2 (Int32.not_le.mpr c14)), if_neg (fun q : 48 ≤ a ∧ a ≤ 57 => absurd q.1 (Int32.not_le.mpr c15)), if_neg (fun q : a = 32 ∨ a = 10 => q.elim c16 c17), if_neg c18, if_neg c19, if_neg c20]), by rw [ht]; exact hP9, hD9⟩, hS.F ht⟩) hS.2.2 dX5_kindOf_71)
                · skip
                  rw [c20] at hl
                  have hl : lv_has ls 1 [(0, .int 59)] := hl
                  refine lv_bipush (v := 7) hx hb dX5_kindOf_65 (by decide) ?_
                  refine lv_goto (tgt := 71) hx hb dX5_kindOf_67 (by decide) ?_
                  obtain ⟨hP9, hD9⟩ := PDq.sub (ws' := []) hP hD [] (by decide) rfl
                  refine W.widen (k := 0) (n := 0) (Nat.le_of_ble_eq_true rfl) (Nat.le_of_ble_eq_true rfl) ?_
                  exact (W.iret (v := 7) hx hb hr (fun t ht hW => ⟨⟨7, (), rfl, (by unfold ckd; rw [if_neg (fun q : 97 ≤ a ∧ a ≤ 122 => absurd q.2 (Int32.not_le.mpr c14)), if_neg (fun q : 48 ≤ a ∧ a ≤ 57 => absurd q.1 (Int32.not_le.mpr c15)), if_neg (fun q : a = 32 ∨ a = 10 => q.elim c16 c17), if_neg c18, if_neg c19, if_pos c20]), by rw [ht]; exact hP9, hD9⟩, hS.F ht⟩) hS.2.2 dX5_kindOf_71)
              · skip
                rw [c19] at hl
                have hl : lv_has ls 1 [(0, .int 41)] := hl
                refine lv_bipush (v := 6) hx hb dX5_kindOf_56 (by decide) ?_
                obtain ⟨hP9, hD9⟩ := PDq.sub (ws' := []) hP hD [] (by decide) rfl
                refine W.widen (k := 0) (n := 0) (Nat.le_of_ble_eq_true rfl) (Nat.le_of_ble_eq_true rfl) ?_
                exact (W.iret (v := 6) hx hb hr (fun t ht hW => ⟨⟨6, (), rfl, (by unfold ckd; rw [if_neg (fun q : 97 ≤ a ∧ a ≤ 122 => absurd q.2 (Int32.not_le.mpr c14)), if_neg (fun q : 48 ≤ a ∧ a ≤ 57 => absurd q.1 (Int32.not_le.mpr c15)), if_neg (fun q : a = 32 ∨ a = 10 => q.elim c16 c17), if_neg c18, if_pos c19]), by rw [ht]; exact hP9, hD9⟩, hS.F ht⟩) hS.2.2 dX5_kindOf_58)
            · skip
              rw [c18] at hl
              have hl : lv_has ls 1 [(0, .int 40)] := hl
              refine lv_iconst (v := 5) hx hb dX5_kindOf_48 (by decide) ?_
              obtain ⟨hP9, hD9⟩ := PDq.sub (ws' := []) hP hD [] (by decide) rfl
              refine W.widen (k := 0) (n := 0) (Nat.le_of_ble_eq_true rfl) (Nat.le_of_ble_eq_true rfl) ?_
              exact (W.iret (v := 5) hx hb hr (fun t ht hW => ⟨⟨5, (), rfl, (by unfold ckd; rw [if_neg (fun q : 97 ≤ a ∧ a ≤ 122 => absurd q.2 (Int32.not_le.mpr c14)), if_neg (fun q : 48 ≤ a ∧ a ≤ 57 => absurd q.1 (Int32.not_le.mpr c15)), if_neg (fun q : a = 32 ∨ a = 10 => q.elim c16 c17), if_pos c18]), by rw [ht]; exact hP9, hD9⟩, hS.F ht⟩) hS.2.2 dX5_kindOf_49)
          · skip
            rw [c17] at hl
            have hl : lv_has ls 1 [(0, .int 10)] := hl
            refine lv_iconst (v := 0) hx hb dX5_kindOf_40 (by decide) ?_
            obtain ⟨hP9, hD9⟩ := PDq.sub (ws' := []) hP hD [] (by decide) rfl
            refine W.widen (k := 0) (n := 0) (Nat.le_of_ble_eq_true rfl) (Nat.le_of_ble_eq_true rfl) ?_
            exact (W.iret (v := 0) hx hb hr (fun t ht hW => ⟨⟨0, (), rfl, (by unfold ckd; rw [if_neg (fun q : 97 ≤ a ∧ a ≤ 122 => absurd q.2 (Int32.not_le.mpr c14)), if_neg (fun q : 48 ≤ a ∧ a ≤ 57 => absurd q.1 (Int32.not_le.mpr c15)), if_pos (Or.inr c17)]), by rw [ht]; exact hP9, hD9⟩, hS.F ht⟩) hS.2.2 dX5_kindOf_41)
      · skip
        refine lv_iload_n hx hb dX5_kindOf_20 rfl (lv_at hl 0 rfl) ?_
        refine lv_bipush (v := 57) hx hb dX5_kindOf_21 (by decide) ?_
        refine lv_icmp_gt (tgt := 28) hx hb dX5_kindOf_23 (by decide) (fun c21 => ?_) (fun c21 => ?_)
        · skip
          refine lv_iload_n hx hb dX5_kindOf_28 rfl (lv_at hl 0 rfl) ?_
          refine lv_bipush (v := 32) hx hb dX5_kindOf_29 (by decide) ?_
          refine lv_icmp_eq (tgt := 40) hx hb dX5_kindOf_31 (by decide) (fun c22 => ?_) (fun c22 => ?_)
          · skip
            rw [c22] at hl
            have hl : lv_has ls 1 [(0, .int 32)] := hl
            refine lv_iconst (v := 0) hx hb dX5_kindOf_40 (by decide) ?_
            obtain ⟨hP9, hD9⟩ := PDq.sub (ws' := []) hP hD [] (by decide) rfl
            refine W.widen (k := 0) (n := 0) (Nat.le_of_ble_eq_true rfl) (Nat.le_of_ble_eq_true rfl) ?_
            exact (W.iret (v := 0) hx hb hr (fun t ht hW => ⟨⟨0, (), rfl, (by unfold ckd; rw [if_neg (fun q : 97 ≤ a ∧ a ≤ 122 => absurd q.2 (Int32.not_le.mpr c14)), if_neg (fun q : 48 ≤ a ∧ a ≤ 57 => absurd q.2 (Int32.not_le.mpr c21)), if_pos (Or.inl c22)]), by rw [ht]; exact hP9, hD9⟩, hS.F ht⟩) hS.2.2 dX5_kindOf_41)
          · skip
            refine lv_iload_n hx hb dX5_kindOf_34 rfl (lv_at hl 0 rfl) ?_
            refine lv_bipush (v := 10) hx hb dX5_kindOf_35 (by decide) ?_
            refine lv_icmp_ne (tgt := 42) hx hb dX5_kindOf_37 (by decide) (fun c23 => ?_) (fun c23 => ?_)
            · skip
              refine lv_iload_n hx hb dX5_kindOf_42 rfl (lv_at hl 0 rfl) ?_
              refine lv_bipush (v := 40) hx hb dX5_kindOf_43 (by decide) ?_
              refine lv_icmp_ne (tgt := 50) hx hb dX5_kindOf_45 (by decide) (fun c24 => ?_) (fun c24 => ?_)
              · skip
                refine lv_iload_n hx hb dX5_kindOf_50 rfl (lv_at hl 0 rfl) ?_
                refine lv_bipush (v := 41) hx hb dX5_kindOf_51 (by decide) ?_
                refine lv_icmp_ne (tgt := 59) hx hb dX5_kindOf_53 (by decide) (fun c25 => ?_) (fun c25 => ?_)
                · skip
                  refine lv_iload_n hx hb dX5_kindOf_59 rfl (lv_at hl 0 rfl) ?_
                  refine lv_bipush (v := 59) hx hb dX5_kindOf_60 (by decide) ?_
                  refine lv_icmp_ne (tgt := 70) hx hb dX5_kindOf_62 (by decide) (fun c26 => ?_) (fun c26 => ?_)
                  · skip
                    refine lv_iconst (v := 2) hx hb dX5_kindOf_70 (by decide) ?_
                    obtain ⟨hP9, hD9⟩ := PDq.sub (ws' := []) hP hD [] (by decide) rfl
                    refine W.widen (k := 0) (n := 0) (Nat.le_of_ble_eq_true rfl) (Nat.le_of_ble_eq_true rfl) ?_
                    exact (W.iret (v := 2) hx hb hr (fun t ht hW => ⟨⟨2, (), rfl, (by unfold ckd; rw [if_neg (fun q : 97 ≤ a ∧ a ≤ 122 => absurd q.2 (Int32.not_le.mpr c14)), if_neg (fun q : 48 ≤ a ∧ a ≤ 57 => absurd q.2 (Int32.not_le.mpr c21)), if_neg (fun q : a = 32 ∨ a = 10 => q.elim c22 c23), if_neg c24, if_neg c25, if_neg c26]), by rw [ht]; exact hP9, hD9⟩, hS.F ht⟩) hS.2.2 dX5_kindOf_71)
                  · skip
                    rw [c26] at hl
                    have hl : lv_has ls 1 [(0, .int 59)] := hl
                    refine lv_bipush (v := 7) hx hb dX5_kindOf_65 (by decide) ?_
                    refine lv_goto (tgt := 71) hx hb dX5_kindOf_67 (by decide) ?_
                    obtain ⟨hP9, hD9⟩ := PDq.sub (ws' := []) hP hD [] (by decide) rfl
                    refine W.widen (k := 0) (n := 0) (Nat.le_of_ble_eq_true rfl) (Nat.le_of_ble_eq_true rfl) ?_
                    exact (W.iret (v := 7) hx hb hr (fun t ht hW => ⟨⟨7, (), rfl, (by unfold ckd; rw [if_neg (fun q : 97 ≤ a ∧ a ≤ 122 => absurd q.2 (Int32.not_le.mpr c14)), if_neg (fun q : 48 ≤ a ∧ a ≤ 57 => absurd q.2 (Int32.not_le.mpr c21)), if_neg (fun q : a = 32 ∨ a = 10 => q.elim c22 c23), if_neg c24, if_neg c25, if_pos c26]), by rw [ht]; exact hP9, hD9⟩, hS.F ht⟩) hS.2.2 dX5_kindOf_71)
                · skip
                  rw [c25] at hl
                  have hl : lv_has ls 1 [(0, .int 41)] := hl
                  refine lv_bipush (v := 6) hx hb dX5_kindOf_56 (by decide) ?_
                  obtain ⟨hP9, hD9⟩ := PDq.sub (ws' := []) hP hD [] (by decide) rfl
                  refine W.widen (k := 0) (n := 0) (Nat.le_of_ble_eq_true rfl) (Nat.le_of_ble_eq_true rfl) ?_
                  exact (W.iret (v := 6) hx hb hr (fun t ht hW => ⟨⟨6, (), rfl, (by unfold ckd; rw [if_neg (fun q : 97 ≤ a ∧ a ≤ 122 => absurd q.2 (Int32.not_le.mpr c14)), if_neg (fun q : 48 ≤ a ∧ a ≤ 57 => absurd q.2 (Int32.not_le.mpr c21)), if_neg (fun q : a = 32 ∨ a = 10 => q.elim c22 c23), if_neg c24, if_pos c25]), by rw [ht]; exact hP9, hD9⟩, hS.F ht⟩) hS.2.2 dX5_kindOf_58)
              · skip
                rw [c24] at hl
                have hl : lv_has ls 1 [(0, .int 40)] := hl
                refine lv_iconst (v := 5) hx hb dX5_kindOf_48 (by decide) ?_
                obtain ⟨hP9, hD9⟩ := PDq.sub (ws' := []) hP hD [] (by decide) rfl
                refine W.widen (k := 0) (n := 0) (Nat.le_of_ble_eq_true rfl) (Nat.le_of_ble_eq_true rfl) ?_
                exact (W.iret (v := 5) hx hb hr (fun t ht hW => ⟨⟨5, (), rfl, (by unfold ckd; rw [if_neg (fun q : 97 ≤ a ∧ a ≤ 122 => absurd q.2 (Int32.not_le.mpr c14)), if_neg (fun q : 48 ≤ a ∧ a ≤ 57 => absurd q.2 (Int32.not_le.mpr c21)), if_neg (fun q : a = 32 ∨ a = 10 => q.elim c22 c23), if_pos c24]), by rw [ht]; exact hP9, hD9⟩, hS.F ht⟩) hS.2.2 dX5_kindOf_49)
            · skip
              rw [c23] at hl
              have hl : lv_has ls 1 [(0, .int 10)] := hl
              refine lv_iconst (v := 0) hx hb dX5_kindOf_40 (by decide) ?_
              obtain ⟨hP9, hD9⟩ := PDq.sub (ws' := []) hP hD [] (by decide) rfl
              refine W.widen (k := 0) (n := 0) (Nat.le_of_ble_eq_true rfl) (Nat.le_of_ble_eq_true rfl) ?_
              exact (W.iret (v := 0) hx hb hr (fun t ht hW => ⟨⟨0, (), rfl, (by unfold ckd; rw [if_neg (fun q : 97 ≤ a ∧ a ≤ 122 => absurd q.2 (Int32.not_le.mpr c14)), if_neg (fun q : 48 ≤ a ∧ a ≤ 57 => absurd q.2 (Int32.not_le.mpr c21)), if_pos (Or.inr c23)]), by rw [ht]; exact hP9, hD9⟩, hS.F ht⟩) hS.2.2 dX5_kindOf_41)
        · skip
          refine lv_iconst (v := 3) hx hb dX5_kindOf_26 (by decide) ?_
          obtain ⟨hP9, hD9⟩ := PDq.sub (ws' := []) hP hD [] (by decide) rfl
          refine W.widen (k := 0) (n := 0) (Nat.le_of_ble_eq_true rfl) (Nat.le_of_ble_eq_true rfl) ?_
          exact (W.iret (v := 3) hx hb hr (fun t ht hW => ⟨⟨3, (), rfl, (by unfold ckd; rw [if_neg (fun q : 97 ≤ a ∧ a ≤ 122 => absurd q.2 (Int32.not_le.mpr c14)), if_pos (And.intro (Int32.not_lt.mp c15) (Int32.not_lt.mp c21))]), by rw [ht]; exact hP9, hD9⟩, hS.F ht⟩) hS.2.2 dX5_kindOf_27)
    · skip
      refine lv_iconst (v := 4) hx hb dX5_kindOf_12 (by decide) ?_
      obtain ⟨hP9, hD9⟩ := PDq.sub (ws' := []) hP hD [] (by decide) rfl
      refine W.widen (k := 0) (n := 0) (Nat.le_of_ble_eq_true rfl) (Nat.le_of_ble_eq_true rfl) ?_
      exact (W.iret (v := 4) hx hb hr (fun t ht hW => ⟨⟨4, (), rfl, (by unfold ckd; rw [if_pos (And.intro (Int32.not_lt.mp c1) (Int32.not_lt.mp c14))]), by rw [ht]; exact hP9, hD9⟩, hS.F ht⟩) hS.2.2 dX5_kindOf_13)

set_option maxHeartbeats 4000000 in
set_option maxRecDepth 100000 in
/-- withLetter -/
theorem x_withLetter_look (l : Launch) (D : va_G) (cA : Nat → ClassId) (sa : Nat → Nat) (w : Int64) (a : Int32) (sz : Nat) (ha : ckd a = 4) : Met l yX8_withLetter wsX8_withLetter ({ frames := 0, cells := 0, slots := 0, locals := 0 }) (va_Pc [.long w, .int a] (Wd D cA sa [] sz)) (va_Ql (fun (r : Int64) (_ : Unit) => r = 32 * w + a.toInt64 - 96) (fun (_ : Unit) t => Wq D (va_A [] sz) [] t) (va_A [] sz)) 0 0 (va_A [] sz) := by
  refine Met.ofW (cc := cX8_withLetter) (maxL := 3) (ret := (some .long)) (by decide) rfl ?_
  intro p e s m args below meth c s₁ B hml hv
  obtain ⟨rfl, hsz, hP, hK, hD0, hC, hZ⟩ := hv
  have hx := B.exec
  have hb := B.bytes
  have hr := B.returns
  have hts := atoms_spec (ws := wsX8_withLetter) B.pre
  have hown : s.vm.findClass RX8 = some m.cls := findClass_of_methodNamed B.named
  have hlocks := B.notSynchronized
  subst hsz
  have hD := hD0.self (sz := s.heap.size)
  generalize hAe : va_A [] s.heap.size = A at hD hZ ⊢
  have hA : ∀ q : Nat, s.heap.size ≤ q → A q := fun q h => by rw [← hAe]; exact Or.inr h
  have hS : va_S A s.heap s.heap [] := va_S.rf
  have hP : va_P D vwCl [] s.heap := hP
  have hl := lv_entry ([.long w, .int a]) (n := 3) (Nat.le_of_ble_eq_true rfl)
  rw [lg_entry_eq]
  generalize (lg_sl ([.long w, .int a]) ++ List.replicate (3 - (lg_sl ([.long w, .int a])).length) Slot.unset).toArray = ls at hl ⊢
  have hl : lv_has ls 3 [(0, .long w), (2, .int a)] := hl
  refine lv_lload_n hx hb dX8_withLetter_0 rfl (lv_at hl 0 rfl) ?_
  refine lv_iconst (v := 5) hx hb dX8_withLetter_1 (by decide) ?_
  refine lv_lshl hx hb dX8_withLetter_2 rfl ?_
  refine lv_topl (fun yn1 eyn1 => ?_)
  refine lv_iload_n hx hb dX8_withLetter_3 rfl (lv_at hl 1 rfl) ?_
  refine lv_bipush (v := 97) hx hb dX8_withLetter_4 (by decide) ?_
  refine lv_isub hx hb dX8_withLetter_6 ?_
  refine lv_topi (fun yn2 eyn2 => ?_)
  refine lv_iconst (v := 1) hx hb dX8_withLetter_7 (by decide) ?_
  refine lv_iadd hx hb dX8_withLetter_8 ?_
  refine lv_topi (fun yn3 eyn3 => ?_)
  refine lv_i2l (v := (yn3.toInt64)) hx hb dX8_withLetter_9 rfl ?_
  refine lv_lor hx hb dX8_withLetter_10 ?_
  refine lv_topl (fun yn4 eyn4 => ?_)
  obtain ⟨hP9, hD9⟩ := PDq.sub (ws' := []) hP hD [] (by decide) rfl
  refine W.widen (k := 0) (n := 0) (Nat.le_of_ble_eq_true rfl) (Nat.le_of_ble_eq_true rfl) ?_
  exact (W.lret (v := yn4) hx hb hr (fun t ht hW => ⟨⟨yn4, (), rfl, (wl_let ha eyn1 eyn2 eyn3 eyn4), by rw [ht]; exact hP9, hD9⟩, hS.F ht⟩) hS.2.2 dX8_withLetter_11)

set_option maxHeartbeats 4000000 in
set_option maxRecDepth 100000 in
/-- extended -/
theorem x_extended_look (l : Launch) (D : va_G) (cA : Nat → ClassId) (sa : Nat → Nat) (w : Int64) (k : Int32) (a : Int32) (sz : Nat) (ha : k = 4 → ckd a = 4) : Met l yX5_extended wsX5_extended ({ frames := 1, cells := 0, slots := 0, locals := 22 }) (va_Pc [.int k, .long w, .int a] (Wd D cA sa [] sz)) (va_Ql (fun (r : Int64) (_ : Unit) => r = (if k = 4 then 32 * w + a.toInt64 - 96 else if k = 3 then w * 10 + (a - 48).toInt64 else 0)) (fun (_ : Unit) t => Wq D (va_A [] sz) [] t) (va_A [] sz)) 0 0 (va_A [] sz) := by
  refine Met.ofW (cc := cX5_extended) (maxL := 4) (ret := (some .long)) (by decide) rfl ?_
  intro p e s m args below meth c s₁ B hml hv
  obtain ⟨rfl, hsz, hP, hK, hD0, hC, hZ⟩ := hv
  have hx := B.exec
  have hb := B.bytes
  have hr := B.returns
  have hts := atoms_spec (ws := wsX5_extended) B.pre
  have hown : s.vm.findClass RX5 = some m.cls := findClass_of_methodNamed B.named
  have hlocks := B.notSynchronized
  subst hsz
  have hD := hD0.self (sz := s.heap.size)
  generalize hAe : va_A [] s.heap.size = A at hD hZ ⊢
  have hA : ∀ q : Nat, s.heap.size ≤ q → A q := fun q h => by rw [← hAe]; exact Or.inr h
  have hS : va_S A s.heap s.heap [] := va_S.rf
  have hP : va_P D vwCl [] s.heap := hP
  have hl := lv_entry ([.int k, .long w, .int a]) (n := 4) (Nat.le_of_ble_eq_true rfl)
  rw [lg_entry_eq]
  generalize (lg_sl ([.int k, .long w, .int a]) ++ List.replicate (4 - (lg_sl ([.int k, .long w, .int a])).length) Slot.unset).toArray = ls at hl ⊢
  have hl : lv_has ls 4 [(0, .int k), (1, .long w), (3, .int a)] := hl
  refine lv_iload_n hx hb dX5_extended_0 rfl (lv_at hl 0 rfl) ?_
  refine lv_iconst (v := 4) hx hb dX5_extended_1 (by decide) ?_
  refine lv_icmp_ne (tgt := 11) hx hb dX5_extended_2 (by decide) (fun c1 => ?_) (fun c1 => ?_)
  · skip
    refine lv_iload_n hx hb dX5_extended_11 rfl (lv_at hl 0 rfl) ?_
    refine lv_iconst (v := 3) hx hb dX5_extended_12 (by decide) ?_
    refine lv_icmp_ne (tgt := 30) hx hb dX5_extended_13 (by decide) (fun c2 => ?_) (fun c2 => ?_)
    · skip
      refine lv_lconst (v := 0) hx hb dX5_extended_30 (by decide) ?_
      obtain ⟨hP9, hD9⟩ := PDq.sub (ws' := []) hP hD [] (by decide) rfl
      refine W.widen (k := 0) (n := 0) (Nat.le_of_ble_eq_true rfl) (Nat.le_of_ble_eq_true rfl) ?_
      exact (W.lret (v := 0) hx hb hr (fun t ht hW => ⟨⟨0, (), rfl, (by rw [if_neg c1, if_neg c2]), by rw [ht]; exact hP9, hD9⟩, hS.F ht⟩) hS.2.2 dX5_extended_31)
    · skip
      rw [c2] at hl
      have hl : lv_has ls 4 [(0, .int 3), (1, .long w), (3, .int a)] := hl
      refine lv_lload_n hx hb dX5_extended_16 rfl (lv_at hl 1 rfl) ?_
      refine lv_ldc2 (v := 10) hx hb hown (hts (.constantLong RX5 53 10) (by decide +kernel)) dX5_extended_17 ?_
      refine lv_lmul hx hb dX5_extended_20 ?_
      refine lv_topl (fun yn3 eyn3 => ?_)
      refine lv_iload_n hx hb dX5_extended_21 rfl (lv_at hl 2 rfl) ?_
      refine lv_bipush (v := 48) hx hb dX5_extended_22 (by decide) ?_
      refine lv_isub hx hb dX5_extended_24 ?_
      refine lv_topi (fun yn4 eyn4 => ?_)
      refine lv_i2l (v := (yn4.toInt64)) hx hb dX5_extended_25 rfl ?_
      refine lv_ladd hx hb dX5_extended_26 ?_
      refine lv_topl (fun yn5 eyn5 => ?_)
      refine lv_goto (tgt := 31) hx hb dX5_extended_27 (by decide) ?_
      obtain ⟨hP9, hD9⟩ := PDq.sub (ws' := []) hP hD [] (by decide) rfl
      refine W.widen (k := 0) (n := 0) (Nat.le_of_ble_eq_true rfl) (Nat.le_of_ble_eq_true rfl) ?_
      exact (W.lret (v := yn5) hx hb hr (fun t ht hW => ⟨⟨yn5, (), rfl, (by rw [if_neg c1, if_pos c2, eyn5, eyn3, eyn4]), by rw [ht]; exact hP9, hD9⟩, hS.F ht⟩) hS.2.2 dX5_extended_31)
  · skip
    rw [c1] at hl
    have hl : lv_has ls 4 [(0, .int 4), (1, .long w), (3, .int a)] := hl
    refine lv_lload_n hx hb dX5_extended_5 rfl (lv_at hl 1 rfl) ?_
    refine lv_iload_n hx hb dX5_extended_6 rfl (lv_at hl 2 rfl) ?_
    obtain ⟨hPc, hDc, hFc⟩ := PDq.cut (wc := []) hP hD hS hA [] (by decide) rfl
    refine va_calll (va_runS (As := [.long w, .int a]) (rest := []) ⟨hx, hb, hml, hown, hts⟩ (x_withLetter l D cA sa w a s.heap.size (ha c1)) (va_cwS 2 hts gX5_extended_X8_withLetter rfl rfl rfl (by decide +kernel) ⟨(Nat.le_of_ble_eq_true rfl), (Nat.le_of_ble_eq_true rfl)⟩) ⟨Wd.blind, fun U hU hW => ⟨rfl, Wd.call hPc hDc hK hC hZ hS hFc U hU hW⟩⟩ rfl rfl hl.1 rfl (lv_room (Nat.le_of_ble_eq_true rfl)) dX5_extended_7 ⟨(Nat.le_of_ble_eq_true rfl), (Nat.le_of_ble_eq_true rfl)⟩) hS (fun q _ h => hFc q h) hFc (fun rn6 u t H1 locs ht hvm hw hB hz1 hk1 hS => ?_)
    obtain ⟨hP1, hD1⟩ := hB
    rw [ht] at hP1
    obtain ⟨hP, hD⟩ := PDq.join (w := []) 0 hP hD [] [] rfl rfl (by decide) (by decide) hk1 hFc hP1 hD1 rfl
    generalize H1 = H at hP hS ⊢
    obtain rfl : rn6 = (32 * w + a.toInt64 - 96) := hw
    obtain ⟨hP9, hD9⟩ := PDq.sub (ws' := []) hP hD [] (by decide) rfl
    refine W.widen (k := 0) (n := 0) (Nat.le_of_ble_eq_true rfl) (Nat.le_of_ble_eq_true rfl) ?_
    exact (W.lret (v := (32 * w + a.toInt64 - 96)) hx hb hr (fun t ht hW => ⟨⟨(32 * w + a.toInt64 - 96), (), rfl, (by rw [if_pos c1]), by rw [ht]; exact hP9, hD9⟩, hS.F ht⟩) hS.2.2 dX5_extended_10)

set_option maxHeartbeats 4000000 in
set_option maxRecDepth 100000 in
/-- add -/
theorem x_addTok_look (l : Launch) (D : va_G) (cA : Nat → ClassId) (sa : Nat → Nat) (r1 : Nat) (k1 : Nat) (k2 : Nat) (k3 : Nat) (ct : Nat) (fk : Nat → Int32) (ft : Nat → Int32) (fv : Nat → Int64) (k : Int32) (a : Int32) (w : Int64) (sz : Nat) (hct : ct < 701) : Met l yX5_add wsX5_add ({ frames := 0, cells := 0, slots := 0, locals := 0 }) (va_Pc [.ref r1, .int k, .int a, .long w] (Wd D cA sa [(oX5 r1 k1 k2 k3 (nI ct)), (k1, .inl (cA 0, 701, .inl fk)), (k2, .inl (cA 0, 701, .inl ft)), (k3, .inl (cA 1, 701, .inr (.inl fv)))] sz)) (va_Qv (fun _ : Unit => True) (fun (_ : Unit) t => ∃ zk : Nat → Int32, ∃ zt : Nat → Int32, ∃ zv : Nat → Int64, Upp ct k fk zk ∧ Upp ct a ft zt ∧ UppL ct w fv zv ∧ Wq D (va_A [(oX5 r1 k1 k2 k3 (nI ct)), (k1, .inl (cA 0, 701, .inl fk)), (k2, .inl (cA 0, 701, .inl ft)), (k3, .inl (cA 1, 701, .inr (.inl fv)))] sz) [(oX5 r1 k1 k2 k3 (nI (ct + 1))), (k1, .inl (cA 0, 701, .inl zk)), (k2, .inl (cA 0, 701, .inl zt)), (k3, .inl (cA 1, 701, .inr (.inl zv)))] t) (va_A [(oX5 r1 k1 k2 k3 (nI ct)), (k1, .inl (cA 0, 701, .inl fk)), (k2, .inl (cA 0, 701, .inl ft)), (k3, .inl (cA 1, 701, .inr (.inl fv)))] sz)) 0 0 (va_A [(oX5 r1 k1 k2 k3 (nI ct)), (k1, .inl (cA 0, 701, .inl fk)), (k2, .inl (cA 0, 701, .inl ft)), (k3, .inl (cA 1, 701, .inr (.inl fv)))] sz) := by
  refine Met.ofW (cc := cX5_add) (maxL := 5) (ret := none) (by decide) rfl ?_
  intro p e s m args below meth c s₁ B hml hv
  obtain ⟨rfl, hsz, hP, hK, hD0, hC, hZ⟩ := hv
  have hx := B.exec
  have hb := B.bytes
  have hr := B.returns
  have hts := atoms_spec (ws := wsX5_add) B.pre
  have hown : s.vm.findClass RX5 = some m.cls := findClass_of_methodNamed B.named
  have hlocks := B.notSynchronized
  subst hsz
  have hD := hD0.self (sz := s.heap.size)
  generalize hAe : va_A [(oX5 r1 k1 k2 k3 (nI ct)), (k1, .inl (cA 0, 701, .inl fk)), (k2, .inl (cA 0, 701, .inl ft)), (k3, .inl (cA 1, 701, .inr (.inl fv)))] s.heap.size = A at hD hZ ⊢
  have hA : ∀ q : Nat, s.heap.size ≤ q → A q := fun q h => by rw [← hAe]; exact Or.inr h
  have hS : va_S A s.heap s.heap [] := va_S.rf
  have hP : va_P D vwCl [(oX5 r1 k1 k2 k3 (nI ct)), (k1, .inl (cA 0, 701, .inl fk)), (k2, .inl (cA 0, 701, .inl ft)), (k3, .inl (cA 1, 701, .inr (.inl fv)))] s.heap := hP
  have hl := lv_entry ([.ref r1, .int k, .int a, .long w]) (n := 5) (Nat.le_of_ble_eq_true rfl)
  rw [lg_entry_eq]
  generalize (lg_sl ([.ref r1, .int k, .int a, .long w]) ++ List.replicate (5 - (lg_sl ([.ref r1, .int k, .int a, .long w])).length) Slot.unset).toArray = ls at hl ⊢
  have hl : lv_has ls 5 [(0, .ref r1), (1, .int k), (2, .int a), (3, .long w)] := hl
  have inX5 : ∀ w ∈ u_ws RX5 TX5 4, w ∈ wsX5_add := by decide +kernel
  refine lv_aload_n hx hb dX5_add_0 rfl (lv_at hl 0 rfl) ?_
  refine va_get (D := D) (ci := 9) (v := .int (nI ct)) (C := RX5) (T := TX5) (N := 4) hx hb hts inX5 hown hK hP 0 rfl rfl 3 (by decide) (hts (.fieldLink RX5 22 "EscrowDesk$Scanner" "count" "I") (by decide +kernel)) (fun _ h9 => h9) rfl dX5_add_1 ?_
  refine lv_aload_n hx hb dX5_add_4 rfl (lv_at hl 0 rfl) ?_
  refine va_get (D := D) (ci := 9) (v := .ref k1) (C := RX5) (T := TX5) (N := 4) hx hb hts inX5 hown hK hP 0 rfl rfl 0 (by decide) (hts (.fieldLink RX5 9 "EscrowDesk$Scanner" "kinds" "[I") (by decide +kernel)) (fun _ h9 => h9) rfl dX5_add_5 ?_
  refine va_alen (v := 701) hx hb hK hP 1 0 rfl rfl rfl dX5_add_8 ?_
  refine lv_icmp_ge (tgt := 52) hx hb dX5_add_9 (by decide) (fun c9 => absurd c9 (nI_ge (a := ct) (b := 701) (show ct < 701 by omega) (by omega))) (fun c1 => ?_)
  refine lv_aload_n hx hb dX5_add_12 rfl (lv_at hl 0 rfl) ?_
  refine va_get (D := D) (ci := 9) (v := .ref k1) (C := RX5) (T := TX5) (N := 4) hx hb hts inX5 hown hK hP 0 rfl rfl 0 (by decide) (hts (.fieldLink RX5 9 "EscrowDesk$Scanner" "kinds" "[I") (by decide +kernel)) (fun _ h9 => h9) rfl dX5_add_13 ?_
  refine lv_aload_n hx hb dX5_add_16 rfl (lv_at hl 0 rfl) ?_
  refine va_get (D := D) (ci := 9) (v := .int (nI ct)) (C := RX5) (T := TX5) (N := 4) hx hb hts inX5 hown hK hP 0 rfl rfl 3 (by decide) (hts (.fieldLink RX5 22 "EscrowDesk$Scanner" "count" "I") (by decide +kernel)) (fun _ h9 => h9) rfl dX5_add_17 ?_
  refine lv_iload_n hx hb dX5_add_20 rfl (lv_at hl 1 rfl) ?_
  refine va_iast hx hb hK hP hD hS 1 0 rfl rfl (vp_in_nI (n := ct) (N := 701) (show ct < 701 by omega) (by decide)) dX5_add_21 (fun H locs hP hD hS => ?_)
  obtain ⟨hP, hD⟩ : PDq D A [(oX5 r1 k1 k2 k3 (nI ct)), (k1, .inl (cA 0, 701, .inl (upd fk (((nI ct)).toNatClampNeg) k))), (k2, .inl (cA 0, 701, .inl ft)), (k3, .inl (cA 1, 701, .inr (.inl fv)))] H := ⟨hP, hD⟩
  have hn3 : Upp ct k fk (upd fk (((nI ct)).toNatClampNeg) k) := Upp.of (by omega)
  have hn4 : Rdd (upd fk (((nI ct)).toNatClampNeg) k) := rfl
  generalize (upd fk (((nI ct)).toNatClampNeg) k) = fn2 at hP hD hn3 hn4
  obtain ⟨hP, hD⟩ : PDq D A [(oX5 r1 k1 k2 k3 (nI ct)), (k1, .inl (cA 0, 701, .inl fn2)), (k2, .inl (cA 0, 701, .inl ft)), (k3, .inl (cA 1, 701, .inr (.inl fv)))] H := ⟨hP, hD⟩
  refine lv_aload_n hx hb dX5_add_22 rfl (lv_at hl 0 rfl) ?_
  refine va_get (D := D) (ci := 9) (v := .ref k2) (C := RX5) (T := TX5) (N := 4) hx hb hts inX5 hown hK hP 0 rfl rfl 1 (by decide) (hts (.fieldLink RX5 15 "EscrowDesk$Scanner" "starts" "[I") (by decide +kernel)) (fun _ h9 => h9) rfl dX5_add_23 ?_
  refine lv_aload_n hx hb dX5_add_26 rfl (lv_at hl 0 rfl) ?_
  refine va_get (D := D) (ci := 9) (v := .int (nI ct)) (C := RX5) (T := TX5) (N := 4) hx hb hts inX5 hown hK hP 0 rfl rfl 3 (by decide) (hts (.fieldLink RX5 22 "EscrowDesk$Scanner" "count" "I") (by decide +kernel)) (fun _ h9 => h9) rfl dX5_add_27 ?_
  refine lv_iload_n hx hb dX5_add_30 rfl (lv_at hl 2 rfl) ?_
  refine va_iast hx hb hK hP hD hS 2 0 rfl rfl (vp_in_nI (n := ct) (N := 701) (show ct < 701 by omega) (by decide)) dX5_add_31 (fun H locs hP hD hS => ?_)
  obtain ⟨hP, hD⟩ : PDq D A [(oX5 r1 k1 k2 k3 (nI ct)), (k1, .inl (cA 0, 701, .inl fn2)), (k2, .inl (cA 0, 701, .inl (upd ft (((nI ct)).toNatClampNeg) a))), (k3, .inl (cA 1, 701, .inr (.inl fv)))] H := ⟨hP, hD⟩
  have hn6 : Upp ct a ft (upd ft (((nI ct)).toNatClampNeg) a) := Upp.of (by omega)
  have hn7 : Rdd (upd ft (((nI ct)).toNatClampNeg) a) := rfl
  generalize (upd ft (((nI ct)).toNatClampNeg) a) = fn5 at hP hD hn6 hn7
  obtain ⟨hP, hD⟩ : PDq D A [(oX5 r1 k1 k2 k3 (nI ct)), (k1, .inl (cA 0, 701, .inl fn2)), (k2, .inl (cA 0, 701, .inl fn5)), (k3, .inl (cA 1, 701, .inr (.inl fv)))] H := ⟨hP, hD⟩
  refine lv_aload_n hx hb dX5_add_32 rfl (lv_at hl 0 rfl) ?_
  refine va_get (D := D) (ci := 9) (v := .ref k3) (C := RX5) (T := TX5) (N := 4) hx hb hts inX5 hown hK hP 0 rfl rfl 2 (by decide) (hts (.fieldLink RX5 18 "EscrowDesk$Scanner" "values" "[J") (by decide +kernel)) (fun _ h9 => h9) rfl dX5_add_33 ?_
  refine lv_aload_n hx hb dX5_add_36 rfl (lv_at hl 0 rfl) ?_
  refine va_get (D := D) (ci := 9) (v := .int (nI ct)) (C := RX5) (T := TX5) (N := 4) hx hb hts inX5 hown hK hP 0 rfl rfl 3 (by decide) (hts (.fieldLink RX5 22 "EscrowDesk$Scanner" "count" "I") (by decide +kernel)) (fun _ h9 => h9) rfl dX5_add_37 ?_
  refine lv_lload_n hx hb dX5_add_40 rfl (lv_at hl 3 rfl) ?_
  refine va_last hx hb hK hP hD hS 3 1 rfl rfl (vp_in_nI (n := ct) (N := 701) (show ct < 701 by omega) (by decide)) dX5_add_41 (fun H locs hP hD hS => ?_)
  obtain ⟨hP, hD⟩ : PDq D A [(oX5 r1 k1 k2 k3 (nI ct)), (k1, .inl (cA 0, 701, .inl fn2)), (k2, .inl (cA 0, 701, .inl fn5)), (k3, .inl (cA 1, 701, .inr (.inl (vp_updL fv (((nI ct)).toNatClampNeg) w))))] H := ⟨hP, hD⟩
  have hn9 : UppL ct w fv (vp_updL fv (((nI ct)).toNatClampNeg) w) := UppL.of (by omega)
  have hn10 : Rdd (vp_updL fv (((nI ct)).toNatClampNeg) w) := rfl
  generalize (vp_updL fv (((nI ct)).toNatClampNeg) w) = fn8 at hP hD hn9 hn10
  obtain ⟨hP, hD⟩ : PDq D A [(oX5 r1 k1 k2 k3 (nI ct)), (k1, .inl (cA 0, 701, .inl fn2)), (k2, .inl (cA 0, 701, .inl fn5)), (k3, .inl (cA 1, 701, .inr (.inl fn8)))] H := ⟨hP, hD⟩
  refine lv_aload_n hx hb dX5_add_42 rfl (lv_at hl 0 rfl) ?_
  refine lv_dup hx hb dX5_add_43 rfl ?_
  refine va_get (D := D) (ci := 9) (v := .int (nI ct)) (C := RX5) (T := TX5) (N := 4) hx hb hts inX5 hown hK hP 0 rfl rfl 3 (by decide) (hts (.fieldLink RX5 22 "EscrowDesk$Scanner" "count" "I") (by decide +kernel)) (fun _ h9 => h9) rfl dX5_add_44 ?_
  refine lv_iconst (v := 1) hx hb dX5_add_47 (by decide) ?_
  refine lv_iadd hx hb dX5_add_48 ?_
  refine lv_topi (fun yn11 eyn11 => ?_)
  obtain rfl : yn11 = (nI (ct + 1)) := eyn11.trans (nI_add ct 1)
  refine va_put (D := D) (ci := 9) (v := .int (nI (ct + 1))) (ty := .int) (C := RX5) (T := TX5) (N := 4) hx hb hts inX5 tyX5 tyX5_ok nmX5 hown hK hP hD hS 0 rfl rfl 3 (by decide) (hts (.fieldLink RX5 22 "EscrowDesk$Scanner" "count" "I") (by decide +kernel)) (fun _ h9 => h9) rfl (by decide +kernel) rfl rfl (Nat.le_of_ble_eq_true rfl) dX5_add_49 (fun H locs hP hD hS => ?_)
  obtain ⟨hP, hD⟩ : PDq D A [(oX5 r1 k1 k2 k3 (nI (ct + 1))), (k1, .inl (cA 0, 701, .inl fn2)), (k2, .inl (cA 0, 701, .inl fn5)), (k3, .inl (cA 1, 701, .inr (.inl fn8)))] H := ⟨hP, hD⟩
  obtain ⟨hP9, hD9⟩ := PDq.sub (ws' := [(oX5 r1 k1 k2 k3 (nI (ct + 1))), (k1, .inl (cA 0, 701, .inl fn2)), (k2, .inl (cA 0, 701, .inl fn5)), (k3, .inl (cA 1, 701, .inr (.inl fn8)))]) hP hD [0, 1, 2, 3] (by decide) rfl
  refine W.widen (k := 0) (n := 0) (Nat.le_of_ble_eq_true rfl) (Nat.le_of_ble_eq_true rfl) ?_
  exact (W.vret hx hb hr (fun t ht hW => ⟨⟨(), rfl, trivial, fn2, fn5, fn8, hn3, hn6, hn9, by rw [ht]; exact hP9, hD9⟩, hS.F ht⟩) hS.2.2 dX5_add_52)

set_option maxHeartbeats 4000000 in
set_option maxRecDepth 100000 in
/-- extendLast -/
theorem x_extendLast_look (l : Launch) (D : va_G) (cA : Nat → ClassId) (sa : Nat → Nat) (r1 : Nat) (k1 : Nat) (k2 : Nat) (k3 : Nat) (ct : Nat) (fk : Nat → Int32) (ft : Nat → Int32) (fv : Nat → Int64) (k : Int32) (a : Int32) (rn : Nat) (sz : Nat) (hct : ct ≤ 701) (h0 : 0 < ct) (ha : k = 4 → ckd a = 4) (hrn : rn ≤ 701) : Met l yX5_extendLast wsX5_extendLast ({ frames := 2, cells := 0, slots := 0, locals := 45 }) (va_Pc [.ref r1, .int k, .int a, .int (nI rn)] (Wd D cA sa [(oX5 r1 k1 k2 k3 (nI ct)), (k1, .inl (cA 0, 701, .inl fk)), (k2, .inl (cA 0, 701, .inl ft)), (k3, .inl (cA 1, 701, .inr (.inl fv)))] sz)) (va_Qv (fun _ : Unit => True) (fun (_ : Unit) t => ∃ zk : Nat → Int32, ∃ zv : Nat → Int64, UppL (ct - 1) (if k = 4 then 32 * (fv (ct - 1)) + a.toInt64 - 96 else if k = 3 then (fv (ct - 1)) * 10 + (a - 48).toInt64 else 0) fv zv ∧ ((rn ≤ (if k = 4 then 9 else 5) ∧ zk = fk) ∨ ((if k = 4 then 9 else 5) < rn ∧ zk = upd fk (ct - 1) 2)) ∧ Wq D (va_A [(oX5 r1 k1 k2 k3 (nI ct)), (k1, .inl (cA 0, 701, .inl fk)), (k2, .inl (cA 0, 701, .inl ft)), (k3, .inl (cA 1, 701, .inr (.inl fv)))] sz) [(oX5 r1 k1 k2 k3 (nI ct)), (k1, .inl (cA 0, 701, .inl zk)), (k2, .inl (cA 0, 701, .inl ft)), (k3, .inl (cA 1, 701, .inr (.inl zv)))] t) (va_A [(oX5 r1 k1 k2 k3 (nI ct)), (k1, .inl (cA 0, 701, .inl fk)), (k2, .inl (cA 0, 701, .inl ft)), (k3, .inl (cA 1, 701, .inr (.inl fv)))] sz)) 0 0 (va_A [(oX5 r1 k1 k2 k3 (nI ct)), (k1, .inl (cA 0, 701, .inl fk)), (k2, .inl (cA 0, 701, .inl ft)), (k3, .inl (cA 1, 701, .inr (.inl fv)))] sz) := by
  refine Met.ofW (cc := cX5_extendLast) (maxL := 5) (ret := none) (by decide) rfl ?_
  intro p e s m args below meth c s₁ B hml hv
  obtain ⟨rfl, hsz, hP, hK, hD0, hC, hZ⟩ := hv
  have hx := B.exec
  have hb := B.bytes
  have hr := B.returns
  have hts := atoms_spec (ws := wsX5_extendLast) B.pre
  have hown : s.vm.findClass RX5 = some m.cls := findClass_of_methodNamed B.named
  have hlocks := B.notSynchronized
  subst hsz
  have hD := hD0.self (sz := s.heap.size)
  generalize hAe : va_A [(oX5 r1 k1 k2 k3 (nI ct)), (k1, .inl (cA 0, 701, .inl fk)), (k2, .inl (cA 0, 701, .inl ft)), (k3, .inl (cA 1, 701, .inr (.inl fv)))] s.heap.size = A at hD hZ ⊢
  have hA : ∀ q : Nat, s.heap.size ≤ q → A q := fun q h => by rw [← hAe]; exact Or.inr h
  have hS : va_S A s.heap s.heap [] := va_S.rf
  have hP : va_P D vwCl [(oX5 r1 k1 k2 k3 (nI ct)), (k1, .inl (cA 0, 701, .inl fk)), (k2, .inl (cA 0, 701, .inl ft)), (k3, .inl (cA 1, 701, .inr (.inl fv)))] s.heap := hP
  have hl := lv_entry ([.ref r1, .int k, .int a, .int (nI rn)]) (n := 5) (Nat.le_of_ble_eq_true rfl)
  rw [lg_entry_eq]
  generalize (lg_sl ([.ref r1, .int k, .int a, .int (nI rn)]) ++ List.replicate (5 - (lg_sl ([.ref r1, .int k, .int a, .int (nI rn)])).length) Slot.unset).toArray = ls at hl ⊢
  have hl : lv_has ls 5 [(0, .ref r1), (1, .int k), (2, .int a), (3, .int (nI rn))] := hl
  have inX5 : ∀ w ∈ u_ws RX5 TX5 4, w ∈ wsX5_extendLast := by decide +kernel
  refine lv_aload_n hx hb dX5_extendLast_0 rfl (lv_at hl 0 rfl) ?_
  refine va_get (D := D) (ci := 9) (v := .int (nI ct)) (C := RX5) (T := TX5) (N := 4) hx hb hts inX5 hown hK hP 0 rfl rfl 3 (by decide) (hts (.fieldLink RX5 22 "EscrowDesk$Scanner" "count" "I") (by decide +kernel)) (fun _ h9 => h9) rfl dX5_extendLast_1 ?_
  refine lv_iconst (v := 1) hx hb dX5_extendLast_4 (by decide) ?_
  refine lv_isub hx hb dX5_extendLast_5 ?_
  refine lv_topi (fun yn1 eyn1 => ?_)
  obtain rfl : yn1 = (nI (ct - 1)) := eyn1.trans (nI_sub (a := ct) (b := 1) (by omega))
  refine lv_istore (lv' := [(4, .int (nI (ct - 1))), (0, .ref r1), (1, .int k), (2, .int a), (3, .int (nI rn))]) hx hb dX5_extendLast_6 hl (by decide) rfl (fun ls hl => ?_)
  refine lv_iload hx hb dX5_extendLast_8 (lv_at hl 0 rfl) ?_
  refine lv_if_ge (tgt := 14) hx hb dX5_extendLast_10 (by decide) (fun c2 => ?_) (fun c9 => absurd (nI_pos' (n := (ct - 1)) (by omega)) c9)
  refine lv_aload_n hx hb dX5_extendLast_14 rfl (lv_at hl 1 rfl) ?_
  refine va_get (D := D) (ci := 9) (v := .ref k3) (C := RX5) (T := TX5) (N := 4) hx hb hts inX5 hown hK hP 0 rfl rfl 2 (by decide) (hts (.fieldLink RX5 18 "EscrowDesk$Scanner" "values" "[J") (by decide +kernel)) (fun _ h9 => h9) rfl dX5_extendLast_15 ?_
  refine lv_iload hx hb dX5_extendLast_18 (lv_at hl 0 rfl) ?_
  refine lv_iload_n hx hb dX5_extendLast_20 rfl (lv_at hl 2 rfl) ?_
  refine lv_aload_n hx hb dX5_extendLast_21 rfl (lv_at hl 1 rfl) ?_
  refine va_get (D := D) (ci := 9) (v := .ref k3) (C := RX5) (T := TX5) (N := 4) hx hb hts inX5 hown hK hP 0 rfl rfl 2 (by decide) (hts (.fieldLink RX5 18 "EscrowDesk$Scanner" "values" "[J") (by decide +kernel)) (fun _ h9 => h9) rfl dX5_extendLast_22 ?_
  refine lv_iload hx hb dX5_extendLast_25 (lv_at hl 0 rfl) ?_
  refine va_lald hx hb hK hP 3 1 rfl rfl (vp_in_nI (n := (ct - 1)) (N := 701) (show (ct - 1) < 701 by omega) (by decide)) dX5_extendLast_27 ?_
  refine lv_topl (fun yn3 eyn3 => ?_)
  obtain rfl : yn3 = (fv (ct - 1)) := eyn3.trans (by rw [nI_clamp (by omega)])
  refine lv_iload_n hx hb dX5_extendLast_28 rfl (lv_at hl 3 rfl) ?_
  obtain ⟨hPc, hDc, hFc⟩ := PDq.cut (wc := []) hP hD hS hA [] (by decide) rfl
  refine va_calll (va_runS (As := [.int k, .long (fv (ct - 1)), .int a]) (rest := [.int (nI (ct - 1)), .ref k3]) ⟨hx, hb, hml, hown, hts⟩ (x_extended l D cA sa (fv (ct - 1)) k a s.heap.size ha) (va_cwS 3 hts gX5_extendLast_X5_extended rfl rfl rfl (by decide +kernel) ⟨(Nat.le_of_ble_eq_true rfl), (Nat.le_of_ble_eq_true rfl)⟩) ⟨Wd.blind, fun U hU hW => ⟨rfl, Wd.call hPc hDc hK hC hZ hS hFc U hU hW⟩⟩ rfl rfl hl.1 rfl (lv_room (Nat.le_of_ble_eq_true rfl)) dX5_extendLast_29 ⟨(Nat.le_of_ble_eq_true rfl), (Nat.le_of_ble_eq_true rfl)⟩) hS (fun q _ h => hFc q h) hFc (fun rn4 u t H1 locs ht hvm hw hB hz1 hk1 hS => ?_)
  obtain ⟨hP1, hD1⟩ := hB
  rw [ht] at hP1
  obtain ⟨hP, hD⟩ := PDq.join (w := [(oX5 r1 k1 k2 k3 (nI ct)), (k1, .inl (cA 0, 701, .inl fk)), (k2, .inl (cA 0, 701, .inl ft)), (k3, .inl (cA 1, 701, .inr (.inl fv)))]) 4 hP hD [] [0, 1, 2, 3] rfl rfl (by decide) (by decide) hk1 hFc hP1 hD1 rfl
  generalize H1 = H at hP hS ⊢
  obtain rfl : rn4 = (if k = 4 then 32 * (fv (ct - 1)) + a.toInt64 - 96 else if k = 3 then (fv (ct - 1)) * 10 + (a - 48).toInt64 else 0) := hw
  refine va_last hx hb hK hP hD hS 3 1 rfl rfl (vp_in_nI (n := (ct - 1)) (N := 701) (show (ct - 1) < 701 by omega) (by decide)) dX5_extendLast_32 (fun H locs hP hD hS => ?_)
  obtain ⟨hP, hD⟩ : PDq D A [(oX5 r1 k1 k2 k3 (nI ct)), (k1, .inl (cA 0, 701, .inl fk)), (k2, .inl (cA 0, 701, .inl ft)), (k3, .inl (cA 1, 701, .inr (.inl (vp_updL fv (((nI (ct - 1))).toNatClampNeg) (if k = 4 then 32 * (fv (ct - 1)) + a.toInt64 - 96 else if k = 3 then (fv (ct - 1)) * 10 + (a - 48).toInt64 else 0)))))] H := ⟨hP, hD⟩
  have hn6 : UppL (ct - 1) (if k = 4 then 32 * (fv (ct - 1)) + a.toInt64 - 96 else if k = 3 then (fv (ct - 1)) * 10 + (a - 48).toInt64 else 0) fv (vp_updL fv (((nI (ct - 1))).toNatClampNeg) (if k = 4 then 32 * (fv (ct - 1)) + a.toInt64 - 96 else if k = 3 then (fv (ct - 1)) * 10 + (a - 48).toInt64 else 0)) := UppL.of (by omega)
  have hn7 : Rdd (vp_updL fv (((nI (ct - 1))).toNatClampNeg) (if k = 4 then 32 * (fv (ct - 1)) + a.toInt64 - 96 else if k = 3 then (fv (ct - 1)) * 10 + (a - 48).toInt64 else 0)) := rfl
  generalize (vp_updL fv (((nI (ct - 1))).toNatClampNeg) (if k = 4 then 32 * (fv (ct - 1)) + a.toInt64 - 96 else if k = 3 then (fv (ct - 1)) * 10 + (a - 48).toInt64 else 0)) = fn5 at hP hD hn6 hn7
  obtain ⟨hP, hD⟩ : PDq D A [(oX5 r1 k1 k2 k3 (nI ct)), (k1, .inl (cA 0, 701, .inl fk)), (k2, .inl (cA 0, 701, .inl ft)), (k3, .inl (cA 1, 701, .inr (.inl fn5)))] H := ⟨hP, hD⟩
  refine lv_iload_n hx hb dX5_extendLast_33 rfl (lv_at hl 4 rfl) ?_
  refine lv_iload_n hx hb dX5_extendLast_34 rfl (lv_at hl 2 rfl) ?_
  refine lv_iconst (v := 4) hx hb dX5_extendLast_35 (by decide) ?_
  refine lv_icmp_ne (tgt := 44) hx hb dX5_extendLast_36 (by decide) (fun c8 => ?_) (fun c8 => ?_)
  · skip
    refine lv_iconst (v := 5) hx hb dX5_extendLast_44 (by decide) ?_
    refine lv_icmp_le (tgt := 56) hx hb dX5_extendLast_45 (by decide) (fun c9 => ?_) (fun c9 => ?_)
    · skip
      have hn10 : rn ≤ 5 := (nI_leI (a := rn) (b := 5) (by omega) (by omega)).mp c9
      obtain ⟨hP9, hD9⟩ := PDq.sub (ws' := [(oX5 r1 k1 k2 k3 (nI ct)), (k1, .inl (cA 0, 701, .inl fk)), (k2, .inl (cA 0, 701, .inl ft)), (k3, .inl (cA 1, 701, .inr (.inl fn5)))]) hP hD [0, 1, 2, 3] (by decide) rfl
      refine W.widen (k := 0) (n := 0) (Nat.le_of_ble_eq_true rfl) (Nat.le_of_ble_eq_true rfl) ?_
      exact (W.vret hx hb hr (fun t ht hW => ⟨⟨(), rfl, trivial, fk, fn5, hn6, (Or.inl ⟨by rw [if_neg c8]; omega, rfl⟩), by rw [ht]; exact hP9, hD9⟩, hS.F ht⟩) hS.2.2 dX5_extendLast_56)
    · skip
      have hn11 : 5 < rn := Nat.lt_of_not_le (fun h9 => c9 (nI_le (a := rn) (b := 5) h9 (by omega)))
      refine lv_aload_n hx hb dX5_extendLast_48 rfl (lv_at hl 1 rfl) ?_
      refine va_get (D := D) (ci := 9) (v := .ref k1) (C := RX5) (T := TX5) (N := 4) hx hb hts inX5 hown hK hP 0 rfl rfl 0 (by decide) (hts (.fieldLink RX5 9 "EscrowDesk$Scanner" "kinds" "[I") (by decide +kernel)) (fun _ h9 => h9) rfl dX5_extendLast_49 ?_
      refine lv_iload hx hb dX5_extendLast_52 (lv_at hl 0 rfl) ?_
      refine lv_iconst (v := 2) hx hb dX5_extendLast_54 (by decide) ?_
      refine va_iast hx hb hK hP hD hS 1 0 rfl rfl (vp_in_nI (n := (ct - 1)) (N := 701) (show (ct - 1) < 701 by omega) (by decide)) dX5_extendLast_55 (fun H locs hP hD hS => ?_)
      obtain ⟨hP, hD⟩ : PDq D A [(oX5 r1 k1 k2 k3 (nI ct)), (k1, .inl (cA 0, 701, .inl (upd fk (((nI (ct - 1))).toNatClampNeg) 2))), (k2, .inl (cA 0, 701, .inl ft)), (k3, .inl (cA 1, 701, .inr (.inl fn5)))] H := ⟨hP, hD⟩
      have hn13 : Upp (ct - 1) 2 fk (upd fk (((nI (ct - 1))).toNatClampNeg) 2) := Upp.of (by omega)
      have hn14 : Rdd (upd fk (((nI (ct - 1))).toNatClampNeg) 2) := rfl
      generalize (upd fk (((nI (ct - 1))).toNatClampNeg) 2) = fn12 at hP hD hn13 hn14
      obtain ⟨hP, hD⟩ : PDq D A [(oX5 r1 k1 k2 k3 (nI ct)), (k1, .inl (cA 0, 701, .inl fn12)), (k2, .inl (cA 0, 701, .inl ft)), (k3, .inl (cA 1, 701, .inr (.inl fn5)))] H := ⟨hP, hD⟩
      obtain ⟨hP9, hD9⟩ := PDq.sub (ws' := [(oX5 r1 k1 k2 k3 (nI ct)), (k1, .inl (cA 0, 701, .inl fn12)), (k2, .inl (cA 0, 701, .inl ft)), (k3, .inl (cA 1, 701, .inr (.inl fn5)))]) hP hD [0, 1, 2, 3] (by decide) rfl
      refine W.widen (k := 0) (n := 0) (Nat.le_of_ble_eq_true rfl) (Nat.le_of_ble_eq_true rfl) ?_
      exact (W.vret hx hb hr (fun t ht hW => ⟨⟨(), rfl, trivial, fn12, fn5, hn6, (Or.inr ⟨by rw [if_neg c8]; omega, hn13⟩), by rw [ht]; exact hP9, hD9⟩, hS.F ht⟩) hS.2.2 dX5_extendLast_56)
  · skip
    rw [c8] at hl
    have hl : lv_has ls 5 [(4, .int (nI (ct - 1))), (0, .ref r1), (1, .int 4), (2, .int a), (3, .int (nI rn))] := hl
    refine lv_bipush (v := 9) hx hb dX5_extendLast_39 (by decide) ?_
    refine lv_goto (tgt := 45) hx hb dX5_extendLast_41 (by decide) ?_
    refine lv_icmp_le (tgt := 56) hx hb dX5_extendLast_45 (by decide) (fun c15 => ?_) (fun c15 => ?_)
    · skip
      have hn16 : rn ≤ 9 := (nI_leI (a := rn) (b := 9) (by omega) (by omega)).mp c15
      obtain ⟨hP9, hD9⟩ := PDq.sub (ws' := [(oX5 r1 k1 k2 k3 (nI ct)), (k1, .inl (cA 0, 701, .inl fk)), (k2, .inl (cA 0, 701, .inl ft)), (k3, .inl (cA 1, 701, .inr (.inl fn5)))]) hP hD [0, 1, 2, 3] (by decide) rfl
      refine W.widen (k := 0) (n := 0) (Nat.le_of_ble_eq_true rfl) (Nat.le_of_ble_eq_true rfl) ?_
      exact (W.vret hx hb hr (fun t ht hW => ⟨⟨(), rfl, trivial, fk, fn5, hn6, (Or.inl ⟨by rw [if_pos c8]; omega, rfl⟩), by rw [ht]; exact hP9, hD9⟩, hS.F ht⟩) hS.2.2 dX5_extendLast_56)
    · skip
      have hn17 : 9 < rn := Nat.lt_of_not_le (fun h9 => c15 (nI_le (a := rn) (b := 9) h9 (by omega)))
      refine lv_aload_n hx hb dX5_extendLast_48 rfl (lv_at hl 1 rfl) ?_
      refine va_get (D := D) (ci := 9) (v := .ref k1) (C := RX5) (T := TX5) (N := 4) hx hb hts inX5 hown hK hP 0 rfl rfl 0 (by decide) (hts (.fieldLink RX5 9 "EscrowDesk$Scanner" "kinds" "[I") (by decide +kernel)) (fun _ h9 => h9) rfl dX5_extendLast_49 ?_
      refine lv_iload hx hb dX5_extendLast_52 (lv_at hl 0 rfl) ?_
      refine lv_iconst (v := 2) hx hb dX5_extendLast_54 (by decide) ?_
      refine va_iast hx hb hK hP hD hS 1 0 rfl rfl (vp_in_nI (n := (ct - 1)) (N := 701) (show (ct - 1) < 701 by omega) (by decide)) dX5_extendLast_55 (fun H locs hP hD hS => ?_)
      obtain ⟨hP, hD⟩ : PDq D A [(oX5 r1 k1 k2 k3 (nI ct)), (k1, .inl (cA 0, 701, .inl (upd fk (((nI (ct - 1))).toNatClampNeg) 2))), (k2, .inl (cA 0, 701, .inl ft)), (k3, .inl (cA 1, 701, .inr (.inl fn5)))] H := ⟨hP, hD⟩
      have hn19 : Upp (ct - 1) 2 fk (upd fk (((nI (ct - 1))).toNatClampNeg) 2) := Upp.of (by omega)
      have hn20 : Rdd (upd fk (((nI (ct - 1))).toNatClampNeg) 2) := rfl
      generalize (upd fk (((nI (ct - 1))).toNatClampNeg) 2) = fn18 at hP hD hn19 hn20
      obtain ⟨hP, hD⟩ : PDq D A [(oX5 r1 k1 k2 k3 (nI ct)), (k1, .inl (cA 0, 701, .inl fn18)), (k2, .inl (cA 0, 701, .inl ft)), (k3, .inl (cA 1, 701, .inr (.inl fn5)))] H := ⟨hP, hD⟩
      obtain ⟨hP9, hD9⟩ := PDq.sub (ws' := [(oX5 r1 k1 k2 k3 (nI ct)), (k1, .inl (cA 0, 701, .inl fn18)), (k2, .inl (cA 0, 701, .inl ft)), (k3, .inl (cA 1, 701, .inr (.inl fn5)))]) hP hD [0, 1, 2, 3] (by decide) rfl
      refine W.widen (k := 0) (n := 0) (Nat.le_of_ble_eq_true rfl) (Nat.le_of_ble_eq_true rfl) ?_
      exact (W.vret hx hb hr (fun t ht hW => ⟨⟨(), rfl, trivial, fn18, fn5, hn6, (Or.inr ⟨by rw [if_pos c8]; omega, hn19⟩), by rw [ht]; exact hP9, hD9⟩, hS.F ht⟩) hS.2.2 dX5_extendLast_56)

set_option maxHeartbeats 4000000 in
set_option maxRecDepth 100000 in
/-- packed -/
theorem x_packed_look (l : Launch) (D : va_G) (cA : Nat → ClassId) (sa : Nat → Nat) (k : Nat) (bs : List Int32) (sz : Nat) (hq : (k, bs) ∈ sbL) (hB : ∀ j, j < bs.length → ckd (bs.getD j 0) = 4) : Met l yX8_packed wsX8_packed ({ frames := 4, cells := 0, slots := 0, locals := 85 }) (va_Pc [.ref (sa k)] (Wd D cA sa [] sz)) (va_Ql (fun (r : Int64) (_ : Unit) => r = wf bs bs.length) (fun (_ : Unit) t => Wq D (va_A [] sz) [] t) (va_A [] sz)) 0 0 (va_A [] sz) := by
  refine Met.ofW (cc := cX8_packed) (maxL := 4) (ret := (some .long)) (by decide) rfl ?_
  intro p e s m args below meth c s₁ B hml hv
  obtain ⟨rfl, hsz, hP, hK, hD0, hC, hZ⟩ := hv
  have hx := B.exec
  have hb := B.bytes
  have hr := B.returns
  have hts := atoms_spec (ws := wsX8_packed) B.pre
  have hown : s.vm.findClass RX8 = some m.cls := findClass_of_methodNamed B.named
  have hlocks := B.notSynchronized
  subst hsz
  have hD := hD0.self (sz := s.heap.size)
  generalize hAe : va_A [] s.heap.size = A at hD hZ ⊢
  have hA : ∀ q : Nat, s.heap.size ≤ q → A q := fun q h => by rw [← hAe]; exact Or.inr h
  have hS : va_S A s.heap s.heap [] := va_S.rf
  have hP : va_P D vwCl [] s.heap := hP
  have hl := lv_entry ([.ref (sa k)]) (n := 4) (Nat.le_of_ble_eq_true rfl)
  rw [lg_entry_eq]
  generalize (lg_sl ([.ref (sa k)]) ++ List.replicate (4 - (lg_sl ([.ref (sa k)])).length) Slot.unset).toArray = ls at hl ⊢
  have hl : lv_has ls 4 [(0, .ref (sa k))] := hl
  have hso := hZ.2.2.2.2 (k, bs) hq
  have hsC : va_OF "java/lang/String" "coder" "B" (.int 0) (sa k) A s s.heap := hso.2.1
  have hsV : va_OF "java/lang/String" "value" "[B" (.ref (sa (1000 + k))) (sa k) A s s.heap := hso.2.2.1
  have hsT : va_T .byte (sa (1000 + k)) bs.length (fun j => .int (bs.getD j 0)) A s s.heap := hso.2.2.2
  have hL := sb_lt hq
  refine lv_lconst (v := 0) hx hb dX8_packed_0 (by decide) ?_
  refine lv_lstore_n (lv' := [(1, .long 0), (0, .ref (sa k))]) hx hb dX8_packed_1 rfl hl (by decide) rfl (fun ls hl => ?_)
  refine lv_iconst (v := 0) hx hb dX8_packed_2 (by decide) ?_
  refine lv_istore_n (lv' := [(3, .int 0), (1, .long 0), (0, .ref (sa k))]) hx hb dX8_packed_3 rfl hl (by decide) rfl (fun ls hl => ?_)
  have loop1 : ∀ (n1 i1 : Nat) (x1_1 : Int64) (H : Heap) (locs : List Loc) (ls : Array Slot), i1 + n1 = bs.length → WF bs i1 x1_1 → va_P D vwCl [] H → va_D A [] → va_S A s.heap H locs → lv_has ls 4 [(3, .int (nI i1)), (1, .long x1_1), (0, .ref (sa k))] → W p l e (headSpec wsX8_packed ({ frames := 4, cells := 0, slots := 0, locals := 85 } : Room)).room s m ([.ref (sa k)] : List Value).toArray below meth c H locs 0 0 (MQ below (va_Ql (fun (r : Int64) (_ : Unit) => r = wf bs bs.length) (fun (_ : Unit) t => Wq D A [] t) A) ([.ref (sa k)] : List Value).toArray s 0 0 A) (F0 m 4 ls []) := by
    intro n1
    induction n1 with
    | zero =>
      intro i1 x1_1 H locs ls hi1 hv0_1 hP hD hS hl
      obtain rfl : bs.length = i1 := by omega
      refine lv_iload_n hx hb dX8_packed_4 rfl (lv_at hl 0 rfl) ?_
      refine lv_aload_n hx hb dX8_packed_5 rfl (lv_at hl 2 rfl) ?_
      obtain ⟨hPc, hDc, hFc⟩ := PDq.cut (wc := []) hP hD hS hA [] (by decide) rfl
      refine va_calli (va_runV (As := []) (rest := [.int (nI bs.length)]) ⟨hx, hb, hml, hown, hts⟩ (c_slength l D cA sa k bs H.size hq) (cwV 0 hts gX8_packed_J0_length_8abf5 rfl rfl rfl (by decide +kernel) ⟨(Nat.le_of_ble_eq_true rfl), (Nat.le_of_ble_eq_true rfl)⟩) ⟨Wd.blind, SO.recv hso hS, fun U hU hW => ⟨rfl, Wd.call hPc hDc hK hC hZ hS hFc U hU hW⟩⟩ rfl rfl hl.1 rfl (lv_room (Nat.le_of_ble_eq_true rfl)) dX8_packed_6 ⟨(Nat.le_of_ble_eq_true rfl), (Nat.le_of_ble_eq_true rfl)⟩) hS (fun q _ h => hFc q h) hFc (fun rn1 u t H1 locs ht hvm hw hB hz1 hk1 hS => ?_)
      obtain ⟨hP1, hD1⟩ := hB
      rw [ht] at hP1
      obtain ⟨hP, hD⟩ := PDq.join (w := []) 0 hP hD [] [] rfl rfl (by decide) (by decide) hk1 hFc hP1 hD1 rfl
      generalize H1 = H at hP hS ⊢
      obtain rfl : rn1 = (nI bs.length) := hw
      refine lv_icmp_ge (tgt := 28) hx hb dX8_packed_9 (by decide) (fun c2 => ?_) (fun c9 => absurd (nI_le (a := bs.length) (b := bs.length) (show bs.length ≤ bs.length by omega) (by omega)) c9)
      refine lv_lload_n hx hb dX8_packed_28 rfl (lv_at hl 1 rfl) ?_
      obtain ⟨hP9, hD9⟩ := PDq.sub (ws' := []) hP hD [] (by decide) rfl
      refine W.widen (k := 0) (n := 0) (Nat.le_of_ble_eq_true rfl) (Nat.le_of_ble_eq_true rfl) ?_
      exact (W.lret (v := x1_1) hx hb hr (fun t ht hW => ⟨⟨x1_1, (), rfl, hv0_1, by rw [ht]; exact hP9, hD9⟩, hS.F ht⟩) hS.2.2 dX8_packed_29)
    | succ n1 ih1 =>
      intro i1 x1_1 H locs ls hi1 hv0_1 hP hD hS hl
      refine lv_iload_n hx hb dX8_packed_4 rfl (lv_at hl 0 rfl) ?_
      refine lv_aload_n hx hb dX8_packed_5 rfl (lv_at hl 2 rfl) ?_
      obtain ⟨hPc, hDc, hFc⟩ := PDq.cut (wc := []) hP hD hS hA [] (by decide) rfl
      refine va_calli (va_runV (As := []) (rest := [.int (nI i1)]) ⟨hx, hb, hml, hown, hts⟩ (c_slength l D cA sa k bs H.size hq) (cwV 0 hts gX8_packed_J0_length_8abf5 rfl rfl rfl (by decide +kernel) ⟨(Nat.le_of_ble_eq_true rfl), (Nat.le_of_ble_eq_true rfl)⟩) ⟨Wd.blind, SO.recv hso hS, fun U hU hW => ⟨rfl, Wd.call hPc hDc hK hC hZ hS hFc U hU hW⟩⟩ rfl rfl hl.1 rfl (lv_room (Nat.le_of_ble_eq_true rfl)) dX8_packed_6 ⟨(Nat.le_of_ble_eq_true rfl), (Nat.le_of_ble_eq_true rfl)⟩) hS (fun q _ h => hFc q h) hFc (fun rn3 u t H1 locs ht hvm hw hB hz1 hk1 hS => ?_)
      obtain ⟨hP1, hD1⟩ := hB
      rw [ht] at hP1
      obtain ⟨hP, hD⟩ := PDq.join (w := []) 0 hP hD [] [] rfl rfl (by decide) (by decide) hk1 hFc hP1 hD1 rfl
      generalize H1 = H at hP hS ⊢
      obtain rfl : rn3 = (nI bs.length) := hw
      refine lv_icmp_ge (tgt := 28) hx hb dX8_packed_9 (by decide) (fun c9 => absurd c9 (nI_ge (a := i1) (b := bs.length) (show i1 < bs.length by omega) (by omega))) (fun c4 => ?_)
      refine lv_lload_n hx hb dX8_packed_12 rfl (lv_at hl 1 rfl) ?_
      refine lv_aload_n hx hb dX8_packed_13 rfl (lv_at hl 2 rfl) ?_
      refine lv_iload_n hx hb dX8_packed_14 rfl (lv_at hl 0 rfl) ?_
      obtain ⟨hPc, hDc, hFc⟩ := PDq.cut (wc := []) hP hD hS hA [] (by decide) rfl
      refine va_calli (va_runV (As := [.int (nI i1)]) (rest := [.long x1_1]) ⟨hx, hb, hml, hown, hts⟩ (c_charAt l D cA sa k i1 bs H.size hq (by omega)) (cwV 1 hts gX8_packed_J0_charAt_5068e rfl rfl rfl (by decide +kernel) ⟨(Nat.le_of_ble_eq_true rfl), (Nat.le_of_ble_eq_true rfl)⟩) ⟨Wd.blind, SO.recv hso hS, fun U hU hW => ⟨rfl, Wd.call hPc hDc hK hC hZ hS hFc U hU hW⟩⟩ rfl rfl hl.1 rfl (lv_room (Nat.le_of_ble_eq_true rfl)) dX8_packed_15 ⟨(Nat.le_of_ble_eq_true rfl), (Nat.le_of_ble_eq_true rfl)⟩) hS (fun q _ h => hFc q h) hFc (fun rn5 u t H1 locs ht hvm hw hB hz1 hk1 hS => ?_)
      obtain ⟨hP1, hD1⟩ := hB
      rw [ht] at hP1
      obtain ⟨hP, hD⟩ := PDq.join (w := []) 0 hP hD [] [] rfl rfl (by decide) (by decide) hk1 hFc hP1 hD1 rfl
      generalize H1 = H at hP hS ⊢
      obtain rfl : rn5 = (bs.getD i1 0) := hw
      obtain ⟨hPc, hDc, hFc⟩ := PDq.cut (wc := []) hP hD hS hA [] (by decide) rfl
      refine va_calll (va_runS (As := [.long x1_1, .int (bs.getD i1 0)]) (rest := []) ⟨hx, hb, hml, hown, hts⟩ (x_withLetter l D cA sa x1_1 (bs.getD i1 0) H.size (hB i1 (by omega))) (va_cwS 2 hts gX8_packed_X8_withLetter rfl rfl rfl (by decide +kernel) ⟨(Nat.le_of_ble_eq_true rfl), (Nat.le_of_ble_eq_true rfl)⟩) ⟨Wd.blind, fun U hU hW => ⟨rfl, Wd.call hPc hDc hK hC hZ hS hFc U hU hW⟩⟩ rfl rfl hl.1 rfl (lv_room (Nat.le_of_ble_eq_true rfl)) dX8_packed_18 ⟨(Nat.le_of_ble_eq_true rfl), (Nat.le_of_ble_eq_true rfl)⟩) hS (fun q _ h => hFc q h) hFc (fun rn6 u t H1 locs ht hvm hw hB hz1 hk1 hS => ?_)
      obtain ⟨hP1, hD1⟩ := hB
      rw [ht] at hP1
      obtain ⟨hP, hD⟩ := PDq.join (w := []) 0 hP hD [] [] rfl rfl (by decide) (by decide) hk1 hFc hP1 hD1 rfl
      generalize H1 = H at hP hS ⊢
      obtain rfl : rn6 = (32 * x1_1 + (bs.getD i1 0).toInt64 - 96) := hw
      refine lv_lstore_n (lv' := [(1, .long (32 * x1_1 + (bs.getD i1 0).toInt64 - 96)), (3, .int (nI i1)), (0, .ref (sa k))]) hx hb dX8_packed_21 rfl hl (by decide) rfl (fun ls hl => ?_)
      refine lv_iinc (v := (nI (i1 + 1))) (lv' := [(3, .int (nI (i1 + 1))), (1, .long (32 * x1_1 + (bs.getD i1 0).toInt64 - 96)), (0, .ref (sa k))]) hx hb dX8_packed_22 hl (k := 1) rfl (nI_1 _) (by decide) rfl (fun ls hl => ?_)
      refine lv_goto (tgt := 4) hx hb dX8_packed_25 (by decide) ?_
      obtain ⟨hP9, hD9⟩ := PDq.sub (ws' := []) hP hD [] (by decide) rfl
      exact ih1 (i1 + 1) (32 * x1_1 + (bs.getD i1 0).toInt64 - 96) H _ ls (by omega) (WF.step hv0_1) hP9 hD9 hS (lv_sub hl [0, 1, 2] rfl)
  obtain ⟨hP9, hD9⟩ := PDq.sub (ws' := []) hP hD [] (by decide) rfl
  exact loop1 (bs.length - 0) 0 0 _ _ ls (by omega) rfl hP9 hD9 hS (lv_sub hl [0, 1, 2] rfl)

set_option maxHeartbeats 4000000 in
set_option maxRecDepth 100000 in
/-- markKeywords -/
theorem x_markKeywords_look (l : Launch) (D : va_G) (cA : Nat → ClassId) (sa : Nat → Nat) (r1 : Nat) (k1 : Nat) (k2 : Nat) (k3 : Nat) (ct : Nat) (fk : Nat → Int32) (ft : Nat → Int32) (fv : Nat → Int64) (sz : Nat) (hct : ct ≤ 701) : Met l yX5_markKeywords wsX5_markKeywords ({ frames := 5, cells := 0, slots := 0, locals := 108 }) (va_Pc [.ref r1] (Wd D cA sa [(oX5 r1 k1 k2 k3 (nI ct)), (k1, .inl (cA 0, 701, .inl fk)), (k2, .inl (cA 0, 701, .inl ft)), (k3, .inl (cA 1, 701, .inr (.inl fv)))] sz)) (va_Qv (fun _ : Unit => True) (fun (_ : Unit) t => ∃ zk : Nat → Int32, Mk 15 ct fk fv zk ∧ Wq D (va_A [(oX5 r1 k1 k2 k3 (nI ct)), (k1, .inl (cA 0, 701, .inl fk)), (k2, .inl (cA 0, 701, .inl ft)), (k3, .inl (cA 1, 701, .inr (.inl fv)))] sz) [(oX5 r1 k1 k2 k3 (nI ct)), (k1, .inl (cA 0, 701, .inl zk)), (k2, .inl (cA 0, 701, .inl ft)), (k3, .inl (cA 1, 701, .inr (.inl fv)))] t) (va_A [(oX5 r1 k1 k2 k3 (nI ct)), (k1, .inl (cA 0, 701, .inl fk)), (k2, .inl (cA 0, 701, .inl ft)), (k3, .inl (cA 1, 701, .inr (.inl fv)))] sz)) 0 0 (va_A [(oX5 r1 k1 k2 k3 (nI ct)), (k1, .inl (cA 0, 701, .inl fk)), (k2, .inl (cA 0, 701, .inl ft)), (k3, .inl (cA 1, 701, .inr (.inl fv)))] sz) := by
  refine Met.ofW (cc := cX5_markKeywords) (maxL := 5) (ret := none) (by decide) rfl ?_
  intro p e s m args below meth c s₁ B hml hv
  obtain ⟨rfl, hsz, hP, hK, hD0, hC, hZ⟩ := hv
  have hx := B.exec
  have hb := B.bytes
  have hr := B.returns
  have hts := atoms_spec (ws := wsX5_markKeywords) B.pre
  have hown : s.vm.findClass RX5 = some m.cls := findClass_of_methodNamed B.named
  have hlocks := B.notSynchronized
  subst hsz
  have hD := hD0.self (sz := s.heap.size)
  generalize hAe : va_A [(oX5 r1 k1 k2 k3 (nI ct)), (k1, .inl (cA 0, 701, .inl fk)), (k2, .inl (cA 0, 701, .inl ft)), (k3, .inl (cA 1, 701, .inr (.inl fv)))] s.heap.size = A at hD hZ ⊢
  have hA : ∀ q : Nat, s.heap.size ≤ q → A q := fun q h => by rw [← hAe]; exact Or.inr h
  have hS : va_S A s.heap s.heap [] := va_S.rf
  have hP : va_P D vwCl [(oX5 r1 k1 k2 k3 (nI ct)), (k1, .inl (cA 0, 701, .inl fk)), (k2, .inl (cA 0, 701, .inl ft)), (k3, .inl (cA 1, 701, .inr (.inl fv)))] s.heap := hP
  have hl := lv_entry ([.ref r1]) (n := 5) (Nat.le_of_ble_eq_true rfl)
  rw [lg_entry_eq]
  generalize (lg_sl ([.ref r1]) ++ List.replicate (5 - (lg_sl ([.ref r1])).length) Slot.unset).toArray = ls at hl ⊢
  have hl : lv_has ls 5 [(0, .ref r1)] := hl
  have inX5 : ∀ w ∈ u_ws RX5 TX5 4, w ∈ wsX5_markKeywords := by decide +kernel
  refine lv_bipush (v := 8) hx hb dX5_markKeywords_0 (by decide) ?_
  refine lv_istore_n (lv' := [(1, .int 8), (0, .ref r1)]) hx hb dX5_markKeywords_2 rfl hl (by decide) rfl (fun ls hl => ?_)
  refine lv_iload_n hx hb dX5_markKeywords_3 rfl (lv_at hl 0 rfl) ?_
  refine lv_bipush (v := 22) hx hb dX5_markKeywords_4 (by decide) ?_
  refine lv_icmp_gt (tgt := 72) hx hb dX5_markKeywords_6 (by decide) (fun c9 => absurd c9 (by decide)) (fun c1 => ?_)
  refine lv_iload_n hx hb dX5_markKeywords_9 rfl (lv_at hl 0 rfl) ?_
  obtain ⟨hPc, hDc, hFc⟩ := PDq.cut (wc := []) hP hD hS hA [] (by decide) rfl
  refine va_callr (va_runS (As := [.int 8]) (rest := []) ⟨hx, hb, hml, hown, hts⟩ (c_spell_8 l D cA sa  s.heap.size) (va_cwS 1 hts gX5_markKeywords_X7_spelling rfl rfl rfl (by decide +kernel) ⟨(Nat.le_of_ble_eq_true rfl), (Nat.le_of_ble_eq_true rfl)⟩) ⟨Wd.blind, fun U hU hW => ⟨rfl, Wd.call hPc hDc hK hC hZ hS hFc U hU hW⟩⟩ rfl rfl hl.1 rfl (lv_room (Nat.le_of_ble_eq_true rfl)) dX5_markKeywords_10 ⟨(Nat.le_of_ble_eq_true rfl), (Nat.le_of_ble_eq_true rfl)⟩) hS (fun q _ h => hFc q h) hFc (fun u ra t H1 locs ht hvm hw hB hz1 hk1 hS => ?_)
  obtain ⟨hra, hP1, hD1⟩ := hB
  obtain rfl := hra.symm
  rw [ht] at hP1
  obtain ⟨hP, hD⟩ := PDq.join (w := [(oX5 r1 k1 k2 k3 (nI ct)), (k1, .inl (cA 0, 701, .inl fk)), (k2, .inl (cA 0, 701, .inl ft)), (k3, .inl (cA 1, 701, .inr (.inl fv)))]) 4 hP hD [] [0, 1, 2, 3] rfl rfl (by decide) (by decide) hk1 hFc hP1 hD1 rfl
  generalize H1 = H at hP hS ⊢
  obtain ⟨hPc, hDc, hFc⟩ := PDq.cut (wc := []) hP hD hS hA [] (by decide) rfl
  refine va_calll (va_runS (As := [.ref (sa 1)]) (rest := []) ⟨hx, hb, hml, hown, hts⟩ (x_packed l D cA sa 1 ([114, 97, 116, 101]) H.size (by decide +kernel) (by decide +kernel)) (va_cwS 1 hts gX5_markKeywords_X8_packed rfl rfl rfl (by decide +kernel) ⟨(Nat.le_of_ble_eq_true rfl), (Nat.le_of_ble_eq_true rfl)⟩) ⟨Wd.blind, fun U hU hW => ⟨rfl, Wd.call hPc hDc hK hC hZ hS hFc U hU hW⟩⟩ rfl rfl hl.1 rfl (lv_room (Nat.le_of_ble_eq_true rfl)) dX5_markKeywords_13 ⟨(Nat.le_of_ble_eq_true rfl), (Nat.le_of_ble_eq_true rfl)⟩) hS (fun q _ h => hFc q h) hFc (fun rn2 u t H1 locs ht hvm hw hB hz1 hk1 hS => ?_)
  obtain ⟨hP1, hD1⟩ := hB
  rw [ht] at hP1
  obtain ⟨hP, hD⟩ := PDq.join (w := [(oX5 r1 k1 k2 k3 (nI ct)), (k1, .inl (cA 0, 701, .inl fk)), (k2, .inl (cA 0, 701, .inl ft)), (k3, .inl (cA 1, 701, .inr (.inl fv)))]) 4 hP hD [] [0, 1, 2, 3] rfl rfl (by decide) (by decide) hk1 hFc hP1 hD1 rfl
  generalize H1 = H at hP hS ⊢
  obtain rfl : rn2 = 591493 := hw.trans (by decide +kernel)
  refine lv_lstore_n (lv' := [(2, .long 591493), (1, .int 8), (0, .ref r1)]) hx hb dX5_markKeywords_16 rfl hl (by decide) rfl (fun ls hl => ?_)
  refine lv_iconst (v := 0) hx hb dX5_markKeywords_17 (by decide) ?_
  refine lv_istore (lv' := [(4, .int 0), (2, .long 591493), (1, .int 8), (0, .ref r1)]) hx hb dX5_markKeywords_18 hl (by decide) rfl (fun ls hl => ?_)
  have loop1 : ∀ (n1 i1 : Nat) (f1_1 : Nat → Int32) (H : Heap) (locs : List Loc) (ls : Array Slot), i1 + n1 = ct → Rdd f1_1 → Mi 0 ct i1 fk fv f1_1 → va_P D vwCl [(oX5 r1 k1 k2 k3 (nI ct)), (k1, .inl (cA 0, 701, .inl f1_1)), (k2, .inl (cA 0, 701, .inl ft)), (k3, .inl (cA 1, 701, .inr (.inl fv)))] H → va_D A [(oX5 r1 k1 k2 k3 (nI ct)), (k1, .inl (cA 0, 701, .inl f1_1)), (k2, .inl (cA 0, 701, .inl ft)), (k3, .inl (cA 1, 701, .inr (.inl fv)))] → va_S A s.heap H locs → lv_has ls 5 [(4, .int (nI i1)), (2, .long 591493), (1, .int 8), (0, .ref r1)] → W p l e (headSpec wsX5_markKeywords ({ frames := 5, cells := 0, slots := 0, locals := 108 } : Room)).room s m ([.ref r1] : List Value).toArray below meth c H locs 0 0 (MQ below (va_Qv (fun _ : Unit => True) (fun (_ : Unit) t => ∃ zk : Nat → Int32, Mk 15 ct fk fv zk ∧ Wq D A [(oX5 r1 k1 k2 k3 (nI ct)), (k1, .inl (cA 0, 701, .inl zk)), (k2, .inl (cA 0, 701, .inl ft)), (k3, .inl (cA 1, 701, .inr (.inl fv)))] t) A) ([.ref r1] : List Value).toArray s 0 0 A) (F0 m 20 ls []) := by
    intro n1
    induction n1 with
    | zero =>
      intro i1 f1_1 H locs ls hi1 hf0_1 hv0_1 hP hD hS hl
      obtain rfl : ct = i1 := by omega
      refine lv_iload hx hb dX5_markKeywords_20 (lv_at hl 0 rfl) ?_
      refine lv_aload_n hx hb dX5_markKeywords_22 rfl (lv_at hl 3 rfl) ?_
      refine va_get (D := D) (ci := 9) (v := .int (nI ct)) (C := RX5) (T := TX5) (N := 4) hx hb hts inX5 hown hK hP 0 rfl rfl 3 (by decide) (hts (.fieldLink RX5 22 "EscrowDesk$Scanner" "count" "I") (by decide +kernel)) (fun _ h9 => h9) rfl dX5_markKeywords_23 ?_
      refine lv_icmp_ge (tgt := 66) hx hb dX5_markKeywords_26 (by decide) (fun c3 => ?_) (fun c9 => absurd (nI_le (a := ct) (b := ct) (show ct ≤ ct by omega) (by omega)) c9)
      refine lv_iinc (v := 9) (lv' := [(1, .int 9), (4, .int (nI ct)), (2, .long 591493), (0, .ref r1)]) hx hb dX5_markKeywords_66 hl (k := 2) rfl (by first | rfl | decide +kernel) (by decide) rfl (fun ls hl => ?_)
      refine lv_goto (tgt := 3) hx hb dX5_markKeywords_69 (by decide) ?_
      refine lv_iload_n hx hb dX5_markKeywords_3 rfl (lv_at hl 0 rfl) ?_
      refine lv_bipush (v := 22) hx hb dX5_markKeywords_4 (by decide) ?_
      refine lv_icmp_gt (tgt := 72) hx hb dX5_markKeywords_6 (by decide) (fun c9 => absurd c9 (by decide)) (fun c4 => ?_)
      refine lv_iload_n hx hb dX5_markKeywords_9 rfl (lv_at hl 0 rfl) ?_
      obtain ⟨hPc, hDc, hFc⟩ := PDq.cut (wc := []) hP hD hS hA [] (by decide) rfl
      refine va_callr (va_runS (As := [.int 9]) (rest := []) ⟨hx, hb, hml, hown, hts⟩ (c_spell_9 l D cA sa  H.size) (va_cwS 1 hts gX5_markKeywords_X7_spelling rfl rfl rfl (by decide +kernel) ⟨(Nat.le_of_ble_eq_true rfl), (Nat.le_of_ble_eq_true rfl)⟩) ⟨Wd.blind, fun U hU hW => ⟨rfl, Wd.call hPc hDc hK hC hZ hS hFc U hU hW⟩⟩ rfl rfl hl.1 rfl (lv_room (Nat.le_of_ble_eq_true rfl)) dX5_markKeywords_10 ⟨(Nat.le_of_ble_eq_true rfl), (Nat.le_of_ble_eq_true rfl)⟩) hS (fun q _ h => hFc q h) hFc (fun u ra t H1 locs ht hvm hw hB hz1 hk1 hS => ?_)
      obtain ⟨hra, hP1, hD1⟩ := hB
      obtain rfl := hra.symm
      rw [ht] at hP1
      obtain ⟨hP, hD⟩ := PDq.join (w := [(oX5 r1 k1 k2 k3 (nI ct)), (k1, .inl (cA 0, 701, .inl f1_1)), (k2, .inl (cA 0, 701, .inl ft)), (k3, .inl (cA 1, 701, .inr (.inl fv)))]) 4 hP hD [] [0, 1, 2, 3] rfl rfl (by decide) (by decide) hk1 hFc hP1 hD1 rfl
      generalize H1 = H at hP hS ⊢
      obtain ⟨hPc, hDc, hFc⟩ := PDq.cut (wc := []) hP hD hS hA [] (by decide) rfl
      refine va_calll (va_runS (As := [.ref (sa 2)]) (rest := []) ⟨hx, hb, hml, hown, hts⟩ (x_packed l D cA sa 2 ([102, 101, 101]) H.size (by decide +kernel) (by decide +kernel)) (va_cwS 1 hts gX5_markKeywords_X8_packed rfl rfl rfl (by decide +kernel) ⟨(Nat.le_of_ble_eq_true rfl), (Nat.le_of_ble_eq_true rfl)⟩) ⟨Wd.blind, fun U hU hW => ⟨rfl, Wd.call hPc hDc hK hC hZ hS hFc U hU hW⟩⟩ rfl rfl hl.1 rfl (lv_room (Nat.le_of_ble_eq_true rfl)) dX5_markKeywords_13 ⟨(Nat.le_of_ble_eq_true rfl), (Nat.le_of_ble_eq_true rfl)⟩) hS (fun q _ h => hFc q h) hFc (fun rn5 u t H1 locs ht hvm hw hB hz1 hk1 hS => ?_)
      obtain ⟨hP1, hD1⟩ := hB
      rw [ht] at hP1
      obtain ⟨hP, hD⟩ := PDq.join (w := [(oX5 r1 k1 k2 k3 (nI ct)), (k1, .inl (cA 0, 701, .inl f1_1)), (k2, .inl (cA 0, 701, .inl ft)), (k3, .inl (cA 1, 701, .inr (.inl fv)))]) 4 hP hD [] [0, 1, 2, 3] rfl rfl (by decide) (by decide) hk1 hFc hP1 hD1 rfl
      generalize H1 = H at hP hS ⊢
      obtain rfl : rn5 = 6309 := hw.trans (by decide +kernel)
      refine lv_lstore_n (lv' := [(2, .long 6309), (1, .int 9), (4, .int (nI ct)), (0, .ref r1)]) hx hb dX5_markKeywords_16 rfl hl (by decide) rfl (fun ls hl => ?_)
      refine lv_iconst (v := 0) hx hb dX5_markKeywords_17 (by decide) ?_
      refine lv_istore (lv' := [(4, .int 0), (2, .long 6309), (1, .int 9), (0, .ref r1)]) hx hb dX5_markKeywords_18 hl (by decide) rfl (fun ls hl => ?_)
      have loop2 : ∀ (n2 i2 : Nat) (f1_2 : Nat → Int32) (H : Heap) (locs : List Loc) (ls : Array Slot), i2 + n2 = ct → Rdd f1_2 → Mi 1 ct i2 fk fv f1_2 → va_P D vwCl [(oX5 r1 k1 k2 k3 (nI ct)), (k1, .inl (cA 0, 701, .inl f1_2)), (k2, .inl (cA 0, 701, .inl ft)), (k3, .inl (cA 1, 701, .inr (.inl fv)))] H → va_D A [(oX5 r1 k1 k2 k3 (nI ct)), (k1, .inl (cA 0, 701, .inl f1_2)), (k2, .inl (cA 0, 701, .inl ft)), (k3, .inl (cA 1, 701, .inr (.inl fv)))] → va_S A s.heap H locs → lv_has ls 5 [(4, .int (nI i2)), (2, .long 6309), (1, .int 9), (0, .ref r1)] → W p l e (headSpec wsX5_markKeywords ({ frames := 5, cells := 0, slots := 0, locals := 108 } : Room)).room s m ([.ref r1] : List Value).toArray below meth c H locs 0 0 (MQ below (va_Qv (fun _ : Unit => True) (fun (_ : Unit) t => ∃ zk : Nat → Int32, Mk 15 ct fk fv zk ∧ Wq D A [(oX5 r1 k1 k2 k3 (nI ct)), (k1, .inl (cA 0, 701, .inl zk)), (k2, .inl (cA 0, 701, .inl ft)), (k3, .inl (cA 1, 701, .inr (.inl fv)))] t) A) ([.ref r1] : List Value).toArray s 0 0 A) (F0 m 20 ls []) := by
        intro n2
        induction n2 with
        | zero =>
          intro i2 f1_2 H locs ls hi2 hf0_2 hv0_2 hP hD hS hl
          obtain rfl : ct = i2 := by omega
          refine lv_iload hx hb dX5_markKeywords_20 (lv_at hl 0 rfl) ?_
          refine lv_aload_n hx hb dX5_markKeywords_22 rfl (lv_at hl 3 rfl) ?_
          refine va_get (D := D) (ci := 9) (v := .int (nI ct)) (C := RX5) (T := TX5) (N := 4) hx hb hts inX5 hown hK hP 0 rfl rfl 3 (by decide) (hts (.fieldLink RX5 22 "EscrowDesk$Scanner" "count" "I") (by decide +kernel)) (fun _ h9 => h9) rfl dX5_markKeywords_23 ?_
          refine lv_icmp_ge (tgt := 66) hx hb dX5_markKeywords_26 (by decide) (fun c6 => ?_) (fun c9 => absurd (nI_le (a := ct) (b := ct) (show ct ≤ ct by omega) (by omega)) c9)
          refine lv_iinc (v := 10) (lv' := [(1, .int 10), (4, .int (nI ct)), (2, .long 6309), (0, .ref r1)]) hx hb dX5_markKeywords_66 hl (k := 2) rfl (by first | rfl | decide +kernel) (by decide) rfl (fun ls hl => ?_)
          refine lv_goto (tgt := 3) hx hb dX5_markKeywords_69 (by decide) ?_
          refine lv_iload_n hx hb dX5_markKeywords_3 rfl (lv_at hl 0 rfl) ?_
          refine lv_bipush (v := 22) hx hb dX5_markKeywords_4 (by decide) ?_
          refine lv_icmp_gt (tgt := 72) hx hb dX5_markKeywords_6 (by decide) (fun c9 => absurd c9 (by decide)) (fun c7 => ?_)
          refine lv_iload_n hx hb dX5_markKeywords_9 rfl (lv_at hl 0 rfl) ?_
          obtain ⟨hPc, hDc, hFc⟩ := PDq.cut (wc := []) hP hD hS hA [] (by decide) rfl
          refine va_callr (va_runS (As := [.int 10]) (rest := []) ⟨hx, hb, hml, hown, hts⟩ (c_spell_10 l D cA sa  H.size) (va_cwS 1 hts gX5_markKeywords_X7_spelling rfl rfl rfl (by decide +kernel) ⟨(Nat.le_of_ble_eq_true rfl), (Nat.le_of_ble_eq_true rfl)⟩) ⟨Wd.blind, fun U hU hW => ⟨rfl, Wd.call hPc hDc hK hC hZ hS hFc U hU hW⟩⟩ rfl rfl hl.1 rfl (lv_room (Nat.le_of_ble_eq_true rfl)) dX5_markKeywords_10 ⟨(Nat.le_of_ble_eq_true rfl), (Nat.le_of_ble_eq_true rfl)⟩) hS (fun q _ h => hFc q h) hFc (fun u ra t H1 locs ht hvm hw hB hz1 hk1 hS => ?_)
          obtain ⟨hra, hP1, hD1⟩ := hB
          obtain rfl := hra.symm
          rw [ht] at hP1
          obtain ⟨hP, hD⟩ := PDq.join (w := [(oX5 r1 k1 k2 k3 (nI ct)), (k1, .inl (cA 0, 701, .inl f1_2)), (k2, .inl (cA 0, 701, .inl ft)), (k3, .inl (cA 1, 701, .inr (.inl fv)))]) 4 hP hD [] [0, 1, 2, 3] rfl rfl (by decide) (by decide) hk1 hFc hP1 hD1 rfl
          generalize H1 = H at hP hS ⊢
          obtain ⟨hPc, hDc, hFc⟩ := PDq.cut (wc := []) hP hD hS hA [] (by decide) rfl
          refine va_calll (va_runS (As := [.ref (sa 3)]) (rest := []) ⟨hx, hb, hml, hown, hts⟩ (x_packed l D cA sa 3 ([103, 114, 97, 99, 101]) H.size (by decide +kernel) (by decide +kernel)) (va_cwS 1 hts gX5_markKeywords_X8_packed rfl rfl rfl (by decide +kernel) ⟨(Nat.le_of_ble_eq_true rfl), (Nat.le_of_ble_eq_true rfl)⟩) ⟨Wd.blind, fun U hU hW => ⟨rfl, Wd.call hPc hDc hK hC hZ hS hFc U hU hW⟩⟩ rfl rfl hl.1 rfl (lv_room (Nat.le_of_ble_eq_true rfl)) dX5_markKeywords_13 ⟨(Nat.le_of_ble_eq_true rfl), (Nat.le_of_ble_eq_true rfl)⟩) hS (fun q _ h => hFc q h) hFc (fun rn8 u t H1 locs ht hvm hw hB hz1 hk1 hS => ?_)
          obtain ⟨hP1, hD1⟩ := hB
          rw [ht] at hP1
          obtain ⟨hP, hD⟩ := PDq.join (w := [(oX5 r1 k1 k2 k3 (nI ct)), (k1, .inl (cA 0, 701, .inl f1_2)), (k2, .inl (cA 0, 701, .inl ft)), (k3, .inl (cA 1, 701, .inr (.inl fv)))]) 4 hP hD [] [0, 1, 2, 3] rfl rfl (by decide) (by decide) hk1 hFc hP1 hD1 rfl
          generalize H1 = H at hP hS ⊢
          obtain rfl : rn8 = 7930981 := hw.trans (by decide +kernel)
          refine lv_lstore_n (lv' := [(2, .long 7930981), (1, .int 10), (4, .int (nI ct)), (0, .ref r1)]) hx hb dX5_markKeywords_16 rfl hl (by decide) rfl (fun ls hl => ?_)
          refine lv_iconst (v := 0) hx hb dX5_markKeywords_17 (by decide) ?_
          refine lv_istore (lv' := [(4, .int 0), (2, .long 7930981), (1, .int 10), (0, .ref r1)]) hx hb dX5_markKeywords_18 hl (by decide) rfl (fun ls hl => ?_)
          have loop3 : ∀ (n3 i3 : Nat) (f1_3 : Nat → Int32) (H : Heap) (locs : List Loc) (ls : Array Slot), i3 + n3 = ct → Rdd f1_3 → Mi 2 ct i3 fk fv f1_3 → va_P D vwCl [(oX5 r1 k1 k2 k3 (nI ct)), (k1, .inl (cA 0, 701, .inl f1_3)), (k2, .inl (cA 0, 701, .inl ft)), (k3, .inl (cA 1, 701, .inr (.inl fv)))] H → va_D A [(oX5 r1 k1 k2 k3 (nI ct)), (k1, .inl (cA 0, 701, .inl f1_3)), (k2, .inl (cA 0, 701, .inl ft)), (k3, .inl (cA 1, 701, .inr (.inl fv)))] → va_S A s.heap H locs → lv_has ls 5 [(4, .int (nI i3)), (2, .long 7930981), (1, .int 10), (0, .ref r1)] → W p l e (headSpec wsX5_markKeywords ({ frames := 5, cells := 0, slots := 0, locals := 108 } : Room)).room s m ([.ref r1] : List Value).toArray below meth c H locs 0 0 (MQ below (va_Qv (fun _ : Unit => True) (fun (_ : Unit) t => ∃ zk : Nat → Int32, Mk 15 ct fk fv zk ∧ Wq D A [(oX5 r1 k1 k2 k3 (nI ct)), (k1, .inl (cA 0, 701, .inl zk)), (k2, .inl (cA 0, 701, .inl ft)), (k3, .inl (cA 1, 701, .inr (.inl fv)))] t) A) ([.ref r1] : List Value).toArray s 0 0 A) (F0 m 20 ls []) := by
            intro n3
            induction n3 with
            | zero =>
              intro i3 f1_3 H locs ls hi3 hf0_3 hv0_3 hP hD hS hl
              obtain rfl : ct = i3 := by omega
              refine lv_iload hx hb dX5_markKeywords_20 (lv_at hl 0 rfl) ?_
              refine lv_aload_n hx hb dX5_markKeywords_22 rfl (lv_at hl 3 rfl) ?_
              refine va_get (D := D) (ci := 9) (v := .int (nI ct)) (C := RX5) (T := TX5) (N := 4) hx hb hts inX5 hown hK hP 0 rfl rfl 3 (by decide) (hts (.fieldLink RX5 22 "EscrowDesk$Scanner" "count" "I") (by decide +kernel)) (fun _ h9 => h9) rfl dX5_markKeywords_23 ?_
              refine lv_icmp_ge (tgt := 66) hx hb dX5_markKeywords_26 (by decide) (fun c9 => ?_) (fun c9 => absurd (nI_le (a := ct) (b := ct) (show ct ≤ ct by omega) (by omega)) c9)
              refine lv_iinc (v := 11) (lv' := [(1, .int 11), (4, .int (nI ct)), (2, .long 7930981), (0, .ref r1)]) hx hb dX5_markKeywords_66 hl (k := 2) rfl (by first | rfl | decide +kernel) (by decide) rfl (fun ls hl => ?_)
              refine lv_goto (tgt := 3) hx hb dX5_markKeywords_69 (by decide) ?_
              refine lv_iload_n hx hb dX5_markKeywords_3 rfl (lv_at hl 0 rfl) ?_
              refine lv_bipush (v := 22) hx hb dX5_markKeywords_4 (by decide) ?_
              refine lv_icmp_gt (tgt := 72) hx hb dX5_markKeywords_6 (by decide) (fun c9 => absurd c9 (by decide)) (fun c10 => ?_)
              refine lv_iload_n hx hb dX5_markKeywords_9 rfl (lv_at hl 0 rfl) ?_
              obtain ⟨hPc, hDc, hFc⟩ := PDq.cut (wc := []) hP hD hS hA [] (by decide) rfl
              refine va_callr (va_runS (As := [.int 11]) (rest := []) ⟨hx, hb, hml, hown, hts⟩ (c_spell_11 l D cA sa  H.size) (va_cwS 1 hts gX5_markKeywords_X7_spelling rfl rfl rfl (by decide +kernel) ⟨(Nat.le_of_ble_eq_true rfl), (Nat.le_of_ble_eq_true rfl)⟩) ⟨Wd.blind, fun U hU hW => ⟨rfl, Wd.call hPc hDc hK hC hZ hS hFc U hU hW⟩⟩ rfl rfl hl.1 rfl (lv_room (Nat.le_of_ble_eq_true rfl)) dX5_markKeywords_10 ⟨(Nat.le_of_ble_eq_true rfl), (Nat.le_of_ble_eq_true rfl)⟩) hS (fun q _ h => hFc q h) hFc (fun u ra t H1 locs ht hvm hw hB hz1 hk1 hS => ?_)
              obtain ⟨hra, hP1, hD1⟩ := hB
              obtain rfl := hra.symm
              rw [ht] at hP1
              obtain ⟨hP, hD⟩ := PDq.join (w := [(oX5 r1 k1 k2 k3 (nI ct)), (k1, .inl (cA 0, 701, .inl f1_3)), (k2, .inl (cA 0, 701, .inl ft)), (k3, .inl (cA 1, 701, .inr (.inl fv)))]) 4 hP hD [] [0, 1, 2, 3] rfl rfl (by decide) (by decide) hk1 hFc hP1 hD1 rfl
              generalize H1 = H at hP hS ⊢
              obtain ⟨hPc, hDc, hFc⟩ := PDq.cut (wc := []) hP hD hS hA [] (by decide) rfl
              refine va_calll (va_runS (As := [.ref (sa 4)]) (rest := []) ⟨hx, hb, hml, hown, hts⟩ (x_packed l D cA sa 4 ([100, 101, 112, 111, 115, 105, 116]) H.size (by decide +kernel) (by decide +kernel)) (va_cwS 1 hts gX5_markKeywords_X8_packed rfl rfl rfl (by decide +kernel) ⟨(Nat.le_of_ble_eq_true rfl), (Nat.le_of_ble_eq_true rfl)⟩) ⟨Wd.blind, fun U hU hW => ⟨rfl, Wd.call hPc hDc hK hC hZ hS hFc U hU hW⟩⟩ rfl rfl hl.1 rfl (lv_room (Nat.le_of_ble_eq_true rfl)) dX5_markKeywords_13 ⟨(Nat.le_of_ble_eq_true rfl), (Nat.le_of_ble_eq_true rfl)⟩) hS (fun q _ h => hFc q h) hFc (fun rn11 u t H1 locs ht hvm hw hB hz1 hk1 hS => ?_)
              obtain ⟨hP1, hD1⟩ := hB
              rw [ht] at hP1
              obtain ⟨hP, hD⟩ := PDq.join (w := [(oX5 r1 k1 k2 k3 (nI ct)), (k1, .inl (cA 0, 701, .inl f1_3)), (k2, .inl (cA 0, 701, .inl ft)), (k3, .inl (cA 1, 701, .inr (.inl fv)))]) 4 hP hD [] [0, 1, 2, 3] rfl rfl (by decide) (by decide) hk1 hFc hP1 hD1 rfl
              generalize H1 = H at hP hS ⊢
              obtain rfl : rn11 = 4480027956 := hw.trans (by decide +kernel)
              refine lv_lstore_n (lv' := [(2, .long 4480027956), (1, .int 11), (4, .int (nI ct)), (0, .ref r1)]) hx hb dX5_markKeywords_16 rfl hl (by decide) rfl (fun ls hl => ?_)
              refine lv_iconst (v := 0) hx hb dX5_markKeywords_17 (by decide) ?_
              refine lv_istore (lv' := [(4, .int 0), (2, .long 4480027956), (1, .int 11), (0, .ref r1)]) hx hb dX5_markKeywords_18 hl (by decide) rfl (fun ls hl => ?_)
              have loop4 : ∀ (n4 i4 : Nat) (f1_4 : Nat → Int32) (H : Heap) (locs : List Loc) (ls : Array Slot), i4 + n4 = ct → Rdd f1_4 → Mi 3 ct i4 fk fv f1_4 → va_P D vwCl [(oX5 r1 k1 k2 k3 (nI ct)), (k1, .inl (cA 0, 701, .inl f1_4)), (k2, .inl (cA 0, 701, .inl ft)), (k3, .inl (cA 1, 701, .inr (.inl fv)))] H → va_D A [(oX5 r1 k1 k2 k3 (nI ct)), (k1, .inl (cA 0, 701, .inl f1_4)), (k2, .inl (cA 0, 701, .inl ft)), (k3, .inl (cA 1, 701, .inr (.inl fv)))] → va_S A s.heap H locs → lv_has ls 5 [(4, .int (nI i4)), (2, .long 4480027956), (1, .int 11), (0, .ref r1)] → W p l e (headSpec wsX5_markKeywords ({ frames := 5, cells := 0, slots := 0, locals := 108 } : Room)).room s m ([.ref r1] : List Value).toArray below meth c H locs 0 0 (MQ below (va_Qv (fun _ : Unit => True) (fun (_ : Unit) t => ∃ zk : Nat → Int32, Mk 15 ct fk fv zk ∧ Wq D A [(oX5 r1 k1 k2 k3 (nI ct)), (k1, .inl (cA 0, 701, .inl zk)), (k2, .inl (cA 0, 701, .inl ft)), (k3, .inl (cA 1, 701, .inr (.inl fv)))] t) A) ([.ref r1] : List Value).toArray s 0 0 A) (F0 m 20 ls []) := by
                intro n4
                induction n4 with
                | zero =>
                  intro i4 f1_4 H locs ls hi4 hf0_4 hv0_4 hP hD hS hl
                  obtain rfl : ct = i4 := by omega
                  refine lv_iload hx hb dX5_markKeywords_20 (lv_at hl 0 rfl) ?_
                  refine lv_aload_n hx hb dX5_markKeywords_22 rfl (lv_at hl 3 rfl) ?_
                  refine va_get (D := D) (ci := 9) (v := .int (nI ct)) (C := RX5) (T := TX5) (N := 4) hx hb hts inX5 hown hK hP 0 rfl rfl 3 (by decide) (hts (.fieldLink RX5 22 "EscrowDesk$Scanner" "count" "I") (by decide +kernel)) (fun _ h9 => h9) rfl dX5_markKeywords_23 ?_
                  refine lv_icmp_ge (tgt := 66) hx hb dX5_markKeywords_26 (by decide) (fun c12 => ?_) (fun c9 => absurd (nI_le (a := ct) (b := ct) (show ct ≤ ct by omega) (by omega)) c9)
                  refine lv_iinc (v := 12) (lv' := [(1, .int 12), (4, .int (nI ct)), (2, .long 4480027956), (0, .ref r1)]) hx hb dX5_markKeywords_66 hl (k := 2) rfl (by first | rfl | decide +kernel) (by decide) rfl (fun ls hl => ?_)
                  refine lv_goto (tgt := 3) hx hb dX5_markKeywords_69 (by decide) ?_
                  refine lv_iload_n hx hb dX5_markKeywords_3 rfl (lv_at hl 0 rfl) ?_
                  refine lv_bipush (v := 22) hx hb dX5_markKeywords_4 (by decide) ?_
                  refine lv_icmp_gt (tgt := 72) hx hb dX5_markKeywords_6 (by decide) (fun c9 => absurd c9 (by decide)) (fun c13 => ?_)
                  refine lv_iload_n hx hb dX5_markKeywords_9 rfl (lv_at hl 0 rfl) ?_
                  obtain ⟨hPc, hDc, hFc⟩ := PDq.cut (wc := []) hP hD hS hA [] (by decide) rfl
                  refine va_callr (va_runS (As := [.int 12]) (rest := []) ⟨hx, hb, hml, hown, hts⟩ (c_spell_12 l D cA sa  H.size) (va_cwS 1 hts gX5_markKeywords_X7_spelling rfl rfl rfl (by decide +kernel) ⟨(Nat.le_of_ble_eq_true rfl), (Nat.le_of_ble_eq_true rfl)⟩) ⟨Wd.blind, fun U hU hW => ⟨rfl, Wd.call hPc hDc hK hC hZ hS hFc U hU hW⟩⟩ rfl rfl hl.1 rfl (lv_room (Nat.le_of_ble_eq_true rfl)) dX5_markKeywords_10 ⟨(Nat.le_of_ble_eq_true rfl), (Nat.le_of_ble_eq_true rfl)⟩) hS (fun q _ h => hFc q h) hFc (fun u ra t H1 locs ht hvm hw hB hz1 hk1 hS => ?_)
                  obtain ⟨hra, hP1, hD1⟩ := hB
                  obtain rfl := hra.symm
                  rw [ht] at hP1
                  obtain ⟨hP, hD⟩ := PDq.join (w := [(oX5 r1 k1 k2 k3 (nI ct)), (k1, .inl (cA 0, 701, .inl f1_4)), (k2, .inl (cA 0, 701, .inl ft)), (k3, .inl (cA 1, 701, .inr (.inl fv)))]) 4 hP hD [] [0, 1, 2, 3] rfl rfl (by decide) (by decide) hk1 hFc hP1 hD1 rfl
                  generalize H1 = H at hP hS ⊢
                  obtain ⟨hPc, hDc, hFc⟩ := PDq.cut (wc := []) hP hD hS hA [] (by decide) rfl
                  refine va_calll (va_runS (As := [.ref (sa 5)]) (rest := []) ⟨hx, hb, hml, hown, hts⟩ (x_packed l D cA sa 5 ([109, 105, 108, 101, 115, 116, 111, 110, 101]) H.size (by decide +kernel) (by decide +kernel)) (va_cwS 1 hts gX5_markKeywords_X8_packed rfl rfl rfl (by decide +kernel) ⟨(Nat.le_of_ble_eq_true rfl), (Nat.le_of_ble_eq_true rfl)⟩) ⟨Wd.blind, fun U hU hW => ⟨rfl, Wd.call hPc hDc hK hC hZ hS hFc U hU hW⟩⟩ rfl rfl hl.1 rfl (lv_room (Nat.le_of_ble_eq_true rfl)) dX5_markKeywords_13 ⟨(Nat.le_of_ble_eq_true rfl), (Nat.le_of_ble_eq_true rfl)⟩) hS (fun q _ h => hFc q h) hFc (fun rn14 u t H1 locs ht hvm hw hB hz1 hk1 hS => ?_)
                  obtain ⟨hP1, hD1⟩ := hB
                  rw [ht] at hP1
                  obtain ⟨hP, hD⟩ := PDq.join (w := [(oX5 r1 k1 k2 k3 (nI ct)), (k1, .inl (cA 0, 701, .inl f1_4)), (k2, .inl (cA 0, 701, .inl ft)), (k3, .inl (cA 1, 701, .inr (.inl fv)))]) 4 hP hD [] [0, 1, 2, 3] rfl rfl (by decide) (by decide) hk1 hFc hP1 hD1 rfl
                  generalize H1 = H at hP hS ⊢
                  obtain rfl : rn14 = 14615962074565 := hw.trans (by decide +kernel)
                  refine lv_lstore_n (lv' := [(2, .long 14615962074565), (1, .int 12), (4, .int (nI ct)), (0, .ref r1)]) hx hb dX5_markKeywords_16 rfl hl (by decide) rfl (fun ls hl => ?_)
                  refine lv_iconst (v := 0) hx hb dX5_markKeywords_17 (by decide) ?_
                  refine lv_istore (lv' := [(4, .int 0), (2, .long 14615962074565), (1, .int 12), (0, .ref r1)]) hx hb dX5_markKeywords_18 hl (by decide) rfl (fun ls hl => ?_)
                  have loop5 : ∀ (n5 i5 : Nat) (f1_5 : Nat → Int32) (H : Heap) (locs : List Loc) (ls : Array Slot), i5 + n5 = ct → Rdd f1_5 → Mi 4 ct i5 fk fv f1_5 → va_P D vwCl [(oX5 r1 k1 k2 k3 (nI ct)), (k1, .inl (cA 0, 701, .inl f1_5)), (k2, .inl (cA 0, 701, .inl ft)), (k3, .inl (cA 1, 701, .inr (.inl fv)))] H → va_D A [(oX5 r1 k1 k2 k3 (nI ct)), (k1, .inl (cA 0, 701, .inl f1_5)), (k2, .inl (cA 0, 701, .inl ft)), (k3, .inl (cA 1, 701, .inr (.inl fv)))] → va_S A s.heap H locs → lv_has ls 5 [(4, .int (nI i5)), (2, .long 14615962074565), (1, .int 12), (0, .ref r1)] → W p l e (headSpec wsX5_markKeywords ({ frames := 5, cells := 0, slots := 0, locals := 108 } : Room)).room s m ([.ref r1] : List Value).toArray below meth c H locs 0 0 (MQ below (va_Qv (fun _ : Unit => True) (fun (_ : Unit) t => ∃ zk : Nat → Int32, Mk 15 ct fk fv zk ∧ Wq D A [(oX5 r1 k1 k2 k3 (nI ct)), (k1, .inl (cA 0, 701, .inl zk)), (k2, .inl (cA 0, 701, .inl ft)), (k3, .inl (cA 1, 701, .inr (.inl fv)))] t) A) ([.ref r1] : List Value).toArray s 0 0 A) (F0 m 20 ls []) := by
                    intro n5
                    induction n5 with
                    | zero =>
                      intro i5 f1_5 H locs ls hi5 hf0_5 hv0_5 hP hD hS hl
                      obtain rfl : ct = i5 := by omega
                      refine lv_iload hx hb dX5_markKeywords_20 (lv_at hl 0 rfl) ?_
                      refine lv_aload_n hx hb dX5_markKeywords_22 rfl (lv_at hl 3 rfl) ?_
                      refine va_get (D := D) (ci := 9) (v := .int (nI ct)) (C := RX5) (T := TX5) (N := 4) hx hb hts inX5 hown hK hP 0 rfl rfl 3 (by decide) (hts (.fieldLink RX5 22 "EscrowDesk$Scanner" "count" "I") (by decide +kernel)) (fun _ h9 => h9) rfl dX5_markKeywords_23 ?_
                      refine lv_icmp_ge (tgt := 66) hx hb dX5_markKeywords_26 (by decide) (fun c15 => ?_) (fun c9 => absurd (nI_le (a := ct) (b := ct) (show ct ≤ ct by omega) (by omega)) c9)
                      refine lv_iinc (v := 13) (lv' := [(1, .int 13), (4, .int (nI ct)), (2, .long 14615962074565), (0, .ref r1)]) hx hb dX5_markKeywords_66 hl (k := 2) rfl (by first | rfl | decide +kernel) (by decide) rfl (fun ls hl => ?_)
                      refine lv_goto (tgt := 3) hx hb dX5_markKeywords_69 (by decide) ?_
                      refine lv_iload_n hx hb dX5_markKeywords_3 rfl (lv_at hl 0 rfl) ?_
                      refine lv_bipush (v := 22) hx hb dX5_markKeywords_4 (by decide) ?_
                      refine lv_icmp_gt (tgt := 72) hx hb dX5_markKeywords_6 (by decide) (fun c9 => absurd c9 (by decide)) (fun c16 => ?_)
                      refine lv_iload_n hx hb dX5_markKeywords_9 rfl (lv_at hl 0 rfl) ?_
                      obtain ⟨hPc, hDc, hFc⟩ := PDq.cut (wc := []) hP hD hS hA [] (by decide) rfl
                      refine va_callr (va_runS (As := [.int 13]) (rest := []) ⟨hx, hb, hml, hown, hts⟩ (c_spell_13 l D cA sa  H.size) (va_cwS 1 hts gX5_markKeywords_X7_spelling rfl rfl rfl (by decide +kernel) ⟨(Nat.le_of_ble_eq_true rfl), (Nat.le_of_ble_eq_true rfl)⟩) ⟨Wd.blind, fun U hU hW => ⟨rfl, Wd.call hPc hDc hK hC hZ hS hFc U hU hW⟩⟩ rfl rfl hl.1 rfl (lv_room (Nat.le_of_ble_eq_true rfl)) dX5_markKeywords_10 ⟨(Nat.le_of_ble_eq_true rfl), (Nat.le_of_ble_eq_true rfl)⟩) hS (fun q _ h => hFc q h) hFc (fun u ra t H1 locs ht hvm hw hB hz1 hk1 hS => ?_)
                      obtain ⟨hra, hP1, hD1⟩ := hB
                      obtain rfl := hra.symm
                      rw [ht] at hP1
                      obtain ⟨hP, hD⟩ := PDq.join (w := [(oX5 r1 k1 k2 k3 (nI ct)), (k1, .inl (cA 0, 701, .inl f1_5)), (k2, .inl (cA 0, 701, .inl ft)), (k3, .inl (cA 1, 701, .inr (.inl fv)))]) 4 hP hD [] [0, 1, 2, 3] rfl rfl (by decide) (by decide) hk1 hFc hP1 hD1 rfl
                      generalize H1 = H at hP hS ⊢
                      obtain ⟨hPc, hDc, hFc⟩ := PDq.cut (wc := []) hP hD hS hA [] (by decide) rfl
                      refine va_calll (va_runS (As := [.ref (sa 6)]) (rest := []) ⟨hx, hb, hml, hown, hts⟩ (x_packed l D cA sa 6 ([119, 104, 101, 110]) H.size (by decide +kernel) (by decide +kernel)) (va_cwS 1 hts gX5_markKeywords_X8_packed rfl rfl rfl (by decide +kernel) ⟨(Nat.le_of_ble_eq_true rfl), (Nat.le_of_ble_eq_true rfl)⟩) ⟨Wd.blind, fun U hU hW => ⟨rfl, Wd.call hPc hDc hK hC hZ hS hFc U hU hW⟩⟩ rfl rfl hl.1 rfl (lv_room (Nat.le_of_ble_eq_true rfl)) dX5_markKeywords_13 ⟨(Nat.le_of_ble_eq_true rfl), (Nat.le_of_ble_eq_true rfl)⟩) hS (fun q _ h => hFc q h) hFc (fun rn17 u t H1 locs ht hvm hw hB hz1 hk1 hS => ?_)
                      obtain ⟨hP1, hD1⟩ := hB
                      rw [ht] at hP1
                      obtain ⟨hP, hD⟩ := PDq.join (w := [(oX5 r1 k1 k2 k3 (nI ct)), (k1, .inl (cA 0, 701, .inl f1_5)), (k2, .inl (cA 0, 701, .inl ft)), (k3, .inl (cA 1, 701, .inr (.inl fv)))]) 4 hP hD [] [0, 1, 2, 3] rfl rfl (by decide) (by decide) hk1 hFc hP1 hD1 rfl
                      generalize H1 = H at hP hS ⊢
                      obtain rfl : rn17 = 762030 := hw.trans (by decide +kernel)
                      refine lv_lstore_n (lv' := [(2, .long 762030), (1, .int 13), (4, .int (nI ct)), (0, .ref r1)]) hx hb dX5_markKeywords_16 rfl hl (by decide) rfl (fun ls hl => ?_)
                      refine lv_iconst (v := 0) hx hb dX5_markKeywords_17 (by decide) ?_
                      refine lv_istore (lv' := [(4, .int 0), (2, .long 762030), (1, .int 13), (0, .ref r1)]) hx hb dX5_markKeywords_18 hl (by decide) rfl (fun ls hl => ?_)
                      have loop6 : ∀ (n6 i6 : Nat) (f1_6 : Nat → Int32) (H : Heap) (locs : List Loc) (ls : Array Slot), i6 + n6 = ct → Rdd f1_6 → Mi 5 ct i6 fk fv f1_6 → va_P D vwCl [(oX5 r1 k1 k2 k3 (nI ct)), (k1, .inl (cA 0, 701, .inl f1_6)), (k2, .inl (cA 0, 701, .inl ft)), (k3, .inl (cA 1, 701, .inr (.inl fv)))] H → va_D A [(oX5 r1 k1 k2 k3 (nI ct)), (k1, .inl (cA 0, 701, .inl f1_6)), (k2, .inl (cA 0, 701, .inl ft)), (k3, .inl (cA 1, 701, .inr (.inl fv)))] → va_S A s.heap H locs → lv_has ls 5 [(4, .int (nI i6)), (2, .long 762030), (1, .int 13), (0, .ref r1)] → W p l e (headSpec wsX5_markKeywords ({ frames := 5, cells := 0, slots := 0, locals := 108 } : Room)).room s m ([.ref r1] : List Value).toArray below meth c H locs 0 0 (MQ below (va_Qv (fun _ : Unit => True) (fun (_ : Unit) t => ∃ zk : Nat → Int32, Mk 15 ct fk fv zk ∧ Wq D A [(oX5 r1 k1 k2 k3 (nI ct)), (k1, .inl (cA 0, 701, .inl zk)), (k2, .inl (cA 0, 701, .inl ft)), (k3, .inl (cA 1, 701, .inr (.inl fv)))] t) A) ([.ref r1] : List Value).toArray s 0 0 A) (F0 m 20 ls []) := by
                        intro n6
                        induction n6 with
                        | zero =>
                          intro i6 f1_6 H locs ls hi6 hf0_6 hv0_6 hP hD hS hl
                          obtain rfl : ct = i6 := by omega
                          refine lv_iload hx hb dX5_markKeywords_20 (lv_at hl 0 rfl) ?_
                          refine lv_aload_n hx hb dX5_markKeywords_22 rfl (lv_at hl 3 rfl) ?_
                          refine va_get (D := D) (ci := 9) (v := .int (nI ct)) (C := RX5) (T := TX5) (N := 4) hx hb hts inX5 hown hK hP 0 rfl rfl 3 (by decide) (hts (.fieldLink RX5 22 "EscrowDesk$Scanner" "count" "I") (by decide +kernel)) (fun _ h9 => h9) rfl dX5_markKeywords_23 ?_
                          refine lv_icmp_ge (tgt := 66) hx hb dX5_markKeywords_26 (by decide) (fun c18 => ?_) (fun c9 => absurd (nI_le (a := ct) (b := ct) (show ct ≤ ct by omega) (by omega)) c9)
                          refine lv_iinc (v := 14) (lv' := [(1, .int 14), (4, .int (nI ct)), (2, .long 762030), (0, .ref r1)]) hx hb dX5_markKeywords_66 hl (k := 2) rfl (by first | rfl | decide +kernel) (by decide) rfl (fun ls hl => ?_)
                          refine lv_goto (tgt := 3) hx hb dX5_markKeywords_69 (by decide) ?_
                          refine lv_iload_n hx hb dX5_markKeywords_3 rfl (lv_at hl 0 rfl) ?_
                          refine lv_bipush (v := 22) hx hb dX5_markKeywords_4 (by decide) ?_
                          refine lv_icmp_gt (tgt := 72) hx hb dX5_markKeywords_6 (by decide) (fun c9 => absurd c9 (by decide)) (fun c19 => ?_)
                          refine lv_iload_n hx hb dX5_markKeywords_9 rfl (lv_at hl 0 rfl) ?_
                          obtain ⟨hPc, hDc, hFc⟩ := PDq.cut (wc := []) hP hD hS hA [] (by decide) rfl
                          refine va_callr (va_runS (As := [.int 14]) (rest := []) ⟨hx, hb, hml, hown, hts⟩ (c_spell_14 l D cA sa  H.size) (va_cwS 1 hts gX5_markKeywords_X7_spelling rfl rfl rfl (by decide +kernel) ⟨(Nat.le_of_ble_eq_true rfl), (Nat.le_of_ble_eq_true rfl)⟩) ⟨Wd.blind, fun U hU hW => ⟨rfl, Wd.call hPc hDc hK hC hZ hS hFc U hU hW⟩⟩ rfl rfl hl.1 rfl (lv_room (Nat.le_of_ble_eq_true rfl)) dX5_markKeywords_10 ⟨(Nat.le_of_ble_eq_true rfl), (Nat.le_of_ble_eq_true rfl)⟩) hS (fun q _ h => hFc q h) hFc (fun u ra t H1 locs ht hvm hw hB hz1 hk1 hS => ?_)
                          obtain ⟨hra, hP1, hD1⟩ := hB
                          obtain rfl := hra.symm
                          rw [ht] at hP1
                          obtain ⟨hP, hD⟩ := PDq.join (w := [(oX5 r1 k1 k2 k3 (nI ct)), (k1, .inl (cA 0, 701, .inl f1_6)), (k2, .inl (cA 0, 701, .inl ft)), (k3, .inl (cA 1, 701, .inr (.inl fv)))]) 4 hP hD [] [0, 1, 2, 3] rfl rfl (by decide) (by decide) hk1 hFc hP1 hD1 rfl
                          generalize H1 = H at hP hS ⊢
                          obtain ⟨hPc, hDc, hFc⟩ := PDq.cut (wc := []) hP hD hS hA [] (by decide) rfl
                          refine va_calll (va_runS (As := [.ref (sa 7)]) (rest := []) ⟨hx, hb, hml, hown, hts⟩ (x_packed l D cA sa 7 ([111, 114]) H.size (by decide +kernel) (by decide +kernel)) (va_cwS 1 hts gX5_markKeywords_X8_packed rfl rfl rfl (by decide +kernel) ⟨(Nat.le_of_ble_eq_true rfl), (Nat.le_of_ble_eq_true rfl)⟩) ⟨Wd.blind, fun U hU hW => ⟨rfl, Wd.call hPc hDc hK hC hZ hS hFc U hU hW⟩⟩ rfl rfl hl.1 rfl (lv_room (Nat.le_of_ble_eq_true rfl)) dX5_markKeywords_13 ⟨(Nat.le_of_ble_eq_true rfl), (Nat.le_of_ble_eq_true rfl)⟩) hS (fun q _ h => hFc q h) hFc (fun rn20 u t H1 locs ht hvm hw hB hz1 hk1 hS => ?_)
                          obtain ⟨hP1, hD1⟩ := hB
                          rw [ht] at hP1
                          obtain ⟨hP, hD⟩ := PDq.join (w := [(oX5 r1 k1 k2 k3 (nI ct)), (k1, .inl (cA 0, 701, .inl f1_6)), (k2, .inl (cA 0, 701, .inl ft)), (k3, .inl (cA 1, 701, .inr (.inl fv)))]) 4 hP hD [] [0, 1, 2, 3] rfl rfl (by decide) (by decide) hk1 hFc hP1 hD1 rfl
                          generalize H1 = H at hP hS ⊢
                          obtain rfl : rn20 = 498 := hw.trans (by decide +kernel)
                          refine lv_lstore_n (lv' := [(2, .long 498), (1, .int 14), (4, .int (nI ct)), (0, .ref r1)]) hx hb dX5_markKeywords_16 rfl hl (by decide) rfl (fun ls hl => ?_)
                          refine lv_iconst (v := 0) hx hb dX5_markKeywords_17 (by decide) ?_
                          refine lv_istore (lv' := [(4, .int 0), (2, .long 498), (1, .int 14), (0, .ref r1)]) hx hb dX5_markKeywords_18 hl (by decide) rfl (fun ls hl => ?_)
                          have loop7 : ∀ (n7 i7 : Nat) (f1_7 : Nat → Int32) (H : Heap) (locs : List Loc) (ls : Array Slot), i7 + n7 = ct → Rdd f1_7 → Mi 6 ct i7 fk fv f1_7 → va_P D vwCl [(oX5 r1 k1 k2 k3 (nI ct)), (k1, .inl (cA 0, 701, .inl f1_7)), (k2, .inl (cA 0, 701, .inl ft)), (k3, .inl (cA 1, 701, .inr (.inl fv)))] H → va_D A [(oX5 r1 k1 k2 k3 (nI ct)), (k1, .inl (cA 0, 701, .inl f1_7)), (k2, .inl (cA 0, 701, .inl ft)), (k3, .inl (cA 1, 701, .inr (.inl fv)))] → va_S A s.heap H locs → lv_has ls 5 [(4, .int (nI i7)), (2, .long 498), (1, .int 14), (0, .ref r1)] → W p l e (headSpec wsX5_markKeywords ({ frames := 5, cells := 0, slots := 0, locals := 108 } : Room)).room s m ([.ref r1] : List Value).toArray below meth c H locs 0 0 (MQ below (va_Qv (fun _ : Unit => True) (fun (_ : Unit) t => ∃ zk : Nat → Int32, Mk 15 ct fk fv zk ∧ Wq D A [(oX5 r1 k1 k2 k3 (nI ct)), (k1, .inl (cA 0, 701, .inl zk)), (k2, .inl (cA 0, 701, .inl ft)), (k3, .inl (cA 1, 701, .inr (.inl fv)))] t) A) ([.ref r1] : List Value).toArray s 0 0 A) (F0 m 20 ls []) := by
                            intro n7
                            induction n7 with
                            | zero =>
                              intro i7 f1_7 H locs ls hi7 hf0_7 hv0_7 hP hD hS hl
                              obtain rfl : ct = i7 := by omega
                              refine lv_iload hx hb dX5_markKeywords_20 (lv_at hl 0 rfl) ?_
                              refine lv_aload_n hx hb dX5_markKeywords_22 rfl (lv_at hl 3 rfl) ?_
                              refine va_get (D := D) (ci := 9) (v := .int (nI ct)) (C := RX5) (T := TX5) (N := 4) hx hb hts inX5 hown hK hP 0 rfl rfl 3 (by decide) (hts (.fieldLink RX5 22 "EscrowDesk$Scanner" "count" "I") (by decide +kernel)) (fun _ h9 => h9) rfl dX5_markKeywords_23 ?_
                              refine lv_icmp_ge (tgt := 66) hx hb dX5_markKeywords_26 (by decide) (fun c21 => ?_) (fun c9 => absurd (nI_le (a := ct) (b := ct) (show ct ≤ ct by omega) (by omega)) c9)
                              refine lv_iinc (v := 15) (lv' := [(1, .int 15), (4, .int (nI ct)), (2, .long 498), (0, .ref r1)]) hx hb dX5_markKeywords_66 hl (k := 2) rfl (by first | rfl | decide +kernel) (by decide) rfl (fun ls hl => ?_)
                              refine lv_goto (tgt := 3) hx hb dX5_markKeywords_69 (by decide) ?_
                              refine lv_iload_n hx hb dX5_markKeywords_3 rfl (lv_at hl 0 rfl) ?_
                              refine lv_bipush (v := 22) hx hb dX5_markKeywords_4 (by decide) ?_
                              refine lv_icmp_gt (tgt := 72) hx hb dX5_markKeywords_6 (by decide) (fun c9 => absurd c9 (by decide)) (fun c22 => ?_)
                              refine lv_iload_n hx hb dX5_markKeywords_9 rfl (lv_at hl 0 rfl) ?_
                              obtain ⟨hPc, hDc, hFc⟩ := PDq.cut (wc := []) hP hD hS hA [] (by decide) rfl
                              refine va_callr (va_runS (As := [.int 15]) (rest := []) ⟨hx, hb, hml, hown, hts⟩ (c_spell_15 l D cA sa  H.size) (va_cwS 1 hts gX5_markKeywords_X7_spelling rfl rfl rfl (by decide +kernel) ⟨(Nat.le_of_ble_eq_true rfl), (Nat.le_of_ble_eq_true rfl)⟩) ⟨Wd.blind, fun U hU hW => ⟨rfl, Wd.call hPc hDc hK hC hZ hS hFc U hU hW⟩⟩ rfl rfl hl.1 rfl (lv_room (Nat.le_of_ble_eq_true rfl)) dX5_markKeywords_10 ⟨(Nat.le_of_ble_eq_true rfl), (Nat.le_of_ble_eq_true rfl)⟩) hS (fun q _ h => hFc q h) hFc (fun u ra t H1 locs ht hvm hw hB hz1 hk1 hS => ?_)
                              obtain ⟨hra, hP1, hD1⟩ := hB
                              obtain rfl := hra.symm
                              rw [ht] at hP1
                              obtain ⟨hP, hD⟩ := PDq.join (w := [(oX5 r1 k1 k2 k3 (nI ct)), (k1, .inl (cA 0, 701, .inl f1_7)), (k2, .inl (cA 0, 701, .inl ft)), (k3, .inl (cA 1, 701, .inr (.inl fv)))]) 4 hP hD [] [0, 1, 2, 3] rfl rfl (by decide) (by decide) hk1 hFc hP1 hD1 rfl
                              generalize H1 = H at hP hS ⊢
                              obtain ⟨hPc, hDc, hFc⟩ := PDq.cut (wc := []) hP hD hS hA [] (by decide) rfl
                              refine va_calll (va_runS (As := [.ref (sa 8)]) (rest := []) ⟨hx, hb, hml, hown, hts⟩ (x_packed l D cA sa 8 ([97, 110, 100]) H.size (by decide +kernel) (by decide +kernel)) (va_cwS 1 hts gX5_markKeywords_X8_packed rfl rfl rfl (by decide +kernel) ⟨(Nat.le_of_ble_eq_true rfl), (Nat.le_of_ble_eq_true rfl)⟩) ⟨Wd.blind, fun U hU hW => ⟨rfl, Wd.call hPc hDc hK hC hZ hS hFc U hU hW⟩⟩ rfl rfl hl.1 rfl (lv_room (Nat.le_of_ble_eq_true rfl)) dX5_markKeywords_13 ⟨(Nat.le_of_ble_eq_true rfl), (Nat.le_of_ble_eq_true rfl)⟩) hS (fun q _ h => hFc q h) hFc (fun rn23 u t H1 locs ht hvm hw hB hz1 hk1 hS => ?_)
                              obtain ⟨hP1, hD1⟩ := hB
                              rw [ht] at hP1
                              obtain ⟨hP, hD⟩ := PDq.join (w := [(oX5 r1 k1 k2 k3 (nI ct)), (k1, .inl (cA 0, 701, .inl f1_7)), (k2, .inl (cA 0, 701, .inl ft)), (k3, .inl (cA 1, 701, .inr (.inl fv)))]) 4 hP hD [] [0, 1, 2, 3] rfl rfl (by decide) (by decide) hk1 hFc hP1 hD1 rfl
                              generalize H1 = H at hP hS ⊢
                              obtain rfl : rn23 = 1476 := hw.trans (by decide +kernel)
                              refine lv_lstore_n (lv' := [(2, .long 1476), (1, .int 15), (4, .int (nI ct)), (0, .ref r1)]) hx hb dX5_markKeywords_16 rfl hl (by decide) rfl (fun ls hl => ?_)
                              refine lv_iconst (v := 0) hx hb dX5_markKeywords_17 (by decide) ?_
                              refine lv_istore (lv' := [(4, .int 0), (2, .long 1476), (1, .int 15), (0, .ref r1)]) hx hb dX5_markKeywords_18 hl (by decide) rfl (fun ls hl => ?_)
                              have loop8 : ∀ (n8 i8 : Nat) (f1_8 : Nat → Int32) (H : Heap) (locs : List Loc) (ls : Array Slot), i8 + n8 = ct → Rdd f1_8 → Mi 7 ct i8 fk fv f1_8 → va_P D vwCl [(oX5 r1 k1 k2 k3 (nI ct)), (k1, .inl (cA 0, 701, .inl f1_8)), (k2, .inl (cA 0, 701, .inl ft)), (k3, .inl (cA 1, 701, .inr (.inl fv)))] H → va_D A [(oX5 r1 k1 k2 k3 (nI ct)), (k1, .inl (cA 0, 701, .inl f1_8)), (k2, .inl (cA 0, 701, .inl ft)), (k3, .inl (cA 1, 701, .inr (.inl fv)))] → va_S A s.heap H locs → lv_has ls 5 [(4, .int (nI i8)), (2, .long 1476), (1, .int 15), (0, .ref r1)] → W p l e (headSpec wsX5_markKeywords ({ frames := 5, cells := 0, slots := 0, locals := 108 } : Room)).room s m ([.ref r1] : List Value).toArray below meth c H locs 0 0 (MQ below (va_Qv (fun _ : Unit => True) (fun (_ : Unit) t => ∃ zk : Nat → Int32, Mk 15 ct fk fv zk ∧ Wq D A [(oX5 r1 k1 k2 k3 (nI ct)), (k1, .inl (cA 0, 701, .inl zk)), (k2, .inl (cA 0, 701, .inl ft)), (k3, .inl (cA 1, 701, .inr (.inl fv)))] t) A) ([.ref r1] : List Value).toArray s 0 0 A) (F0 m 20 ls []) := by
                                intro n8
                                induction n8 with
                                | zero =>
                                  intro i8 f1_8 H locs ls hi8 hf0_8 hv0_8 hP hD hS hl
                                  obtain rfl : ct = i8 := by omega
                                  refine lv_iload hx hb dX5_markKeywords_20 (lv_at hl 0 rfl) ?_
                                  refine lv_aload_n hx hb dX5_markKeywords_22 rfl (lv_at hl 3 rfl) ?_
                                  refine va_get (D := D) (ci := 9) (v := .int (nI ct)) (C := RX5) (T := TX5) (N := 4) hx hb hts inX5 hown hK hP 0 rfl rfl 3 (by decide) (hts (.fieldLink RX5 22 "EscrowDesk$Scanner" "count" "I") (by decide +kernel)) (fun _ h9 => h9) rfl dX5_markKeywords_23 ?_
                                  refine lv_icmp_ge (tgt := 66) hx hb dX5_markKeywords_26 (by decide) (fun c24 => ?_) (fun c9 => absurd (nI_le (a := ct) (b := ct) (show ct ≤ ct by omega) (by omega)) c9)
                                  refine lv_iinc (v := 16) (lv' := [(1, .int 16), (4, .int (nI ct)), (2, .long 1476), (0, .ref r1)]) hx hb dX5_markKeywords_66 hl (k := 2) rfl (by first | rfl | decide +kernel) (by decide) rfl (fun ls hl => ?_)
                                  refine lv_goto (tgt := 3) hx hb dX5_markKeywords_69 (by decide) ?_
                                  refine lv_iload_n hx hb dX5_markKeywords_3 rfl (lv_at hl 0 rfl) ?_
                                  refine lv_bipush (v := 22) hx hb dX5_markKeywords_4 (by decide) ?_
                                  refine lv_icmp_gt (tgt := 72) hx hb dX5_markKeywords_6 (by decide) (fun c9 => absurd c9 (by decide)) (fun c25 => ?_)
                                  refine lv_iload_n hx hb dX5_markKeywords_9 rfl (lv_at hl 0 rfl) ?_
                                  obtain ⟨hPc, hDc, hFc⟩ := PDq.cut (wc := []) hP hD hS hA [] (by decide) rfl
                                  refine va_callr (va_runS (As := [.int 16]) (rest := []) ⟨hx, hb, hml, hown, hts⟩ (c_spell_16 l D cA sa  H.size) (va_cwS 1 hts gX5_markKeywords_X7_spelling rfl rfl rfl (by decide +kernel) ⟨(Nat.le_of_ble_eq_true rfl), (Nat.le_of_ble_eq_true rfl)⟩) ⟨Wd.blind, fun U hU hW => ⟨rfl, Wd.call hPc hDc hK hC hZ hS hFc U hU hW⟩⟩ rfl rfl hl.1 rfl (lv_room (Nat.le_of_ble_eq_true rfl)) dX5_markKeywords_10 ⟨(Nat.le_of_ble_eq_true rfl), (Nat.le_of_ble_eq_true rfl)⟩) hS (fun q _ h => hFc q h) hFc (fun u ra t H1 locs ht hvm hw hB hz1 hk1 hS => ?_)
                                  obtain ⟨hra, hP1, hD1⟩ := hB
                                  obtain rfl := hra.symm
                                  rw [ht] at hP1
                                  obtain ⟨hP, hD⟩ := PDq.join (w := [(oX5 r1 k1 k2 k3 (nI ct)), (k1, .inl (cA 0, 701, .inl f1_8)), (k2, .inl (cA 0, 701, .inl ft)), (k3, .inl (cA 1, 701, .inr (.inl fv)))]) 4 hP hD [] [0, 1, 2, 3] rfl rfl (by decide) (by decide) hk1 hFc hP1 hD1 rfl
                                  generalize H1 = H at hP hS ⊢
                                  obtain ⟨hPc, hDc, hFc⟩ := PDq.cut (wc := []) hP hD hS hA [] (by decide) rfl
                                  refine va_calll (va_runS (As := [.ref (sa 9)]) (rest := []) ⟨hx, hb, hml, hown, hts⟩ (x_packed l D cA sa 9 ([110, 111, 116]) H.size (by decide +kernel) (by decide +kernel)) (va_cwS 1 hts gX5_markKeywords_X8_packed rfl rfl rfl (by decide +kernel) ⟨(Nat.le_of_ble_eq_true rfl), (Nat.le_of_ble_eq_true rfl)⟩) ⟨Wd.blind, fun U hU hW => ⟨rfl, Wd.call hPc hDc hK hC hZ hS hFc U hU hW⟩⟩ rfl rfl hl.1 rfl (lv_room (Nat.le_of_ble_eq_true rfl)) dX5_markKeywords_13 ⟨(Nat.le_of_ble_eq_true rfl), (Nat.le_of_ble_eq_true rfl)⟩) hS (fun q _ h => hFc q h) hFc (fun rn26 u t H1 locs ht hvm hw hB hz1 hk1 hS => ?_)
                                  obtain ⟨hP1, hD1⟩ := hB
                                  rw [ht] at hP1
                                  obtain ⟨hP, hD⟩ := PDq.join (w := [(oX5 r1 k1 k2 k3 (nI ct)), (k1, .inl (cA 0, 701, .inl f1_8)), (k2, .inl (cA 0, 701, .inl ft)), (k3, .inl (cA 1, 701, .inr (.inl fv)))]) 4 hP hD [] [0, 1, 2, 3] rfl rfl (by decide) (by decide) hk1 hFc hP1 hD1 rfl
                                  generalize H1 = H at hP hS ⊢
                                  obtain rfl : rn26 = 14836 := hw.trans (by decide +kernel)
                                  refine lv_lstore_n (lv' := [(2, .long 14836), (1, .int 16), (4, .int (nI ct)), (0, .ref r1)]) hx hb dX5_markKeywords_16 rfl hl (by decide) rfl (fun ls hl => ?_)
                                  refine lv_iconst (v := 0) hx hb dX5_markKeywords_17 (by decide) ?_
                                  refine lv_istore (lv' := [(4, .int 0), (2, .long 14836), (1, .int 16), (0, .ref r1)]) hx hb dX5_markKeywords_18 hl (by decide) rfl (fun ls hl => ?_)
                                  have loop9 : ∀ (n9 i9 : Nat) (f1_9 : Nat → Int32) (H : Heap) (locs : List Loc) (ls : Array Slot), i9 + n9 = ct → Rdd f1_9 → Mi 8 ct i9 fk fv f1_9 → va_P D vwCl [(oX5 r1 k1 k2 k3 (nI ct)), (k1, .inl (cA 0, 701, .inl f1_9)), (k2, .inl (cA 0, 701, .inl ft)), (k3, .inl (cA 1, 701, .inr (.inl fv)))] H → va_D A [(oX5 r1 k1 k2 k3 (nI ct)), (k1, .inl (cA 0, 701, .inl f1_9)), (k2, .inl (cA 0, 701, .inl ft)), (k3, .inl (cA 1, 701, .inr (.inl fv)))] → va_S A s.heap H locs → lv_has ls 5 [(4, .int (nI i9)), (2, .long 14836), (1, .int 16), (0, .ref r1)] → W p l e (headSpec wsX5_markKeywords ({ frames := 5, cells := 0, slots := 0, locals := 108 } : Room)).room s m ([.ref r1] : List Value).toArray below meth c H locs 0 0 (MQ below (va_Qv (fun _ : Unit => True) (fun (_ : Unit) t => ∃ zk : Nat → Int32, Mk 15 ct fk fv zk ∧ Wq D A [(oX5 r1 k1 k2 k3 (nI ct)), (k1, .inl (cA 0, 701, .inl zk)), (k2, .inl (cA 0, 701, .inl ft)), (k3, .inl (cA 1, 701, .inr (.inl fv)))] t) A) ([.ref r1] : List Value).toArray s 0 0 A) (F0 m 20 ls []) := by
                                    intro n9
                                    induction n9 with
                                    | zero =>
                                      intro i9 f1_9 H locs ls hi9 hf0_9 hv0_9 hP hD hS hl
                                      obtain rfl : ct = i9 := by omega
                                      refine lv_iload hx hb dX5_markKeywords_20 (lv_at hl 0 rfl) ?_
                                      refine lv_aload_n hx hb dX5_markKeywords_22 rfl (lv_at hl 3 rfl) ?_
                                      refine va_get (D := D) (ci := 9) (v := .int (nI ct)) (C := RX5) (T := TX5) (N := 4) hx hb hts inX5 hown hK hP 0 rfl rfl 3 (by decide) (hts (.fieldLink RX5 22 "EscrowDesk$Scanner" "count" "I") (by decide +kernel)) (fun _ h9 => h9) rfl dX5_markKeywords_23 ?_
                                      refine lv_icmp_ge (tgt := 66) hx hb dX5_markKeywords_26 (by decide) (fun c27 => ?_) (fun c9 => absurd (nI_le (a := ct) (b := ct) (show ct ≤ ct by omega) (by omega)) c9)
                                      refine lv_iinc (v := 17) (lv' := [(1, .int 17), (4, .int (nI ct)), (2, .long 14836), (0, .ref r1)]) hx hb dX5_markKeywords_66 hl (k := 2) rfl (by first | rfl | decide +kernel) (by decide) rfl (fun ls hl => ?_)
                                      refine lv_goto (tgt := 3) hx hb dX5_markKeywords_69 (by decide) ?_
                                      refine lv_iload_n hx hb dX5_markKeywords_3 rfl (lv_at hl 0 rfl) ?_
                                      refine lv_bipush (v := 22) hx hb dX5_markKeywords_4 (by decide) ?_
                                      refine lv_icmp_gt (tgt := 72) hx hb dX5_markKeywords_6 (by decide) (fun c9 => absurd c9 (by decide)) (fun c28 => ?_)
                                      refine lv_iload_n hx hb dX5_markKeywords_9 rfl (lv_at hl 0 rfl) ?_
                                      obtain ⟨hPc, hDc, hFc⟩ := PDq.cut (wc := []) hP hD hS hA [] (by decide) rfl
                                      refine va_callr (va_runS (As := [.int 17]) (rest := []) ⟨hx, hb, hml, hown, hts⟩ (c_spell_17 l D cA sa  H.size) (va_cwS 1 hts gX5_markKeywords_X7_spelling rfl rfl rfl (by decide +kernel) ⟨(Nat.le_of_ble_eq_true rfl), (Nat.le_of_ble_eq_true rfl)⟩) ⟨Wd.blind, fun U hU hW => ⟨rfl, Wd.call hPc hDc hK hC hZ hS hFc U hU hW⟩⟩ rfl rfl hl.1 rfl (lv_room (Nat.le_of_ble_eq_true rfl)) dX5_markKeywords_10 ⟨(Nat.le_of_ble_eq_true rfl), (Nat.le_of_ble_eq_true rfl)⟩) hS (fun q _ h => hFc q h) hFc (fun u ra t H1 locs ht hvm hw hB hz1 hk1 hS => ?_)
                                      obtain ⟨hra, hP1, hD1⟩ := hB
                                      obtain rfl := hra.symm
                                      rw [ht] at hP1
                                      obtain ⟨hP, hD⟩ := PDq.join (w := [(oX5 r1 k1 k2 k3 (nI ct)), (k1, .inl (cA 0, 701, .inl f1_9)), (k2, .inl (cA 0, 701, .inl ft)), (k3, .inl (cA 1, 701, .inr (.inl fv)))]) 4 hP hD [] [0, 1, 2, 3] rfl rfl (by decide) (by decide) hk1 hFc hP1 hD1 rfl
                                      generalize H1 = H at hP hS ⊢
                                      obtain ⟨hPc, hDc, hFc⟩ := PDq.cut (wc := []) hP hD hS hA [] (by decide) rfl
                                      refine va_calll (va_runS (As := [.ref (sa 10)]) (rest := []) ⟨hx, hb, hml, hown, hts⟩ (x_packed l D cA sa 10 ([100, 97, 121]) H.size (by decide +kernel) (by decide +kernel)) (va_cwS 1 hts gX5_markKeywords_X8_packed rfl rfl rfl (by decide +kernel) ⟨(Nat.le_of_ble_eq_true rfl), (Nat.le_of_ble_eq_true rfl)⟩) ⟨Wd.blind, fun U hU hW => ⟨rfl, Wd.call hPc hDc hK hC hZ hS hFc U hU hW⟩⟩ rfl rfl hl.1 rfl (lv_room (Nat.le_of_ble_eq_true rfl)) dX5_markKeywords_13 ⟨(Nat.le_of_ble_eq_true rfl), (Nat.le_of_ble_eq_true rfl)⟩) hS (fun q _ h => hFc q h) hFc (fun rn29 u t H1 locs ht hvm hw hB hz1 hk1 hS => ?_)
                                      obtain ⟨hP1, hD1⟩ := hB
                                      rw [ht] at hP1
                                      obtain ⟨hP, hD⟩ := PDq.join (w := [(oX5 r1 k1 k2 k3 (nI ct)), (k1, .inl (cA 0, 701, .inl f1_9)), (k2, .inl (cA 0, 701, .inl ft)), (k3, .inl (cA 1, 701, .inr (.inl fv)))]) 4 hP hD [] [0, 1, 2, 3] rfl rfl (by decide) (by decide) hk1 hFc hP1 hD1 rfl
                                      generalize H1 = H at hP hS ⊢
                                      obtain rfl : rn29 = 4153 := hw.trans (by decide +kernel)
                                      refine lv_lstore_n (lv' := [(2, .long 4153), (1, .int 17), (4, .int (nI ct)), (0, .ref r1)]) hx hb dX5_markKeywords_16 rfl hl (by decide) rfl (fun ls hl => ?_)
                                      refine lv_iconst (v := 0) hx hb dX5_markKeywords_17 (by decide) ?_
                                      refine lv_istore (lv' := [(4, .int 0), (2, .long 4153), (1, .int 17), (0, .ref r1)]) hx hb dX5_markKeywords_18 hl (by decide) rfl (fun ls hl => ?_)
                                      have loop10 : ∀ (n10 i10 : Nat) (f1_10 : Nat → Int32) (H : Heap) (locs : List Loc) (ls : Array Slot), i10 + n10 = ct → Rdd f1_10 → Mi 9 ct i10 fk fv f1_10 → va_P D vwCl [(oX5 r1 k1 k2 k3 (nI ct)), (k1, .inl (cA 0, 701, .inl f1_10)), (k2, .inl (cA 0, 701, .inl ft)), (k3, .inl (cA 1, 701, .inr (.inl fv)))] H → va_D A [(oX5 r1 k1 k2 k3 (nI ct)), (k1, .inl (cA 0, 701, .inl f1_10)), (k2, .inl (cA 0, 701, .inl ft)), (k3, .inl (cA 1, 701, .inr (.inl fv)))] → va_S A s.heap H locs → lv_has ls 5 [(4, .int (nI i10)), (2, .long 4153), (1, .int 17), (0, .ref r1)] → W p l e (headSpec wsX5_markKeywords ({ frames := 5, cells := 0, slots := 0, locals := 108 } : Room)).room s m ([.ref r1] : List Value).toArray below meth c H locs 0 0 (MQ below (va_Qv (fun _ : Unit => True) (fun (_ : Unit) t => ∃ zk : Nat → Int32, Mk 15 ct fk fv zk ∧ Wq D A [(oX5 r1 k1 k2 k3 (nI ct)), (k1, .inl (cA 0, 701, .inl zk)), (k2, .inl (cA 0, 701, .inl ft)), (k3, .inl (cA 1, 701, .inr (.inl fv)))] t) A) ([.ref r1] : List Value).toArray s 0 0 A) (F0 m 20 ls []) := by
                                        intro n10
                                        induction n10 with
                                        | zero =>
                                          intro i10 f1_10 H locs ls hi10 hf0_10 hv0_10 hP hD hS hl
                                          obtain rfl : ct = i10 := by omega
                                          refine lv_iload hx hb dX5_markKeywords_20 (lv_at hl 0 rfl) ?_
                                          refine lv_aload_n hx hb dX5_markKeywords_22 rfl (lv_at hl 3 rfl) ?_
                                          refine va_get (D := D) (ci := 9) (v := .int (nI ct)) (C := RX5) (T := TX5) (N := 4) hx hb hts inX5 hown hK hP 0 rfl rfl 3 (by decide) (hts (.fieldLink RX5 22 "EscrowDesk$Scanner" "count" "I") (by decide +kernel)) (fun _ h9 => h9) rfl dX5_markKeywords_23 ?_
                                          refine lv_icmp_ge (tgt := 66) hx hb dX5_markKeywords_26 (by decide) (fun c30 => ?_) (fun c9 => absurd (nI_le (a := ct) (b := ct) (show ct ≤ ct by omega) (by omega)) c9)
                                          refine lv_iinc (v := 18) (lv' := [(1, .int 18), (4, .int (nI ct)), (2, .long 4153), (0, .ref r1)]) hx hb dX5_markKeywords_66 hl (k := 2) rfl (by first | rfl | decide +kernel) (by decide) rfl (fun ls hl => ?_)
                                          refine lv_goto (tgt := 3) hx hb dX5_markKeywords_69 (by decide) ?_
                                          refine lv_iload_n hx hb dX5_markKeywords_3 rfl (lv_at hl 0 rfl) ?_
                                          refine lv_bipush (v := 22) hx hb dX5_markKeywords_4 (by decide) ?_
                                          refine lv_icmp_gt (tgt := 72) hx hb dX5_markKeywords_6 (by decide) (fun c9 => absurd c9 (by decide)) (fun c31 => ?_)
                                          refine lv_iload_n hx hb dX5_markKeywords_9 rfl (lv_at hl 0 rfl) ?_
                                          obtain ⟨hPc, hDc, hFc⟩ := PDq.cut (wc := []) hP hD hS hA [] (by decide) rfl
                                          refine va_callr (va_runS (As := [.int 18]) (rest := []) ⟨hx, hb, hml, hown, hts⟩ (c_spell_18 l D cA sa  H.size) (va_cwS 1 hts gX5_markKeywords_X7_spelling rfl rfl rfl (by decide +kernel) ⟨(Nat.le_of_ble_eq_true rfl), (Nat.le_of_ble_eq_true rfl)⟩) ⟨Wd.blind, fun U hU hW => ⟨rfl, Wd.call hPc hDc hK hC hZ hS hFc U hU hW⟩⟩ rfl rfl hl.1 rfl (lv_room (Nat.le_of_ble_eq_true rfl)) dX5_markKeywords_10 ⟨(Nat.le_of_ble_eq_true rfl), (Nat.le_of_ble_eq_true rfl)⟩) hS (fun q _ h => hFc q h) hFc (fun u ra t H1 locs ht hvm hw hB hz1 hk1 hS => ?_)
                                          obtain ⟨hra, hP1, hD1⟩ := hB
                                          obtain rfl := hra.symm
                                          rw [ht] at hP1
                                          obtain ⟨hP, hD⟩ := PDq.join (w := [(oX5 r1 k1 k2 k3 (nI ct)), (k1, .inl (cA 0, 701, .inl f1_10)), (k2, .inl (cA 0, 701, .inl ft)), (k3, .inl (cA 1, 701, .inr (.inl fv)))]) 4 hP hD [] [0, 1, 2, 3] rfl rfl (by decide) (by decide) hk1 hFc hP1 hD1 rfl
                                          generalize H1 = H at hP hS ⊢
                                          obtain ⟨hPc, hDc, hFc⟩ := PDq.cut (wc := []) hP hD hS hA [] (by decide) rfl
                                          refine va_calll (va_runS (As := [.ref (sa 11)]) (rest := []) ⟨hx, hb, hml, hown, hts⟩ (x_packed l D cA sa 11 ([112, 114, 111, 111, 102]) H.size (by decide +kernel) (by decide +kernel)) (va_cwS 1 hts gX5_markKeywords_X8_packed rfl rfl rfl (by decide +kernel) ⟨(Nat.le_of_ble_eq_true rfl), (Nat.le_of_ble_eq_true rfl)⟩) ⟨Wd.blind, fun U hU hW => ⟨rfl, Wd.call hPc hDc hK hC hZ hS hFc U hU hW⟩⟩ rfl rfl hl.1 rfl (lv_room (Nat.le_of_ble_eq_true rfl)) dX5_markKeywords_13 ⟨(Nat.le_of_ble_eq_true rfl), (Nat.le_of_ble_eq_true rfl)⟩) hS (fun q _ h => hFc q h) hFc (fun rn32 u t H1 locs ht hvm hw hB hz1 hk1 hS => ?_)
                                          obtain ⟨hP1, hD1⟩ := hB
                                          rw [ht] at hP1
                                          obtain ⟨hP, hD⟩ := PDq.join (w := [(oX5 r1 k1 k2 k3 (nI ct)), (k1, .inl (cA 0, 701, .inl f1_10)), (k2, .inl (cA 0, 701, .inl ft)), (k3, .inl (cA 1, 701, .inr (.inl fv)))]) 4 hP hD [] [0, 1, 2, 3] rfl rfl (by decide) (by decide) hk1 hFc hP1 hD1 rfl
                                          generalize H1 = H at hP hS ⊢
                                          obtain rfl : rn32 = 17382886 := hw.trans (by decide +kernel)
                                          refine lv_lstore_n (lv' := [(2, .long 17382886), (1, .int 18), (4, .int (nI ct)), (0, .ref r1)]) hx hb dX5_markKeywords_16 rfl hl (by decide) rfl (fun ls hl => ?_)
                                          refine lv_iconst (v := 0) hx hb dX5_markKeywords_17 (by decide) ?_
                                          refine lv_istore (lv' := [(4, .int 0), (2, .long 17382886), (1, .int 18), (0, .ref r1)]) hx hb dX5_markKeywords_18 hl (by decide) rfl (fun ls hl => ?_)
                                          have loop11 : ∀ (n11 i11 : Nat) (f1_11 : Nat → Int32) (H : Heap) (locs : List Loc) (ls : Array Slot), i11 + n11 = ct → Rdd f1_11 → Mi 10 ct i11 fk fv f1_11 → va_P D vwCl [(oX5 r1 k1 k2 k3 (nI ct)), (k1, .inl (cA 0, 701, .inl f1_11)), (k2, .inl (cA 0, 701, .inl ft)), (k3, .inl (cA 1, 701, .inr (.inl fv)))] H → va_D A [(oX5 r1 k1 k2 k3 (nI ct)), (k1, .inl (cA 0, 701, .inl f1_11)), (k2, .inl (cA 0, 701, .inl ft)), (k3, .inl (cA 1, 701, .inr (.inl fv)))] → va_S A s.heap H locs → lv_has ls 5 [(4, .int (nI i11)), (2, .long 17382886), (1, .int 18), (0, .ref r1)] → W p l e (headSpec wsX5_markKeywords ({ frames := 5, cells := 0, slots := 0, locals := 108 } : Room)).room s m ([.ref r1] : List Value).toArray below meth c H locs 0 0 (MQ below (va_Qv (fun _ : Unit => True) (fun (_ : Unit) t => ∃ zk : Nat → Int32, Mk 15 ct fk fv zk ∧ Wq D A [(oX5 r1 k1 k2 k3 (nI ct)), (k1, .inl (cA 0, 701, .inl zk)), (k2, .inl (cA 0, 701, .inl ft)), (k3, .inl (cA 1, 701, .inr (.inl fv)))] t) A) ([.ref r1] : List Value).toArray s 0 0 A) (F0 m 20 ls []) := by
                                            intro n11
                                            induction n11 with
                                            | zero =>
                                              intro i11 f1_11 H locs ls hi11 hf0_11 hv0_11 hP hD hS hl
                                              obtain rfl : ct = i11 := by omega
                                              refine lv_iload hx hb dX5_markKeywords_20 (lv_at hl 0 rfl) ?_
                                              refine lv_aload_n hx hb dX5_markKeywords_22 rfl (lv_at hl 3 rfl) ?_
                                              refine va_get (D := D) (ci := 9) (v := .int (nI ct)) (C := RX5) (T := TX5) (N := 4) hx hb hts inX5 hown hK hP 0 rfl rfl 3 (by decide) (hts (.fieldLink RX5 22 "EscrowDesk$Scanner" "count" "I") (by decide +kernel)) (fun _ h9 => h9) rfl dX5_markKeywords_23 ?_
                                              refine lv_icmp_ge (tgt := 66) hx hb dX5_markKeywords_26 (by decide) (fun c33 => ?_) (fun c9 => absurd (nI_le (a := ct) (b := ct) (show ct ≤ ct by omega) (by omega)) c9)
                                              refine lv_iinc (v := 19) (lv' := [(1, .int 19), (4, .int (nI ct)), (2, .long 17382886), (0, .ref r1)]) hx hb dX5_markKeywords_66 hl (k := 2) rfl (by first | rfl | decide +kernel) (by decide) rfl (fun ls hl => ?_)
                                              refine lv_goto (tgt := 3) hx hb dX5_markKeywords_69 (by decide) ?_
                                              refine lv_iload_n hx hb dX5_markKeywords_3 rfl (lv_at hl 0 rfl) ?_
                                              refine lv_bipush (v := 22) hx hb dX5_markKeywords_4 (by decide) ?_
                                              refine lv_icmp_gt (tgt := 72) hx hb dX5_markKeywords_6 (by decide) (fun c9 => absurd c9 (by decide)) (fun c34 => ?_)
                                              refine lv_iload_n hx hb dX5_markKeywords_9 rfl (lv_at hl 0 rfl) ?_
                                              obtain ⟨hPc, hDc, hFc⟩ := PDq.cut (wc := []) hP hD hS hA [] (by decide) rfl
                                              refine va_callr (va_runS (As := [.int 19]) (rest := []) ⟨hx, hb, hml, hown, hts⟩ (c_spell_19 l D cA sa  H.size) (va_cwS 1 hts gX5_markKeywords_X7_spelling rfl rfl rfl (by decide +kernel) ⟨(Nat.le_of_ble_eq_true rfl), (Nat.le_of_ble_eq_true rfl)⟩) ⟨Wd.blind, fun U hU hW => ⟨rfl, Wd.call hPc hDc hK hC hZ hS hFc U hU hW⟩⟩ rfl rfl hl.1 rfl (lv_room (Nat.le_of_ble_eq_true rfl)) dX5_markKeywords_10 ⟨(Nat.le_of_ble_eq_true rfl), (Nat.le_of_ble_eq_true rfl)⟩) hS (fun q _ h => hFc q h) hFc (fun u ra t H1 locs ht hvm hw hB hz1 hk1 hS => ?_)
                                              obtain ⟨hra, hP1, hD1⟩ := hB
                                              obtain rfl := hra.symm
                                              rw [ht] at hP1
                                              obtain ⟨hP, hD⟩ := PDq.join (w := [(oX5 r1 k1 k2 k3 (nI ct)), (k1, .inl (cA 0, 701, .inl f1_11)), (k2, .inl (cA 0, 701, .inl ft)), (k3, .inl (cA 1, 701, .inr (.inl fv)))]) 4 hP hD [] [0, 1, 2, 3] rfl rfl (by decide) (by decide) hk1 hFc hP1 hD1 rfl
                                              generalize H1 = H at hP hS ⊢
                                              obtain ⟨hPc, hDc, hFc⟩ := PDq.cut (wc := []) hP hD hS hA [] (by decide) rfl
                                              refine va_calll (va_runS (As := [.ref (sa 12)]) (rest := []) ⟨hx, hb, hml, hown, hts⟩ (x_packed l D cA sa 12 ([100, 111, 110, 101]) H.size (by decide +kernel) (by decide +kernel)) (va_cwS 1 hts gX5_markKeywords_X8_packed rfl rfl rfl (by decide +kernel) ⟨(Nat.le_of_ble_eq_true rfl), (Nat.le_of_ble_eq_true rfl)⟩) ⟨Wd.blind, fun U hU hW => ⟨rfl, Wd.call hPc hDc hK hC hZ hS hFc U hU hW⟩⟩ rfl rfl hl.1 rfl (lv_room (Nat.le_of_ble_eq_true rfl)) dX5_markKeywords_13 ⟨(Nat.le_of_ble_eq_true rfl), (Nat.le_of_ble_eq_true rfl)⟩) hS (fun q _ h => hFc q h) hFc (fun rn35 u t H1 locs ht hvm hw hB hz1 hk1 hS => ?_)
                                              obtain ⟨hP1, hD1⟩ := hB
                                              rw [ht] at hP1
                                              obtain ⟨hP, hD⟩ := PDq.join (w := [(oX5 r1 k1 k2 k3 (nI ct)), (k1, .inl (cA 0, 701, .inl f1_11)), (k2, .inl (cA 0, 701, .inl ft)), (k3, .inl (cA 1, 701, .inr (.inl fv)))]) 4 hP hD [] [0, 1, 2, 3] rfl rfl (by decide) (by decide) hk1 hFc hP1 hD1 rfl
                                              generalize H1 = H at hP hS ⊢
                                              obtain rfl : rn35 = 146885 := hw.trans (by decide +kernel)
                                              refine lv_lstore_n (lv' := [(2, .long 146885), (1, .int 19), (4, .int (nI ct)), (0, .ref r1)]) hx hb dX5_markKeywords_16 rfl hl (by decide) rfl (fun ls hl => ?_)
                                              refine lv_iconst (v := 0) hx hb dX5_markKeywords_17 (by decide) ?_
                                              refine lv_istore (lv' := [(4, .int 0), (2, .long 146885), (1, .int 19), (0, .ref r1)]) hx hb dX5_markKeywords_18 hl (by decide) rfl (fun ls hl => ?_)
                                              have loop12 : ∀ (n12 i12 : Nat) (f1_12 : Nat → Int32) (H : Heap) (locs : List Loc) (ls : Array Slot), i12 + n12 = ct → Rdd f1_12 → Mi 11 ct i12 fk fv f1_12 → va_P D vwCl [(oX5 r1 k1 k2 k3 (nI ct)), (k1, .inl (cA 0, 701, .inl f1_12)), (k2, .inl (cA 0, 701, .inl ft)), (k3, .inl (cA 1, 701, .inr (.inl fv)))] H → va_D A [(oX5 r1 k1 k2 k3 (nI ct)), (k1, .inl (cA 0, 701, .inl f1_12)), (k2, .inl (cA 0, 701, .inl ft)), (k3, .inl (cA 1, 701, .inr (.inl fv)))] → va_S A s.heap H locs → lv_has ls 5 [(4, .int (nI i12)), (2, .long 146885), (1, .int 19), (0, .ref r1)] → W p l e (headSpec wsX5_markKeywords ({ frames := 5, cells := 0, slots := 0, locals := 108 } : Room)).room s m ([.ref r1] : List Value).toArray below meth c H locs 0 0 (MQ below (va_Qv (fun _ : Unit => True) (fun (_ : Unit) t => ∃ zk : Nat → Int32, Mk 15 ct fk fv zk ∧ Wq D A [(oX5 r1 k1 k2 k3 (nI ct)), (k1, .inl (cA 0, 701, .inl zk)), (k2, .inl (cA 0, 701, .inl ft)), (k3, .inl (cA 1, 701, .inr (.inl fv)))] t) A) ([.ref r1] : List Value).toArray s 0 0 A) (F0 m 20 ls []) := by
                                                intro n12
                                                induction n12 with
                                                | zero =>
                                                  intro i12 f1_12 H locs ls hi12 hf0_12 hv0_12 hP hD hS hl
                                                  obtain rfl : ct = i12 := by omega
                                                  refine lv_iload hx hb dX5_markKeywords_20 (lv_at hl 0 rfl) ?_
                                                  refine lv_aload_n hx hb dX5_markKeywords_22 rfl (lv_at hl 3 rfl) ?_
                                                  refine va_get (D := D) (ci := 9) (v := .int (nI ct)) (C := RX5) (T := TX5) (N := 4) hx hb hts inX5 hown hK hP 0 rfl rfl 3 (by decide) (hts (.fieldLink RX5 22 "EscrowDesk$Scanner" "count" "I") (by decide +kernel)) (fun _ h9 => h9) rfl dX5_markKeywords_23 ?_
                                                  refine lv_icmp_ge (tgt := 66) hx hb dX5_markKeywords_26 (by decide) (fun c36 => ?_) (fun c9 => absurd (nI_le (a := ct) (b := ct) (show ct ≤ ct by omega) (by omega)) c9)
                                                  refine lv_iinc (v := 20) (lv' := [(1, .int 20), (4, .int (nI ct)), (2, .long 146885), (0, .ref r1)]) hx hb dX5_markKeywords_66 hl (k := 2) rfl (by first | rfl | decide +kernel) (by decide) rfl (fun ls hl => ?_)
                                                  refine lv_goto (tgt := 3) hx hb dX5_markKeywords_69 (by decide) ?_
                                                  refine lv_iload_n hx hb dX5_markKeywords_3 rfl (lv_at hl 0 rfl) ?_
                                                  refine lv_bipush (v := 22) hx hb dX5_markKeywords_4 (by decide) ?_
                                                  refine lv_icmp_gt (tgt := 72) hx hb dX5_markKeywords_6 (by decide) (fun c9 => absurd c9 (by decide)) (fun c37 => ?_)
                                                  refine lv_iload_n hx hb dX5_markKeywords_9 rfl (lv_at hl 0 rfl) ?_
                                                  obtain ⟨hPc, hDc, hFc⟩ := PDq.cut (wc := []) hP hD hS hA [] (by decide) rfl
                                                  refine va_callr (va_runS (As := [.int 20]) (rest := []) ⟨hx, hb, hml, hown, hts⟩ (c_spell_20 l D cA sa  H.size) (va_cwS 1 hts gX5_markKeywords_X7_spelling rfl rfl rfl (by decide +kernel) ⟨(Nat.le_of_ble_eq_true rfl), (Nat.le_of_ble_eq_true rfl)⟩) ⟨Wd.blind, fun U hU hW => ⟨rfl, Wd.call hPc hDc hK hC hZ hS hFc U hU hW⟩⟩ rfl rfl hl.1 rfl (lv_room (Nat.le_of_ble_eq_true rfl)) dX5_markKeywords_10 ⟨(Nat.le_of_ble_eq_true rfl), (Nat.le_of_ble_eq_true rfl)⟩) hS (fun q _ h => hFc q h) hFc (fun u ra t H1 locs ht hvm hw hB hz1 hk1 hS => ?_)
                                                  obtain ⟨hra, hP1, hD1⟩ := hB
                                                  obtain rfl := hra.symm
                                                  rw [ht] at hP1
                                                  obtain ⟨hP, hD⟩ := PDq.join (w := [(oX5 r1 k1 k2 k3 (nI ct)), (k1, .inl (cA 0, 701, .inl f1_12)), (k2, .inl (cA 0, 701, .inl ft)), (k3, .inl (cA 1, 701, .inr (.inl fv)))]) 4 hP hD [] [0, 1, 2, 3] rfl rfl (by decide) (by decide) hk1 hFc hP1 hD1 rfl
                                                  generalize H1 = H at hP hS ⊢
                                                  obtain ⟨hPc, hDc, hFc⟩ := PDq.cut (wc := []) hP hD hS hA [] (by decide) rfl
                                                  refine va_calll (va_runS (As := [.ref (sa 13)]) (rest := []) ⟨hx, hb, hml, hown, hts⟩ (x_packed l D cA sa 13 ([115, 117, 109]) H.size (by decide +kernel) (by decide +kernel)) (va_cwS 1 hts gX5_markKeywords_X8_packed rfl rfl rfl (by decide +kernel) ⟨(Nat.le_of_ble_eq_true rfl), (Nat.le_of_ble_eq_true rfl)⟩) ⟨Wd.blind, fun U hU hW => ⟨rfl, Wd.call hPc hDc hK hC hZ hS hFc U hU hW⟩⟩ rfl rfl hl.1 rfl (lv_room (Nat.le_of_ble_eq_true rfl)) dX5_markKeywords_13 ⟨(Nat.le_of_ble_eq_true rfl), (Nat.le_of_ble_eq_true rfl)⟩) hS (fun q _ h => hFc q h) hFc (fun rn38 u t H1 locs ht hvm hw hB hz1 hk1 hS => ?_)
                                                  obtain ⟨hP1, hD1⟩ := hB
                                                  rw [ht] at hP1
                                                  obtain ⟨hP, hD⟩ := PDq.join (w := [(oX5 r1 k1 k2 k3 (nI ct)), (k1, .inl (cA 0, 701, .inl f1_12)), (k2, .inl (cA 0, 701, .inl ft)), (k3, .inl (cA 1, 701, .inr (.inl fv)))]) 4 hP hD [] [0, 1, 2, 3] rfl rfl (by decide) (by decide) hk1 hFc hP1 hD1 rfl
                                                  generalize H1 = H at hP hS ⊢
                                                  obtain rfl : rn38 = 20141 := hw.trans (by decide +kernel)
                                                  refine lv_lstore_n (lv' := [(2, .long 20141), (1, .int 20), (4, .int (nI ct)), (0, .ref r1)]) hx hb dX5_markKeywords_16 rfl hl (by decide) rfl (fun ls hl => ?_)
                                                  refine lv_iconst (v := 0) hx hb dX5_markKeywords_17 (by decide) ?_
                                                  refine lv_istore (lv' := [(4, .int 0), (2, .long 20141), (1, .int 20), (0, .ref r1)]) hx hb dX5_markKeywords_18 hl (by decide) rfl (fun ls hl => ?_)
                                                  have loop13 : ∀ (n13 i13 : Nat) (f1_13 : Nat → Int32) (H : Heap) (locs : List Loc) (ls : Array Slot), i13 + n13 = ct → Rdd f1_13 → Mi 12 ct i13 fk fv f1_13 → va_P D vwCl [(oX5 r1 k1 k2 k3 (nI ct)), (k1, .inl (cA 0, 701, .inl f1_13)), (k2, .inl (cA 0, 701, .inl ft)), (k3, .inl (cA 1, 701, .inr (.inl fv)))] H → va_D A [(oX5 r1 k1 k2 k3 (nI ct)), (k1, .inl (cA 0, 701, .inl f1_13)), (k2, .inl (cA 0, 701, .inl ft)), (k3, .inl (cA 1, 701, .inr (.inl fv)))] → va_S A s.heap H locs → lv_has ls 5 [(4, .int (nI i13)), (2, .long 20141), (1, .int 20), (0, .ref r1)] → W p l e (headSpec wsX5_markKeywords ({ frames := 5, cells := 0, slots := 0, locals := 108 } : Room)).room s m ([.ref r1] : List Value).toArray below meth c H locs 0 0 (MQ below (va_Qv (fun _ : Unit => True) (fun (_ : Unit) t => ∃ zk : Nat → Int32, Mk 15 ct fk fv zk ∧ Wq D A [(oX5 r1 k1 k2 k3 (nI ct)), (k1, .inl (cA 0, 701, .inl zk)), (k2, .inl (cA 0, 701, .inl ft)), (k3, .inl (cA 1, 701, .inr (.inl fv)))] t) A) ([.ref r1] : List Value).toArray s 0 0 A) (F0 m 20 ls []) := by
                                                    intro n13
                                                    induction n13 with
                                                    | zero =>
                                                      intro i13 f1_13 H locs ls hi13 hf0_13 hv0_13 hP hD hS hl
                                                      obtain rfl : ct = i13 := by omega
                                                      refine lv_iload hx hb dX5_markKeywords_20 (lv_at hl 0 rfl) ?_
                                                      refine lv_aload_n hx hb dX5_markKeywords_22 rfl (lv_at hl 3 rfl) ?_
                                                      refine va_get (D := D) (ci := 9) (v := .int (nI ct)) (C := RX5) (T := TX5) (N := 4) hx hb hts inX5 hown hK hP 0 rfl rfl 3 (by decide) (hts (.fieldLink RX5 22 "EscrowDesk$Scanner" "count" "I") (by decide +kernel)) (fun _ h9 => h9) rfl dX5_markKeywords_23 ?_
                                                      refine lv_icmp_ge (tgt := 66) hx hb dX5_markKeywords_26 (by decide) (fun c39 => ?_) (fun c9 => absurd (nI_le (a := ct) (b := ct) (show ct ≤ ct by omega) (by omega)) c9)
                                                      refine lv_iinc (v := 21) (lv' := [(1, .int 21), (4, .int (nI ct)), (2, .long 20141), (0, .ref r1)]) hx hb dX5_markKeywords_66 hl (k := 2) rfl (by first | rfl | decide +kernel) (by decide) rfl (fun ls hl => ?_)
                                                      refine lv_goto (tgt := 3) hx hb dX5_markKeywords_69 (by decide) ?_
                                                      refine lv_iload_n hx hb dX5_markKeywords_3 rfl (lv_at hl 0 rfl) ?_
                                                      refine lv_bipush (v := 22) hx hb dX5_markKeywords_4 (by decide) ?_
                                                      refine lv_icmp_gt (tgt := 72) hx hb dX5_markKeywords_6 (by decide) (fun c9 => absurd c9 (by decide)) (fun c40 => ?_)
                                                      refine lv_iload_n hx hb dX5_markKeywords_9 rfl (lv_at hl 0 rfl) ?_
                                                      obtain ⟨hPc, hDc, hFc⟩ := PDq.cut (wc := []) hP hD hS hA [] (by decide) rfl
                                                      refine va_callr (va_runS (As := [.int 21]) (rest := []) ⟨hx, hb, hml, hown, hts⟩ (c_spell_21 l D cA sa  H.size) (va_cwS 1 hts gX5_markKeywords_X7_spelling rfl rfl rfl (by decide +kernel) ⟨(Nat.le_of_ble_eq_true rfl), (Nat.le_of_ble_eq_true rfl)⟩) ⟨Wd.blind, fun U hU hW => ⟨rfl, Wd.call hPc hDc hK hC hZ hS hFc U hU hW⟩⟩ rfl rfl hl.1 rfl (lv_room (Nat.le_of_ble_eq_true rfl)) dX5_markKeywords_10 ⟨(Nat.le_of_ble_eq_true rfl), (Nat.le_of_ble_eq_true rfl)⟩) hS (fun q _ h => hFc q h) hFc (fun u ra t H1 locs ht hvm hw hB hz1 hk1 hS => ?_)
                                                      obtain ⟨hra, hP1, hD1⟩ := hB
                                                      obtain rfl := hra.symm
                                                      rw [ht] at hP1
                                                      obtain ⟨hP, hD⟩ := PDq.join (w := [(oX5 r1 k1 k2 k3 (nI ct)), (k1, .inl (cA 0, 701, .inl f1_13)), (k2, .inl (cA 0, 701, .inl ft)), (k3, .inl (cA 1, 701, .inr (.inl fv)))]) 4 hP hD [] [0, 1, 2, 3] rfl rfl (by decide) (by decide) hk1 hFc hP1 hD1 rfl
                                                      generalize H1 = H at hP hS ⊢
                                                      obtain ⟨hPc, hDc, hFc⟩ := PDq.cut (wc := []) hP hD hS hA [] (by decide) rfl
                                                      refine va_calll (va_runS (As := [.ref (sa 14)]) (rest := []) ⟨hx, hb, hml, hown, hts⟩ (x_packed l D cA sa 14 ([97, 112, 112, 114, 111, 118, 101, 100]) H.size (by decide +kernel) (by decide +kernel)) (va_cwS 1 hts gX5_markKeywords_X8_packed rfl rfl rfl (by decide +kernel) ⟨(Nat.le_of_ble_eq_true rfl), (Nat.le_of_ble_eq_true rfl)⟩) ⟨Wd.blind, fun U hU hW => ⟨rfl, Wd.call hPc hDc hK hC hZ hS hFc U hU hW⟩⟩ rfl rfl hl.1 rfl (lv_room (Nat.le_of_ble_eq_true rfl)) dX5_markKeywords_13 ⟨(Nat.le_of_ble_eq_true rfl), (Nat.le_of_ble_eq_true rfl)⟩) hS (fun q _ h => hFc q h) hFc (fun rn41 u t H1 locs ht hvm hw hB hz1 hk1 hS => ?_)
                                                      obtain ⟨hP1, hD1⟩ := hB
                                                      rw [ht] at hP1
                                                      obtain ⟨hP, hD⟩ := PDq.join (w := [(oX5 r1 k1 k2 k3 (nI ct)), (k1, .inl (cA 0, 701, .inl f1_13)), (k2, .inl (cA 0, 701, .inl ft)), (k3, .inl (cA 1, 701, .inr (.inl fv)))]) 4 hP hD [] [0, 1, 2, 3] rfl rfl (by decide) (by decide) hk1 hFc hP1 hD1 rfl
                                                      generalize H1 = H at hP hS ⊢
                                                      obtain rfl : rn41 = 52095867044 := hw.trans (by decide +kernel)
                                                      refine lv_lstore_n (lv' := [(2, .long 52095867044), (1, .int 21), (4, .int (nI ct)), (0, .ref r1)]) hx hb dX5_markKeywords_16 rfl hl (by decide) rfl (fun ls hl => ?_)
                                                      refine lv_iconst (v := 0) hx hb dX5_markKeywords_17 (by decide) ?_
                                                      refine lv_istore (lv' := [(4, .int 0), (2, .long 52095867044), (1, .int 21), (0, .ref r1)]) hx hb dX5_markKeywords_18 hl (by decide) rfl (fun ls hl => ?_)
                                                      have loop14 : ∀ (n14 i14 : Nat) (f1_14 : Nat → Int32) (H : Heap) (locs : List Loc) (ls : Array Slot), i14 + n14 = ct → Rdd f1_14 → Mi 13 ct i14 fk fv f1_14 → va_P D vwCl [(oX5 r1 k1 k2 k3 (nI ct)), (k1, .inl (cA 0, 701, .inl f1_14)), (k2, .inl (cA 0, 701, .inl ft)), (k3, .inl (cA 1, 701, .inr (.inl fv)))] H → va_D A [(oX5 r1 k1 k2 k3 (nI ct)), (k1, .inl (cA 0, 701, .inl f1_14)), (k2, .inl (cA 0, 701, .inl ft)), (k3, .inl (cA 1, 701, .inr (.inl fv)))] → va_S A s.heap H locs → lv_has ls 5 [(4, .int (nI i14)), (2, .long 52095867044), (1, .int 21), (0, .ref r1)] → W p l e (headSpec wsX5_markKeywords ({ frames := 5, cells := 0, slots := 0, locals := 108 } : Room)).room s m ([.ref r1] : List Value).toArray below meth c H locs 0 0 (MQ below (va_Qv (fun _ : Unit => True) (fun (_ : Unit) t => ∃ zk : Nat → Int32, Mk 15 ct fk fv zk ∧ Wq D A [(oX5 r1 k1 k2 k3 (nI ct)), (k1, .inl (cA 0, 701, .inl zk)), (k2, .inl (cA 0, 701, .inl ft)), (k3, .inl (cA 1, 701, .inr (.inl fv)))] t) A) ([.ref r1] : List Value).toArray s 0 0 A) (F0 m 20 ls []) := by
                                                        intro n14
                                                        induction n14 with
                                                        | zero =>
                                                          intro i14 f1_14 H locs ls hi14 hf0_14 hv0_14 hP hD hS hl
                                                          obtain rfl : ct = i14 := by omega
                                                          refine lv_iload hx hb dX5_markKeywords_20 (lv_at hl 0 rfl) ?_
                                                          refine lv_aload_n hx hb dX5_markKeywords_22 rfl (lv_at hl 3 rfl) ?_
                                                          refine va_get (D := D) (ci := 9) (v := .int (nI ct)) (C := RX5) (T := TX5) (N := 4) hx hb hts inX5 hown hK hP 0 rfl rfl 3 (by decide) (hts (.fieldLink RX5 22 "EscrowDesk$Scanner" "count" "I") (by decide +kernel)) (fun _ h9 => h9) rfl dX5_markKeywords_23 ?_
                                                          refine lv_icmp_ge (tgt := 66) hx hb dX5_markKeywords_26 (by decide) (fun c42 => ?_) (fun c9 => absurd (nI_le (a := ct) (b := ct) (show ct ≤ ct by omega) (by omega)) c9)
                                                          refine lv_iinc (v := 22) (lv' := [(1, .int 22), (4, .int (nI ct)), (2, .long 52095867044), (0, .ref r1)]) hx hb dX5_markKeywords_66 hl (k := 2) rfl (by first | rfl | decide +kernel) (by decide) rfl (fun ls hl => ?_)
                                                          refine lv_goto (tgt := 3) hx hb dX5_markKeywords_69 (by decide) ?_
                                                          refine lv_iload_n hx hb dX5_markKeywords_3 rfl (lv_at hl 0 rfl) ?_
                                                          refine lv_bipush (v := 22) hx hb dX5_markKeywords_4 (by decide) ?_
                                                          refine lv_icmp_gt (tgt := 72) hx hb dX5_markKeywords_6 (by decide) (fun c9 => absurd c9 (by decide)) (fun c43 => ?_)
                                                          refine lv_iload_n hx hb dX5_markKeywords_9 rfl (lv_at hl 0 rfl) ?_
                                                          obtain ⟨hPc, hDc, hFc⟩ := PDq.cut (wc := []) hP hD hS hA [] (by decide) rfl
                                                          refine va_callr (va_runS (As := [.int 22]) (rest := []) ⟨hx, hb, hml, hown, hts⟩ (c_spell_22 l D cA sa  H.size) (va_cwS 1 hts gX5_markKeywords_X7_spelling rfl rfl rfl (by decide +kernel) ⟨(Nat.le_of_ble_eq_true rfl), (Nat.le_of_ble_eq_true rfl)⟩) ⟨Wd.blind, fun U hU hW => ⟨rfl, Wd.call hPc hDc hK hC hZ hS hFc U hU hW⟩⟩ rfl rfl hl.1 rfl (lv_room (Nat.le_of_ble_eq_true rfl)) dX5_markKeywords_10 ⟨(Nat.le_of_ble_eq_true rfl), (Nat.le_of_ble_eq_true rfl)⟩) hS (fun q _ h => hFc q h) hFc (fun u ra t H1 locs ht hvm hw hB hz1 hk1 hS => ?_)
                                                          obtain ⟨hra, hP1, hD1⟩ := hB
                                                          obtain rfl := hra.symm
                                                          rw [ht] at hP1
                                                          obtain ⟨hP, hD⟩ := PDq.join (w := [(oX5 r1 k1 k2 k3 (nI ct)), (k1, .inl (cA 0, 701, .inl f1_14)), (k2, .inl (cA 0, 701, .inl ft)), (k3, .inl (cA 1, 701, .inr (.inl fv)))]) 4 hP hD [] [0, 1, 2, 3] rfl rfl (by decide) (by decide) hk1 hFc hP1 hD1 rfl
                                                          generalize H1 = H at hP hS ⊢
                                                          obtain ⟨hPc, hDc, hFc⟩ := PDq.cut (wc := []) hP hD hS hA [] (by decide) rfl
                                                          refine va_calll (va_runS (As := [.ref (sa 15)]) (rest := []) ⟨hx, hb, hml, hown, hts⟩ (x_packed l D cA sa 15 ([97, 108, 119, 97, 121, 115]) H.size (by decide +kernel) (by decide +kernel)) (va_cwS 1 hts gX5_markKeywords_X8_packed rfl rfl rfl (by decide +kernel) ⟨(Nat.le_of_ble_eq_true rfl), (Nat.le_of_ble_eq_true rfl)⟩) ⟨Wd.blind, fun U hU hW => ⟨rfl, Wd.call hPc hDc hK hC hZ hS hFc U hU hW⟩⟩ rfl rfl hl.1 rfl (lv_room (Nat.le_of_ble_eq_true rfl)) dX5_markKeywords_13 ⟨(Nat.le_of_ble_eq_true rfl), (Nat.le_of_ble_eq_true rfl)⟩) hS (fun q _ h => hFc q h) hFc (fun rn44 u t H1 locs ht hvm hw hB hz1 hk1 hS => ?_)
                                                          obtain ⟨hP1, hD1⟩ := hB
                                                          rw [ht] at hP1
                                                          obtain ⟨hP, hD⟩ := PDq.join (w := [(oX5 r1 k1 k2 k3 (nI ct)), (k1, .inl (cA 0, 701, .inl f1_14)), (k2, .inl (cA 0, 701, .inl ft)), (k3, .inl (cA 1, 701, .inr (.inl fv)))]) 4 hP hD [] [0, 1, 2, 3] rfl rfl (by decide) (by decide) hk1 hFc hP1 hD1 rfl
                                                          generalize H1 = H at hP hS ⊢
                                                          obtain rfl : rn44 = 46892851 := hw.trans (by decide +kernel)
                                                          refine lv_lstore_n (lv' := [(2, .long 46892851), (1, .int 22), (4, .int (nI ct)), (0, .ref r1)]) hx hb dX5_markKeywords_16 rfl hl (by decide) rfl (fun ls hl => ?_)
                                                          refine lv_iconst (v := 0) hx hb dX5_markKeywords_17 (by decide) ?_
                                                          refine lv_istore (lv' := [(4, .int 0), (2, .long 46892851), (1, .int 22), (0, .ref r1)]) hx hb dX5_markKeywords_18 hl (by decide) rfl (fun ls hl => ?_)
                                                          have loop15 : ∀ (n15 i15 : Nat) (f1_15 : Nat → Int32) (H : Heap) (locs : List Loc) (ls : Array Slot), i15 + n15 = ct → Rdd f1_15 → Mi 14 ct i15 fk fv f1_15 → va_P D vwCl [(oX5 r1 k1 k2 k3 (nI ct)), (k1, .inl (cA 0, 701, .inl f1_15)), (k2, .inl (cA 0, 701, .inl ft)), (k3, .inl (cA 1, 701, .inr (.inl fv)))] H → va_D A [(oX5 r1 k1 k2 k3 (nI ct)), (k1, .inl (cA 0, 701, .inl f1_15)), (k2, .inl (cA 0, 701, .inl ft)), (k3, .inl (cA 1, 701, .inr (.inl fv)))] → va_S A s.heap H locs → lv_has ls 5 [(4, .int (nI i15)), (2, .long 46892851), (1, .int 22), (0, .ref r1)] → W p l e (headSpec wsX5_markKeywords ({ frames := 5, cells := 0, slots := 0, locals := 108 } : Room)).room s m ([.ref r1] : List Value).toArray below meth c H locs 0 0 (MQ below (va_Qv (fun _ : Unit => True) (fun (_ : Unit) t => ∃ zk : Nat → Int32, Mk 15 ct fk fv zk ∧ Wq D A [(oX5 r1 k1 k2 k3 (nI ct)), (k1, .inl (cA 0, 701, .inl zk)), (k2, .inl (cA 0, 701, .inl ft)), (k3, .inl (cA 1, 701, .inr (.inl fv)))] t) A) ([.ref r1] : List Value).toArray s 0 0 A) (F0 m 20 ls []) := by
                                                            intro n15
                                                            induction n15 with
                                                            | zero =>
                                                              intro i15 f1_15 H locs ls hi15 hf0_15 hv0_15 hP hD hS hl
                                                              obtain rfl : ct = i15 := by omega
                                                              refine lv_iload hx hb dX5_markKeywords_20 (lv_at hl 0 rfl) ?_
                                                              refine lv_aload_n hx hb dX5_markKeywords_22 rfl (lv_at hl 3 rfl) ?_
                                                              refine va_get (D := D) (ci := 9) (v := .int (nI ct)) (C := RX5) (T := TX5) (N := 4) hx hb hts inX5 hown hK hP 0 rfl rfl 3 (by decide) (hts (.fieldLink RX5 22 "EscrowDesk$Scanner" "count" "I") (by decide +kernel)) (fun _ h9 => h9) rfl dX5_markKeywords_23 ?_
                                                              refine lv_icmp_ge (tgt := 66) hx hb dX5_markKeywords_26 (by decide) (fun c45 => ?_) (fun c9 => absurd (nI_le (a := ct) (b := ct) (show ct ≤ ct by omega) (by omega)) c9)
                                                              refine lv_iinc (v := 23) (lv' := [(1, .int 23), (4, .int (nI ct)), (2, .long 46892851), (0, .ref r1)]) hx hb dX5_markKeywords_66 hl (k := 2) rfl (by first | rfl | decide +kernel) (by decide) rfl (fun ls hl => ?_)
                                                              refine lv_goto (tgt := 3) hx hb dX5_markKeywords_69 (by decide) ?_
                                                              refine lv_iload_n hx hb dX5_markKeywords_3 rfl (lv_at hl 0 rfl) ?_
                                                              refine lv_bipush (v := 22) hx hb dX5_markKeywords_4 (by decide) ?_
                                                              refine lv_icmp_gt (tgt := 72) hx hb dX5_markKeywords_6 (by decide) (fun c46 => ?_) (fun c9 => absurd c9 (by decide))
                                                              obtain ⟨hP9, hD9⟩ := PDq.sub (ws' := [(oX5 r1 k1 k2 k3 (nI ct)), (k1, .inl (cA 0, 701, .inl f1_15)), (k2, .inl (cA 0, 701, .inl ft)), (k3, .inl (cA 1, 701, .inr (.inl fv)))]) hP hD [0, 1, 2, 3] (by decide) rfl
                                                              refine W.widen (k := 0) (n := 0) (Nat.le_of_ble_eq_true rfl) (Nat.le_of_ble_eq_true rfl) ?_
                                                              exact (W.vret hx hb hr (fun t ht hW => ⟨⟨(), rfl, trivial, f1_15, (Mi.mk hv0_15), by rw [ht]; exact hP9, hD9⟩, hS.F ht⟩) hS.2.2 dX5_markKeywords_72)
                                                            | succ n15 ih15 =>
                                                              intro i15 f1_15 H locs ls hi15 hf0_15 hv0_15 hP hD hS hl
                                                              refine lv_iload hx hb dX5_markKeywords_20 (lv_at hl 0 rfl) ?_
                                                              refine lv_aload_n hx hb dX5_markKeywords_22 rfl (lv_at hl 3 rfl) ?_
                                                              refine va_get (D := D) (ci := 9) (v := .int (nI ct)) (C := RX5) (T := TX5) (N := 4) hx hb hts inX5 hown hK hP 0 rfl rfl 3 (by decide) (hts (.fieldLink RX5 22 "EscrowDesk$Scanner" "count" "I") (by decide +kernel)) (fun _ h9 => h9) rfl dX5_markKeywords_23 ?_
                                                              refine lv_icmp_ge (tgt := 66) hx hb dX5_markKeywords_26 (by decide) (fun c9 => absurd c9 (nI_ge (a := i15) (b := ct) (show i15 < ct by omega) (by omega))) (fun c47 => ?_)
                                                              refine lv_aload_n hx hb dX5_markKeywords_29 rfl (lv_at hl 3 rfl) ?_
                                                              refine va_get (D := D) (ci := 9) (v := .ref k1) (C := RX5) (T := TX5) (N := 4) hx hb hts inX5 hown hK hP 0 rfl rfl 0 (by decide) (hts (.fieldLink RX5 9 "EscrowDesk$Scanner" "kinds" "[I") (by decide +kernel)) (fun _ h9 => h9) rfl dX5_markKeywords_30 ?_
                                                              refine lv_iload hx hb dX5_markKeywords_33 (lv_at hl 0 rfl) ?_
                                                              refine va_iald hx hb hK hP 1 0 rfl rfl (vp_in_nI (n := i15) (N := 701) (show i15 < 701 by omega) (by decide)) dX5_markKeywords_35 ?_
                                                              refine lv_topi (fun yn48 eyn48 => ?_)
                                                              obtain rfl : yn48 = (f1_15 i15) := eyn48.trans (by rw [nI_clamp (by omega)])
                                                              refine lv_iconst (v := 4) hx hb dX5_markKeywords_36 (by decide) ?_
                                                              refine lv_icmp_ne (tgt := 60) hx hb dX5_markKeywords_37 (by decide) (fun c49 => ?_) (fun c49 => ?_)
                                                              · skip
                                                                refine lv_iinc (v := (nI (i15 + 1))) (lv' := [(4, .int (nI (i15 + 1))), (2, .long 46892851), (1, .int 22), (0, .ref r1)]) hx hb dX5_markKeywords_60 hl (k := 0) rfl (nI_1 _) (by decide) rfl (fun ls hl => ?_)
                                                                refine lv_goto (tgt := 20) hx hb dX5_markKeywords_63 (by decide) ?_
                                                                obtain ⟨hP9, hD9⟩ := PDq.sub (ws' := [(oX5 r1 k1 k2 k3 (nI ct)), (k1, .inl (cA 0, 701, .inl f1_15)), (k2, .inl (cA 0, 701, .inl ft)), (k3, .inl (cA 1, 701, .inr (.inl fv)))]) hP hD [0, 1, 2, 3] (by decide) rfl
                                                                exact ih15 (i15 + 1) f1_15 H _ ls (by omega) hf0_15 (Mi.no hv0_15 (by omega) (fun q => c49 q.1)) hP9 hD9 hS (lv_sub hl [0, 1, 2, 3] rfl)
                                                              · skip
                                                                refine lv_aload_n hx hb dX5_markKeywords_40 rfl (lv_at hl 3 rfl) ?_
                                                                refine va_get (D := D) (ci := 9) (v := .ref k3) (C := RX5) (T := TX5) (N := 4) hx hb hts inX5 hown hK hP 0 rfl rfl 2 (by decide) (hts (.fieldLink RX5 18 "EscrowDesk$Scanner" "values" "[J") (by decide +kernel)) (fun _ h9 => h9) rfl dX5_markKeywords_41 ?_
                                                                refine lv_iload hx hb dX5_markKeywords_44 (lv_at hl 0 rfl) ?_
                                                                refine va_lald hx hb hK hP 3 1 rfl rfl (vp_in_nI (n := i15) (N := 701) (show i15 < 701 by omega) (by decide)) dX5_markKeywords_46 ?_
                                                                refine lv_topl (fun yn50 eyn50 => ?_)
                                                                obtain rfl : yn50 = (fv i15) := eyn50.trans (by rw [nI_clamp (by omega)])
                                                                refine lv_lload_n hx hb dX5_markKeywords_47 rfl (lv_at hl 1 rfl) ?_
                                                                refine W.lcmp hx hb dX5_markKeywords_48 ?_
                                                                refine lv_if_ne (tgt := 60) hx hb dX5_markKeywords_49 (by decide) (fun c51 => ?_) (fun c51 => ?_)
                                                                · skip
                                                                  refine lv_iinc (v := (nI (i15 + 1))) (lv' := [(4, .int (nI (i15 + 1))), (2, .long 46892851), (1, .int 22), (0, .ref r1)]) hx hb dX5_markKeywords_60 hl (k := 0) rfl (nI_1 _) (by decide) rfl (fun ls hl => ?_)
                                                                  refine lv_goto (tgt := 20) hx hb dX5_markKeywords_63 (by decide) ?_
                                                                  obtain ⟨hP9, hD9⟩ := PDq.sub (ws' := [(oX5 r1 k1 k2 k3 (nI ct)), (k1, .inl (cA 0, 701, .inl f1_15)), (k2, .inl (cA 0, 701, .inl ft)), (k3, .inl (cA 1, 701, .inr (.inl fv)))]) hP hD [0, 1, 2, 3] (by decide) rfl
                                                                  exact ih15 (i15 + 1) f1_15 H _ ls (by omega) hf0_15 (Mi.nox hv0_15 (by omega) c51 (by decide)) hP9 hD9 hS (lv_sub hl [0, 1, 2, 3] rfl)
                                                                · skip
                                                                  refine lv_aload_n hx hb dX5_markKeywords_52 rfl (lv_at hl 3 rfl) ?_
                                                                  refine va_get (D := D) (ci := 9) (v := .ref k1) (C := RX5) (T := TX5) (N := 4) hx hb hts inX5 hown hK hP 0 rfl rfl 0 (by decide) (hts (.fieldLink RX5 9 "EscrowDesk$Scanner" "kinds" "[I") (by decide +kernel)) (fun _ h9 => h9) rfl dX5_markKeywords_53 ?_
                                                                  refine lv_iload hx hb dX5_markKeywords_56 (lv_at hl 0 rfl) ?_
                                                                  refine lv_iload_n hx hb dX5_markKeywords_58 rfl (lv_at hl 2 rfl) ?_
                                                                  refine va_iast hx hb hK hP hD hS 1 0 rfl rfl (vp_in_nI (n := i15) (N := 701) (show i15 < 701 by omega) (by decide)) dX5_markKeywords_59 (fun H locs hP hD hS => ?_)
                                                                  obtain ⟨hP, hD⟩ : PDq D A [(oX5 r1 k1 k2 k3 (nI ct)), (k1, .inl (cA 0, 701, .inl (upd f1_15 (((nI i15)).toNatClampNeg) 22))), (k2, .inl (cA 0, 701, .inl ft)), (k3, .inl (cA 1, 701, .inr (.inl fv)))] H := ⟨hP, hD⟩
                                                                  have hn53 : Upp i15 22 f1_15 (upd f1_15 (((nI i15)).toNatClampNeg) 22) := Upp.of (by omega)
                                                                  have hn54 : Rdd (upd f1_15 (((nI i15)).toNatClampNeg) 22) := rfl
                                                                  generalize (upd f1_15 (((nI i15)).toNatClampNeg) 22) = fn52 at hP hD hn53 hn54
                                                                  obtain ⟨hP, hD⟩ : PDq D A [(oX5 r1 k1 k2 k3 (nI ct)), (k1, .inl (cA 0, 701, .inl fn52)), (k2, .inl (cA 0, 701, .inl ft)), (k3, .inl (cA 1, 701, .inr (.inl fv)))] H := ⟨hP, hD⟩
                                                                  refine lv_iinc (v := (nI (i15 + 1))) (lv' := [(4, .int (nI (i15 + 1))), (2, .long 46892851), (1, .int 22), (0, .ref r1)]) hx hb dX5_markKeywords_60 hl (k := 0) rfl (nI_1 _) (by decide) rfl (fun ls hl => ?_)
                                                                  refine lv_goto (tgt := 20) hx hb dX5_markKeywords_63 (by decide) ?_
                                                                  obtain ⟨hP9, hD9⟩ := PDq.sub (ws' := [(oX5 r1 k1 k2 k3 (nI ct)), (k1, .inl (cA 0, 701, .inl fn52)), (k2, .inl (cA 0, 701, .inl ft)), (k3, .inl (cA 1, 701, .inr (.inl fv)))]) hP hD [0, 1, 2, 3] (by decide) rfl
                                                                  exact ih15 (i15 + 1) fn52 H _ ls (by omega) hn54 (Mi.yesx hv0_15 (by omega) c49 c51 (by decide) (by decide) hn53) hP9 hD9 hS (lv_sub hl [0, 1, 2, 3] rfl)
                                                          obtain ⟨hP9, hD9⟩ := PDq.sub (ws' := [(oX5 r1 k1 k2 k3 (nI ct)), (k1, .inl (cA 0, 701, .inl f1_14)), (k2, .inl (cA 0, 701, .inl ft)), (k3, .inl (cA 1, 701, .inr (.inl fv)))]) hP hD [0, 1, 2, 3] (by decide) rfl
                                                          exact loop15 (ct - 0) 0 f1_14 _ _ ls (by omega) hf0_14 (Mk.mi (Mi.mk hv0_14)) hP9 hD9 hS (lv_sub hl [0, 1, 2, 3] rfl)
                                                        | succ n14 ih14 =>
                                                          intro i14 f1_14 H locs ls hi14 hf0_14 hv0_14 hP hD hS hl
                                                          refine lv_iload hx hb dX5_markKeywords_20 (lv_at hl 0 rfl) ?_
                                                          refine lv_aload_n hx hb dX5_markKeywords_22 rfl (lv_at hl 3 rfl) ?_
                                                          refine va_get (D := D) (ci := 9) (v := .int (nI ct)) (C := RX5) (T := TX5) (N := 4) hx hb hts inX5 hown hK hP 0 rfl rfl 3 (by decide) (hts (.fieldLink RX5 22 "EscrowDesk$Scanner" "count" "I") (by decide +kernel)) (fun _ h9 => h9) rfl dX5_markKeywords_23 ?_
                                                          refine lv_icmp_ge (tgt := 66) hx hb dX5_markKeywords_26 (by decide) (fun c9 => absurd c9 (nI_ge (a := i14) (b := ct) (show i14 < ct by omega) (by omega))) (fun c55 => ?_)
                                                          refine lv_aload_n hx hb dX5_markKeywords_29 rfl (lv_at hl 3 rfl) ?_
                                                          refine va_get (D := D) (ci := 9) (v := .ref k1) (C := RX5) (T := TX5) (N := 4) hx hb hts inX5 hown hK hP 0 rfl rfl 0 (by decide) (hts (.fieldLink RX5 9 "EscrowDesk$Scanner" "kinds" "[I") (by decide +kernel)) (fun _ h9 => h9) rfl dX5_markKeywords_30 ?_
                                                          refine lv_iload hx hb dX5_markKeywords_33 (lv_at hl 0 rfl) ?_
                                                          refine va_iald hx hb hK hP 1 0 rfl rfl (vp_in_nI (n := i14) (N := 701) (show i14 < 701 by omega) (by decide)) dX5_markKeywords_35 ?_
                                                          refine lv_topi (fun yn56 eyn56 => ?_)
                                                          obtain rfl : yn56 = (f1_14 i14) := eyn56.trans (by rw [nI_clamp (by omega)])
                                                          refine lv_iconst (v := 4) hx hb dX5_markKeywords_36 (by decide) ?_
                                                          refine lv_icmp_ne (tgt := 60) hx hb dX5_markKeywords_37 (by decide) (fun c57 => ?_) (fun c57 => ?_)
                                                          · skip
                                                            refine lv_iinc (v := (nI (i14 + 1))) (lv' := [(4, .int (nI (i14 + 1))), (2, .long 52095867044), (1, .int 21), (0, .ref r1)]) hx hb dX5_markKeywords_60 hl (k := 0) rfl (nI_1 _) (by decide) rfl (fun ls hl => ?_)
                                                            refine lv_goto (tgt := 20) hx hb dX5_markKeywords_63 (by decide) ?_
                                                            obtain ⟨hP9, hD9⟩ := PDq.sub (ws' := [(oX5 r1 k1 k2 k3 (nI ct)), (k1, .inl (cA 0, 701, .inl f1_14)), (k2, .inl (cA 0, 701, .inl ft)), (k3, .inl (cA 1, 701, .inr (.inl fv)))]) hP hD [0, 1, 2, 3] (by decide) rfl
                                                            exact ih14 (i14 + 1) f1_14 H _ ls (by omega) hf0_14 (Mi.no hv0_14 (by omega) (fun q => c57 q.1)) hP9 hD9 hS (lv_sub hl [0, 1, 2, 3] rfl)
                                                          · skip
                                                            refine lv_aload_n hx hb dX5_markKeywords_40 rfl (lv_at hl 3 rfl) ?_
                                                            refine va_get (D := D) (ci := 9) (v := .ref k3) (C := RX5) (T := TX5) (N := 4) hx hb hts inX5 hown hK hP 0 rfl rfl 2 (by decide) (hts (.fieldLink RX5 18 "EscrowDesk$Scanner" "values" "[J") (by decide +kernel)) (fun _ h9 => h9) rfl dX5_markKeywords_41 ?_
                                                            refine lv_iload hx hb dX5_markKeywords_44 (lv_at hl 0 rfl) ?_
                                                            refine va_lald hx hb hK hP 3 1 rfl rfl (vp_in_nI (n := i14) (N := 701) (show i14 < 701 by omega) (by decide)) dX5_markKeywords_46 ?_
                                                            refine lv_topl (fun yn58 eyn58 => ?_)
                                                            obtain rfl : yn58 = (fv i14) := eyn58.trans (by rw [nI_clamp (by omega)])
                                                            refine lv_lload_n hx hb dX5_markKeywords_47 rfl (lv_at hl 1 rfl) ?_
                                                            refine W.lcmp hx hb dX5_markKeywords_48 ?_
                                                            refine lv_if_ne (tgt := 60) hx hb dX5_markKeywords_49 (by decide) (fun c59 => ?_) (fun c59 => ?_)
                                                            · skip
                                                              refine lv_iinc (v := (nI (i14 + 1))) (lv' := [(4, .int (nI (i14 + 1))), (2, .long 52095867044), (1, .int 21), (0, .ref r1)]) hx hb dX5_markKeywords_60 hl (k := 0) rfl (nI_1 _) (by decide) rfl (fun ls hl => ?_)
                                                              refine lv_goto (tgt := 20) hx hb dX5_markKeywords_63 (by decide) ?_
                                                              obtain ⟨hP9, hD9⟩ := PDq.sub (ws' := [(oX5 r1 k1 k2 k3 (nI ct)), (k1, .inl (cA 0, 701, .inl f1_14)), (k2, .inl (cA 0, 701, .inl ft)), (k3, .inl (cA 1, 701, .inr (.inl fv)))]) hP hD [0, 1, 2, 3] (by decide) rfl
                                                              exact ih14 (i14 + 1) f1_14 H _ ls (by omega) hf0_14 (Mi.nox hv0_14 (by omega) c59 (by decide)) hP9 hD9 hS (lv_sub hl [0, 1, 2, 3] rfl)
                                                            · skip
                                                              refine lv_aload_n hx hb dX5_markKeywords_52 rfl (lv_at hl 3 rfl) ?_
                                                              refine va_get (D := D) (ci := 9) (v := .ref k1) (C := RX5) (T := TX5) (N := 4) hx hb hts inX5 hown hK hP 0 rfl rfl 0 (by decide) (hts (.fieldLink RX5 9 "EscrowDesk$Scanner" "kinds" "[I") (by decide +kernel)) (fun _ h9 => h9) rfl dX5_markKeywords_53 ?_
                                                              refine lv_iload hx hb dX5_markKeywords_56 (lv_at hl 0 rfl) ?_
                                                              refine lv_iload_n hx hb dX5_markKeywords_58 rfl (lv_at hl 2 rfl) ?_
                                                              refine va_iast hx hb hK hP hD hS 1 0 rfl rfl (vp_in_nI (n := i14) (N := 701) (show i14 < 701 by omega) (by decide)) dX5_markKeywords_59 (fun H locs hP hD hS => ?_)
                                                              obtain ⟨hP, hD⟩ : PDq D A [(oX5 r1 k1 k2 k3 (nI ct)), (k1, .inl (cA 0, 701, .inl (upd f1_14 (((nI i14)).toNatClampNeg) 21))), (k2, .inl (cA 0, 701, .inl ft)), (k3, .inl (cA 1, 701, .inr (.inl fv)))] H := ⟨hP, hD⟩
                                                              have hn61 : Upp i14 21 f1_14 (upd f1_14 (((nI i14)).toNatClampNeg) 21) := Upp.of (by omega)
                                                              have hn62 : Rdd (upd f1_14 (((nI i14)).toNatClampNeg) 21) := rfl
                                                              generalize (upd f1_14 (((nI i14)).toNatClampNeg) 21) = fn60 at hP hD hn61 hn62
                                                              obtain ⟨hP, hD⟩ : PDq D A [(oX5 r1 k1 k2 k3 (nI ct)), (k1, .inl (cA 0, 701, .inl fn60)), (k2, .inl (cA 0, 701, .inl ft)), (k3, .inl (cA 1, 701, .inr (.inl fv)))] H := ⟨hP, hD⟩
                                                              refine lv_iinc (v := (nI (i14 + 1))) (lv' := [(4, .int (nI (i14 + 1))), (2, .long 52095867044), (1, .int 21), (0, .ref r1)]) hx hb dX5_markKeywords_60 hl (k := 0) rfl (nI_1 _) (by decide) rfl (fun ls hl => ?_)
                                                              refine lv_goto (tgt := 20) hx hb dX5_markKeywords_63 (by decide) ?_
                                                              obtain ⟨hP9, hD9⟩ := PDq.sub (ws' := [(oX5 r1 k1 k2 k3 (nI ct)), (k1, .inl (cA 0, 701, .inl fn60)), (k2, .inl (cA 0, 701, .inl ft)), (k3, .inl (cA 1, 701, .inr (.inl fv)))]) hP hD [0, 1, 2, 3] (by decide) rfl
                                                              exact ih14 (i14 + 1) fn60 H _ ls (by omega) hn62 (Mi.yesx hv0_14 (by omega) c57 c59 (by decide) (by decide) hn61) hP9 hD9 hS (lv_sub hl [0, 1, 2, 3] rfl)
                                                      obtain ⟨hP9, hD9⟩ := PDq.sub (ws' := [(oX5 r1 k1 k2 k3 (nI ct)), (k1, .inl (cA 0, 701, .inl f1_13)), (k2, .inl (cA 0, 701, .inl ft)), (k3, .inl (cA 1, 701, .inr (.inl fv)))]) hP hD [0, 1, 2, 3] (by decide) rfl
                                                      exact loop14 (ct - 0) 0 f1_13 _ _ ls (by omega) hf0_13 (Mk.mi (Mi.mk hv0_13)) hP9 hD9 hS (lv_sub hl [0, 1, 2, 3] rfl)
                                                    | succ n13 ih13 =>
                                                      intro i13 f1_13 H locs ls hi13 hf0_13 hv0_13 hP hD hS hl
                                                      refine lv_iload hx hb dX5_markKeywords_20 (lv_at hl 0 rfl) ?_
                                                      refine lv_aload_n hx hb dX5_markKeywords_22 rfl (lv_at hl 3 rfl) ?_
                                                      refine va_get (D := D) (ci := 9) (v := .int (nI ct)) (C := RX5) (T := TX5) (N := 4) hx hb hts inX5 hown hK hP 0 rfl rfl 3 (by decide) (hts (.fieldLink RX5 22 "EscrowDesk$Scanner" "count" "I") (by decide +kernel)) (fun _ h9 => h9) rfl dX5_markKeywords_23 ?_
                                                      refine lv_icmp_ge (tgt := 66) hx hb dX5_markKeywords_26 (by decide) (fun c9 => absurd c9 (nI_ge (a := i13) (b := ct) (show i13 < ct by omega) (by omega))) (fun c63 => ?_)
                                                      refine lv_aload_n hx hb dX5_markKeywords_29 rfl (lv_at hl 3 rfl) ?_
                                                      refine va_get (D := D) (ci := 9) (v := .ref k1) (C := RX5) (T := TX5) (N := 4) hx hb hts inX5 hown hK hP 0 rfl rfl 0 (by decide) (hts (.fieldLink RX5 9 "EscrowDesk$Scanner" "kinds" "[I") (by decide +kernel)) (fun _ h9 => h9) rfl dX5_markKeywords_30 ?_
                                                      refine lv_iload hx hb dX5_markKeywords_33 (lv_at hl 0 rfl) ?_
                                                      refine va_iald hx hb hK hP 1 0 rfl rfl (vp_in_nI (n := i13) (N := 701) (show i13 < 701 by omega) (by decide)) dX5_markKeywords_35 ?_
                                                      refine lv_topi (fun yn64 eyn64 => ?_)
                                                      obtain rfl : yn64 = (f1_13 i13) := eyn64.trans (by rw [nI_clamp (by omega)])
                                                      refine lv_iconst (v := 4) hx hb dX5_markKeywords_36 (by decide) ?_
                                                      refine lv_icmp_ne (tgt := 60) hx hb dX5_markKeywords_37 (by decide) (fun c65 => ?_) (fun c65 => ?_)
                                                      · skip
                                                        refine lv_iinc (v := (nI (i13 + 1))) (lv' := [(4, .int (nI (i13 + 1))), (2, .long 20141), (1, .int 20), (0, .ref r1)]) hx hb dX5_markKeywords_60 hl (k := 0) rfl (nI_1 _) (by decide) rfl (fun ls hl => ?_)
                                                        refine lv_goto (tgt := 20) hx hb dX5_markKeywords_63 (by decide) ?_
                                                        obtain ⟨hP9, hD9⟩ := PDq.sub (ws' := [(oX5 r1 k1 k2 k3 (nI ct)), (k1, .inl (cA 0, 701, .inl f1_13)), (k2, .inl (cA 0, 701, .inl ft)), (k3, .inl (cA 1, 701, .inr (.inl fv)))]) hP hD [0, 1, 2, 3] (by decide) rfl
                                                        exact ih13 (i13 + 1) f1_13 H _ ls (by omega) hf0_13 (Mi.no hv0_13 (by omega) (fun q => c65 q.1)) hP9 hD9 hS (lv_sub hl [0, 1, 2, 3] rfl)
                                                      · skip
                                                        refine lv_aload_n hx hb dX5_markKeywords_40 rfl (lv_at hl 3 rfl) ?_
                                                        refine va_get (D := D) (ci := 9) (v := .ref k3) (C := RX5) (T := TX5) (N := 4) hx hb hts inX5 hown hK hP 0 rfl rfl 2 (by decide) (hts (.fieldLink RX5 18 "EscrowDesk$Scanner" "values" "[J") (by decide +kernel)) (fun _ h9 => h9) rfl dX5_markKeywords_41 ?_
                                                        refine lv_iload hx hb dX5_markKeywords_44 (lv_at hl 0 rfl) ?_
                                                        refine va_lald hx hb hK hP 3 1 rfl rfl (vp_in_nI (n := i13) (N := 701) (show i13 < 701 by omega) (by decide)) dX5_markKeywords_46 ?_
                                                        refine lv_topl (fun yn66 eyn66 => ?_)
                                                        obtain rfl : yn66 = (fv i13) := eyn66.trans (by rw [nI_clamp (by omega)])
                                                        refine lv_lload_n hx hb dX5_markKeywords_47 rfl (lv_at hl 1 rfl) ?_
                                                        refine W.lcmp hx hb dX5_markKeywords_48 ?_
                                                        refine lv_if_ne (tgt := 60) hx hb dX5_markKeywords_49 (by decide) (fun c67 => ?_) (fun c67 => ?_)
                                                        · skip
                                                          refine lv_iinc (v := (nI (i13 + 1))) (lv' := [(4, .int (nI (i13 + 1))), (2, .long 20141), (1, .int 20), (0, .ref r1)]) hx hb dX5_markKeywords_60 hl (k := 0) rfl (nI_1 _) (by decide) rfl (fun ls hl => ?_)
                                                          refine lv_goto (tgt := 20) hx hb dX5_markKeywords_63 (by decide) ?_
                                                          obtain ⟨hP9, hD9⟩ := PDq.sub (ws' := [(oX5 r1 k1 k2 k3 (nI ct)), (k1, .inl (cA 0, 701, .inl f1_13)), (k2, .inl (cA 0, 701, .inl ft)), (k3, .inl (cA 1, 701, .inr (.inl fv)))]) hP hD [0, 1, 2, 3] (by decide) rfl
                                                          exact ih13 (i13 + 1) f1_13 H _ ls (by omega) hf0_13 (Mi.nox hv0_13 (by omega) c67 (by decide)) hP9 hD9 hS (lv_sub hl [0, 1, 2, 3] rfl)
                                                        · skip
                                                          refine lv_aload_n hx hb dX5_markKeywords_52 rfl (lv_at hl 3 rfl) ?_
                                                          refine va_get (D := D) (ci := 9) (v := .ref k1) (C := RX5) (T := TX5) (N := 4) hx hb hts inX5 hown hK hP 0 rfl rfl 0 (by decide) (hts (.fieldLink RX5 9 "EscrowDesk$Scanner" "kinds" "[I") (by decide +kernel)) (fun _ h9 => h9) rfl dX5_markKeywords_53 ?_
                                                          refine lv_iload hx hb dX5_markKeywords_56 (lv_at hl 0 rfl) ?_
                                                          refine lv_iload_n hx hb dX5_markKeywords_58 rfl (lv_at hl 2 rfl) ?_
                                                          refine va_iast hx hb hK hP hD hS 1 0 rfl rfl (vp_in_nI (n := i13) (N := 701) (show i13 < 701 by omega) (by decide)) dX5_markKeywords_59 (fun H locs hP hD hS => ?_)
                                                          obtain ⟨hP, hD⟩ : PDq D A [(oX5 r1 k1 k2 k3 (nI ct)), (k1, .inl (cA 0, 701, .inl (upd f1_13 (((nI i13)).toNatClampNeg) 20))), (k2, .inl (cA 0, 701, .inl ft)), (k3, .inl (cA 1, 701, .inr (.inl fv)))] H := ⟨hP, hD⟩
                                                          have hn69 : Upp i13 20 f1_13 (upd f1_13 (((nI i13)).toNatClampNeg) 20) := Upp.of (by omega)
                                                          have hn70 : Rdd (upd f1_13 (((nI i13)).toNatClampNeg) 20) := rfl
                                                          generalize (upd f1_13 (((nI i13)).toNatClampNeg) 20) = fn68 at hP hD hn69 hn70
                                                          obtain ⟨hP, hD⟩ : PDq D A [(oX5 r1 k1 k2 k3 (nI ct)), (k1, .inl (cA 0, 701, .inl fn68)), (k2, .inl (cA 0, 701, .inl ft)), (k3, .inl (cA 1, 701, .inr (.inl fv)))] H := ⟨hP, hD⟩
                                                          refine lv_iinc (v := (nI (i13 + 1))) (lv' := [(4, .int (nI (i13 + 1))), (2, .long 20141), (1, .int 20), (0, .ref r1)]) hx hb dX5_markKeywords_60 hl (k := 0) rfl (nI_1 _) (by decide) rfl (fun ls hl => ?_)
                                                          refine lv_goto (tgt := 20) hx hb dX5_markKeywords_63 (by decide) ?_
                                                          obtain ⟨hP9, hD9⟩ := PDq.sub (ws' := [(oX5 r1 k1 k2 k3 (nI ct)), (k1, .inl (cA 0, 701, .inl fn68)), (k2, .inl (cA 0, 701, .inl ft)), (k3, .inl (cA 1, 701, .inr (.inl fv)))]) hP hD [0, 1, 2, 3] (by decide) rfl
                                                          exact ih13 (i13 + 1) fn68 H _ ls (by omega) hn70 (Mi.yesx hv0_13 (by omega) c65 c67 (by decide) (by decide) hn69) hP9 hD9 hS (lv_sub hl [0, 1, 2, 3] rfl)
                                                  obtain ⟨hP9, hD9⟩ := PDq.sub (ws' := [(oX5 r1 k1 k2 k3 (nI ct)), (k1, .inl (cA 0, 701, .inl f1_12)), (k2, .inl (cA 0, 701, .inl ft)), (k3, .inl (cA 1, 701, .inr (.inl fv)))]) hP hD [0, 1, 2, 3] (by decide) rfl
                                                  exact loop13 (ct - 0) 0 f1_12 _ _ ls (by omega) hf0_12 (Mk.mi (Mi.mk hv0_12)) hP9 hD9 hS (lv_sub hl [0, 1, 2, 3] rfl)
                                                | succ n12 ih12 =>
                                                  intro i12 f1_12 H locs ls hi12 hf0_12 hv0_12 hP hD hS hl
                                                  refine lv_iload hx hb dX5_markKeywords_20 (lv_at hl 0 rfl) ?_
                                                  refine lv_aload_n hx hb dX5_markKeywords_22 rfl (lv_at hl 3 rfl) ?_
                                                  refine va_get (D := D) (ci := 9) (v := .int (nI ct)) (C := RX5) (T := TX5) (N := 4) hx hb hts inX5 hown hK hP 0 rfl rfl 3 (by decide) (hts (.fieldLink RX5 22 "EscrowDesk$Scanner" "count" "I") (by decide +kernel)) (fun _ h9 => h9) rfl dX5_markKeywords_23 ?_
                                                  refine lv_icmp_ge (tgt := 66) hx hb dX5_markKeywords_26 (by decide) (fun c9 => absurd c9 (nI_ge (a := i12) (b := ct) (show i12 < ct by omega) (by omega))) (fun c71 => ?_)
                                                  refine lv_aload_n hx hb dX5_markKeywords_29 rfl (lv_at hl 3 rfl) ?_
                                                  refine va_get (D := D) (ci := 9) (v := .ref k1) (C := RX5) (T := TX5) (N := 4) hx hb hts inX5 hown hK hP 0 rfl rfl 0 (by decide) (hts (.fieldLink RX5 9 "EscrowDesk$Scanner" "kinds" "[I") (by decide +kernel)) (fun _ h9 => h9) rfl dX5_markKeywords_30 ?_
                                                  refine lv_iload hx hb dX5_markKeywords_33 (lv_at hl 0 rfl) ?_
                                                  refine va_iald hx hb hK hP 1 0 rfl rfl (vp_in_nI (n := i12) (N := 701) (show i12 < 701 by omega) (by decide)) dX5_markKeywords_35 ?_
                                                  refine lv_topi (fun yn72 eyn72 => ?_)
                                                  obtain rfl : yn72 = (f1_12 i12) := eyn72.trans (by rw [nI_clamp (by omega)])
                                                  refine lv_iconst (v := 4) hx hb dX5_markKeywords_36 (by decide) ?_
                                                  refine lv_icmp_ne (tgt := 60) hx hb dX5_markKeywords_37 (by decide) (fun c73 => ?_) (fun c73 => ?_)
                                                  · skip
                                                    refine lv_iinc (v := (nI (i12 + 1))) (lv' := [(4, .int (nI (i12 + 1))), (2, .long 146885), (1, .int 19), (0, .ref r1)]) hx hb dX5_markKeywords_60 hl (k := 0) rfl (nI_1 _) (by decide) rfl (fun ls hl => ?_)
                                                    refine lv_goto (tgt := 20) hx hb dX5_markKeywords_63 (by decide) ?_
                                                    obtain ⟨hP9, hD9⟩ := PDq.sub (ws' := [(oX5 r1 k1 k2 k3 (nI ct)), (k1, .inl (cA 0, 701, .inl f1_12)), (k2, .inl (cA 0, 701, .inl ft)), (k3, .inl (cA 1, 701, .inr (.inl fv)))]) hP hD [0, 1, 2, 3] (by decide) rfl
                                                    exact ih12 (i12 + 1) f1_12 H _ ls (by omega) hf0_12 (Mi.no hv0_12 (by omega) (fun q => c73 q.1)) hP9 hD9 hS (lv_sub hl [0, 1, 2, 3] rfl)
                                                  · skip
                                                    refine lv_aload_n hx hb dX5_markKeywords_40 rfl (lv_at hl 3 rfl) ?_
                                                    refine va_get (D := D) (ci := 9) (v := .ref k3) (C := RX5) (T := TX5) (N := 4) hx hb hts inX5 hown hK hP 0 rfl rfl 2 (by decide) (hts (.fieldLink RX5 18 "EscrowDesk$Scanner" "values" "[J") (by decide +kernel)) (fun _ h9 => h9) rfl dX5_markKeywords_41 ?_
                                                    refine lv_iload hx hb dX5_markKeywords_44 (lv_at hl 0 rfl) ?_
                                                    refine va_lald hx hb hK hP 3 1 rfl rfl (vp_in_nI (n := i12) (N := 701) (show i12 < 701 by omega) (by decide)) dX5_markKeywords_46 ?_
                                                    refine lv_topl (fun yn74 eyn74 => ?_)
                                                    obtain rfl : yn74 = (fv i12) := eyn74.trans (by rw [nI_clamp (by omega)])
                                                    refine lv_lload_n hx hb dX5_markKeywords_47 rfl (lv_at hl 1 rfl) ?_
                                                    refine W.lcmp hx hb dX5_markKeywords_48 ?_
                                                    refine lv_if_ne (tgt := 60) hx hb dX5_markKeywords_49 (by decide) (fun c75 => ?_) (fun c75 => ?_)
                                                    · skip
                                                      refine lv_iinc (v := (nI (i12 + 1))) (lv' := [(4, .int (nI (i12 + 1))), (2, .long 146885), (1, .int 19), (0, .ref r1)]) hx hb dX5_markKeywords_60 hl (k := 0) rfl (nI_1 _) (by decide) rfl (fun ls hl => ?_)
                                                      refine lv_goto (tgt := 20) hx hb dX5_markKeywords_63 (by decide) ?_
                                                      obtain ⟨hP9, hD9⟩ := PDq.sub (ws' := [(oX5 r1 k1 k2 k3 (nI ct)), (k1, .inl (cA 0, 701, .inl f1_12)), (k2, .inl (cA 0, 701, .inl ft)), (k3, .inl (cA 1, 701, .inr (.inl fv)))]) hP hD [0, 1, 2, 3] (by decide) rfl
                                                      exact ih12 (i12 + 1) f1_12 H _ ls (by omega) hf0_12 (Mi.nox hv0_12 (by omega) c75 (by decide)) hP9 hD9 hS (lv_sub hl [0, 1, 2, 3] rfl)
                                                    · skip
                                                      refine lv_aload_n hx hb dX5_markKeywords_52 rfl (lv_at hl 3 rfl) ?_
                                                      refine va_get (D := D) (ci := 9) (v := .ref k1) (C := RX5) (T := TX5) (N := 4) hx hb hts inX5 hown hK hP 0 rfl rfl 0 (by decide) (hts (.fieldLink RX5 9 "EscrowDesk$Scanner" "kinds" "[I") (by decide +kernel)) (fun _ h9 => h9) rfl dX5_markKeywords_53 ?_
                                                      refine lv_iload hx hb dX5_markKeywords_56 (lv_at hl 0 rfl) ?_
                                                      refine lv_iload_n hx hb dX5_markKeywords_58 rfl (lv_at hl 2 rfl) ?_
                                                      refine va_iast hx hb hK hP hD hS 1 0 rfl rfl (vp_in_nI (n := i12) (N := 701) (show i12 < 701 by omega) (by decide)) dX5_markKeywords_59 (fun H locs hP hD hS => ?_)
                                                      obtain ⟨hP, hD⟩ : PDq D A [(oX5 r1 k1 k2 k3 (nI ct)), (k1, .inl (cA 0, 701, .inl (upd f1_12 (((nI i12)).toNatClampNeg) 19))), (k2, .inl (cA 0, 701, .inl ft)), (k3, .inl (cA 1, 701, .inr (.inl fv)))] H := ⟨hP, hD⟩
                                                      have hn77 : Upp i12 19 f1_12 (upd f1_12 (((nI i12)).toNatClampNeg) 19) := Upp.of (by omega)
                                                      have hn78 : Rdd (upd f1_12 (((nI i12)).toNatClampNeg) 19) := rfl
                                                      generalize (upd f1_12 (((nI i12)).toNatClampNeg) 19) = fn76 at hP hD hn77 hn78
                                                      obtain ⟨hP, hD⟩ : PDq D A [(oX5 r1 k1 k2 k3 (nI ct)), (k1, .inl (cA 0, 701, .inl fn76)), (k2, .inl (cA 0, 701, .inl ft)), (k3, .inl (cA 1, 701, .inr (.inl fv)))] H := ⟨hP, hD⟩
                                                      refine lv_iinc (v := (nI (i12 + 1))) (lv' := [(4, .int (nI (i12 + 1))), (2, .long 146885), (1, .int 19), (0, .ref r1)]) hx hb dX5_markKeywords_60 hl (k := 0) rfl (nI_1 _) (by decide) rfl (fun ls hl => ?_)
                                                      refine lv_goto (tgt := 20) hx hb dX5_markKeywords_63 (by decide) ?_
                                                      obtain ⟨hP9, hD9⟩ := PDq.sub (ws' := [(oX5 r1 k1 k2 k3 (nI ct)), (k1, .inl (cA 0, 701, .inl fn76)), (k2, .inl (cA 0, 701, .inl ft)), (k3, .inl (cA 1, 701, .inr (.inl fv)))]) hP hD [0, 1, 2, 3] (by decide) rfl
                                                      exact ih12 (i12 + 1) fn76 H _ ls (by omega) hn78 (Mi.yesx hv0_12 (by omega) c73 c75 (by decide) (by decide) hn77) hP9 hD9 hS (lv_sub hl [0, 1, 2, 3] rfl)
                                              obtain ⟨hP9, hD9⟩ := PDq.sub (ws' := [(oX5 r1 k1 k2 k3 (nI ct)), (k1, .inl (cA 0, 701, .inl f1_11)), (k2, .inl (cA 0, 701, .inl ft)), (k3, .inl (cA 1, 701, .inr (.inl fv)))]) hP hD [0, 1, 2, 3] (by decide) rfl
                                              exact loop12 (ct - 0) 0 f1_11 _ _ ls (by omega) hf0_11 (Mk.mi (Mi.mk hv0_11)) hP9 hD9 hS (lv_sub hl [0, 1, 2, 3] rfl)
                                            | succ n11 ih11 =>
                                              intro i11 f1_11 H locs ls hi11 hf0_11 hv0_11 hP hD hS hl
                                              refine lv_iload hx hb dX5_markKeywords_20 (lv_at hl 0 rfl) ?_
                                              refine lv_aload_n hx hb dX5_markKeywords_22 rfl (lv_at hl 3 rfl) ?_
                                              refine va_get (D := D) (ci := 9) (v := .int (nI ct)) (C := RX5) (T := TX5) (N := 4) hx hb hts inX5 hown hK hP 0 rfl rfl 3 (by decide) (hts (.fieldLink RX5 22 "EscrowDesk$Scanner" "count" "I") (by decide +kernel)) (fun _ h9 => h9) rfl dX5_markKeywords_23 ?_
                                              refine lv_icmp_ge (tgt := 66) hx hb dX5_markKeywords_26 (by decide) (fun c9 => absurd c9 (nI_ge (a := i11) (b := ct) (show i11 < ct by omega) (by omega))) (fun c79 => ?_)
                                              refine lv_aload_n hx hb dX5_markKeywords_29 rfl (lv_at hl 3 rfl) ?_
                                              refine va_get (D := D) (ci := 9) (v := .ref k1) (C := RX5) (T := TX5) (N := 4) hx hb hts inX5 hown hK hP 0 rfl rfl 0 (by decide) (hts (.fieldLink RX5 9 "EscrowDesk$Scanner" "kinds" "[I") (by decide +kernel)) (fun _ h9 => h9) rfl dX5_markKeywords_30 ?_
                                              refine lv_iload hx hb dX5_markKeywords_33 (lv_at hl 0 rfl) ?_
                                              refine va_iald hx hb hK hP 1 0 rfl rfl (vp_in_nI (n := i11) (N := 701) (show i11 < 701 by omega) (by decide)) dX5_markKeywords_35 ?_
                                              refine lv_topi (fun yn80 eyn80 => ?_)
                                              obtain rfl : yn80 = (f1_11 i11) := eyn80.trans (by rw [nI_clamp (by omega)])
                                              refine lv_iconst (v := 4) hx hb dX5_markKeywords_36 (by decide) ?_
                                              refine lv_icmp_ne (tgt := 60) hx hb dX5_markKeywords_37 (by decide) (fun c81 => ?_) (fun c81 => ?_)
                                              · skip
                                                refine lv_iinc (v := (nI (i11 + 1))) (lv' := [(4, .int (nI (i11 + 1))), (2, .long 17382886), (1, .int 18), (0, .ref r1)]) hx hb dX5_markKeywords_60 hl (k := 0) rfl (nI_1 _) (by decide) rfl (fun ls hl => ?_)
                                                refine lv_goto (tgt := 20) hx hb dX5_markKeywords_63 (by decide) ?_
                                                obtain ⟨hP9, hD9⟩ := PDq.sub (ws' := [(oX5 r1 k1 k2 k3 (nI ct)), (k1, .inl (cA 0, 701, .inl f1_11)), (k2, .inl (cA 0, 701, .inl ft)), (k3, .inl (cA 1, 701, .inr (.inl fv)))]) hP hD [0, 1, 2, 3] (by decide) rfl
                                                exact ih11 (i11 + 1) f1_11 H _ ls (by omega) hf0_11 (Mi.no hv0_11 (by omega) (fun q => c81 q.1)) hP9 hD9 hS (lv_sub hl [0, 1, 2, 3] rfl)
                                              · skip
                                                refine lv_aload_n hx hb dX5_markKeywords_40 rfl (lv_at hl 3 rfl) ?_
                                                refine va_get (D := D) (ci := 9) (v := .ref k3) (C := RX5) (T := TX5) (N := 4) hx hb hts inX5 hown hK hP 0 rfl rfl 2 (by decide) (hts (.fieldLink RX5 18 "EscrowDesk$Scanner" "values" "[J") (by decide +kernel)) (fun _ h9 => h9) rfl dX5_markKeywords_41 ?_
                                                refine lv_iload hx hb dX5_markKeywords_44 (lv_at hl 0 rfl) ?_
                                                refine va_lald hx hb hK hP 3 1 rfl rfl (vp_in_nI (n := i11) (N := 701) (show i11 < 701 by omega) (by decide)) dX5_markKeywords_46 ?_
                                                refine lv_topl (fun yn82 eyn82 => ?_)
                                                obtain rfl : yn82 = (fv i11) := eyn82.trans (by rw [nI_clamp (by omega)])
                                                refine lv_lload_n hx hb dX5_markKeywords_47 rfl (lv_at hl 1 rfl) ?_
                                                refine W.lcmp hx hb dX5_markKeywords_48 ?_
                                                refine lv_if_ne (tgt := 60) hx hb dX5_markKeywords_49 (by decide) (fun c83 => ?_) (fun c83 => ?_)
                                                · skip
                                                  refine lv_iinc (v := (nI (i11 + 1))) (lv' := [(4, .int (nI (i11 + 1))), (2, .long 17382886), (1, .int 18), (0, .ref r1)]) hx hb dX5_markKeywords_60 hl (k := 0) rfl (nI_1 _) (by decide) rfl (fun ls hl => ?_)
                                                  refine lv_goto (tgt := 20) hx hb dX5_markKeywords_63 (by decide) ?_
                                                  obtain ⟨hP9, hD9⟩ := PDq.sub (ws' := [(oX5 r1 k1 k2 k3 (nI ct)), (k1, .inl (cA 0, 701, .inl f1_11)), (k2, .inl (cA 0, 701, .inl ft)), (k3, .inl (cA 1, 701, .inr (.inl fv)))]) hP hD [0, 1, 2, 3] (by decide) rfl
                                                  exact ih11 (i11 + 1) f1_11 H _ ls (by omega) hf0_11 (Mi.nox hv0_11 (by omega) c83 (by decide)) hP9 hD9 hS (lv_sub hl [0, 1, 2, 3] rfl)
                                                · skip
                                                  refine lv_aload_n hx hb dX5_markKeywords_52 rfl (lv_at hl 3 rfl) ?_
                                                  refine va_get (D := D) (ci := 9) (v := .ref k1) (C := RX5) (T := TX5) (N := 4) hx hb hts inX5 hown hK hP 0 rfl rfl 0 (by decide) (hts (.fieldLink RX5 9 "EscrowDesk$Scanner" "kinds" "[I") (by decide +kernel)) (fun _ h9 => h9) rfl dX5_markKeywords_53 ?_
                                                  refine lv_iload hx hb dX5_markKeywords_56 (lv_at hl 0 rfl) ?_
                                                  refine lv_iload_n hx hb dX5_markKeywords_58 rfl (lv_at hl 2 rfl) ?_
                                                  refine va_iast hx hb hK hP hD hS 1 0 rfl rfl (vp_in_nI (n := i11) (N := 701) (show i11 < 701 by omega) (by decide)) dX5_markKeywords_59 (fun H locs hP hD hS => ?_)
                                                  obtain ⟨hP, hD⟩ : PDq D A [(oX5 r1 k1 k2 k3 (nI ct)), (k1, .inl (cA 0, 701, .inl (upd f1_11 (((nI i11)).toNatClampNeg) 18))), (k2, .inl (cA 0, 701, .inl ft)), (k3, .inl (cA 1, 701, .inr (.inl fv)))] H := ⟨hP, hD⟩
                                                  have hn85 : Upp i11 18 f1_11 (upd f1_11 (((nI i11)).toNatClampNeg) 18) := Upp.of (by omega)
                                                  have hn86 : Rdd (upd f1_11 (((nI i11)).toNatClampNeg) 18) := rfl
                                                  generalize (upd f1_11 (((nI i11)).toNatClampNeg) 18) = fn84 at hP hD hn85 hn86
                                                  obtain ⟨hP, hD⟩ : PDq D A [(oX5 r1 k1 k2 k3 (nI ct)), (k1, .inl (cA 0, 701, .inl fn84)), (k2, .inl (cA 0, 701, .inl ft)), (k3, .inl (cA 1, 701, .inr (.inl fv)))] H := ⟨hP, hD⟩
                                                  refine lv_iinc (v := (nI (i11 + 1))) (lv' := [(4, .int (nI (i11 + 1))), (2, .long 17382886), (1, .int 18), (0, .ref r1)]) hx hb dX5_markKeywords_60 hl (k := 0) rfl (nI_1 _) (by decide) rfl (fun ls hl => ?_)
                                                  refine lv_goto (tgt := 20) hx hb dX5_markKeywords_63 (by decide) ?_
                                                  obtain ⟨hP9, hD9⟩ := PDq.sub (ws' := [(oX5 r1 k1 k2 k3 (nI ct)), (k1, .inl (cA 0, 701, .inl fn84)), (k2, .inl (cA 0, 701, .inl ft)), (k3, .inl (cA 1, 701, .inr (.inl fv)))]) hP hD [0, 1, 2, 3] (by decide) rfl
                                                  exact ih11 (i11 + 1) fn84 H _ ls (by omega) hn86 (Mi.yesx hv0_11 (by omega) c81 c83 (by decide) (by decide) hn85) hP9 hD9 hS (lv_sub hl [0, 1, 2, 3] rfl)
                                          obtain ⟨hP9, hD9⟩ := PDq.sub (ws' := [(oX5 r1 k1 k2 k3 (nI ct)), (k1, .inl (cA 0, 701, .inl f1_10)), (k2, .inl (cA 0, 701, .inl ft)), (k3, .inl (cA 1, 701, .inr (.inl fv)))]) hP hD [0, 1, 2, 3] (by decide) rfl
                                          exact loop11 (ct - 0) 0 f1_10 _ _ ls (by omega) hf0_10 (Mk.mi (Mi.mk hv0_10)) hP9 hD9 hS (lv_sub hl [0, 1, 2, 3] rfl)
                                        | succ n10 ih10 =>
                                          intro i10 f1_10 H locs ls hi10 hf0_10 hv0_10 hP hD hS hl
                                          refine lv_iload hx hb dX5_markKeywords_20 (lv_at hl 0 rfl) ?_
                                          refine lv_aload_n hx hb dX5_markKeywords_22 rfl (lv_at hl 3 rfl) ?_
                                          refine va_get (D := D) (ci := 9) (v := .int (nI ct)) (C := RX5) (T := TX5) (N := 4) hx hb hts inX5 hown hK hP 0 rfl rfl 3 (by decide) (hts (.fieldLink RX5 22 "EscrowDesk$Scanner" "count" "I") (by decide +kernel)) (fun _ h9 => h9) rfl dX5_markKeywords_23 ?_
                                          refine lv_icmp_ge (tgt := 66) hx hb dX5_markKeywords_26 (by decide) (fun c9 => absurd c9 (nI_ge (a := i10) (b := ct) (show i10 < ct by omega) (by omega))) (fun c87 => ?_)
                                          refine lv_aload_n hx hb dX5_markKeywords_29 rfl (lv_at hl 3 rfl) ?_
                                          refine va_get (D := D) (ci := 9) (v := .ref k1) (C := RX5) (T := TX5) (N := 4) hx hb hts inX5 hown hK hP 0 rfl rfl 0 (by decide) (hts (.fieldLink RX5 9 "EscrowDesk$Scanner" "kinds" "[I") (by decide +kernel)) (fun _ h9 => h9) rfl dX5_markKeywords_30 ?_
                                          refine lv_iload hx hb dX5_markKeywords_33 (lv_at hl 0 rfl) ?_
                                          refine va_iald hx hb hK hP 1 0 rfl rfl (vp_in_nI (n := i10) (N := 701) (show i10 < 701 by omega) (by decide)) dX5_markKeywords_35 ?_
                                          refine lv_topi (fun yn88 eyn88 => ?_)
                                          obtain rfl : yn88 = (f1_10 i10) := eyn88.trans (by rw [nI_clamp (by omega)])
                                          refine lv_iconst (v := 4) hx hb dX5_markKeywords_36 (by decide) ?_
                                          refine lv_icmp_ne (tgt := 60) hx hb dX5_markKeywords_37 (by decide) (fun c89 => ?_) (fun c89 => ?_)
                                          · skip
                                            refine lv_iinc (v := (nI (i10 + 1))) (lv' := [(4, .int (nI (i10 + 1))), (2, .long 4153), (1, .int 17), (0, .ref r1)]) hx hb dX5_markKeywords_60 hl (k := 0) rfl (nI_1 _) (by decide) rfl (fun ls hl => ?_)
                                            refine lv_goto (tgt := 20) hx hb dX5_markKeywords_63 (by decide) ?_
                                            obtain ⟨hP9, hD9⟩ := PDq.sub (ws' := [(oX5 r1 k1 k2 k3 (nI ct)), (k1, .inl (cA 0, 701, .inl f1_10)), (k2, .inl (cA 0, 701, .inl ft)), (k3, .inl (cA 1, 701, .inr (.inl fv)))]) hP hD [0, 1, 2, 3] (by decide) rfl
                                            exact ih10 (i10 + 1) f1_10 H _ ls (by omega) hf0_10 (Mi.no hv0_10 (by omega) (fun q => c89 q.1)) hP9 hD9 hS (lv_sub hl [0, 1, 2, 3] rfl)
                                          · skip
                                            refine lv_aload_n hx hb dX5_markKeywords_40 rfl (lv_at hl 3 rfl) ?_
                                            refine va_get (D := D) (ci := 9) (v := .ref k3) (C := RX5) (T := TX5) (N := 4) hx hb hts inX5 hown hK hP 0 rfl rfl 2 (by decide) (hts (.fieldLink RX5 18 "EscrowDesk$Scanner" "values" "[J") (by decide +kernel)) (fun _ h9 => h9) rfl dX5_markKeywords_41 ?_
                                            refine lv_iload hx hb dX5_markKeywords_44 (lv_at hl 0 rfl) ?_
                                            refine va_lald hx hb hK hP 3 1 rfl rfl (vp_in_nI (n := i10) (N := 701) (show i10 < 701 by omega) (by decide)) dX5_markKeywords_46 ?_
                                            refine lv_topl (fun yn90 eyn90 => ?_)
                                            obtain rfl : yn90 = (fv i10) := eyn90.trans (by rw [nI_clamp (by omega)])
                                            refine lv_lload_n hx hb dX5_markKeywords_47 rfl (lv_at hl 1 rfl) ?_
                                            refine W.lcmp hx hb dX5_markKeywords_48 ?_
                                            refine lv_if_ne (tgt := 60) hx hb dX5_markKeywords_49 (by decide) (fun c91 => ?_) (fun c91 => ?_)
                                            · skip
                                              refine lv_iinc (v := (nI (i10 + 1))) (lv' := [(4, .int (nI (i10 + 1))), (2, .long 4153), (1, .int 17), (0, .ref r1)]) hx hb dX5_markKeywords_60 hl (k := 0) rfl (nI_1 _) (by decide) rfl (fun ls hl => ?_)
                                              refine lv_goto (tgt := 20) hx hb dX5_markKeywords_63 (by decide) ?_
                                              obtain ⟨hP9, hD9⟩ := PDq.sub (ws' := [(oX5 r1 k1 k2 k3 (nI ct)), (k1, .inl (cA 0, 701, .inl f1_10)), (k2, .inl (cA 0, 701, .inl ft)), (k3, .inl (cA 1, 701, .inr (.inl fv)))]) hP hD [0, 1, 2, 3] (by decide) rfl
                                              exact ih10 (i10 + 1) f1_10 H _ ls (by omega) hf0_10 (Mi.nox hv0_10 (by omega) c91 (by decide)) hP9 hD9 hS (lv_sub hl [0, 1, 2, 3] rfl)
                                            · skip
                                              refine lv_aload_n hx hb dX5_markKeywords_52 rfl (lv_at hl 3 rfl) ?_
                                              refine va_get (D := D) (ci := 9) (v := .ref k1) (C := RX5) (T := TX5) (N := 4) hx hb hts inX5 hown hK hP 0 rfl rfl 0 (by decide) (hts (.fieldLink RX5 9 "EscrowDesk$Scanner" "kinds" "[I") (by decide +kernel)) (fun _ h9 => h9) rfl dX5_markKeywords_53 ?_
                                              refine lv_iload hx hb dX5_markKeywords_56 (lv_at hl 0 rfl) ?_
                                              refine lv_iload_n hx hb dX5_markKeywords_58 rfl (lv_at hl 2 rfl) ?_
                                              refine va_iast hx hb hK hP hD hS 1 0 rfl rfl (vp_in_nI (n := i10) (N := 701) (show i10 < 701 by omega) (by decide)) dX5_markKeywords_59 (fun H locs hP hD hS => ?_)
                                              obtain ⟨hP, hD⟩ : PDq D A [(oX5 r1 k1 k2 k3 (nI ct)), (k1, .inl (cA 0, 701, .inl (upd f1_10 (((nI i10)).toNatClampNeg) 17))), (k2, .inl (cA 0, 701, .inl ft)), (k3, .inl (cA 1, 701, .inr (.inl fv)))] H := ⟨hP, hD⟩
                                              have hn93 : Upp i10 17 f1_10 (upd f1_10 (((nI i10)).toNatClampNeg) 17) := Upp.of (by omega)
                                              have hn94 : Rdd (upd f1_10 (((nI i10)).toNatClampNeg) 17) := rfl
                                              generalize (upd f1_10 (((nI i10)).toNatClampNeg) 17) = fn92 at hP hD hn93 hn94
                                              obtain ⟨hP, hD⟩ : PDq D A [(oX5 r1 k1 k2 k3 (nI ct)), (k1, .inl (cA 0, 701, .inl fn92)), (k2, .inl (cA 0, 701, .inl ft)), (k3, .inl (cA 1, 701, .inr (.inl fv)))] H := ⟨hP, hD⟩
                                              refine lv_iinc (v := (nI (i10 + 1))) (lv' := [(4, .int (nI (i10 + 1))), (2, .long 4153), (1, .int 17), (0, .ref r1)]) hx hb dX5_markKeywords_60 hl (k := 0) rfl (nI_1 _) (by decide) rfl (fun ls hl => ?_)
                                              refine lv_goto (tgt := 20) hx hb dX5_markKeywords_63 (by decide) ?_
                                              obtain ⟨hP9, hD9⟩ := PDq.sub (ws' := [(oX5 r1 k1 k2 k3 (nI ct)), (k1, .inl (cA 0, 701, .inl fn92)), (k2, .inl (cA 0, 701, .inl ft)), (k3, .inl (cA 1, 701, .inr (.inl fv)))]) hP hD [0, 1, 2, 3] (by decide) rfl
                                              exact ih10 (i10 + 1) fn92 H _ ls (by omega) hn94 (Mi.yesx hv0_10 (by omega) c89 c91 (by decide) (by decide) hn93) hP9 hD9 hS (lv_sub hl [0, 1, 2, 3] rfl)
                                      obtain ⟨hP9, hD9⟩ := PDq.sub (ws' := [(oX5 r1 k1 k2 k3 (nI ct)), (k1, .inl (cA 0, 701, .inl f1_9)), (k2, .inl (cA 0, 701, .inl ft)), (k3, .inl (cA 1, 701, .inr (.inl fv)))]) hP hD [0, 1, 2, 3] (by decide) rfl
                                      exact loop10 (ct - 0) 0 f1_9 _ _ ls (by omega) hf0_9 (Mk.mi (Mi.mk hv0_9)) hP9 hD9 hS (lv_sub hl [0, 1, 2, 3] rfl)
                                    | succ n9 ih9 =>
                                      intro i9 f1_9 H locs ls hi9 hf0_9 hv0_9 hP hD hS hl
                                      refine lv_iload hx hb dX5_markKeywords_20 (lv_at hl 0 rfl) ?_
                                      refine lv_aload_n hx hb dX5_markKeywords_22 rfl (lv_at hl 3 rfl) ?_
                                      refine va_get (D := D) (ci := 9) (v := .int (nI ct)) (C := RX5) (T := TX5) (N := 4) hx hb hts inX5 hown hK hP 0 rfl rfl 3 (by decide) (hts (.fieldLink RX5 22 "EscrowDesk$Scanner" "count" "I") (by decide +kernel)) (fun _ h9 => h9) rfl dX5_markKeywords_23 ?_
                                      refine lv_icmp_ge (tgt := 66) hx hb dX5_markKeywords_26 (by decide) (fun c9 => absurd c9 (nI_ge (a := i9) (b := ct) (show i9 < ct by omega) (by omega))) (fun c95 => ?_)
                                      refine lv_aload_n hx hb dX5_markKeywords_29 rfl (lv_at hl 3 rfl) ?_
                                      refine va_get (D := D) (ci := 9) (v := .ref k1) (C := RX5) (T := TX5) (N := 4) hx hb hts inX5 hown hK hP 0 rfl rfl 0 (by decide) (hts (.fieldLink RX5 9 "EscrowDesk$Scanner" "kinds" "[I") (by decide +kernel)) (fun _ h9 => h9) rfl dX5_markKeywords_30 ?_
                                      refine lv_iload hx hb dX5_markKeywords_33 (lv_at hl 0 rfl) ?_
                                      refine va_iald hx hb hK hP 1 0 rfl rfl (vp_in_nI (n := i9) (N := 701) (show i9 < 701 by omega) (by decide)) dX5_markKeywords_35 ?_
                                      refine lv_topi (fun yn96 eyn96 => ?_)
                                      obtain rfl : yn96 = (f1_9 i9) := eyn96.trans (by rw [nI_clamp (by omega)])
                                      refine lv_iconst (v := 4) hx hb dX5_markKeywords_36 (by decide) ?_
                                      refine lv_icmp_ne (tgt := 60) hx hb dX5_markKeywords_37 (by decide) (fun c97 => ?_) (fun c97 => ?_)
                                      · skip
                                        refine lv_iinc (v := (nI (i9 + 1))) (lv' := [(4, .int (nI (i9 + 1))), (2, .long 14836), (1, .int 16), (0, .ref r1)]) hx hb dX5_markKeywords_60 hl (k := 0) rfl (nI_1 _) (by decide) rfl (fun ls hl => ?_)
                                        refine lv_goto (tgt := 20) hx hb dX5_markKeywords_63 (by decide) ?_
                                        obtain ⟨hP9, hD9⟩ := PDq.sub (ws' := [(oX5 r1 k1 k2 k3 (nI ct)), (k1, .inl (cA 0, 701, .inl f1_9)), (k2, .inl (cA 0, 701, .inl ft)), (k3, .inl (cA 1, 701, .inr (.inl fv)))]) hP hD [0, 1, 2, 3] (by decide) rfl
                                        exact ih9 (i9 + 1) f1_9 H _ ls (by omega) hf0_9 (Mi.no hv0_9 (by omega) (fun q => c97 q.1)) hP9 hD9 hS (lv_sub hl [0, 1, 2, 3] rfl)
                                      · skip
                                        refine lv_aload_n hx hb dX5_markKeywords_40 rfl (lv_at hl 3 rfl) ?_
                                        refine va_get (D := D) (ci := 9) (v := .ref k3) (C := RX5) (T := TX5) (N := 4) hx hb hts inX5 hown hK hP 0 rfl rfl 2 (by decide) (hts (.fieldLink RX5 18 "EscrowDesk$Scanner" "values" "[J") (by decide +kernel)) (fun _ h9 => h9) rfl dX5_markKeywords_41 ?_
                                        refine lv_iload hx hb dX5_markKeywords_44 (lv_at hl 0 rfl) ?_
                                        refine va_lald hx hb hK hP 3 1 rfl rfl (vp_in_nI (n := i9) (N := 701) (show i9 < 701 by omega) (by decide)) dX5_markKeywords_46 ?_
                                        refine lv_topl (fun yn98 eyn98 => ?_)
                                        obtain rfl : yn98 = (fv i9) := eyn98.trans (by rw [nI_clamp (by omega)])
                                        refine lv_lload_n hx hb dX5_markKeywords_47 rfl (lv_at hl 1 rfl) ?_
                                        refine W.lcmp hx hb dX5_markKeywords_48 ?_
                                        refine lv_if_ne (tgt := 60) hx hb dX5_markKeywords_49 (by decide) (fun c99 => ?_) (fun c99 => ?_)
                                        · skip
                                          refine lv_iinc (v := (nI (i9 + 1))) (lv' := [(4, .int (nI (i9 + 1))), (2, .long 14836), (1, .int 16), (0, .ref r1)]) hx hb dX5_markKeywords_60 hl (k := 0) rfl (nI_1 _) (by decide) rfl (fun ls hl => ?_)
                                          refine lv_goto (tgt := 20) hx hb dX5_markKeywords_63 (by decide) ?_
                                          obtain ⟨hP9, hD9⟩ := PDq.sub (ws' := [(oX5 r1 k1 k2 k3 (nI ct)), (k1, .inl (cA 0, 701, .inl f1_9)), (k2, .inl (cA 0, 701, .inl ft)), (k3, .inl (cA 1, 701, .inr (.inl fv)))]) hP hD [0, 1, 2, 3] (by decide) rfl
                                          exact ih9 (i9 + 1) f1_9 H _ ls (by omega) hf0_9 (Mi.nox hv0_9 (by omega) c99 (by decide)) hP9 hD9 hS (lv_sub hl [0, 1, 2, 3] rfl)
                                        · skip
                                          refine lv_aload_n hx hb dX5_markKeywords_52 rfl (lv_at hl 3 rfl) ?_
                                          refine va_get (D := D) (ci := 9) (v := .ref k1) (C := RX5) (T := TX5) (N := 4) hx hb hts inX5 hown hK hP 0 rfl rfl 0 (by decide) (hts (.fieldLink RX5 9 "EscrowDesk$Scanner" "kinds" "[I") (by decide +kernel)) (fun _ h9 => h9) rfl dX5_markKeywords_53 ?_
                                          refine lv_iload hx hb dX5_markKeywords_56 (lv_at hl 0 rfl) ?_
                                          refine lv_iload_n hx hb dX5_markKeywords_58 rfl (lv_at hl 2 rfl) ?_
                                          refine va_iast hx hb hK hP hD hS 1 0 rfl rfl (vp_in_nI (n := i9) (N := 701) (show i9 < 701 by omega) (by decide)) dX5_markKeywords_59 (fun H locs hP hD hS => ?_)
                                          obtain ⟨hP, hD⟩ : PDq D A [(oX5 r1 k1 k2 k3 (nI ct)), (k1, .inl (cA 0, 701, .inl (upd f1_9 (((nI i9)).toNatClampNeg) 16))), (k2, .inl (cA 0, 701, .inl ft)), (k3, .inl (cA 1, 701, .inr (.inl fv)))] H := ⟨hP, hD⟩
                                          have hn101 : Upp i9 16 f1_9 (upd f1_9 (((nI i9)).toNatClampNeg) 16) := Upp.of (by omega)
                                          have hn102 : Rdd (upd f1_9 (((nI i9)).toNatClampNeg) 16) := rfl
                                          generalize (upd f1_9 (((nI i9)).toNatClampNeg) 16) = fn100 at hP hD hn101 hn102
                                          obtain ⟨hP, hD⟩ : PDq D A [(oX5 r1 k1 k2 k3 (nI ct)), (k1, .inl (cA 0, 701, .inl fn100)), (k2, .inl (cA 0, 701, .inl ft)), (k3, .inl (cA 1, 701, .inr (.inl fv)))] H := ⟨hP, hD⟩
                                          refine lv_iinc (v := (nI (i9 + 1))) (lv' := [(4, .int (nI (i9 + 1))), (2, .long 14836), (1, .int 16), (0, .ref r1)]) hx hb dX5_markKeywords_60 hl (k := 0) rfl (nI_1 _) (by decide) rfl (fun ls hl => ?_)
                                          refine lv_goto (tgt := 20) hx hb dX5_markKeywords_63 (by decide) ?_
                                          obtain ⟨hP9, hD9⟩ := PDq.sub (ws' := [(oX5 r1 k1 k2 k3 (nI ct)), (k1, .inl (cA 0, 701, .inl fn100)), (k2, .inl (cA 0, 701, .inl ft)), (k3, .inl (cA 1, 701, .inr (.inl fv)))]) hP hD [0, 1, 2, 3] (by decide) rfl
                                          exact ih9 (i9 + 1) fn100 H _ ls (by omega) hn102 (Mi.yesx hv0_9 (by omega) c97 c99 (by decide) (by decide) hn101) hP9 hD9 hS (lv_sub hl [0, 1, 2, 3] rfl)
                                  obtain ⟨hP9, hD9⟩ := PDq.sub (ws' := [(oX5 r1 k1 k2 k3 (nI ct)), (k1, .inl (cA 0, 701, .inl f1_8)), (k2, .inl (cA 0, 701, .inl ft)), (k3, .inl (cA 1, 701, .inr (.inl fv)))]) hP hD [0, 1, 2, 3] (by decide) rfl
                                  exact loop9 (ct - 0) 0 f1_8 _ _ ls (by omega) hf0_8 (Mk.mi (Mi.mk hv0_8)) hP9 hD9 hS (lv_sub hl [0, 1, 2, 3] rfl)
                                | succ n8 ih8 =>
                                  intro i8 f1_8 H locs ls hi8 hf0_8 hv0_8 hP hD hS hl
                                  refine lv_iload hx hb dX5_markKeywords_20 (lv_at hl 0 rfl) ?_
                                  refine lv_aload_n hx hb dX5_markKeywords_22 rfl (lv_at hl 3 rfl) ?_
                                  refine va_get (D := D) (ci := 9) (v := .int (nI ct)) (C := RX5) (T := TX5) (N := 4) hx hb hts inX5 hown hK hP 0 rfl rfl 3 (by decide) (hts (.fieldLink RX5 22 "EscrowDesk$Scanner" "count" "I") (by decide +kernel)) (fun _ h9 => h9) rfl dX5_markKeywords_23 ?_
                                  refine lv_icmp_ge (tgt := 66) hx hb dX5_markKeywords_26 (by decide) (fun c9 => absurd c9 (nI_ge (a := i8) (b := ct) (show i8 < ct by omega) (by omega))) (fun c103 => ?_)
                                  refine lv_aload_n hx hb dX5_markKeywords_29 rfl (lv_at hl 3 rfl) ?_
                                  refine va_get (D := D) (ci := 9) (v := .ref k1) (C := RX5) (T := TX5) (N := 4) hx hb hts inX5 hown hK hP 0 rfl rfl 0 (by decide) (hts (.fieldLink RX5 9 "EscrowDesk$Scanner" "kinds" "[I") (by decide +kernel)) (fun _ h9 => h9) rfl dX5_markKeywords_30 ?_
                                  refine lv_iload hx hb dX5_markKeywords_33 (lv_at hl 0 rfl) ?_
                                  refine va_iald hx hb hK hP 1 0 rfl rfl (vp_in_nI (n := i8) (N := 701) (show i8 < 701 by omega) (by decide)) dX5_markKeywords_35 ?_
                                  refine lv_topi (fun yn104 eyn104 => ?_)
                                  obtain rfl : yn104 = (f1_8 i8) := eyn104.trans (by rw [nI_clamp (by omega)])
                                  refine lv_iconst (v := 4) hx hb dX5_markKeywords_36 (by decide) ?_
                                  refine lv_icmp_ne (tgt := 60) hx hb dX5_markKeywords_37 (by decide) (fun c105 => ?_) (fun c105 => ?_)
                                  · skip
                                    refine lv_iinc (v := (nI (i8 + 1))) (lv' := [(4, .int (nI (i8 + 1))), (2, .long 1476), (1, .int 15), (0, .ref r1)]) hx hb dX5_markKeywords_60 hl (k := 0) rfl (nI_1 _) (by decide) rfl (fun ls hl => ?_)
                                    refine lv_goto (tgt := 20) hx hb dX5_markKeywords_63 (by decide) ?_
                                    obtain ⟨hP9, hD9⟩ := PDq.sub (ws' := [(oX5 r1 k1 k2 k3 (nI ct)), (k1, .inl (cA 0, 701, .inl f1_8)), (k2, .inl (cA 0, 701, .inl ft)), (k3, .inl (cA 1, 701, .inr (.inl fv)))]) hP hD [0, 1, 2, 3] (by decide) rfl
                                    exact ih8 (i8 + 1) f1_8 H _ ls (by omega) hf0_8 (Mi.no hv0_8 (by omega) (fun q => c105 q.1)) hP9 hD9 hS (lv_sub hl [0, 1, 2, 3] rfl)
                                  · skip
                                    refine lv_aload_n hx hb dX5_markKeywords_40 rfl (lv_at hl 3 rfl) ?_
                                    refine va_get (D := D) (ci := 9) (v := .ref k3) (C := RX5) (T := TX5) (N := 4) hx hb hts inX5 hown hK hP 0 rfl rfl 2 (by decide) (hts (.fieldLink RX5 18 "EscrowDesk$Scanner" "values" "[J") (by decide +kernel)) (fun _ h9 => h9) rfl dX5_markKeywords_41 ?_
                                    refine lv_iload hx hb dX5_markKeywords_44 (lv_at hl 0 rfl) ?_
                                    refine va_lald hx hb hK hP 3 1 rfl rfl (vp_in_nI (n := i8) (N := 701) (show i8 < 701 by omega) (by decide)) dX5_markKeywords_46 ?_
                                    refine lv_topl (fun yn106 eyn106 => ?_)
                                    obtain rfl : yn106 = (fv i8) := eyn106.trans (by rw [nI_clamp (by omega)])
                                    refine lv_lload_n hx hb dX5_markKeywords_47 rfl (lv_at hl 1 rfl) ?_
                                    refine W.lcmp hx hb dX5_markKeywords_48 ?_
                                    refine lv_if_ne (tgt := 60) hx hb dX5_markKeywords_49 (by decide) (fun c107 => ?_) (fun c107 => ?_)
                                    · skip
                                      refine lv_iinc (v := (nI (i8 + 1))) (lv' := [(4, .int (nI (i8 + 1))), (2, .long 1476), (1, .int 15), (0, .ref r1)]) hx hb dX5_markKeywords_60 hl (k := 0) rfl (nI_1 _) (by decide) rfl (fun ls hl => ?_)
                                      refine lv_goto (tgt := 20) hx hb dX5_markKeywords_63 (by decide) ?_
                                      obtain ⟨hP9, hD9⟩ := PDq.sub (ws' := [(oX5 r1 k1 k2 k3 (nI ct)), (k1, .inl (cA 0, 701, .inl f1_8)), (k2, .inl (cA 0, 701, .inl ft)), (k3, .inl (cA 1, 701, .inr (.inl fv)))]) hP hD [0, 1, 2, 3] (by decide) rfl
                                      exact ih8 (i8 + 1) f1_8 H _ ls (by omega) hf0_8 (Mi.nox hv0_8 (by omega) c107 (by decide)) hP9 hD9 hS (lv_sub hl [0, 1, 2, 3] rfl)
                                    · skip
                                      refine lv_aload_n hx hb dX5_markKeywords_52 rfl (lv_at hl 3 rfl) ?_
                                      refine va_get (D := D) (ci := 9) (v := .ref k1) (C := RX5) (T := TX5) (N := 4) hx hb hts inX5 hown hK hP 0 rfl rfl 0 (by decide) (hts (.fieldLink RX5 9 "EscrowDesk$Scanner" "kinds" "[I") (by decide +kernel)) (fun _ h9 => h9) rfl dX5_markKeywords_53 ?_
                                      refine lv_iload hx hb dX5_markKeywords_56 (lv_at hl 0 rfl) ?_
                                      refine lv_iload_n hx hb dX5_markKeywords_58 rfl (lv_at hl 2 rfl) ?_
                                      refine va_iast hx hb hK hP hD hS 1 0 rfl rfl (vp_in_nI (n := i8) (N := 701) (show i8 < 701 by omega) (by decide)) dX5_markKeywords_59 (fun H locs hP hD hS => ?_)
                                      obtain ⟨hP, hD⟩ : PDq D A [(oX5 r1 k1 k2 k3 (nI ct)), (k1, .inl (cA 0, 701, .inl (upd f1_8 (((nI i8)).toNatClampNeg) 15))), (k2, .inl (cA 0, 701, .inl ft)), (k3, .inl (cA 1, 701, .inr (.inl fv)))] H := ⟨hP, hD⟩
                                      have hn109 : Upp i8 15 f1_8 (upd f1_8 (((nI i8)).toNatClampNeg) 15) := Upp.of (by omega)
                                      have hn110 : Rdd (upd f1_8 (((nI i8)).toNatClampNeg) 15) := rfl
                                      generalize (upd f1_8 (((nI i8)).toNatClampNeg) 15) = fn108 at hP hD hn109 hn110
                                      obtain ⟨hP, hD⟩ : PDq D A [(oX5 r1 k1 k2 k3 (nI ct)), (k1, .inl (cA 0, 701, .inl fn108)), (k2, .inl (cA 0, 701, .inl ft)), (k3, .inl (cA 1, 701, .inr (.inl fv)))] H := ⟨hP, hD⟩
                                      refine lv_iinc (v := (nI (i8 + 1))) (lv' := [(4, .int (nI (i8 + 1))), (2, .long 1476), (1, .int 15), (0, .ref r1)]) hx hb dX5_markKeywords_60 hl (k := 0) rfl (nI_1 _) (by decide) rfl (fun ls hl => ?_)
                                      refine lv_goto (tgt := 20) hx hb dX5_markKeywords_63 (by decide) ?_
                                      obtain ⟨hP9, hD9⟩ := PDq.sub (ws' := [(oX5 r1 k1 k2 k3 (nI ct)), (k1, .inl (cA 0, 701, .inl fn108)), (k2, .inl (cA 0, 701, .inl ft)), (k3, .inl (cA 1, 701, .inr (.inl fv)))]) hP hD [0, 1, 2, 3] (by decide) rfl
                                      exact ih8 (i8 + 1) fn108 H _ ls (by omega) hn110 (Mi.yesx hv0_8 (by omega) c105 c107 (by decide) (by decide) hn109) hP9 hD9 hS (lv_sub hl [0, 1, 2, 3] rfl)
                              obtain ⟨hP9, hD9⟩ := PDq.sub (ws' := [(oX5 r1 k1 k2 k3 (nI ct)), (k1, .inl (cA 0, 701, .inl f1_7)), (k2, .inl (cA 0, 701, .inl ft)), (k3, .inl (cA 1, 701, .inr (.inl fv)))]) hP hD [0, 1, 2, 3] (by decide) rfl
                              exact loop8 (ct - 0) 0 f1_7 _ _ ls (by omega) hf0_7 (Mk.mi (Mi.mk hv0_7)) hP9 hD9 hS (lv_sub hl [0, 1, 2, 3] rfl)
                            | succ n7 ih7 =>
                              intro i7 f1_7 H locs ls hi7 hf0_7 hv0_7 hP hD hS hl
                              refine lv_iload hx hb dX5_markKeywords_20 (lv_at hl 0 rfl) ?_
                              refine lv_aload_n hx hb dX5_markKeywords_22 rfl (lv_at hl 3 rfl) ?_
                              refine va_get (D := D) (ci := 9) (v := .int (nI ct)) (C := RX5) (T := TX5) (N := 4) hx hb hts inX5 hown hK hP 0 rfl rfl 3 (by decide) (hts (.fieldLink RX5 22 "EscrowDesk$Scanner" "count" "I") (by decide +kernel)) (fun _ h9 => h9) rfl dX5_markKeywords_23 ?_
                              refine lv_icmp_ge (tgt := 66) hx hb dX5_markKeywords_26 (by decide) (fun c9 => absurd c9 (nI_ge (a := i7) (b := ct) (show i7 < ct by omega) (by omega))) (fun c111 => ?_)
                              refine lv_aload_n hx hb dX5_markKeywords_29 rfl (lv_at hl 3 rfl) ?_
                              refine va_get (D := D) (ci := 9) (v := .ref k1) (C := RX5) (T := TX5) (N := 4) hx hb hts inX5 hown hK hP 0 rfl rfl 0 (by decide) (hts (.fieldLink RX5 9 "EscrowDesk$Scanner" "kinds" "[I") (by decide +kernel)) (fun _ h9 => h9) rfl dX5_markKeywords_30 ?_
                              refine lv_iload hx hb dX5_markKeywords_33 (lv_at hl 0 rfl) ?_
                              refine va_iald hx hb hK hP 1 0 rfl rfl (vp_in_nI (n := i7) (N := 701) (show i7 < 701 by omega) (by decide)) dX5_markKeywords_35 ?_
                              refine lv_topi (fun yn112 eyn112 => ?_)
                              obtain rfl : yn112 = (f1_7 i7) := eyn112.trans (by rw [nI_clamp (by omega)])
                              refine lv_iconst (v := 4) hx hb dX5_markKeywords_36 (by decide) ?_
                              refine lv_icmp_ne (tgt := 60) hx hb dX5_markKeywords_37 (by decide) (fun c113 => ?_) (fun c113 => ?_)
                              · skip
                                refine lv_iinc (v := (nI (i7 + 1))) (lv' := [(4, .int (nI (i7 + 1))), (2, .long 498), (1, .int 14), (0, .ref r1)]) hx hb dX5_markKeywords_60 hl (k := 0) rfl (nI_1 _) (by decide) rfl (fun ls hl => ?_)
                                refine lv_goto (tgt := 20) hx hb dX5_markKeywords_63 (by decide) ?_
                                obtain ⟨hP9, hD9⟩ := PDq.sub (ws' := [(oX5 r1 k1 k2 k3 (nI ct)), (k1, .inl (cA 0, 701, .inl f1_7)), (k2, .inl (cA 0, 701, .inl ft)), (k3, .inl (cA 1, 701, .inr (.inl fv)))]) hP hD [0, 1, 2, 3] (by decide) rfl
                                exact ih7 (i7 + 1) f1_7 H _ ls (by omega) hf0_7 (Mi.no hv0_7 (by omega) (fun q => c113 q.1)) hP9 hD9 hS (lv_sub hl [0, 1, 2, 3] rfl)
                              · skip
                                refine lv_aload_n hx hb dX5_markKeywords_40 rfl (lv_at hl 3 rfl) ?_
                                refine va_get (D := D) (ci := 9) (v := .ref k3) (C := RX5) (T := TX5) (N := 4) hx hb hts inX5 hown hK hP 0 rfl rfl 2 (by decide) (hts (.fieldLink RX5 18 "EscrowDesk$Scanner" "values" "[J") (by decide +kernel)) (fun _ h9 => h9) rfl dX5_markKeywords_41 ?_
                                refine lv_iload hx hb dX5_markKeywords_44 (lv_at hl 0 rfl) ?_
                                refine va_lald hx hb hK hP 3 1 rfl rfl (vp_in_nI (n := i7) (N := 701) (show i7 < 701 by omega) (by decide)) dX5_markKeywords_46 ?_
                                refine lv_topl (fun yn114 eyn114 => ?_)
                                obtain rfl : yn114 = (fv i7) := eyn114.trans (by rw [nI_clamp (by omega)])
                                refine lv_lload_n hx hb dX5_markKeywords_47 rfl (lv_at hl 1 rfl) ?_
                                refine W.lcmp hx hb dX5_markKeywords_48 ?_
                                refine lv_if_ne (tgt := 60) hx hb dX5_markKeywords_49 (by decide) (fun c115 => ?_) (fun c115 => ?_)
                                · skip
                                  refine lv_iinc (v := (nI (i7 + 1))) (lv' := [(4, .int (nI (i7 + 1))), (2, .long 498), (1, .int 14), (0, .ref r1)]) hx hb dX5_markKeywords_60 hl (k := 0) rfl (nI_1 _) (by decide) rfl (fun ls hl => ?_)
                                  refine lv_goto (tgt := 20) hx hb dX5_markKeywords_63 (by decide) ?_
                                  obtain ⟨hP9, hD9⟩ := PDq.sub (ws' := [(oX5 r1 k1 k2 k3 (nI ct)), (k1, .inl (cA 0, 701, .inl f1_7)), (k2, .inl (cA 0, 701, .inl ft)), (k3, .inl (cA 1, 701, .inr (.inl fv)))]) hP hD [0, 1, 2, 3] (by decide) rfl
                                  exact ih7 (i7 + 1) f1_7 H _ ls (by omega) hf0_7 (Mi.nox hv0_7 (by omega) c115 (by decide)) hP9 hD9 hS (lv_sub hl [0, 1, 2, 3] rfl)
                                · skip
                                  refine lv_aload_n hx hb dX5_markKeywords_52 rfl (lv_at hl 3 rfl) ?_
                                  refine va_get (D := D) (ci := 9) (v := .ref k1) (C := RX5) (T := TX5) (N := 4) hx hb hts inX5 hown hK hP 0 rfl rfl 0 (by decide) (hts (.fieldLink RX5 9 "EscrowDesk$Scanner" "kinds" "[I") (by decide +kernel)) (fun _ h9 => h9) rfl dX5_markKeywords_53 ?_
                                  refine lv_iload hx hb dX5_markKeywords_56 (lv_at hl 0 rfl) ?_
                                  refine lv_iload_n hx hb dX5_markKeywords_58 rfl (lv_at hl 2 rfl) ?_
                                  refine va_iast hx hb hK hP hD hS 1 0 rfl rfl (vp_in_nI (n := i7) (N := 701) (show i7 < 701 by omega) (by decide)) dX5_markKeywords_59 (fun H locs hP hD hS => ?_)
                                  obtain ⟨hP, hD⟩ : PDq D A [(oX5 r1 k1 k2 k3 (nI ct)), (k1, .inl (cA 0, 701, .inl (upd f1_7 (((nI i7)).toNatClampNeg) 14))), (k2, .inl (cA 0, 701, .inl ft)), (k3, .inl (cA 1, 701, .inr (.inl fv)))] H := ⟨hP, hD⟩
                                  have hn117 : Upp i7 14 f1_7 (upd f1_7 (((nI i7)).toNatClampNeg) 14) := Upp.of (by omega)
                                  have hn118 : Rdd (upd f1_7 (((nI i7)).toNatClampNeg) 14) := rfl
                                  generalize (upd f1_7 (((nI i7)).toNatClampNeg) 14) = fn116 at hP hD hn117 hn118
                                  obtain ⟨hP, hD⟩ : PDq D A [(oX5 r1 k1 k2 k3 (nI ct)), (k1, .inl (cA 0, 701, .inl fn116)), (k2, .inl (cA 0, 701, .inl ft)), (k3, .inl (cA 1, 701, .inr (.inl fv)))] H := ⟨hP, hD⟩
                                  refine lv_iinc (v := (nI (i7 + 1))) (lv' := [(4, .int (nI (i7 + 1))), (2, .long 498), (1, .int 14), (0, .ref r1)]) hx hb dX5_markKeywords_60 hl (k := 0) rfl (nI_1 _) (by decide) rfl (fun ls hl => ?_)
                                  refine lv_goto (tgt := 20) hx hb dX5_markKeywords_63 (by decide) ?_
                                  obtain ⟨hP9, hD9⟩ := PDq.sub (ws' := [(oX5 r1 k1 k2 k3 (nI ct)), (k1, .inl (cA 0, 701, .inl fn116)), (k2, .inl (cA 0, 701, .inl ft)), (k3, .inl (cA 1, 701, .inr (.inl fv)))]) hP hD [0, 1, 2, 3] (by decide) rfl
                                  exact ih7 (i7 + 1) fn116 H _ ls (by omega) hn118 (Mi.yesx hv0_7 (by omega) c113 c115 (by decide) (by decide) hn117) hP9 hD9 hS (lv_sub hl [0, 1, 2, 3] rfl)
                          obtain ⟨hP9, hD9⟩ := PDq.sub (ws' := [(oX5 r1 k1 k2 k3 (nI ct)), (k1, .inl (cA 0, 701, .inl f1_6)), (k2, .inl (cA 0, 701, .inl ft)), (k3, .inl (cA 1, 701, .inr (.inl fv)))]) hP hD [0, 1, 2, 3] (by decide) rfl
                          exact loop7 (ct - 0) 0 f1_6 _ _ ls (by omega) hf0_6 (Mk.mi (Mi.mk hv0_6)) hP9 hD9 hS (lv_sub hl [0, 1, 2, 3] rfl)
                        | succ n6 ih6 =>
                          intro i6 f1_6 H locs ls hi6 hf0_6 hv0_6 hP hD hS hl
                          refine lv_iload hx hb dX5_markKeywords_20 (lv_at hl 0 rfl) ?_
                          refine lv_aload_n hx hb dX5_markKeywords_22 rfl (lv_at hl 3 rfl) ?_
                          refine va_get (D := D) (ci := 9) (v := .int (nI ct)) (C := RX5) (T := TX5) (N := 4) hx hb hts inX5 hown hK hP 0 rfl rfl 3 (by decide) (hts (.fieldLink RX5 22 "EscrowDesk$Scanner" "count" "I") (by decide +kernel)) (fun _ h9 => h9) rfl dX5_markKeywords_23 ?_
                          refine lv_icmp_ge (tgt := 66) hx hb dX5_markKeywords_26 (by decide) (fun c9 => absurd c9 (nI_ge (a := i6) (b := ct) (show i6 < ct by omega) (by omega))) (fun c119 => ?_)
                          refine lv_aload_n hx hb dX5_markKeywords_29 rfl (lv_at hl 3 rfl) ?_
                          refine va_get (D := D) (ci := 9) (v := .ref k1) (C := RX5) (T := TX5) (N := 4) hx hb hts inX5 hown hK hP 0 rfl rfl 0 (by decide) (hts (.fieldLink RX5 9 "EscrowDesk$Scanner" "kinds" "[I") (by decide +kernel)) (fun _ h9 => h9) rfl dX5_markKeywords_30 ?_
                          refine lv_iload hx hb dX5_markKeywords_33 (lv_at hl 0 rfl) ?_
                          refine va_iald hx hb hK hP 1 0 rfl rfl (vp_in_nI (n := i6) (N := 701) (show i6 < 701 by omega) (by decide)) dX5_markKeywords_35 ?_
                          refine lv_topi (fun yn120 eyn120 => ?_)
                          obtain rfl : yn120 = (f1_6 i6) := eyn120.trans (by rw [nI_clamp (by omega)])
                          refine lv_iconst (v := 4) hx hb dX5_markKeywords_36 (by decide) ?_
                          refine lv_icmp_ne (tgt := 60) hx hb dX5_markKeywords_37 (by decide) (fun c121 => ?_) (fun c121 => ?_)
                          · skip
                            refine lv_iinc (v := (nI (i6 + 1))) (lv' := [(4, .int (nI (i6 + 1))), (2, .long 762030), (1, .int 13), (0, .ref r1)]) hx hb dX5_markKeywords_60 hl (k := 0) rfl (nI_1 _) (by decide) rfl (fun ls hl => ?_)
                            refine lv_goto (tgt := 20) hx hb dX5_markKeywords_63 (by decide) ?_
                            obtain ⟨hP9, hD9⟩ := PDq.sub (ws' := [(oX5 r1 k1 k2 k3 (nI ct)), (k1, .inl (cA 0, 701, .inl f1_6)), (k2, .inl (cA 0, 701, .inl ft)), (k3, .inl (cA 1, 701, .inr (.inl fv)))]) hP hD [0, 1, 2, 3] (by decide) rfl
                            exact ih6 (i6 + 1) f1_6 H _ ls (by omega) hf0_6 (Mi.no hv0_6 (by omega) (fun q => c121 q.1)) hP9 hD9 hS (lv_sub hl [0, 1, 2, 3] rfl)
                          · skip
                            refine lv_aload_n hx hb dX5_markKeywords_40 rfl (lv_at hl 3 rfl) ?_
                            refine va_get (D := D) (ci := 9) (v := .ref k3) (C := RX5) (T := TX5) (N := 4) hx hb hts inX5 hown hK hP 0 rfl rfl 2 (by decide) (hts (.fieldLink RX5 18 "EscrowDesk$Scanner" "values" "[J") (by decide +kernel)) (fun _ h9 => h9) rfl dX5_markKeywords_41 ?_
                            refine lv_iload hx hb dX5_markKeywords_44 (lv_at hl 0 rfl) ?_
                            refine va_lald hx hb hK hP 3 1 rfl rfl (vp_in_nI (n := i6) (N := 701) (show i6 < 701 by omega) (by decide)) dX5_markKeywords_46 ?_
                            refine lv_topl (fun yn122 eyn122 => ?_)
                            obtain rfl : yn122 = (fv i6) := eyn122.trans (by rw [nI_clamp (by omega)])
                            refine lv_lload_n hx hb dX5_markKeywords_47 rfl (lv_at hl 1 rfl) ?_
                            refine W.lcmp hx hb dX5_markKeywords_48 ?_
                            refine lv_if_ne (tgt := 60) hx hb dX5_markKeywords_49 (by decide) (fun c123 => ?_) (fun c123 => ?_)
                            · skip
                              refine lv_iinc (v := (nI (i6 + 1))) (lv' := [(4, .int (nI (i6 + 1))), (2, .long 762030), (1, .int 13), (0, .ref r1)]) hx hb dX5_markKeywords_60 hl (k := 0) rfl (nI_1 _) (by decide) rfl (fun ls hl => ?_)
                              refine lv_goto (tgt := 20) hx hb dX5_markKeywords_63 (by decide) ?_
                              obtain ⟨hP9, hD9⟩ := PDq.sub (ws' := [(oX5 r1 k1 k2 k3 (nI ct)), (k1, .inl (cA 0, 701, .inl f1_6)), (k2, .inl (cA 0, 701, .inl ft)), (k3, .inl (cA 1, 701, .inr (.inl fv)))]) hP hD [0, 1, 2, 3] (by decide) rfl
                              exact ih6 (i6 + 1) f1_6 H _ ls (by omega) hf0_6 (Mi.nox hv0_6 (by omega) c123 (by decide)) hP9 hD9 hS (lv_sub hl [0, 1, 2, 3] rfl)
                            · skip
                              refine lv_aload_n hx hb dX5_markKeywords_52 rfl (lv_at hl 3 rfl) ?_
                              refine va_get (D := D) (ci := 9) (v := .ref k1) (C := RX5) (T := TX5) (N := 4) hx hb hts inX5 hown hK hP 0 rfl rfl 0 (by decide) (hts (.fieldLink RX5 9 "EscrowDesk$Scanner" "kinds" "[I") (by decide +kernel)) (fun _ h9 => h9) rfl dX5_markKeywords_53 ?_
                              refine lv_iload hx hb dX5_markKeywords_56 (lv_at hl 0 rfl) ?_
                              refine lv_iload_n hx hb dX5_markKeywords_58 rfl (lv_at hl 2 rfl) ?_
                              refine va_iast hx hb hK hP hD hS 1 0 rfl rfl (vp_in_nI (n := i6) (N := 701) (show i6 < 701 by omega) (by decide)) dX5_markKeywords_59 (fun H locs hP hD hS => ?_)
                              obtain ⟨hP, hD⟩ : PDq D A [(oX5 r1 k1 k2 k3 (nI ct)), (k1, .inl (cA 0, 701, .inl (upd f1_6 (((nI i6)).toNatClampNeg) 13))), (k2, .inl (cA 0, 701, .inl ft)), (k3, .inl (cA 1, 701, .inr (.inl fv)))] H := ⟨hP, hD⟩
                              have hn125 : Upp i6 13 f1_6 (upd f1_6 (((nI i6)).toNatClampNeg) 13) := Upp.of (by omega)
                              have hn126 : Rdd (upd f1_6 (((nI i6)).toNatClampNeg) 13) := rfl
                              generalize (upd f1_6 (((nI i6)).toNatClampNeg) 13) = fn124 at hP hD hn125 hn126
                              obtain ⟨hP, hD⟩ : PDq D A [(oX5 r1 k1 k2 k3 (nI ct)), (k1, .inl (cA 0, 701, .inl fn124)), (k2, .inl (cA 0, 701, .inl ft)), (k3, .inl (cA 1, 701, .inr (.inl fv)))] H := ⟨hP, hD⟩
                              refine lv_iinc (v := (nI (i6 + 1))) (lv' := [(4, .int (nI (i6 + 1))), (2, .long 762030), (1, .int 13), (0, .ref r1)]) hx hb dX5_markKeywords_60 hl (k := 0) rfl (nI_1 _) (by decide) rfl (fun ls hl => ?_)
                              refine lv_goto (tgt := 20) hx hb dX5_markKeywords_63 (by decide) ?_
                              obtain ⟨hP9, hD9⟩ := PDq.sub (ws' := [(oX5 r1 k1 k2 k3 (nI ct)), (k1, .inl (cA 0, 701, .inl fn124)), (k2, .inl (cA 0, 701, .inl ft)), (k3, .inl (cA 1, 701, .inr (.inl fv)))]) hP hD [0, 1, 2, 3] (by decide) rfl
                              exact ih6 (i6 + 1) fn124 H _ ls (by omega) hn126 (Mi.yesx hv0_6 (by omega) c121 c123 (by decide) (by decide) hn125) hP9 hD9 hS (lv_sub hl [0, 1, 2, 3] rfl)
                      obtain ⟨hP9, hD9⟩ := PDq.sub (ws' := [(oX5 r1 k1 k2 k3 (nI ct)), (k1, .inl (cA 0, 701, .inl f1_5)), (k2, .inl (cA 0, 701, .inl ft)), (k3, .inl (cA 1, 701, .inr (.inl fv)))]) hP hD [0, 1, 2, 3] (by decide) rfl
                      exact loop6 (ct - 0) 0 f1_5 _ _ ls (by omega) hf0_5 (Mk.mi (Mi.mk hv0_5)) hP9 hD9 hS (lv_sub hl [0, 1, 2, 3] rfl)
                    | succ n5 ih5 =>
                      intro i5 f1_5 H locs ls hi5 hf0_5 hv0_5 hP hD hS hl
                      refine lv_iload hx hb dX5_markKeywords_20 (lv_at hl 0 rfl) ?_
                      refine lv_aload_n hx hb dX5_markKeywords_22 rfl (lv_at hl 3 rfl) ?_
                      refine va_get (D := D) (ci := 9) (v := .int (nI ct)) (C := RX5) (T := TX5) (N := 4) hx hb hts inX5 hown hK hP 0 rfl rfl 3 (by decide) (hts (.fieldLink RX5 22 "EscrowDesk$Scanner" "count" "I") (by decide +kernel)) (fun _ h9 => h9) rfl dX5_markKeywords_23 ?_
                      refine lv_icmp_ge (tgt := 66) hx hb dX5_markKeywords_26 (by decide) (fun c9 => absurd c9 (nI_ge (a := i5) (b := ct) (show i5 < ct by omega) (by omega))) (fun c127 => ?_)
                      refine lv_aload_n hx hb dX5_markKeywords_29 rfl (lv_at hl 3 rfl) ?_
                      refine va_get (D := D) (ci := 9) (v := .ref k1) (C := RX5) (T := TX5) (N := 4) hx hb hts inX5 hown hK hP 0 rfl rfl 0 (by decide) (hts (.fieldLink RX5 9 "EscrowDesk$Scanner" "kinds" "[I") (by decide +kernel)) (fun _ h9 => h9) rfl dX5_markKeywords_30 ?_
                      refine lv_iload hx hb dX5_markKeywords_33 (lv_at hl 0 rfl) ?_
                      refine va_iald hx hb hK hP 1 0 rfl rfl (vp_in_nI (n := i5) (N := 701) (show i5 < 701 by omega) (by decide)) dX5_markKeywords_35 ?_
                      refine lv_topi (fun yn128 eyn128 => ?_)
                      obtain rfl : yn128 = (f1_5 i5) := eyn128.trans (by rw [nI_clamp (by omega)])
                      refine lv_iconst (v := 4) hx hb dX5_markKeywords_36 (by decide) ?_
                      refine lv_icmp_ne (tgt := 60) hx hb dX5_markKeywords_37 (by decide) (fun c129 => ?_) (fun c129 => ?_)
                      · skip
                        refine lv_iinc (v := (nI (i5 + 1))) (lv' := [(4, .int (nI (i5 + 1))), (2, .long 14615962074565), (1, .int 12), (0, .ref r1)]) hx hb dX5_markKeywords_60 hl (k := 0) rfl (nI_1 _) (by decide) rfl (fun ls hl => ?_)
                        refine lv_goto (tgt := 20) hx hb dX5_markKeywords_63 (by decide) ?_
                        obtain ⟨hP9, hD9⟩ := PDq.sub (ws' := [(oX5 r1 k1 k2 k3 (nI ct)), (k1, .inl (cA 0, 701, .inl f1_5)), (k2, .inl (cA 0, 701, .inl ft)), (k3, .inl (cA 1, 701, .inr (.inl fv)))]) hP hD [0, 1, 2, 3] (by decide) rfl
                        exact ih5 (i5 + 1) f1_5 H _ ls (by omega) hf0_5 (Mi.no hv0_5 (by omega) (fun q => c129 q.1)) hP9 hD9 hS (lv_sub hl [0, 1, 2, 3] rfl)
                      · skip
                        refine lv_aload_n hx hb dX5_markKeywords_40 rfl (lv_at hl 3 rfl) ?_
                        refine va_get (D := D) (ci := 9) (v := .ref k3) (C := RX5) (T := TX5) (N := 4) hx hb hts inX5 hown hK hP 0 rfl rfl 2 (by decide) (hts (.fieldLink RX5 18 "EscrowDesk$Scanner" "values" "[J") (by decide +kernel)) (fun _ h9 => h9) rfl dX5_markKeywords_41 ?_
                        refine lv_iload hx hb dX5_markKeywords_44 (lv_at hl 0 rfl) ?_
                        refine va_lald hx hb hK hP 3 1 rfl rfl (vp_in_nI (n := i5) (N := 701) (show i5 < 701 by omega) (by decide)) dX5_markKeywords_46 ?_
                        refine lv_topl (fun yn130 eyn130 => ?_)
                        obtain rfl : yn130 = (fv i5) := eyn130.trans (by rw [nI_clamp (by omega)])
                        refine lv_lload_n hx hb dX5_markKeywords_47 rfl (lv_at hl 1 rfl) ?_
                        refine W.lcmp hx hb dX5_markKeywords_48 ?_
                        refine lv_if_ne (tgt := 60) hx hb dX5_markKeywords_49 (by decide) (fun c131 => ?_) (fun c131 => ?_)
                        · skip
                          refine lv_iinc (v := (nI (i5 + 1))) (lv' := [(4, .int (nI (i5 + 1))), (2, .long 14615962074565), (1, .int 12), (0, .ref r1)]) hx hb dX5_markKeywords_60 hl (k := 0) rfl (nI_1 _) (by decide) rfl (fun ls hl => ?_)
                          refine lv_goto (tgt := 20) hx hb dX5_markKeywords_63 (by decide) ?_
                          obtain ⟨hP9, hD9⟩ := PDq.sub (ws' := [(oX5 r1 k1 k2 k3 (nI ct)), (k1, .inl (cA 0, 701, .inl f1_5)), (k2, .inl (cA 0, 701, .inl ft)), (k3, .inl (cA 1, 701, .inr (.inl fv)))]) hP hD [0, 1, 2, 3] (by decide) rfl
                          exact ih5 (i5 + 1) f1_5 H _ ls (by omega) hf0_5 (Mi.nox hv0_5 (by omega) c131 (by decide)) hP9 hD9 hS (lv_sub hl [0, 1, 2, 3] rfl)
                        · skip
                          refine lv_aload_n hx hb dX5_markKeywords_52 rfl (lv_at hl 3 rfl) ?_
                          refine va_get (D := D) (ci := 9) (v := .ref k1) (C := RX5) (T := TX5) (N := 4) hx hb hts inX5 hown hK hP 0 rfl rfl 0 (by decide) (hts (.fieldLink RX5 9 "EscrowDesk$Scanner" "kinds" "[I") (by decide +kernel)) (fun _ h9 => h9) rfl dX5_markKeywords_53 ?_
                          refine lv_iload hx hb dX5_markKeywords_56 (lv_at hl 0 rfl) ?_
                          refine lv_iload_n hx hb dX5_markKeywords_58 rfl (lv_at hl 2 rfl) ?_
                          refine va_iast hx hb hK hP hD hS 1 0 rfl rfl (vp_in_nI (n := i5) (N := 701) (show i5 < 701 by omega) (by decide)) dX5_markKeywords_59 (fun H locs hP hD hS => ?_)
                          obtain ⟨hP, hD⟩ : PDq D A [(oX5 r1 k1 k2 k3 (nI ct)), (k1, .inl (cA 0, 701, .inl (upd f1_5 (((nI i5)).toNatClampNeg) 12))), (k2, .inl (cA 0, 701, .inl ft)), (k3, .inl (cA 1, 701, .inr (.inl fv)))] H := ⟨hP, hD⟩
                          have hn133 : Upp i5 12 f1_5 (upd f1_5 (((nI i5)).toNatClampNeg) 12) := Upp.of (by omega)
                          have hn134 : Rdd (upd f1_5 (((nI i5)).toNatClampNeg) 12) := rfl
                          generalize (upd f1_5 (((nI i5)).toNatClampNeg) 12) = fn132 at hP hD hn133 hn134
                          obtain ⟨hP, hD⟩ : PDq D A [(oX5 r1 k1 k2 k3 (nI ct)), (k1, .inl (cA 0, 701, .inl fn132)), (k2, .inl (cA 0, 701, .inl ft)), (k3, .inl (cA 1, 701, .inr (.inl fv)))] H := ⟨hP, hD⟩
                          refine lv_iinc (v := (nI (i5 + 1))) (lv' := [(4, .int (nI (i5 + 1))), (2, .long 14615962074565), (1, .int 12), (0, .ref r1)]) hx hb dX5_markKeywords_60 hl (k := 0) rfl (nI_1 _) (by decide) rfl (fun ls hl => ?_)
                          refine lv_goto (tgt := 20) hx hb dX5_markKeywords_63 (by decide) ?_
                          obtain ⟨hP9, hD9⟩ := PDq.sub (ws' := [(oX5 r1 k1 k2 k3 (nI ct)), (k1, .inl (cA 0, 701, .inl fn132)), (k2, .inl (cA 0, 701, .inl ft)), (k3, .inl (cA 1, 701, .inr (.inl fv)))]) hP hD [0, 1, 2, 3] (by decide) rfl
                          exact ih5 (i5 + 1) fn132 H _ ls (by omega) hn134 (Mi.yesx hv0_5 (by omega) c129 c131 (by decide) (by decide) hn133) hP9 hD9 hS (lv_sub hl [0, 1, 2, 3] rfl)
                  obtain ⟨hP9, hD9⟩ := PDq.sub (ws' := [(oX5 r1 k1 k2 k3 (nI ct)), (k1, .inl (cA 0, 701, .inl f1_4)), (k2, .inl (cA 0, 701, .inl ft)), (k3, .inl (cA 1, 701, .inr (.inl fv)))]) hP hD [0, 1, 2, 3] (by decide) rfl
                  exact loop5 (ct - 0) 0 f1_4 _ _ ls (by omega) hf0_4 (Mk.mi (Mi.mk hv0_4)) hP9 hD9 hS (lv_sub hl [0, 1, 2, 3] rfl)
                | succ n4 ih4 =>
                  intro i4 f1_4 H locs ls hi4 hf0_4 hv0_4 hP hD hS hl
                  refine lv_iload hx hb dX5_markKeywords_20 (lv_at hl 0 rfl) ?_
                  refine lv_aload_n hx hb dX5_markKeywords_22 rfl (lv_at hl 3 rfl) ?_
                  refine va_get (D := D) (ci := 9) (v := .int (nI ct)) (C := RX5) (T := TX5) (N := 4) hx hb hts inX5 hown hK hP 0 rfl rfl 3 (by decide) (hts (.fieldLink RX5 22 "EscrowDesk$Scanner" "count" "I") (by decide +kernel)) (fun _ h9 => h9) rfl dX5_markKeywords_23 ?_
                  refine lv_icmp_ge (tgt := 66) hx hb dX5_markKeywords_26 (by decide) (fun c9 => absurd c9 (nI_ge (a := i4) (b := ct) (show i4 < ct by omega) (by omega))) (fun c135 => ?_)
                  refine lv_aload_n hx hb dX5_markKeywords_29 rfl (lv_at hl 3 rfl) ?_
                  refine va_get (D := D) (ci := 9) (v := .ref k1) (C := RX5) (T := TX5) (N := 4) hx hb hts inX5 hown hK hP 0 rfl rfl 0 (by decide) (hts (.fieldLink RX5 9 "EscrowDesk$Scanner" "kinds" "[I") (by decide +kernel)) (fun _ h9 => h9) rfl dX5_markKeywords_30 ?_
                  refine lv_iload hx hb dX5_markKeywords_33 (lv_at hl 0 rfl) ?_
                  refine va_iald hx hb hK hP 1 0 rfl rfl (vp_in_nI (n := i4) (N := 701) (show i4 < 701 by omega) (by decide)) dX5_markKeywords_35 ?_
                  refine lv_topi (fun yn136 eyn136 => ?_)
                  obtain rfl : yn136 = (f1_4 i4) := eyn136.trans (by rw [nI_clamp (by omega)])
                  refine lv_iconst (v := 4) hx hb dX5_markKeywords_36 (by decide) ?_
                  refine lv_icmp_ne (tgt := 60) hx hb dX5_markKeywords_37 (by decide) (fun c137 => ?_) (fun c137 => ?_)
                  · skip
                    refine lv_iinc (v := (nI (i4 + 1))) (lv' := [(4, .int (nI (i4 + 1))), (2, .long 4480027956), (1, .int 11), (0, .ref r1)]) hx hb dX5_markKeywords_60 hl (k := 0) rfl (nI_1 _) (by decide) rfl (fun ls hl => ?_)
                    refine lv_goto (tgt := 20) hx hb dX5_markKeywords_63 (by decide) ?_
                    obtain ⟨hP9, hD9⟩ := PDq.sub (ws' := [(oX5 r1 k1 k2 k3 (nI ct)), (k1, .inl (cA 0, 701, .inl f1_4)), (k2, .inl (cA 0, 701, .inl ft)), (k3, .inl (cA 1, 701, .inr (.inl fv)))]) hP hD [0, 1, 2, 3] (by decide) rfl
                    exact ih4 (i4 + 1) f1_4 H _ ls (by omega) hf0_4 (Mi.no hv0_4 (by omega) (fun q => c137 q.1)) hP9 hD9 hS (lv_sub hl [0, 1, 2, 3] rfl)
                  · skip
                    refine lv_aload_n hx hb dX5_markKeywords_40 rfl (lv_at hl 3 rfl) ?_
                    refine va_get (D := D) (ci := 9) (v := .ref k3) (C := RX5) (T := TX5) (N := 4) hx hb hts inX5 hown hK hP 0 rfl rfl 2 (by decide) (hts (.fieldLink RX5 18 "EscrowDesk$Scanner" "values" "[J") (by decide +kernel)) (fun _ h9 => h9) rfl dX5_markKeywords_41 ?_
                    refine lv_iload hx hb dX5_markKeywords_44 (lv_at hl 0 rfl) ?_
                    refine va_lald hx hb hK hP 3 1 rfl rfl (vp_in_nI (n := i4) (N := 701) (show i4 < 701 by omega) (by decide)) dX5_markKeywords_46 ?_
                    refine lv_topl (fun yn138 eyn138 => ?_)
                    obtain rfl : yn138 = (fv i4) := eyn138.trans (by rw [nI_clamp (by omega)])
                    refine lv_lload_n hx hb dX5_markKeywords_47 rfl (lv_at hl 1 rfl) ?_
                    refine W.lcmp hx hb dX5_markKeywords_48 ?_
                    refine lv_if_ne (tgt := 60) hx hb dX5_markKeywords_49 (by decide) (fun c139 => ?_) (fun c139 => ?_)
                    · skip
                      refine lv_iinc (v := (nI (i4 + 1))) (lv' := [(4, .int (nI (i4 + 1))), (2, .long 4480027956), (1, .int 11), (0, .ref r1)]) hx hb dX5_markKeywords_60 hl (k := 0) rfl (nI_1 _) (by decide) rfl (fun ls hl => ?_)
                      refine lv_goto (tgt := 20) hx hb dX5_markKeywords_63 (by decide) ?_
                      obtain ⟨hP9, hD9⟩ := PDq.sub (ws' := [(oX5 r1 k1 k2 k3 (nI ct)), (k1, .inl (cA 0, 701, .inl f1_4)), (k2, .inl (cA 0, 701, .inl ft)), (k3, .inl (cA 1, 701, .inr (.inl fv)))]) hP hD [0, 1, 2, 3] (by decide) rfl
                      exact ih4 (i4 + 1) f1_4 H _ ls (by omega) hf0_4 (Mi.nox hv0_4 (by omega) c139 (by decide)) hP9 hD9 hS (lv_sub hl [0, 1, 2, 3] rfl)
                    · skip
                      refine lv_aload_n hx hb dX5_markKeywords_52 rfl (lv_at hl 3 rfl) ?_
                      refine va_get (D := D) (ci := 9) (v := .ref k1) (C := RX5) (T := TX5) (N := 4) hx hb hts inX5 hown hK hP 0 rfl rfl 0 (by decide) (hts (.fieldLink RX5 9 "EscrowDesk$Scanner" "kinds" "[I") (by decide +kernel)) (fun _ h9 => h9) rfl dX5_markKeywords_53 ?_
                      refine lv_iload hx hb dX5_markKeywords_56 (lv_at hl 0 rfl) ?_
                      refine lv_iload_n hx hb dX5_markKeywords_58 rfl (lv_at hl 2 rfl) ?_
                      refine va_iast hx hb hK hP hD hS 1 0 rfl rfl (vp_in_nI (n := i4) (N := 701) (show i4 < 701 by omega) (by decide)) dX5_markKeywords_59 (fun H locs hP hD hS => ?_)
                      obtain ⟨hP, hD⟩ : PDq D A [(oX5 r1 k1 k2 k3 (nI ct)), (k1, .inl (cA 0, 701, .inl (upd f1_4 (((nI i4)).toNatClampNeg) 11))), (k2, .inl (cA 0, 701, .inl ft)), (k3, .inl (cA 1, 701, .inr (.inl fv)))] H := ⟨hP, hD⟩
                      have hn141 : Upp i4 11 f1_4 (upd f1_4 (((nI i4)).toNatClampNeg) 11) := Upp.of (by omega)
                      have hn142 : Rdd (upd f1_4 (((nI i4)).toNatClampNeg) 11) := rfl
                      generalize (upd f1_4 (((nI i4)).toNatClampNeg) 11) = fn140 at hP hD hn141 hn142
                      obtain ⟨hP, hD⟩ : PDq D A [(oX5 r1 k1 k2 k3 (nI ct)), (k1, .inl (cA 0, 701, .inl fn140)), (k2, .inl (cA 0, 701, .inl ft)), (k3, .inl (cA 1, 701, .inr (.inl fv)))] H := ⟨hP, hD⟩
                      refine lv_iinc (v := (nI (i4 + 1))) (lv' := [(4, .int (nI (i4 + 1))), (2, .long 4480027956), (1, .int 11), (0, .ref r1)]) hx hb dX5_markKeywords_60 hl (k := 0) rfl (nI_1 _) (by decide) rfl (fun ls hl => ?_)
                      refine lv_goto (tgt := 20) hx hb dX5_markKeywords_63 (by decide) ?_
                      obtain ⟨hP9, hD9⟩ := PDq.sub (ws' := [(oX5 r1 k1 k2 k3 (nI ct)), (k1, .inl (cA 0, 701, .inl fn140)), (k2, .inl (cA 0, 701, .inl ft)), (k3, .inl (cA 1, 701, .inr (.inl fv)))]) hP hD [0, 1, 2, 3] (by decide) rfl
                      exact ih4 (i4 + 1) fn140 H _ ls (by omega) hn142 (Mi.yesx hv0_4 (by omega) c137 c139 (by decide) (by decide) hn141) hP9 hD9 hS (lv_sub hl [0, 1, 2, 3] rfl)
              obtain ⟨hP9, hD9⟩ := PDq.sub (ws' := [(oX5 r1 k1 k2 k3 (nI ct)), (k1, .inl (cA 0, 701, .inl f1_3)), (k2, .inl (cA 0, 701, .inl ft)), (k3, .inl (cA 1, 701, .inr (.inl fv)))]) hP hD [0, 1, 2, 3] (by decide) rfl
              exact loop4 (ct - 0) 0 f1_3 _ _ ls (by omega) hf0_3 (Mk.mi (Mi.mk hv0_3)) hP9 hD9 hS (lv_sub hl [0, 1, 2, 3] rfl)
            | succ n3 ih3 =>
              intro i3 f1_3 H locs ls hi3 hf0_3 hv0_3 hP hD hS hl
              refine lv_iload hx hb dX5_markKeywords_20 (lv_at hl 0 rfl) ?_
              refine lv_aload_n hx hb dX5_markKeywords_22 rfl (lv_at hl 3 rfl) ?_
              refine va_get (D := D) (ci := 9) (v := .int (nI ct)) (C := RX5) (T := TX5) (N := 4) hx hb hts inX5 hown hK hP 0 rfl rfl 3 (by decide) (hts (.fieldLink RX5 22 "EscrowDesk$Scanner" "count" "I") (by decide +kernel)) (fun _ h9 => h9) rfl dX5_markKeywords_23 ?_
              refine lv_icmp_ge (tgt := 66) hx hb dX5_markKeywords_26 (by decide) (fun c9 => absurd c9 (nI_ge (a := i3) (b := ct) (show i3 < ct by omega) (by omega))) (fun c143 => ?_)
              refine lv_aload_n hx hb dX5_markKeywords_29 rfl (lv_at hl 3 rfl) ?_
              refine va_get (D := D) (ci := 9) (v := .ref k1) (C := RX5) (T := TX5) (N := 4) hx hb hts inX5 hown hK hP 0 rfl rfl 0 (by decide) (hts (.fieldLink RX5 9 "EscrowDesk$Scanner" "kinds" "[I") (by decide +kernel)) (fun _ h9 => h9) rfl dX5_markKeywords_30 ?_
              refine lv_iload hx hb dX5_markKeywords_33 (lv_at hl 0 rfl) ?_
              refine va_iald hx hb hK hP 1 0 rfl rfl (vp_in_nI (n := i3) (N := 701) (show i3 < 701 by omega) (by decide)) dX5_markKeywords_35 ?_
              refine lv_topi (fun yn144 eyn144 => ?_)
              obtain rfl : yn144 = (f1_3 i3) := eyn144.trans (by rw [nI_clamp (by omega)])
              refine lv_iconst (v := 4) hx hb dX5_markKeywords_36 (by decide) ?_
              refine lv_icmp_ne (tgt := 60) hx hb dX5_markKeywords_37 (by decide) (fun c145 => ?_) (fun c145 => ?_)
              · skip
                refine lv_iinc (v := (nI (i3 + 1))) (lv' := [(4, .int (nI (i3 + 1))), (2, .long 7930981), (1, .int 10), (0, .ref r1)]) hx hb dX5_markKeywords_60 hl (k := 0) rfl (nI_1 _) (by decide) rfl (fun ls hl => ?_)
                refine lv_goto (tgt := 20) hx hb dX5_markKeywords_63 (by decide) ?_
                obtain ⟨hP9, hD9⟩ := PDq.sub (ws' := [(oX5 r1 k1 k2 k3 (nI ct)), (k1, .inl (cA 0, 701, .inl f1_3)), (k2, .inl (cA 0, 701, .inl ft)), (k3, .inl (cA 1, 701, .inr (.inl fv)))]) hP hD [0, 1, 2, 3] (by decide) rfl
                exact ih3 (i3 + 1) f1_3 H _ ls (by omega) hf0_3 (Mi.no hv0_3 (by omega) (fun q => c145 q.1)) hP9 hD9 hS (lv_sub hl [0, 1, 2, 3] rfl)
              · skip
                refine lv_aload_n hx hb dX5_markKeywords_40 rfl (lv_at hl 3 rfl) ?_
                refine va_get (D := D) (ci := 9) (v := .ref k3) (C := RX5) (T := TX5) (N := 4) hx hb hts inX5 hown hK hP 0 rfl rfl 2 (by decide) (hts (.fieldLink RX5 18 "EscrowDesk$Scanner" "values" "[J") (by decide +kernel)) (fun _ h9 => h9) rfl dX5_markKeywords_41 ?_
                refine lv_iload hx hb dX5_markKeywords_44 (lv_at hl 0 rfl) ?_
                refine va_lald hx hb hK hP 3 1 rfl rfl (vp_in_nI (n := i3) (N := 701) (show i3 < 701 by omega) (by decide)) dX5_markKeywords_46 ?_
                refine lv_topl (fun yn146 eyn146 => ?_)
                obtain rfl : yn146 = (fv i3) := eyn146.trans (by rw [nI_clamp (by omega)])
                refine lv_lload_n hx hb dX5_markKeywords_47 rfl (lv_at hl 1 rfl) ?_
                refine W.lcmp hx hb dX5_markKeywords_48 ?_
                refine lv_if_ne (tgt := 60) hx hb dX5_markKeywords_49 (by decide) (fun c147 => ?_) (fun c147 => ?_)
                · skip
                  refine lv_iinc (v := (nI (i3 + 1))) (lv' := [(4, .int (nI (i3 + 1))), (2, .long 7930981), (1, .int 10), (0, .ref r1)]) hx hb dX5_markKeywords_60 hl (k := 0) rfl (nI_1 _) (by decide) rfl (fun ls hl => ?_)
                  refine lv_goto (tgt := 20) hx hb dX5_markKeywords_63 (by decide) ?_
                  obtain ⟨hP9, hD9⟩ := PDq.sub (ws' := [(oX5 r1 k1 k2 k3 (nI ct)), (k1, .inl (cA 0, 701, .inl f1_3)), (k2, .inl (cA 0, 701, .inl ft)), (k3, .inl (cA 1, 701, .inr (.inl fv)))]) hP hD [0, 1, 2, 3] (by decide) rfl
                  exact ih3 (i3 + 1) f1_3 H _ ls (by omega) hf0_3 (Mi.nox hv0_3 (by omega) c147 (by decide)) hP9 hD9 hS (lv_sub hl [0, 1, 2, 3] rfl)
                · skip
                  refine lv_aload_n hx hb dX5_markKeywords_52 rfl (lv_at hl 3 rfl) ?_
                  refine va_get (D := D) (ci := 9) (v := .ref k1) (C := RX5) (T := TX5) (N := 4) hx hb hts inX5 hown hK hP 0 rfl rfl 0 (by decide) (hts (.fieldLink RX5 9 "EscrowDesk$Scanner" "kinds" "[I") (by decide +kernel)) (fun _ h9 => h9) rfl dX5_markKeywords_53 ?_
                  refine lv_iload hx hb dX5_markKeywords_56 (lv_at hl 0 rfl) ?_
                  refine lv_iload_n hx hb dX5_markKeywords_58 rfl (lv_at hl 2 rfl) ?_
                  refine va_iast hx hb hK hP hD hS 1 0 rfl rfl (vp_in_nI (n := i3) (N := 701) (show i3 < 701 by omega) (by decide)) dX5_markKeywords_59 (fun H locs hP hD hS => ?_)
                  obtain ⟨hP, hD⟩ : PDq D A [(oX5 r1 k1 k2 k3 (nI ct)), (k1, .inl (cA 0, 701, .inl (upd f1_3 (((nI i3)).toNatClampNeg) 10))), (k2, .inl (cA 0, 701, .inl ft)), (k3, .inl (cA 1, 701, .inr (.inl fv)))] H := ⟨hP, hD⟩
                  have hn149 : Upp i3 10 f1_3 (upd f1_3 (((nI i3)).toNatClampNeg) 10) := Upp.of (by omega)
                  have hn150 : Rdd (upd f1_3 (((nI i3)).toNatClampNeg) 10) := rfl
                  generalize (upd f1_3 (((nI i3)).toNatClampNeg) 10) = fn148 at hP hD hn149 hn150
                  obtain ⟨hP, hD⟩ : PDq D A [(oX5 r1 k1 k2 k3 (nI ct)), (k1, .inl (cA 0, 701, .inl fn148)), (k2, .inl (cA 0, 701, .inl ft)), (k3, .inl (cA 1, 701, .inr (.inl fv)))] H := ⟨hP, hD⟩
                  refine lv_iinc (v := (nI (i3 + 1))) (lv' := [(4, .int (nI (i3 + 1))), (2, .long 7930981), (1, .int 10), (0, .ref r1)]) hx hb dX5_markKeywords_60 hl (k := 0) rfl (nI_1 _) (by decide) rfl (fun ls hl => ?_)
                  refine lv_goto (tgt := 20) hx hb dX5_markKeywords_63 (by decide) ?_
                  obtain ⟨hP9, hD9⟩ := PDq.sub (ws' := [(oX5 r1 k1 k2 k3 (nI ct)), (k1, .inl (cA 0, 701, .inl fn148)), (k2, .inl (cA 0, 701, .inl ft)), (k3, .inl (cA 1, 701, .inr (.inl fv)))]) hP hD [0, 1, 2, 3] (by decide) rfl
                  exact ih3 (i3 + 1) fn148 H _ ls (by omega) hn150 (Mi.yesx hv0_3 (by omega) c145 c147 (by decide) (by decide) hn149) hP9 hD9 hS (lv_sub hl [0, 1, 2, 3] rfl)
          obtain ⟨hP9, hD9⟩ := PDq.sub (ws' := [(oX5 r1 k1 k2 k3 (nI ct)), (k1, .inl (cA 0, 701, .inl f1_2)), (k2, .inl (cA 0, 701, .inl ft)), (k3, .inl (cA 1, 701, .inr (.inl fv)))]) hP hD [0, 1, 2, 3] (by decide) rfl
          exact loop3 (ct - 0) 0 f1_2 _ _ ls (by omega) hf0_2 (Mk.mi (Mi.mk hv0_2)) hP9 hD9 hS (lv_sub hl [0, 1, 2, 3] rfl)
        | succ n2 ih2 =>
          intro i2 f1_2 H locs ls hi2 hf0_2 hv0_2 hP hD hS hl
          refine lv_iload hx hb dX5_markKeywords_20 (lv_at hl 0 rfl) ?_
          refine lv_aload_n hx hb dX5_markKeywords_22 rfl (lv_at hl 3 rfl) ?_
          refine va_get (D := D) (ci := 9) (v := .int (nI ct)) (C := RX5) (T := TX5) (N := 4) hx hb hts inX5 hown hK hP 0 rfl rfl 3 (by decide) (hts (.fieldLink RX5 22 "EscrowDesk$Scanner" "count" "I") (by decide +kernel)) (fun _ h9 => h9) rfl dX5_markKeywords_23 ?_
          refine lv_icmp_ge (tgt := 66) hx hb dX5_markKeywords_26 (by decide) (fun c9 => absurd c9 (nI_ge (a := i2) (b := ct) (show i2 < ct by omega) (by omega))) (fun c151 => ?_)
          refine lv_aload_n hx hb dX5_markKeywords_29 rfl (lv_at hl 3 rfl) ?_
          refine va_get (D := D) (ci := 9) (v := .ref k1) (C := RX5) (T := TX5) (N := 4) hx hb hts inX5 hown hK hP 0 rfl rfl 0 (by decide) (hts (.fieldLink RX5 9 "EscrowDesk$Scanner" "kinds" "[I") (by decide +kernel)) (fun _ h9 => h9) rfl dX5_markKeywords_30 ?_
          refine lv_iload hx hb dX5_markKeywords_33 (lv_at hl 0 rfl) ?_
          refine va_iald hx hb hK hP 1 0 rfl rfl (vp_in_nI (n := i2) (N := 701) (show i2 < 701 by omega) (by decide)) dX5_markKeywords_35 ?_
          refine lv_topi (fun yn152 eyn152 => ?_)
          obtain rfl : yn152 = (f1_2 i2) := eyn152.trans (by rw [nI_clamp (by omega)])
          refine lv_iconst (v := 4) hx hb dX5_markKeywords_36 (by decide) ?_
          refine lv_icmp_ne (tgt := 60) hx hb dX5_markKeywords_37 (by decide) (fun c153 => ?_) (fun c153 => ?_)
          · skip
            refine lv_iinc (v := (nI (i2 + 1))) (lv' := [(4, .int (nI (i2 + 1))), (2, .long 6309), (1, .int 9), (0, .ref r1)]) hx hb dX5_markKeywords_60 hl (k := 0) rfl (nI_1 _) (by decide) rfl (fun ls hl => ?_)
            refine lv_goto (tgt := 20) hx hb dX5_markKeywords_63 (by decide) ?_
            obtain ⟨hP9, hD9⟩ := PDq.sub (ws' := [(oX5 r1 k1 k2 k3 (nI ct)), (k1, .inl (cA 0, 701, .inl f1_2)), (k2, .inl (cA 0, 701, .inl ft)), (k3, .inl (cA 1, 701, .inr (.inl fv)))]) hP hD [0, 1, 2, 3] (by decide) rfl
            exact ih2 (i2 + 1) f1_2 H _ ls (by omega) hf0_2 (Mi.no hv0_2 (by omega) (fun q => c153 q.1)) hP9 hD9 hS (lv_sub hl [0, 1, 2, 3] rfl)
          · skip
            refine lv_aload_n hx hb dX5_markKeywords_40 rfl (lv_at hl 3 rfl) ?_
            refine va_get (D := D) (ci := 9) (v := .ref k3) (C := RX5) (T := TX5) (N := 4) hx hb hts inX5 hown hK hP 0 rfl rfl 2 (by decide) (hts (.fieldLink RX5 18 "EscrowDesk$Scanner" "values" "[J") (by decide +kernel)) (fun _ h9 => h9) rfl dX5_markKeywords_41 ?_
            refine lv_iload hx hb dX5_markKeywords_44 (lv_at hl 0 rfl) ?_
            refine va_lald hx hb hK hP 3 1 rfl rfl (vp_in_nI (n := i2) (N := 701) (show i2 < 701 by omega) (by decide)) dX5_markKeywords_46 ?_
            refine lv_topl (fun yn154 eyn154 => ?_)
            obtain rfl : yn154 = (fv i2) := eyn154.trans (by rw [nI_clamp (by omega)])
            refine lv_lload_n hx hb dX5_markKeywords_47 rfl (lv_at hl 1 rfl) ?_
            refine W.lcmp hx hb dX5_markKeywords_48 ?_
            refine lv_if_ne (tgt := 60) hx hb dX5_markKeywords_49 (by decide) (fun c155 => ?_) (fun c155 => ?_)
            · skip
              refine lv_iinc (v := (nI (i2 + 1))) (lv' := [(4, .int (nI (i2 + 1))), (2, .long 6309), (1, .int 9), (0, .ref r1)]) hx hb dX5_markKeywords_60 hl (k := 0) rfl (nI_1 _) (by decide) rfl (fun ls hl => ?_)
              refine lv_goto (tgt := 20) hx hb dX5_markKeywords_63 (by decide) ?_
              obtain ⟨hP9, hD9⟩ := PDq.sub (ws' := [(oX5 r1 k1 k2 k3 (nI ct)), (k1, .inl (cA 0, 701, .inl f1_2)), (k2, .inl (cA 0, 701, .inl ft)), (k3, .inl (cA 1, 701, .inr (.inl fv)))]) hP hD [0, 1, 2, 3] (by decide) rfl
              exact ih2 (i2 + 1) f1_2 H _ ls (by omega) hf0_2 (Mi.nox hv0_2 (by omega) c155 (by decide)) hP9 hD9 hS (lv_sub hl [0, 1, 2, 3] rfl)
            · skip
              refine lv_aload_n hx hb dX5_markKeywords_52 rfl (lv_at hl 3 rfl) ?_
              refine va_get (D := D) (ci := 9) (v := .ref k1) (C := RX5) (T := TX5) (N := 4) hx hb hts inX5 hown hK hP 0 rfl rfl 0 (by decide) (hts (.fieldLink RX5 9 "EscrowDesk$Scanner" "kinds" "[I") (by decide +kernel)) (fun _ h9 => h9) rfl dX5_markKeywords_53 ?_
              refine lv_iload hx hb dX5_markKeywords_56 (lv_at hl 0 rfl) ?_
              refine lv_iload_n hx hb dX5_markKeywords_58 rfl (lv_at hl 2 rfl) ?_
              refine va_iast hx hb hK hP hD hS 1 0 rfl rfl (vp_in_nI (n := i2) (N := 701) (show i2 < 701 by omega) (by decide)) dX5_markKeywords_59 (fun H locs hP hD hS => ?_)
              obtain ⟨hP, hD⟩ : PDq D A [(oX5 r1 k1 k2 k3 (nI ct)), (k1, .inl (cA 0, 701, .inl (upd f1_2 (((nI i2)).toNatClampNeg) 9))), (k2, .inl (cA 0, 701, .inl ft)), (k3, .inl (cA 1, 701, .inr (.inl fv)))] H := ⟨hP, hD⟩
              have hn157 : Upp i2 9 f1_2 (upd f1_2 (((nI i2)).toNatClampNeg) 9) := Upp.of (by omega)
              have hn158 : Rdd (upd f1_2 (((nI i2)).toNatClampNeg) 9) := rfl
              generalize (upd f1_2 (((nI i2)).toNatClampNeg) 9) = fn156 at hP hD hn157 hn158
              obtain ⟨hP, hD⟩ : PDq D A [(oX5 r1 k1 k2 k3 (nI ct)), (k1, .inl (cA 0, 701, .inl fn156)), (k2, .inl (cA 0, 701, .inl ft)), (k3, .inl (cA 1, 701, .inr (.inl fv)))] H := ⟨hP, hD⟩
              refine lv_iinc (v := (nI (i2 + 1))) (lv' := [(4, .int (nI (i2 + 1))), (2, .long 6309), (1, .int 9), (0, .ref r1)]) hx hb dX5_markKeywords_60 hl (k := 0) rfl (nI_1 _) (by decide) rfl (fun ls hl => ?_)
              refine lv_goto (tgt := 20) hx hb dX5_markKeywords_63 (by decide) ?_
              obtain ⟨hP9, hD9⟩ := PDq.sub (ws' := [(oX5 r1 k1 k2 k3 (nI ct)), (k1, .inl (cA 0, 701, .inl fn156)), (k2, .inl (cA 0, 701, .inl ft)), (k3, .inl (cA 1, 701, .inr (.inl fv)))]) hP hD [0, 1, 2, 3] (by decide) rfl
              exact ih2 (i2 + 1) fn156 H _ ls (by omega) hn158 (Mi.yesx hv0_2 (by omega) c153 c155 (by decide) (by decide) hn157) hP9 hD9 hS (lv_sub hl [0, 1, 2, 3] rfl)
      obtain ⟨hP9, hD9⟩ := PDq.sub (ws' := [(oX5 r1 k1 k2 k3 (nI ct)), (k1, .inl (cA 0, 701, .inl f1_1)), (k2, .inl (cA 0, 701, .inl ft)), (k3, .inl (cA 1, 701, .inr (.inl fv)))]) hP hD [0, 1, 2, 3] (by decide) rfl
      exact loop2 (ct - 0) 0 f1_1 _ _ ls (by omega) hf0_1 (Mk.mi (Mi.mk hv0_1)) hP9 hD9 hS (lv_sub hl [0, 1, 2, 3] rfl)
    | succ n1 ih1 =>
      intro i1 f1_1 H locs ls hi1 hf0_1 hv0_1 hP hD hS hl
      refine lv_iload hx hb dX5_markKeywords_20 (lv_at hl 0 rfl) ?_
      refine lv_aload_n hx hb dX5_markKeywords_22 rfl (lv_at hl 3 rfl) ?_
      refine va_get (D := D) (ci := 9) (v := .int (nI ct)) (C := RX5) (T := TX5) (N := 4) hx hb hts inX5 hown hK hP 0 rfl rfl 3 (by decide) (hts (.fieldLink RX5 22 "EscrowDesk$Scanner" "count" "I") (by decide +kernel)) (fun _ h9 => h9) rfl dX5_markKeywords_23 ?_
      refine lv_icmp_ge (tgt := 66) hx hb dX5_markKeywords_26 (by decide) (fun c9 => absurd c9 (nI_ge (a := i1) (b := ct) (show i1 < ct by omega) (by omega))) (fun c159 => ?_)
      refine lv_aload_n hx hb dX5_markKeywords_29 rfl (lv_at hl 3 rfl) ?_
      refine va_get (D := D) (ci := 9) (v := .ref k1) (C := RX5) (T := TX5) (N := 4) hx hb hts inX5 hown hK hP 0 rfl rfl 0 (by decide) (hts (.fieldLink RX5 9 "EscrowDesk$Scanner" "kinds" "[I") (by decide +kernel)) (fun _ h9 => h9) rfl dX5_markKeywords_30 ?_
      refine lv_iload hx hb dX5_markKeywords_33 (lv_at hl 0 rfl) ?_
      refine va_iald hx hb hK hP 1 0 rfl rfl (vp_in_nI (n := i1) (N := 701) (show i1 < 701 by omega) (by decide)) dX5_markKeywords_35 ?_
      refine lv_topi (fun yn160 eyn160 => ?_)
      obtain rfl : yn160 = (f1_1 i1) := eyn160.trans (by rw [nI_clamp (by omega)])
      refine lv_iconst (v := 4) hx hb dX5_markKeywords_36 (by decide) ?_
      refine lv_icmp_ne (tgt := 60) hx hb dX5_markKeywords_37 (by decide) (fun c161 => ?_) (fun c161 => ?_)
      · skip
        refine lv_iinc (v := (nI (i1 + 1))) (lv' := [(4, .int (nI (i1 + 1))), (2, .long 591493), (1, .int 8), (0, .ref r1)]) hx hb dX5_markKeywords_60 hl (k := 0) rfl (nI_1 _) (by decide) rfl (fun ls hl => ?_)
        refine lv_goto (tgt := 20) hx hb dX5_markKeywords_63 (by decide) ?_
        obtain ⟨hP9, hD9⟩ := PDq.sub (ws' := [(oX5 r1 k1 k2 k3 (nI ct)), (k1, .inl (cA 0, 701, .inl f1_1)), (k2, .inl (cA 0, 701, .inl ft)), (k3, .inl (cA 1, 701, .inr (.inl fv)))]) hP hD [0, 1, 2, 3] (by decide) rfl
        exact ih1 (i1 + 1) f1_1 H _ ls (by omega) hf0_1 (Mi.no hv0_1 (by omega) (fun q => c161 q.1)) hP9 hD9 hS (lv_sub hl [0, 1, 2, 3] rfl)
      · skip
        refine lv_aload_n hx hb dX5_markKeywords_40 rfl (lv_at hl 3 rfl) ?_
        refine va_get (D := D) (ci := 9) (v := .ref k3) (C := RX5) (T := TX5) (N := 4) hx hb hts inX5 hown hK hP 0 rfl rfl 2 (by decide) (hts (.fieldLink RX5 18 "EscrowDesk$Scanner" "values" "[J") (by decide +kernel)) (fun _ h9 => h9) rfl dX5_markKeywords_41 ?_
        refine lv_iload hx hb dX5_markKeywords_44 (lv_at hl 0 rfl) ?_
        refine va_lald hx hb hK hP 3 1 rfl rfl (vp_in_nI (n := i1) (N := 701) (show i1 < 701 by omega) (by decide)) dX5_markKeywords_46 ?_
        refine lv_topl (fun yn162 eyn162 => ?_)
        obtain rfl : yn162 = (fv i1) := eyn162.trans (by rw [nI_clamp (by omega)])
        refine lv_lload_n hx hb dX5_markKeywords_47 rfl (lv_at hl 1 rfl) ?_
        refine W.lcmp hx hb dX5_markKeywords_48 ?_
        refine lv_if_ne (tgt := 60) hx hb dX5_markKeywords_49 (by decide) (fun c163 => ?_) (fun c163 => ?_)
        · skip
          refine lv_iinc (v := (nI (i1 + 1))) (lv' := [(4, .int (nI (i1 + 1))), (2, .long 591493), (1, .int 8), (0, .ref r1)]) hx hb dX5_markKeywords_60 hl (k := 0) rfl (nI_1 _) (by decide) rfl (fun ls hl => ?_)
          refine lv_goto (tgt := 20) hx hb dX5_markKeywords_63 (by decide) ?_
          obtain ⟨hP9, hD9⟩ := PDq.sub (ws' := [(oX5 r1 k1 k2 k3 (nI ct)), (k1, .inl (cA 0, 701, .inl f1_1)), (k2, .inl (cA 0, 701, .inl ft)), (k3, .inl (cA 1, 701, .inr (.inl fv)))]) hP hD [0, 1, 2, 3] (by decide) rfl
          exact ih1 (i1 + 1) f1_1 H _ ls (by omega) hf0_1 (Mi.nox hv0_1 (by omega) c163 (by decide)) hP9 hD9 hS (lv_sub hl [0, 1, 2, 3] rfl)
        · skip
          refine lv_aload_n hx hb dX5_markKeywords_52 rfl (lv_at hl 3 rfl) ?_
          refine va_get (D := D) (ci := 9) (v := .ref k1) (C := RX5) (T := TX5) (N := 4) hx hb hts inX5 hown hK hP 0 rfl rfl 0 (by decide) (hts (.fieldLink RX5 9 "EscrowDesk$Scanner" "kinds" "[I") (by decide +kernel)) (fun _ h9 => h9) rfl dX5_markKeywords_53 ?_
          refine lv_iload hx hb dX5_markKeywords_56 (lv_at hl 0 rfl) ?_
          refine lv_iload_n hx hb dX5_markKeywords_58 rfl (lv_at hl 2 rfl) ?_
          refine va_iast hx hb hK hP hD hS 1 0 rfl rfl (vp_in_nI (n := i1) (N := 701) (show i1 < 701 by omega) (by decide)) dX5_markKeywords_59 (fun H locs hP hD hS => ?_)
          obtain ⟨hP, hD⟩ : PDq D A [(oX5 r1 k1 k2 k3 (nI ct)), (k1, .inl (cA 0, 701, .inl (upd f1_1 (((nI i1)).toNatClampNeg) 8))), (k2, .inl (cA 0, 701, .inl ft)), (k3, .inl (cA 1, 701, .inr (.inl fv)))] H := ⟨hP, hD⟩
          have hn165 : Upp i1 8 f1_1 (upd f1_1 (((nI i1)).toNatClampNeg) 8) := Upp.of (by omega)
          have hn166 : Rdd (upd f1_1 (((nI i1)).toNatClampNeg) 8) := rfl
          generalize (upd f1_1 (((nI i1)).toNatClampNeg) 8) = fn164 at hP hD hn165 hn166
          obtain ⟨hP, hD⟩ : PDq D A [(oX5 r1 k1 k2 k3 (nI ct)), (k1, .inl (cA 0, 701, .inl fn164)), (k2, .inl (cA 0, 701, .inl ft)), (k3, .inl (cA 1, 701, .inr (.inl fv)))] H := ⟨hP, hD⟩
          refine lv_iinc (v := (nI (i1 + 1))) (lv' := [(4, .int (nI (i1 + 1))), (2, .long 591493), (1, .int 8), (0, .ref r1)]) hx hb dX5_markKeywords_60 hl (k := 0) rfl (nI_1 _) (by decide) rfl (fun ls hl => ?_)
          refine lv_goto (tgt := 20) hx hb dX5_markKeywords_63 (by decide) ?_
          obtain ⟨hP9, hD9⟩ := PDq.sub (ws' := [(oX5 r1 k1 k2 k3 (nI ct)), (k1, .inl (cA 0, 701, .inl fn164)), (k2, .inl (cA 0, 701, .inl ft)), (k3, .inl (cA 1, 701, .inr (.inl fv)))]) hP hD [0, 1, 2, 3] (by decide) rfl
          exact ih1 (i1 + 1) fn164 H _ ls (by omega) hn166 (Mi.yesx hv0_1 (by omega) c161 c163 (by decide) (by decide) hn165) hP9 hD9 hS (lv_sub hl [0, 1, 2, 3] rfl)
  obtain ⟨hP9, hD9⟩ := PDq.sub (ws' := [(oX5 r1 k1 k2 k3 (nI ct)), (k1, .inl (cA 0, 701, .inl fk)), (k2, .inl (cA 0, 701, .inl ft)), (k3, .inl (cA 1, 701, .inr (.inl fv)))]) hP hD [0, 1, 2, 3] (by decide) rfl
  exact loop1 (ct - 0) 0 fk _ _ ls (by omega) rfl (Mk.mi (Mk.zero ct fk fv)) hP9 hD9 hS (lv_sub hl [0, 1, 2, 3] rfl)

set_option maxHeartbeats 4000000 in
set_option maxRecDepth 100000 in
/-- split -/
theorem x_split_look (l : Launch) (D : va_G) (cA : Nat → ClassId) (sa : Nat → Nat) (r1 : Nat) (k1 : Nat) (k2 : Nat) (k3 : Nat) (ct : Nat) (fk : Nat → Int32) (ft : Nat → Int32) (fv : Nat → Int64) (b0 : Nat) (ln : Nat) (fb : Nat → Int32) (sz : Nat) (hct : ct ≤ 701) (hln : ln ≤ 700) : Met l yX5_split wsX5_split ({ frames := 6, cells := 0, slots := 0, locals := 132 }) (va_Pc [.ref r1, .ref b0, .int (nI ln)] (Wd D cA sa [(oX5 r1 k1 k2 k3 (nI ct)), (k1, .inl (cA 0, 701, .inl fk)), (k2, .inl (cA 0, 701, .inl ft)), (k3, .inl (cA 1, 701, .inr (.inl fv))), (b0, .inl (cA 2, 700, .inl fb))] sz)) (va_Qv (fun _ : Unit => True) (fun (_ : Unit) t => ∃ cy : Nat, ∃ zk : Nat → Int32, ∃ zt : Nat → Int32, ∃ zv : Nat → Int64, cy ≤ 701 ∧ TXE fb ln cy zt zv zk ∧ Wq D (va_A [(oX5 r1 k1 k2 k3 (nI ct)), (k1, .inl (cA 0, 701, .inl fk)), (k2, .inl (cA 0, 701, .inl ft)), (k3, .inl (cA 1, 701, .inr (.inl fv))), (b0, .inl (cA 2, 700, .inl fb))] sz) [(oX5 r1 k1 k2 k3 (nI cy)), (k1, .inl (cA 0, 701, .inl zk)), (k2, .inl (cA 0, 701, .inl zt)), (k3, .inl (cA 1, 701, .inr (.inl zv))), (b0, .inl (cA 2, 700, .inl fb))] t) (va_A [(oX5 r1 k1 k2 k3 (nI ct)), (k1, .inl (cA 0, 701, .inl fk)), (k2, .inl (cA 0, 701, .inl ft)), (k3, .inl (cA 1, 701, .inr (.inl fv))), (b0, .inl (cA 2, 700, .inl fb))] sz)) 0 0 (va_A [(oX5 r1 k1 k2 k3 (nI ct)), (k1, .inl (cA 0, 701, .inl fk)), (k2, .inl (cA 0, 701, .inl ft)), (k3, .inl (cA 1, 701, .inr (.inl fv))), (b0, .inl (cA 2, 700, .inl fb))] sz) := by
  refine Met.ofW (cc := cX5_split) (maxL := 8) (ret := none) (by decide) rfl ?_
  intro p e s m args below meth c s₁ B hml hv
  obtain ⟨rfl, hsz, hP, hK, hD0, hC, hZ⟩ := hv
  have hx := B.exec
  have hb := B.bytes
  have hr := B.returns
  have hts := atoms_spec (ws := wsX5_split) B.pre
  have hown : s.vm.findClass RX5 = some m.cls := findClass_of_methodNamed B.named
  have hlocks := B.notSynchronized
  subst hsz
  have hD := hD0.self (sz := s.heap.size)
  generalize hAe : va_A [(oX5 r1 k1 k2 k3 (nI ct)), (k1, .inl (cA 0, 701, .inl fk)), (k2, .inl (cA 0, 701, .inl ft)), (k3, .inl (cA 1, 701, .inr (.inl fv))), (b0, .inl (cA 2, 700, .inl fb))] s.heap.size = A at hD hZ ⊢
  have hA : ∀ q : Nat, s.heap.size ≤ q → A q := fun q h => by rw [← hAe]; exact Or.inr h
  have hS : va_S A s.heap s.heap [] := va_S.rf
  have hP : va_P D vwCl [(oX5 r1 k1 k2 k3 (nI ct)), (k1, .inl (cA 0, 701, .inl fk)), (k2, .inl (cA 0, 701, .inl ft)), (k3, .inl (cA 1, 701, .inr (.inl fv))), (b0, .inl (cA 2, 700, .inl fb))] s.heap := hP
  have hl := lv_entry ([.ref r1, .ref b0, .int (nI ln)]) (n := 8) (Nat.le_of_ble_eq_true rfl)
  rw [lg_entry_eq]
  generalize (lg_sl ([.ref r1, .ref b0, .int (nI ln)]) ++ List.replicate (8 - (lg_sl ([.ref r1, .ref b0, .int (nI ln)])).length) Slot.unset).toArray = ls at hl ⊢
  have hl : lv_has ls 8 [(0, .ref r1), (1, .ref b0), (2, .int (nI ln))] := hl
  have inX5 : ∀ w ∈ u_ws RX5 TX5 4, w ∈ wsX5_split := by decide +kernel
  refine lv_aload_n hx hb dX5_split_0 rfl (lv_at hl 0 rfl) ?_
  refine lv_iconst (v := 0) hx hb dX5_split_1 (by decide) ?_
  refine va_put (D := D) (ci := 9) (v := .int 0) (ty := .int) (C := RX5) (T := TX5) (N := 4) hx hb hts inX5 tyX5 tyX5_ok nmX5 hown hK hP hD hS 0 rfl rfl 3 (by decide) (hts (.fieldLink RX5 22 "EscrowDesk$Scanner" "count" "I") (by decide +kernel)) (fun _ h9 => h9) rfl (by decide +kernel) rfl rfl (Nat.le_of_ble_eq_true rfl) dX5_split_2 (fun H locs hP hD hS => ?_)
  obtain ⟨hP, hD⟩ : PDq D A [(oX5 r1 k1 k2 k3 0), (k1, .inl (cA 0, 701, .inl fk)), (k2, .inl (cA 0, 701, .inl ft)), (k3, .inl (cA 1, 701, .inr (.inl fv))), (b0, .inl (cA 2, 700, .inl fb))] H := ⟨hP, hD⟩
  refine lv_iconst (v := 0) hx hb dX5_split_5 (by decide) ?_
  refine lv_istore_n (lv' := [(3, .int 0), (0, .ref r1), (1, .ref b0), (2, .int (nI ln))]) hx hb dX5_split_6 rfl hl (by decide) rfl (fun ls hl => ?_)
  refine lv_iconst (v := 0) hx hb dX5_split_7 (by decide) ?_
  refine lv_istore (lv' := [(4, .int 0), (3, .int 0), (0, .ref r1), (1, .ref b0), (2, .int (nI ln))]) hx hb dX5_split_8 hl (by decide) rfl (fun ls hl => ?_)
  refine lv_iconst (v := 0) hx hb dX5_split_10 (by decide) ?_
  refine lv_istore (lv' := [(5, .int 0), (4, .int 0), (3, .int 0), (0, .ref r1), (1, .ref b0), (2, .int (nI ln))]) hx hb dX5_split_11 hl (by decide) rfl (fun ls hl => ?_)
  have loop1 : ∀ (n1 i1 : Nat) (rni : Nat) (x4_1 : Int32) (ci : Nat) (f1_1 : Nat → Int32) (f2_1 : Nat → Int32) (f3_1 : Nat → Int64) (H : Heap) (locs : List Loc) (ls : Array Slot), i1 + n1 = ln → ci ≤ i1 → rni ≤ i1 + 1 → Sp fb i1 ci rni x4_1 f1_1 f2_1 f3_1 → va_P D vwCl [(oX5 r1 k1 k2 k3 (nI ci)), (k1, .inl (cA 0, 701, .inl f1_1)), (k2, .inl (cA 0, 701, .inl f2_1)), (k3, .inl (cA 1, 701, .inr (.inl f3_1))), (b0, .inl (cA 2, 700, .inl fb))] H → va_D A [(oX5 r1 k1 k2 k3 (nI ci)), (k1, .inl (cA 0, 701, .inl f1_1)), (k2, .inl (cA 0, 701, .inl f2_1)), (k3, .inl (cA 1, 701, .inr (.inl f3_1))), (b0, .inl (cA 2, 700, .inl fb))] → va_S A s.heap H locs → lv_has ls 8 [(5, .int (nI i1)), (4, .int x4_1), (3, .int (nI rni)), (0, .ref r1), (1, .ref b0), (2, .int (nI ln))] → W p l e (headSpec wsX5_split ({ frames := 6, cells := 0, slots := 0, locals := 132 } : Room)).room s m ([.ref r1, .ref b0, .int (nI ln)] : List Value).toArray below meth c H locs 0 0 (MQ below (va_Qv (fun _ : Unit => True) (fun (_ : Unit) t => ∃ cy : Nat, ∃ zk : Nat → Int32, ∃ zt : Nat → Int32, ∃ zv : Nat → Int64, cy ≤ 701 ∧ TXE fb ln cy zt zv zk ∧ Wq D A [(oX5 r1 k1 k2 k3 (nI cy)), (k1, .inl (cA 0, 701, .inl zk)), (k2, .inl (cA 0, 701, .inl zt)), (k3, .inl (cA 1, 701, .inr (.inl zv))), (b0, .inl (cA 2, 700, .inl fb))] t) A) ([.ref r1, .ref b0, .int (nI ln)] : List Value).toArray s 0 0 A) (F0 m 13 ls []) := by
    intro n1
    induction n1 with
    | zero =>
      intro i1 rni x4_1 ci f1_1 f2_1 f3_1 H locs ls hi1 hv0_1 hv1_1 hv2_1 hP hD hS hl
      obtain rfl : ln = i1 := by omega
      refine lv_iload hx hb dX5_split_13 (lv_at hl 0 rfl) ?_
      refine lv_iload_n hx hb dX5_split_15 rfl (lv_at hl 5 rfl) ?_
      refine lv_icmp_ge (tgt := 126) hx hb dX5_split_16 (by decide) (fun c1 => ?_) (fun c9 => absurd (nI_le (a := ln) (b := ln) (show ln ≤ ln by omega) (by omega)) c9)
      refine lv_aload_n hx hb dX5_split_126 rfl (lv_at hl 3 rfl) ?_
      refine lv_iconst (v := 1) hx hb dX5_split_127 (by decide) ?_
      refine lv_iload_n hx hb dX5_split_128 rfl (lv_at hl 5 rfl) ?_
      refine lv_lconst (v := 0) hx hb dX5_split_129 (by decide) ?_
      obtain ⟨hPc, hDc, hFc⟩ := PDq.cut (wc := [(oX5 r1 k1 k2 k3 (nI ci)), (k1, .inl (cA 0, 701, .inl f1_1)), (k2, .inl (cA 0, 701, .inl f2_1)), (k3, .inl (cA 1, 701, .inr (.inl f3_1)))]) hP hD hS hA [0, 1, 2, 3] (by decide) rfl
      refine va_callv (va_runV (As := [.int 1, .int (nI ln), .long 0]) (rest := []) ⟨hx, hb, hml, hown, hts⟩ (x_addTok l D cA sa r1 k1 k2 k3 ci f1_1 f2_1 f3_1 1 (nI ln) 0 H.size (by omega)) (cwV 3 hts gX5_split_X5_add rfl rfl rfl (by decide +kernel) ⟨(Nat.le_of_ble_eq_true rfl), (Nat.le_of_ble_eq_true rfl)⟩) ⟨Wd.blind, va_recv hK hPc (ci := 9) (q0 := 0) rfl rfl, fun U hU hW => ⟨rfl, Wd.call hPc hDc hK hC hZ hS hFc U hU hW⟩⟩ rfl rfl hl.1 rfl (lv_room (Nat.le_of_ble_eq_true rfl)) dX5_split_130 ⟨(Nat.le_of_ble_eq_true rfl), (Nat.le_of_ble_eq_true rfl)⟩) hS (fun q _ h => hFc q h) hFc (fun u t H1 locs ht hvm hw hB hz1 hk1 hS => ?_)
      obtain ⟨fn2, fn3, fn4, hn5, hn6, hn7, hP1, hD1⟩ := hB
      rw [ht] at hP1
      obtain ⟨hP, hD⟩ := PDq.join (w := [(b0, .inl (cA 2, 700, .inl fb)), (oX5 r1 k1 k2 k3 (nI (ci + 1))), (k1, .inl (cA 0, 701, .inl fn2)), (k2, .inl (cA 0, 701, .inl fn3)), (k3, .inl (cA 1, 701, .inr (.inl fn4)))]) 1 hP hD [0, 1, 2, 3] [4] rfl rfl (by decide) (by decide) hk1 hFc hP1 hD1 rfl
      generalize H1 = H at hP hS ⊢
      refine lv_aload_n hx hb dX5_split_133 rfl (lv_at hl 3 rfl) ?_
      obtain ⟨hPc, hDc, hFc⟩ := PDq.cut (wc := [(oX5 r1 k1 k2 k3 (nI (ci + 1))), (k1, .inl (cA 0, 701, .inl fn2)), (k2, .inl (cA 0, 701, .inl fn3)), (k3, .inl (cA 1, 701, .inr (.inl fn4)))]) hP hD hS hA [1, 2, 3, 4] (by decide) rfl
      refine va_callv (va_runV (As := []) (rest := []) ⟨hx, hb, hml, hown, hts⟩ (x_markKeywords l D cA sa r1 k1 k2 k3 (ci + 1) fn2 fn3 fn4 H.size (by omega)) (cwV 0 hts gX5_split_X5_markKeywords rfl rfl rfl (by decide +kernel) ⟨(Nat.le_of_ble_eq_true rfl), (Nat.le_of_ble_eq_true rfl)⟩) ⟨Wd.blind, va_recv hK hPc (ci := 9) (q0 := 0) rfl rfl, fun U hU hW => ⟨rfl, Wd.call hPc hDc hK hC hZ hS hFc U hU hW⟩⟩ rfl rfl hl.1 rfl (lv_room (Nat.le_of_ble_eq_true rfl)) dX5_split_134 ⟨(Nat.le_of_ble_eq_true rfl), (Nat.le_of_ble_eq_true rfl)⟩) hS (fun q _ h => hFc q h) hFc (fun u t H1 locs ht hvm hw hB hz1 hk1 hS => ?_)
      obtain ⟨fn8, hn9, hP1, hD1⟩ := hB
      rw [ht] at hP1
      obtain ⟨hP, hD⟩ := PDq.join (w := [(b0, .inl (cA 2, 700, .inl fb)), (oX5 r1 k1 k2 k3 (nI (ci + 1))), (k1, .inl (cA 0, 701, .inl fn8)), (k2, .inl (cA 0, 701, .inl fn3)), (k3, .inl (cA 1, 701, .inr (.inl fn4)))]) 1 hP hD [1, 2, 3, 4] [0] rfl rfl (by decide) (by decide) hk1 hFc hP1 hD1 rfl
      generalize H1 = H at hP hS ⊢
      obtain ⟨hP9, hD9⟩ := PDq.sub (ws' := [(oX5 r1 k1 k2 k3 (nI (ci + 1))), (k1, .inl (cA 0, 701, .inl fn8)), (k2, .inl (cA 0, 701, .inl fn3)), (k3, .inl (cA 1, 701, .inr (.inl fn4))), (b0, .inl (cA 2, 700, .inl fb))]) hP hD [1, 2, 3, 4, 0] (by decide) rfl
      refine W.widen (k := 0) (n := 0) (Nat.le_of_ble_eq_true rfl) (Nat.le_of_ble_eq_true rfl) ?_
      exact (W.vret hx hb hr (fun t ht hW => ⟨⟨(), rfl, trivial, (ci + 1), fn8, fn3, fn4, (by omega), (Sp.finx hv2_1 hn5 hn6 hn7 hn9), by rw [ht]; exact hP9, hD9⟩, hS.F ht⟩) hS.2.2 dX5_split_137)
    | succ n1 ih1 =>
      intro i1 rni x4_1 ci f1_1 f2_1 f3_1 H locs ls hi1 hv0_1 hv1_1 hv2_1 hP hD hS hl
      refine lv_iload hx hb dX5_split_13 (lv_at hl 0 rfl) ?_
      refine lv_iload_n hx hb dX5_split_15 rfl (lv_at hl 5 rfl) ?_
      refine lv_icmp_ge (tgt := 126) hx hb dX5_split_16 (by decide) (fun c9 => absurd c9 (nI_ge (a := i1) (b := ln) (show i1 < ln by omega) (by omega))) (fun c10 => ?_)
      refine lv_iload hx hb dX5_split_19 (lv_at hl 0 rfl) ?_
      refine lv_aload_n hx hb dX5_split_21 rfl (lv_at hl 4 rfl) ?_
      refine va_alen (v := 700) hx hb hK hP 4 2 rfl rfl rfl dX5_split_22 ?_
      refine lv_icmp_ge (tgt := 126) hx hb dX5_split_23 (by decide) (fun c9 => absurd c9 (nI_ge (a := i1) (b := 700) (show i1 < 700 by omega) (by omega))) (fun c11 => ?_)
      refine lv_aload_n hx hb dX5_split_26 rfl (lv_at hl 4 rfl) ?_
      refine lv_iload hx hb dX5_split_27 (lv_at hl 0 rfl) ?_
      refine va_cald hx hb hK hP 4 2 rfl rfl (vp_in_nI (n := i1) (N := 700) (show i1 < 700 by omega) (by decide)) dX5_split_29 ?_
      refine lv_topi (fun yn12 eyn12 => ?_)
      obtain rfl : yn12 = (fb i1) := eyn12.trans (by rw [nI_clamp (by omega)])
      obtain ⟨hPc, hDc, hFc⟩ := PDq.cut (wc := []) hP hD hS hA [] (by decide) rfl
      refine va_calli (va_runS (As := [.int (fb i1)]) (rest := []) ⟨hx, hb, hml, hown, hts⟩ (x_kindOf l D cA sa (fb i1) H.size) (va_cwS 1 hts gX5_split_X5_kindOf rfl rfl rfl (by decide +kernel) ⟨(Nat.le_of_ble_eq_true rfl), (Nat.le_of_ble_eq_true rfl)⟩) ⟨Wd.blind, fun U hU hW => ⟨rfl, Wd.call hPc hDc hK hC hZ hS hFc U hU hW⟩⟩ rfl rfl hl.1 rfl (lv_room (Nat.le_of_ble_eq_true rfl)) dX5_split_30 ⟨(Nat.le_of_ble_eq_true rfl), (Nat.le_of_ble_eq_true rfl)⟩) hS (fun q _ h => hFc q h) hFc (fun rn13 u t H1 locs ht hvm hw hB hz1 hk1 hS => ?_)
      obtain ⟨hP1, hD1⟩ := hB
      rw [ht] at hP1
      obtain ⟨hP, hD⟩ := PDq.join (w := [(oX5 r1 k1 k2 k3 (nI ci)), (k1, .inl (cA 0, 701, .inl f1_1)), (k2, .inl (cA 0, 701, .inl f2_1)), (k3, .inl (cA 1, 701, .inr (.inl f3_1))), (b0, .inl (cA 2, 700, .inl fb))]) 5 hP hD [] [0, 1, 2, 3, 4] rfl rfl (by decide) (by decide) hk1 hFc hP1 hD1 rfl
      generalize H1 = H at hP hS ⊢
      obtain rfl : rn13 = (ckd (fb i1)) := hw
      refine lv_istore (lv' := [(6, .int (ckd (fb i1))), (5, .int (nI i1)), (4, .int x4_1), (3, .int (nI rni)), (0, .ref r1), (1, .ref b0), (2, .int (nI ln))]) hx hb dX5_split_33 hl (by decide) rfl (fun ls hl => ?_)
      refine lv_iload hx hb dX5_split_35 (lv_at hl 0 rfl) ?_
      refine lv_iload hx hb dX5_split_37 (lv_at hl 2 rfl) ?_
      refine lv_icmp_ne (tgt := 58) hx hb dX5_split_39 (by decide) (fun c14 => ?_) (fun c14 => ?_)
      · skip
        refine lv_iconst (v := 0) hx hb dX5_split_58 (by decide) ?_
        refine lv_istore (lv' := [(7, .int 0), (6, .int (ckd (fb i1))), (5, .int (nI i1)), (4, .int x4_1), (3, .int (nI rni)), (0, .ref r1), (1, .ref b0), (2, .int (nI ln))]) hx hb dX5_split_59 hl (by decide) rfl (fun ls hl => ?_)
        refine lv_iload hx hb dX5_split_61 (lv_at hl 0 rfl) ?_
        refine lv_if_eq (tgt := 72) hx hb dX5_split_63 (by decide) (fun c15 => ?_) (fun c9 => absurd c9 (by decide))
        refine lv_iconst (v := 1) hx hb dX5_split_72 (by decide) ?_
        refine lv_istore_n (lv' := [(3, .int 1), (7, .int 0), (6, .int (ckd (fb i1))), (5, .int (nI i1)), (4, .int x4_1), (0, .ref r1), (1, .ref b0), (2, .int (nI ln))]) hx hb dX5_split_73 rfl hl (by decide) rfl (fun ls hl => ?_)
        refine lv_iload hx hb dX5_split_74 (lv_at hl 1 rfl) ?_
        refine lv_if_eq (tgt := 93) hx hb dX5_split_76 (by decide) (fun c16 => ?_) (fun c9 => absurd c9 (by decide))
        refine lv_iload hx hb dX5_split_93 (lv_at hl 2 rfl) ?_
        refine lv_if_eq (tgt := 116) hx hb dX5_split_95 (by decide) (fun c17 => ?_) (fun c17 => ?_)
        · skip
          refine lv_iload hx hb dX5_split_116 (lv_at hl 2 rfl) ?_
          refine lv_istore (lv' := [(4, .int (ckd (fb i1))), (3, .int 1), (7, .int 0), (6, .int (ckd (fb i1))), (5, .int (nI i1)), (0, .ref r1), (1, .ref b0), (2, .int (nI ln))]) hx hb dX5_split_118 hl (by decide) rfl (fun ls hl => ?_)
          refine lv_iinc (v := (nI (i1 + 1))) (lv' := [(5, .int (nI (i1 + 1))), (4, .int (ckd (fb i1))), (3, .int 1), (7, .int 0), (6, .int (ckd (fb i1))), (0, .ref r1), (1, .ref b0), (2, .int (nI ln))]) hx hb dX5_split_120 hl (k := 4) rfl (nI_1 _) (by decide) rfl (fun ls hl => ?_)
          refine lv_goto (tgt := 13) hx hb dX5_split_123 (by decide) ?_
          obtain ⟨hP9, hD9⟩ := PDq.sub (ws' := [(oX5 r1 k1 k2 k3 (nI ci)), (k1, .inl (cA 0, 701, .inl f1_1)), (k2, .inl (cA 0, 701, .inl f2_1)), (k3, .inl (cA 1, 701, .inr (.inl f3_1))), (b0, .inl (cA 2, 700, .inl fb))]) hP hD [0, 1, 2, 3, 4] (by decide) rfl
          exact ih1 (i1 + 1) 1 (ckd (fb i1)) ci f1_1 f2_1 f3_1 H _ ls (by omega) (by omega) (by omega) (Sp.blankx 1 hv2_1 c17) hP9 hD9 hS (lv_sub hl [0, 1, 2, 5, 6, 7] rfl)
        · skip
          refine lv_aload_n hx hb dX5_split_98 rfl (lv_at hl 5 rfl) ?_
          refine lv_iload hx hb dX5_split_99 (lv_at hl 2 rfl) ?_
          refine lv_iload hx hb dX5_split_101 (lv_at hl 3 rfl) ?_
          refine lv_iload hx hb dX5_split_103 (lv_at hl 2 rfl) ?_
          refine lv_lconst (v := 0) hx hb dX5_split_105 (by decide) ?_
          refine lv_aload_n hx hb dX5_split_106 rfl (lv_at hl 6 rfl) ?_
          refine lv_iload hx hb dX5_split_107 (lv_at hl 3 rfl) ?_
          refine va_cald hx hb hK hP 4 2 rfl rfl (vp_in_nI (n := i1) (N := 700) (show i1 < 700 by omega) (by decide)) dX5_split_109 ?_
          refine lv_topi (fun yn18 eyn18 => ?_)
          obtain rfl : yn18 = (fb i1) := eyn18.trans (by rw [nI_clamp (by omega)])
          obtain ⟨hPc, hDc, hFc⟩ := PDq.cut (wc := []) hP hD hS hA [] (by decide) rfl
          refine va_calll (va_runS (As := [.int (ckd (fb i1)), .long 0, .int (fb i1)]) (rest := [.int (nI i1), .int (ckd (fb i1)), .ref r1]) ⟨hx, hb, hml, hown, hts⟩ (x_extended l D cA sa 0 (ckd (fb i1)) (fb i1) H.size (fun h9 => h9)) (va_cwS 3 hts gX5_split_X5_extended rfl rfl rfl (by decide +kernel) ⟨(Nat.le_of_ble_eq_true rfl), (Nat.le_of_ble_eq_true rfl)⟩) ⟨Wd.blind, fun U hU hW => ⟨rfl, Wd.call hPc hDc hK hC hZ hS hFc U hU hW⟩⟩ rfl rfl hl.1 rfl (lv_room (Nat.le_of_ble_eq_true rfl)) dX5_split_110 ⟨(Nat.le_of_ble_eq_true rfl), (Nat.le_of_ble_eq_true rfl)⟩) hS (fun q _ h => hFc q h) hFc (fun rn19 u t H1 locs ht hvm hw hB hz1 hk1 hS => ?_)
          obtain ⟨hP1, hD1⟩ := hB
          rw [ht] at hP1
          obtain ⟨hP, hD⟩ := PDq.join (w := [(oX5 r1 k1 k2 k3 (nI ci)), (k1, .inl (cA 0, 701, .inl f1_1)), (k2, .inl (cA 0, 701, .inl f2_1)), (k3, .inl (cA 1, 701, .inr (.inl f3_1))), (b0, .inl (cA 2, 700, .inl fb))]) 5 hP hD [] [0, 1, 2, 3, 4] rfl rfl (by decide) (by decide) hk1 hFc hP1 hD1 rfl
          generalize H1 = H at hP hS ⊢
          obtain rfl : rn19 = (if (ckd (fb i1)) = 4 then 32 * 0 + (fb i1).toInt64 - 96 else if (ckd (fb i1)) = 3 then 0 * 10 + ((fb i1) - 48).toInt64 else 0) := hw
          obtain ⟨hPc, hDc, hFc⟩ := PDq.cut (wc := [(oX5 r1 k1 k2 k3 (nI ci)), (k1, .inl (cA 0, 701, .inl f1_1)), (k2, .inl (cA 0, 701, .inl f2_1)), (k3, .inl (cA 1, 701, .inr (.inl f3_1)))]) hP hD hS hA [0, 1, 2, 3] (by decide) rfl
          refine va_callv (va_runV (As := [.int (ckd (fb i1)), .int (nI i1), .long (if (ckd (fb i1)) = 4 then 32 * 0 + (fb i1).toInt64 - 96 else if (ckd (fb i1)) = 3 then 0 * 10 + ((fb i1) - 48).toInt64 else 0)]) (rest := []) ⟨hx, hb, hml, hown, hts⟩ (x_addTok l D cA sa r1 k1 k2 k3 ci f1_1 f2_1 f3_1 (ckd (fb i1)) (nI i1) (if (ckd (fb i1)) = 4 then 32 * 0 + (fb i1).toInt64 - 96 else if (ckd (fb i1)) = 3 then 0 * 10 + ((fb i1) - 48).toInt64 else 0) H.size (by omega)) (cwV 3 hts gX5_split_X5_add rfl rfl rfl (by decide +kernel) ⟨(Nat.le_of_ble_eq_true rfl), (Nat.le_of_ble_eq_true rfl)⟩) ⟨Wd.blind, va_recv hK hPc (ci := 9) (q0 := 0) rfl rfl, fun U hU hW => ⟨rfl, Wd.call hPc hDc hK hC hZ hS hFc U hU hW⟩⟩ rfl rfl hl.1 rfl (lv_room (Nat.le_of_ble_eq_true rfl)) dX5_split_113 ⟨(Nat.le_of_ble_eq_true rfl), (Nat.le_of_ble_eq_true rfl)⟩) hS (fun q _ h => hFc q h) hFc (fun u t H1 locs ht hvm hw hB hz1 hk1 hS => ?_)
          obtain ⟨fn20, fn21, fn22, hn23, hn24, hn25, hP1, hD1⟩ := hB
          rw [ht] at hP1
          obtain ⟨hP, hD⟩ := PDq.join (w := [(b0, .inl (cA 2, 700, .inl fb)), (oX5 r1 k1 k2 k3 (nI (ci + 1))), (k1, .inl (cA 0, 701, .inl fn20)), (k2, .inl (cA 0, 701, .inl fn21)), (k3, .inl (cA 1, 701, .inr (.inl fn22)))]) 1 hP hD [0, 1, 2, 3] [4] rfl rfl (by decide) (by decide) hk1 hFc hP1 hD1 rfl
          generalize H1 = H at hP hS ⊢
          refine lv_iload hx hb dX5_split_116 (lv_at hl 2 rfl) ?_
          refine lv_istore (lv' := [(4, .int (ckd (fb i1))), (3, .int 1), (7, .int 0), (6, .int (ckd (fb i1))), (5, .int (nI i1)), (0, .ref r1), (1, .ref b0), (2, .int (nI ln))]) hx hb dX5_split_118 hl (by decide) rfl (fun ls hl => ?_)
          refine lv_iinc (v := (nI (i1 + 1))) (lv' := [(5, .int (nI (i1 + 1))), (4, .int (ckd (fb i1))), (3, .int 1), (7, .int 0), (6, .int (ckd (fb i1))), (0, .ref r1), (1, .ref b0), (2, .int (nI ln))]) hx hb dX5_split_120 hl (k := 4) rfl (nI_1 _) (by decide) rfl (fun ls hl => ?_)
          refine lv_goto (tgt := 13) hx hb dX5_split_123 (by decide) ?_
          obtain ⟨hP9, hD9⟩ := PDq.sub (ws' := [(oX5 r1 k1 k2 k3 (nI (ci + 1))), (k1, .inl (cA 0, 701, .inl fn20)), (k2, .inl (cA 0, 701, .inl fn21)), (k3, .inl (cA 1, 701, .inr (.inl fn22))), (b0, .inl (cA 2, 700, .inl fb))]) hP hD [1, 2, 3, 4, 0] (by decide) rfl
          exact ih1 (i1 + 1) 1 (ckd (fb i1)) (ci + 1) fn20 fn21 fn22 H _ ls (by omega) (by omega) (by omega) (Sp.newx hv2_1 (fun q => c14 q.1) c17 hn23 hn24 hn25) hP9 hD9 hS (lv_sub hl [0, 1, 2, 5, 6, 7] rfl)
      · skip
        refine lv_iload hx hb dX5_split_42 (lv_at hl 0 rfl) ?_
        refine lv_iconst (v := 4) hx hb dX5_split_44 (by decide) ?_
        refine lv_icmp_eq (tgt := 54) hx hb dX5_split_45 (by decide) (fun c26 => ?_) (fun c26 => ?_)
        · skip
          refine lv_iconst (v := 1) hx hb dX5_split_54 (by decide) ?_
          refine lv_goto (tgt := 59) hx hb dX5_split_55 (by decide) ?_
          refine lv_istore (lv' := [(7, .int 1), (6, .int (ckd (fb i1))), (5, .int (nI i1)), (4, .int x4_1), (3, .int (nI rni)), (0, .ref r1), (1, .ref b0), (2, .int (nI ln))]) hx hb dX5_split_59 hl (by decide) rfl (fun ls hl => ?_)
          refine lv_iload hx hb dX5_split_61 (lv_at hl 0 rfl) ?_
          refine lv_if_eq (tgt := 72) hx hb dX5_split_63 (by decide) (fun c9 => absurd c9 (by decide)) (fun c27 => ?_)
          refine lv_iload_n hx hb dX5_split_66 rfl (lv_at hl 4 rfl) ?_
          refine lv_iconst (v := 1) hx hb dX5_split_67 (by decide) ?_
          refine lv_iadd hx hb dX5_split_68 ?_
          refine lv_topi (fun yn28 eyn28 => ?_)
          obtain rfl : yn28 = (nI (rni + 1)) := eyn28.trans (nI_add rni 1)
          refine lv_goto (tgt := 73) hx hb dX5_split_69 (by decide) ?_
          refine lv_istore_n (lv' := [(3, .int (nI (rni + 1))), (7, .int 1), (6, .int (ckd (fb i1))), (5, .int (nI i1)), (4, .int x4_1), (0, .ref r1), (1, .ref b0), (2, .int (nI ln))]) hx hb dX5_split_73 rfl hl (by decide) rfl (fun ls hl => ?_)
          refine lv_iload hx hb dX5_split_74 (lv_at hl 1 rfl) ?_
          refine lv_if_eq (tgt := 93) hx hb dX5_split_76 (by decide) (fun c9 => absurd c9 (by decide)) (fun c29 => ?_)
          have hn30 : 0 < ci := Sp.pos hv2_1 c14 (Or.inl c26)
          refine lv_aload_n hx hb dX5_split_79 rfl (lv_at hl 5 rfl) ?_
          refine lv_iload hx hb dX5_split_80 (lv_at hl 2 rfl) ?_
          refine lv_aload_n hx hb dX5_split_82 rfl (lv_at hl 6 rfl) ?_
          refine lv_iload hx hb dX5_split_83 (lv_at hl 3 rfl) ?_
          refine va_cald hx hb hK hP 4 2 rfl rfl (vp_in_nI (n := i1) (N := 700) (show i1 < 700 by omega) (by decide)) dX5_split_85 ?_
          refine lv_topi (fun yn31 eyn31 => ?_)
          obtain rfl : yn31 = (fb i1) := eyn31.trans (by rw [nI_clamp (by omega)])
          refine lv_iload_n hx hb dX5_split_86 rfl (lv_at hl 0 rfl) ?_
          obtain ⟨hPc, hDc, hFc⟩ := PDq.cut (wc := [(oX5 r1 k1 k2 k3 (nI ci)), (k1, .inl (cA 0, 701, .inl f1_1)), (k2, .inl (cA 0, 701, .inl f2_1)), (k3, .inl (cA 1, 701, .inr (.inl f3_1)))]) hP hD hS hA [0, 1, 2, 3] (by decide) rfl
          refine va_callv (va_runV (As := [.int (ckd (fb i1)), .int (fb i1), .int (nI (rni + 1))]) (rest := []) ⟨hx, hb, hml, hown, hts⟩ (x_extendLast l D cA sa r1 k1 k2 k3 ci f1_1 f2_1 f3_1 (ckd (fb i1)) (fb i1) (rni + 1) H.size (by omega) hn30 (fun h9 => h9) (by omega)) (cwV 3 hts gX5_split_X5_extendLast rfl rfl rfl (by decide +kernel) ⟨(Nat.le_of_ble_eq_true rfl), (Nat.le_of_ble_eq_true rfl)⟩) ⟨Wd.blind, va_recv hK hPc (ci := 9) (q0 := 0) rfl rfl, fun U hU hW => ⟨rfl, Wd.call hPc hDc hK hC hZ hS hFc U hU hW⟩⟩ rfl rfl hl.1 rfl (lv_room (Nat.le_of_ble_eq_true rfl)) dX5_split_87 ⟨(Nat.le_of_ble_eq_true rfl), (Nat.le_of_ble_eq_true rfl)⟩) hS (fun q _ h => hFc q h) hFc (fun u t H1 locs ht hvm hw hB hz1 hk1 hS => ?_)
          obtain ⟨fn32, fn33, hn34, hn35, hP1, hD1⟩ := hB
          rw [ht] at hP1
          obtain ⟨hP, hD⟩ := PDq.join (w := [(b0, .inl (cA 2, 700, .inl fb)), (oX5 r1 k1 k2 k3 (nI ci)), (k1, .inl (cA 0, 701, .inl fn32)), (k2, .inl (cA 0, 701, .inl f2_1)), (k3, .inl (cA 1, 701, .inr (.inl fn33)))]) 1 hP hD [0, 1, 2, 3] [4] rfl rfl (by decide) (by decide) hk1 hFc hP1 hD1 rfl
          generalize H1 = H at hP hS ⊢
          refine lv_goto (tgt := 116) hx hb dX5_split_90 (by decide) ?_
          refine lv_iload hx hb dX5_split_116 (lv_at hl 2 rfl) ?_
          refine lv_istore (lv' := [(4, .int (ckd (fb i1))), (3, .int (nI (rni + 1))), (7, .int 1), (6, .int (ckd (fb i1))), (5, .int (nI i1)), (0, .ref r1), (1, .ref b0), (2, .int (nI ln))]) hx hb dX5_split_118 hl (by decide) rfl (fun ls hl => ?_)
          refine lv_iinc (v := (nI (i1 + 1))) (lv' := [(5, .int (nI (i1 + 1))), (4, .int (ckd (fb i1))), (3, .int (nI (rni + 1))), (7, .int 1), (6, .int (ckd (fb i1))), (0, .ref r1), (1, .ref b0), (2, .int (nI ln))]) hx hb dX5_split_120 hl (k := 4) rfl (nI_1 _) (by decide) rfl (fun ls hl => ?_)
          refine lv_goto (tgt := 13) hx hb dX5_split_123 (by decide) ?_
          obtain ⟨hP9, hD9⟩ := PDq.sub (ws' := [(oX5 r1 k1 k2 k3 (nI ci)), (k1, .inl (cA 0, 701, .inl fn32)), (k2, .inl (cA 0, 701, .inl f2_1)), (k3, .inl (cA 1, 701, .inr (.inl fn33))), (b0, .inl (cA 2, 700, .inl fb))]) hP hD [1, 2, 3, 4, 0] (by decide) rfl
          exact ih1 (i1 + 1) (rni + 1) (ckd (fb i1)) ci fn32 f2_1 fn33 H _ ls (by omega) (by omega) (by omega) (Sp.extx hv2_1 c14 (Or.inl c26) hn34 hn35) hP9 hD9 hS (lv_sub hl [0, 1, 2, 5, 6, 7] rfl)
        · skip
          refine lv_iload hx hb dX5_split_48 (lv_at hl 0 rfl) ?_
          refine lv_iconst (v := 3) hx hb dX5_split_50 (by decide) ?_
          refine lv_icmp_ne (tgt := 58) hx hb dX5_split_51 (by decide) (fun c36 => ?_) (fun c36 => ?_)
          · skip
            refine lv_iconst (v := 0) hx hb dX5_split_58 (by decide) ?_
            refine lv_istore (lv' := [(7, .int 0), (6, .int (ckd (fb i1))), (5, .int (nI i1)), (4, .int x4_1), (3, .int (nI rni)), (0, .ref r1), (1, .ref b0), (2, .int (nI ln))]) hx hb dX5_split_59 hl (by decide) rfl (fun ls hl => ?_)
            refine lv_iload hx hb dX5_split_61 (lv_at hl 0 rfl) ?_
            refine lv_if_eq (tgt := 72) hx hb dX5_split_63 (by decide) (fun c37 => ?_) (fun c9 => absurd c9 (by decide))
            refine lv_iconst (v := 1) hx hb dX5_split_72 (by decide) ?_
            refine lv_istore_n (lv' := [(3, .int 1), (7, .int 0), (6, .int (ckd (fb i1))), (5, .int (nI i1)), (4, .int x4_1), (0, .ref r1), (1, .ref b0), (2, .int (nI ln))]) hx hb dX5_split_73 rfl hl (by decide) rfl (fun ls hl => ?_)
            refine lv_iload hx hb dX5_split_74 (lv_at hl 1 rfl) ?_
            refine lv_if_eq (tgt := 93) hx hb dX5_split_76 (by decide) (fun c38 => ?_) (fun c9 => absurd c9 (by decide))
            refine lv_iload hx hb dX5_split_93 (lv_at hl 2 rfl) ?_
            refine lv_if_eq (tgt := 116) hx hb dX5_split_95 (by decide) (fun c39 => ?_) (fun c39 => ?_)
            · skip
              refine lv_iload hx hb dX5_split_116 (lv_at hl 2 rfl) ?_
              refine lv_istore (lv' := [(4, .int (ckd (fb i1))), (3, .int 1), (7, .int 0), (6, .int (ckd (fb i1))), (5, .int (nI i1)), (0, .ref r1), (1, .ref b0), (2, .int (nI ln))]) hx hb dX5_split_118 hl (by decide) rfl (fun ls hl => ?_)
              refine lv_iinc (v := (nI (i1 + 1))) (lv' := [(5, .int (nI (i1 + 1))), (4, .int (ckd (fb i1))), (3, .int 1), (7, .int 0), (6, .int (ckd (fb i1))), (0, .ref r1), (1, .ref b0), (2, .int (nI ln))]) hx hb dX5_split_120 hl (k := 4) rfl (nI_1 _) (by decide) rfl (fun ls hl => ?_)
              refine lv_goto (tgt := 13) hx hb dX5_split_123 (by decide) ?_
              obtain ⟨hP9, hD9⟩ := PDq.sub (ws' := [(oX5 r1 k1 k2 k3 (nI ci)), (k1, .inl (cA 0, 701, .inl f1_1)), (k2, .inl (cA 0, 701, .inl f2_1)), (k3, .inl (cA 1, 701, .inr (.inl f3_1))), (b0, .inl (cA 2, 700, .inl fb))]) hP hD [0, 1, 2, 3, 4] (by decide) rfl
              exact ih1 (i1 + 1) 1 (ckd (fb i1)) ci f1_1 f2_1 f3_1 H _ ls (by omega) (by omega) (by omega) (Sp.blankx 1 hv2_1 c39) hP9 hD9 hS (lv_sub hl [0, 1, 2, 5, 6, 7] rfl)
            · skip
              refine lv_aload_n hx hb dX5_split_98 rfl (lv_at hl 5 rfl) ?_
              refine lv_iload hx hb dX5_split_99 (lv_at hl 2 rfl) ?_
              refine lv_iload hx hb dX5_split_101 (lv_at hl 3 rfl) ?_
              refine lv_iload hx hb dX5_split_103 (lv_at hl 2 rfl) ?_
              refine lv_lconst (v := 0) hx hb dX5_split_105 (by decide) ?_
              refine lv_aload_n hx hb dX5_split_106 rfl (lv_at hl 6 rfl) ?_
              refine lv_iload hx hb dX5_split_107 (lv_at hl 3 rfl) ?_
              refine va_cald hx hb hK hP 4 2 rfl rfl (vp_in_nI (n := i1) (N := 700) (show i1 < 700 by omega) (by decide)) dX5_split_109 ?_
              refine lv_topi (fun yn40 eyn40 => ?_)
              obtain rfl : yn40 = (fb i1) := eyn40.trans (by rw [nI_clamp (by omega)])
              obtain ⟨hPc, hDc, hFc⟩ := PDq.cut (wc := []) hP hD hS hA [] (by decide) rfl
              refine va_calll (va_runS (As := [.int (ckd (fb i1)), .long 0, .int (fb i1)]) (rest := [.int (nI i1), .int (ckd (fb i1)), .ref r1]) ⟨hx, hb, hml, hown, hts⟩ (x_extended l D cA sa 0 (ckd (fb i1)) (fb i1) H.size (fun h9 => h9)) (va_cwS 3 hts gX5_split_X5_extended rfl rfl rfl (by decide +kernel) ⟨(Nat.le_of_ble_eq_true rfl), (Nat.le_of_ble_eq_true rfl)⟩) ⟨Wd.blind, fun U hU hW => ⟨rfl, Wd.call hPc hDc hK hC hZ hS hFc U hU hW⟩⟩ rfl rfl hl.1 rfl (lv_room (Nat.le_of_ble_eq_true rfl)) dX5_split_110 ⟨(Nat.le_of_ble_eq_true rfl), (Nat.le_of_ble_eq_true rfl)⟩) hS (fun q _ h => hFc q h) hFc (fun rn41 u t H1 locs ht hvm hw hB hz1 hk1 hS => ?_)
              obtain ⟨hP1, hD1⟩ := hB
              rw [ht] at hP1
              obtain ⟨hP, hD⟩ := PDq.join (w := [(oX5 r1 k1 k2 k3 (nI ci)), (k1, .inl (cA 0, 701, .inl f1_1)), (k2, .inl (cA 0, 701, .inl f2_1)), (k3, .inl (cA 1, 701, .inr (.inl f3_1))), (b0, .inl (cA 2, 700, .inl fb))]) 5 hP hD [] [0, 1, 2, 3, 4] rfl rfl (by decide) (by decide) hk1 hFc hP1 hD1 rfl
              generalize H1 = H at hP hS ⊢
              obtain rfl : rn41 = (if (ckd (fb i1)) = 4 then 32 * 0 + (fb i1).toInt64 - 96 else if (ckd (fb i1)) = 3 then 0 * 10 + ((fb i1) - 48).toInt64 else 0) := hw
              obtain ⟨hPc, hDc, hFc⟩ := PDq.cut (wc := [(oX5 r1 k1 k2 k3 (nI ci)), (k1, .inl (cA 0, 701, .inl f1_1)), (k2, .inl (cA 0, 701, .inl f2_1)), (k3, .inl (cA 1, 701, .inr (.inl f3_1)))]) hP hD hS hA [0, 1, 2, 3] (by decide) rfl
              refine va_callv (va_runV (As := [.int (ckd (fb i1)), .int (nI i1), .long (if (ckd (fb i1)) = 4 then 32 * 0 + (fb i1).toInt64 - 96 else if (ckd (fb i1)) = 3 then 0 * 10 + ((fb i1) - 48).toInt64 else 0)]) (rest := []) ⟨hx, hb, hml, hown, hts⟩ (x_addTok l D cA sa r1 k1 k2 k3 ci f1_1 f2_1 f3_1 (ckd (fb i1)) (nI i1) (if (ckd (fb i1)) = 4 then 32 * 0 + (fb i1).toInt64 - 96 else if (ckd (fb i1)) = 3 then 0 * 10 + ((fb i1) - 48).toInt64 else 0) H.size (by omega)) (cwV 3 hts gX5_split_X5_add rfl rfl rfl (by decide +kernel) ⟨(Nat.le_of_ble_eq_true rfl), (Nat.le_of_ble_eq_true rfl)⟩) ⟨Wd.blind, va_recv hK hPc (ci := 9) (q0 := 0) rfl rfl, fun U hU hW => ⟨rfl, Wd.call hPc hDc hK hC hZ hS hFc U hU hW⟩⟩ rfl rfl hl.1 rfl (lv_room (Nat.le_of_ble_eq_true rfl)) dX5_split_113 ⟨(Nat.le_of_ble_eq_true rfl), (Nat.le_of_ble_eq_true rfl)⟩) hS (fun q _ h => hFc q h) hFc (fun u t H1 locs ht hvm hw hB hz1 hk1 hS => ?_)
              obtain ⟨fn42, fn43, fn44, hn45, hn46, hn47, hP1, hD1⟩ := hB
              rw [ht] at hP1
              obtain ⟨hP, hD⟩ := PDq.join (w := [(b0, .inl (cA 2, 700, .inl fb)), (oX5 r1 k1 k2 k3 (nI (ci + 1))), (k1, .inl (cA 0, 701, .inl fn42)), (k2, .inl (cA 0, 701, .inl fn43)), (k3, .inl (cA 1, 701, .inr (.inl fn44)))]) 1 hP hD [0, 1, 2, 3] [4] rfl rfl (by decide) (by decide) hk1 hFc hP1 hD1 rfl
              generalize H1 = H at hP hS ⊢
              refine lv_iload hx hb dX5_split_116 (lv_at hl 2 rfl) ?_
              refine lv_istore (lv' := [(4, .int (ckd (fb i1))), (3, .int 1), (7, .int 0), (6, .int (ckd (fb i1))), (5, .int (nI i1)), (0, .ref r1), (1, .ref b0), (2, .int (nI ln))]) hx hb dX5_split_118 hl (by decide) rfl (fun ls hl => ?_)
              refine lv_iinc (v := (nI (i1 + 1))) (lv' := [(5, .int (nI (i1 + 1))), (4, .int (ckd (fb i1))), (3, .int 1), (7, .int 0), (6, .int (ckd (fb i1))), (0, .ref r1), (1, .ref b0), (2, .int (nI ln))]) hx hb dX5_split_120 hl (k := 4) rfl (nI_1 _) (by decide) rfl (fun ls hl => ?_)
              refine lv_goto (tgt := 13) hx hb dX5_split_123 (by decide) ?_
              obtain ⟨hP9, hD9⟩ := PDq.sub (ws' := [(oX5 r1 k1 k2 k3 (nI (ci + 1))), (k1, .inl (cA 0, 701, .inl fn42)), (k2, .inl (cA 0, 701, .inl fn43)), (k3, .inl (cA 1, 701, .inr (.inl fn44))), (b0, .inl (cA 2, 700, .inl fb))]) hP hD [1, 2, 3, 4, 0] (by decide) rfl
              exact ih1 (i1 + 1) 1 (ckd (fb i1)) (ci + 1) fn42 fn43 fn44 H _ ls (by omega) (by omega) (by omega) (Sp.newx hv2_1 (fun q => q.2.elim c26 c36) c39 hn45 hn46 hn47) hP9 hD9 hS (lv_sub hl [0, 1, 2, 5, 6, 7] rfl)
          · skip
            refine lv_iconst (v := 1) hx hb dX5_split_54 (by decide) ?_
            refine lv_goto (tgt := 59) hx hb dX5_split_55 (by decide) ?_
            refine lv_istore (lv' := [(7, .int 1), (6, .int (ckd (fb i1))), (5, .int (nI i1)), (4, .int x4_1), (3, .int (nI rni)), (0, .ref r1), (1, .ref b0), (2, .int (nI ln))]) hx hb dX5_split_59 hl (by decide) rfl (fun ls hl => ?_)
            refine lv_iload hx hb dX5_split_61 (lv_at hl 0 rfl) ?_
            refine lv_if_eq (tgt := 72) hx hb dX5_split_63 (by decide) (fun c9 => absurd c9 (by decide)) (fun c48 => ?_)
            refine lv_iload_n hx hb dX5_split_66 rfl (lv_at hl 4 rfl) ?_
            refine lv_iconst (v := 1) hx hb dX5_split_67 (by decide) ?_
            refine lv_iadd hx hb dX5_split_68 ?_
            refine lv_topi (fun yn49 eyn49 => ?_)
            obtain rfl : yn49 = (nI (rni + 1)) := eyn49.trans (nI_add rni 1)
            refine lv_goto (tgt := 73) hx hb dX5_split_69 (by decide) ?_
            refine lv_istore_n (lv' := [(3, .int (nI (rni + 1))), (7, .int 1), (6, .int (ckd (fb i1))), (5, .int (nI i1)), (4, .int x4_1), (0, .ref r1), (1, .ref b0), (2, .int (nI ln))]) hx hb dX5_split_73 rfl hl (by decide) rfl (fun ls hl => ?_)
            refine lv_iload hx hb dX5_split_74 (lv_at hl 1 rfl) ?_
            refine lv_if_eq (tgt := 93) hx hb dX5_split_76 (by decide) (fun c9 => absurd c9 (by decide)) (fun c50 => ?_)
            have hn51 : 0 < ci := Sp.pos hv2_1 c14 (Or.inr c36)
            refine lv_aload_n hx hb dX5_split_79 rfl (lv_at hl 5 rfl) ?_
            refine lv_iload hx hb dX5_split_80 (lv_at hl 2 rfl) ?_
            refine lv_aload_n hx hb dX5_split_82 rfl (lv_at hl 6 rfl) ?_
            refine lv_iload hx hb dX5_split_83 (lv_at hl 3 rfl) ?_
            refine va_cald hx hb hK hP 4 2 rfl rfl (vp_in_nI (n := i1) (N := 700) (show i1 < 700 by omega) (by decide)) dX5_split_85 ?_
            refine lv_topi (fun yn52 eyn52 => ?_)
            obtain rfl : yn52 = (fb i1) := eyn52.trans (by rw [nI_clamp (by omega)])
            refine lv_iload_n hx hb dX5_split_86 rfl (lv_at hl 0 rfl) ?_
            obtain ⟨hPc, hDc, hFc⟩ := PDq.cut (wc := [(oX5 r1 k1 k2 k3 (nI ci)), (k1, .inl (cA 0, 701, .inl f1_1)), (k2, .inl (cA 0, 701, .inl f2_1)), (k3, .inl (cA 1, 701, .inr (.inl f3_1)))]) hP hD hS hA [0, 1, 2, 3] (by decide) rfl
            refine va_callv (va_runV (As := [.int (ckd (fb i1)), .int (fb i1), .int (nI (rni + 1))]) (rest := []) ⟨hx, hb, hml, hown, hts⟩ (x_extendLast l D cA sa r1 k1 k2 k3 ci f1_1 f2_1 f3_1 (ckd (fb i1)) (fb i1) (rni + 1) H.size (by omega) hn51 (fun h9 => h9) (by omega)) (cwV 3 hts gX5_split_X5_extendLast rfl rfl rfl (by decide +kernel) ⟨(Nat.le_of_ble_eq_true rfl), (Nat.le_of_ble_eq_true rfl)⟩) ⟨Wd.blind, va_recv hK hPc (ci := 9) (q0 := 0) rfl rfl, fun U hU hW => ⟨rfl, Wd.call hPc hDc hK hC hZ hS hFc U hU hW⟩⟩ rfl rfl hl.1 rfl (lv_room (Nat.le_of_ble_eq_true rfl)) dX5_split_87 ⟨(Nat.le_of_ble_eq_true rfl), (Nat.le_of_ble_eq_true rfl)⟩) hS (fun q _ h => hFc q h) hFc (fun u t H1 locs ht hvm hw hB hz1 hk1 hS => ?_)
            obtain ⟨fn53, fn54, hn55, hn56, hP1, hD1⟩ := hB
            rw [ht] at hP1
            obtain ⟨hP, hD⟩ := PDq.join (w := [(b0, .inl (cA 2, 700, .inl fb)), (oX5 r1 k1 k2 k3 (nI ci)), (k1, .inl (cA 0, 701, .inl fn53)), (k2, .inl (cA 0, 701, .inl f2_1)), (k3, .inl (cA 1, 701, .inr (.inl fn54)))]) 1 hP hD [0, 1, 2, 3] [4] rfl rfl (by decide) (by decide) hk1 hFc hP1 hD1 rfl
            generalize H1 = H at hP hS ⊢
            refine lv_goto (tgt := 116) hx hb dX5_split_90 (by decide) ?_
            refine lv_iload hx hb dX5_split_116 (lv_at hl 2 rfl) ?_
            refine lv_istore (lv' := [(4, .int (ckd (fb i1))), (3, .int (nI (rni + 1))), (7, .int 1), (6, .int (ckd (fb i1))), (5, .int (nI i1)), (0, .ref r1), (1, .ref b0), (2, .int (nI ln))]) hx hb dX5_split_118 hl (by decide) rfl (fun ls hl => ?_)
            refine lv_iinc (v := (nI (i1 + 1))) (lv' := [(5, .int (nI (i1 + 1))), (4, .int (ckd (fb i1))), (3, .int (nI (rni + 1))), (7, .int 1), (6, .int (ckd (fb i1))), (0, .ref r1), (1, .ref b0), (2, .int (nI ln))]) hx hb dX5_split_120 hl (k := 4) rfl (nI_1 _) (by decide) rfl (fun ls hl => ?_)
            refine lv_goto (tgt := 13) hx hb dX5_split_123 (by decide) ?_
            obtain ⟨hP9, hD9⟩ := PDq.sub (ws' := [(oX5 r1 k1 k2 k3 (nI ci)), (k1, .inl (cA 0, 701, .inl fn53)), (k2, .inl (cA 0, 701, .inl f2_1)), (k3, .inl (cA 1, 701, .inr (.inl fn54))), (b0, .inl (cA 2, 700, .inl fb))]) hP hD [1, 2, 3, 4, 0] (by decide) rfl
            exact ih1 (i1 + 1) (rni + 1) (ckd (fb i1)) ci fn53 f2_1 fn54 H _ ls (by omega) (by omega) (by omega) (Sp.extx hv2_1 c14 (Or.inr c36) hn55 hn56) hP9 hD9 hS (lv_sub hl [0, 1, 2, 5, 6, 7] rfl)
  obtain ⟨hP9, hD9⟩ := PDq.sub (ws' := [(oX5 r1 k1 k2 k3 0), (k1, .inl (cA 0, 701, .inl fk)), (k2, .inl (cA 0, 701, .inl ft)), (k3, .inl (cA 1, 701, .inr (.inl fv))), (b0, .inl (cA 2, 700, .inl fb))]) hP hD [0, 1, 2, 3, 4] (by decide) rfl
  exact loop1 (ln - 0) 0 0 0 0 fk ft fv _ _ ls (by omega) (by omega) (by omega) (Sp.zero fb fk ft fv) hP9 hD9 hS (lv_sub hl [0, 1, 2, 3, 4, 5] rfl)

set_option maxHeartbeats 4000000 in
set_option maxRecDepth 100000 in
/-- lookAt -/
theorem x_lookAt_look (l : Launch) (D : va_G) (cA : Nat → ClassId) (sa : Nat → Nat) (r0 : Nat) (p0 : Nat) (tn : Nat) (ir2 : Int32) (ir3 : Int32) (ir4 : Int32) (ir6 : Int32) (ir7 : Int32) (ir8 : Int32) (ir5 : Int64) (r1 : Nat) (k1 : Nat) (k2 : Nat) (k3 : Nat) (ct : Nat) (fk : Nat → Int32) (ft : Nat → Int32) (fv : Nat → Int64) (sz : Nat) (hct : ct ≤ 701) (htn : tn < ct) : Met l yX4_lookAt wsX4_lookAt ({ frames := 0, cells := 0, slots := 0, locals := 0 }) (va_Pc [.ref r0, .int (nI tn)] (Wd D cA sa [(oX4 r0 r1 p0 ir2 ir3 ir4 ir5 ir6 ir7 ir8), (oX5 r1 k1 k2 k3 (nI ct)), (k1, .inl (cA 0, 701, .inl fk)), (k2, .inl (cA 0, 701, .inl ft)), (k3, .inl (cA 1, 701, .inr (.inl fv)))] sz)) (va_Qv (fun _ : Unit => True) (fun (_ : Unit) t => Wq D (va_A [(oX4 r0 r1 p0 ir2 ir3 ir4 ir5 ir6 ir7 ir8), (oX5 r1 k1 k2 k3 (nI ct)), (k1, .inl (cA 0, 701, .inl fk)), (k2, .inl (cA 0, 701, .inl ft)), (k3, .inl (cA 1, 701, .inr (.inl fv)))] sz) [(oX4 r0 r1 p0 (nI tn) (fk tn) (ft tn) (fv tn) ir6 ir7 ir8), (oX5 r1 k1 k2 k3 (nI ct)), (k1, .inl (cA 0, 701, .inl fk)), (k2, .inl (cA 0, 701, .inl ft)), (k3, .inl (cA 1, 701, .inr (.inl fv)))] t) (va_A [(oX4 r0 r1 p0 ir2 ir3 ir4 ir5 ir6 ir7 ir8), (oX5 r1 k1 k2 k3 (nI ct)), (k1, .inl (cA 0, 701, .inl fk)), (k2, .inl (cA 0, 701, .inl ft)), (k3, .inl (cA 1, 701, .inr (.inl fv)))] sz)) 0 0 (va_A [(oX4 r0 r1 p0 ir2 ir3 ir4 ir5 ir6 ir7 ir8), (oX5 r1 k1 k2 k3 (nI ct)), (k1, .inl (cA 0, 701, .inl fk)), (k2, .inl (cA 0, 701, .inl ft)), (k3, .inl (cA 1, 701, .inr (.inl fv)))] sz) := by
  refine Met.ofW (cc := cX4_lookAt) (maxL := 2) (ret := none) (by decide) rfl ?_
  intro p e s m args below meth c s₁ B hml hv
  obtain ⟨rfl, hsz, hP, hK, hD0, hC, hZ⟩ := hv
  have hx := B.exec
  have hb := B.bytes
  have hr := B.returns
  have hts := atoms_spec (ws := wsX4_lookAt) B.pre
  have hown : s.vm.findClass RX4 = some m.cls := findClass_of_methodNamed B.named
  have hlocks := B.notSynchronized
  subst hsz
  have hD := hD0.self (sz := s.heap.size)
  generalize hAe : va_A [(oX4 r0 r1 p0 ir2 ir3 ir4 ir5 ir6 ir7 ir8), (oX5 r1 k1 k2 k3 (nI ct)), (k1, .inl (cA 0, 701, .inl fk)), (k2, .inl (cA 0, 701, .inl ft)), (k3, .inl (cA 1, 701, .inr (.inl fv)))] s.heap.size = A at hD hZ ⊢
  have hA : ∀ q : Nat, s.heap.size ≤ q → A q := fun q h => by rw [← hAe]; exact Or.inr h
  have hS : va_S A s.heap s.heap [] := va_S.rf
  have hP : va_P D vwCl [(oX4 r0 r1 p0 ir2 ir3 ir4 ir5 ir6 ir7 ir8), (oX5 r1 k1 k2 k3 (nI ct)), (k1, .inl (cA 0, 701, .inl fk)), (k2, .inl (cA 0, 701, .inl ft)), (k3, .inl (cA 1, 701, .inr (.inl fv)))] s.heap := hP
  have hl := lv_entry ([.ref r0, .int (nI tn)]) (n := 2) (Nat.le_of_ble_eq_true rfl)
  rw [lg_entry_eq]
  generalize (lg_sl ([.ref r0, .int (nI tn)]) ++ List.replicate (2 - (lg_sl ([.ref r0, .int (nI tn)])).length) Slot.unset).toArray = ls at hl ⊢
  have hl : lv_has ls 2 [(0, .ref r0), (1, .int (nI tn))] := hl
  have inX4 : ∀ w ∈ u_ws RX4 TX4 9, w ∈ wsX4_lookAt := by decide +kernel
  have inX5 : ∀ w ∈ u_ws RX5 TX5 4, w ∈ wsX4_lookAt := by decide +kernel
  refine lv_iload_n hx hb dX4_lookAt_0 rfl (lv_at hl 1 rfl) ?_
  refine lv_if_lt (tgt := 59) hx hb dX4_lookAt_1 (by decide) (fun c9 => absurd c9 (nI_pos (n := tn) (by omega))) (fun c1 => ?_)
  refine lv_iload_n hx hb dX4_lookAt_4 rfl (lv_at hl 1 rfl) ?_
  refine lv_aload_n hx hb dX4_lookAt_5 rfl (lv_at hl 0 rfl) ?_
  refine va_get (D := D) (ci := 8) (v := .ref r1) (C := RX4) (T := TX4) (N := 9) hx hb hts inX4 hown hK hP 0 rfl rfl 0 (by decide) (hts (.fieldLink RX4 12 "EscrowDesk$Reader" "scanner" "LEscrowDesk$Scanner;") (by decide +kernel)) (fun _ h9 => h9) rfl dX4_lookAt_6 ?_
  refine va_getN (D := D) (ci := 9) (v := .int (nI ct)) (C := RX5) (T := TX5) (N := 4) hx hb hts inX5 hown hK hP 1 rfl rfl 3 (by decide) (hC.f (A := _) (a := RX4) (i := 67) (b := "EscrowDesk$Scanner") (n := "count") (d := "I") (x := "EscrowDesk") (by decide +kernel)) (fun _ h9 => h9) rfl dX4_lookAt_9 ?_
  refine lv_icmp_ge (tgt := 59) hx hb dX4_lookAt_12 (by decide) (fun c9 => absurd c9 (nI_ge (a := tn) (b := ct) (show tn < ct by omega) (by omega))) (fun c2 => ?_)
  refine lv_aload_n hx hb dX4_lookAt_15 rfl (lv_at hl 0 rfl) ?_
  refine lv_iload_n hx hb dX4_lookAt_16 rfl (lv_at hl 1 rfl) ?_
  refine va_put (D := D) (ci := 8) (v := .int (nI tn)) (ty := .int) (C := RX4) (T := TX4) (N := 9) hx hb hts inX4 tyX4 tyX4_ok nmX4 hown hK hP hD hS 0 rfl rfl 2 (by decide) (hts (.fieldLink RX4 70 "EscrowDesk$Reader" "token" "I") (by decide +kernel)) (fun _ h9 => h9) rfl (by decide +kernel) rfl rfl (Nat.le_of_ble_eq_true rfl) dX4_lookAt_17 (fun H locs hP hD hS => ?_)
  obtain ⟨hP, hD⟩ : PDq D A [(oX4 r0 r1 p0 (nI tn) ir3 ir4 ir5 ir6 ir7 ir8), (oX5 r1 k1 k2 k3 (nI ct)), (k1, .inl (cA 0, 701, .inl fk)), (k2, .inl (cA 0, 701, .inl ft)), (k3, .inl (cA 1, 701, .inr (.inl fv)))] H := ⟨hP, hD⟩
  refine lv_aload_n hx hb dX4_lookAt_20 rfl (lv_at hl 0 rfl) ?_
  refine lv_aload_n hx hb dX4_lookAt_21 rfl (lv_at hl 0 rfl) ?_
  refine va_get (D := D) (ci := 8) (v := .ref r1) (C := RX4) (T := TX4) (N := 9) hx hb hts inX4 hown hK hP 0 rfl rfl 0 (by decide) (hts (.fieldLink RX4 12 "EscrowDesk$Reader" "scanner" "LEscrowDesk$Scanner;") (by decide +kernel)) (fun _ h9 => h9) rfl dX4_lookAt_22 ?_
  refine va_getN (D := D) (ci := 9) (v := .ref k1) (C := RX5) (T := TX5) (N := 4) hx hb hts inX5 hown hK hP 1 rfl rfl 0 (by decide) (hC.f (A := _) (a := RX4) (i := 73) (b := "EscrowDesk$Scanner") (n := "kinds") (d := "[I") (x := "EscrowDesk") (by decide +kernel)) (fun _ h9 => h9) rfl dX4_lookAt_25 ?_
  refine lv_iload_n hx hb dX4_lookAt_28 rfl (lv_at hl 1 rfl) ?_
  refine va_iald hx hb hK hP 2 0 rfl rfl (vp_in_nI (n := tn) (N := 701) (show tn < 701 by omega) (by decide)) dX4_lookAt_29 ?_
  refine lv_topi (fun yn3 eyn3 => ?_)
  obtain rfl : yn3 = (fk tn) := eyn3.trans (by rw [nI_clamp (by omega)])
  refine va_put (D := D) (ci := 8) (v := .int (fk tn)) (ty := .int) (C := RX4) (T := TX4) (N := 9) hx hb hts inX4 tyX4 tyX4_ok nmX4 hown hK hP hD hS 0 rfl rfl 3 (by decide) (hts (.fieldLink RX4 42 "EscrowDesk$Reader" "kind" "I") (by decide +kernel)) (fun _ h9 => h9) rfl (by decide +kernel) rfl rfl (Nat.le_of_ble_eq_true rfl) dX4_lookAt_30 (fun H locs hP hD hS => ?_)
  obtain ⟨hP, hD⟩ : PDq D A [(oX4 r0 r1 p0 (nI tn) (fk tn) ir4 ir5 ir6 ir7 ir8), (oX5 r1 k1 k2 k3 (nI ct)), (k1, .inl (cA 0, 701, .inl fk)), (k2, .inl (cA 0, 701, .inl ft)), (k3, .inl (cA 1, 701, .inr (.inl fv)))] H := ⟨hP, hD⟩
  refine lv_aload_n hx hb dX4_lookAt_33 rfl (lv_at hl 0 rfl) ?_
  refine lv_aload_n hx hb dX4_lookAt_34 rfl (lv_at hl 0 rfl) ?_
  refine va_get (D := D) (ci := 8) (v := .ref r1) (C := RX4) (T := TX4) (N := 9) hx hb hts inX4 hown hK hP 0 rfl rfl 0 (by decide) (hts (.fieldLink RX4 12 "EscrowDesk$Reader" "scanner" "LEscrowDesk$Scanner;") (by decide +kernel)) (fun _ h9 => h9) rfl dX4_lookAt_35 ?_
  refine va_getN (D := D) (ci := 9) (v := .ref k2) (C := RX5) (T := TX5) (N := 4) hx hb hts inX5 hown hK hP 1 rfl rfl 1 (by decide) (hC.f (A := _) (a := RX4) (i := 77) (b := "EscrowDesk$Scanner") (n := "starts") (d := "[I") (x := "EscrowDesk") (by decide +kernel)) (fun _ h9 => h9) rfl dX4_lookAt_38 ?_
  refine lv_iload_n hx hb dX4_lookAt_41 rfl (lv_at hl 1 rfl) ?_
  refine va_iald hx hb hK hP 3 0 rfl rfl (vp_in_nI (n := tn) (N := 701) (show tn < 701 by omega) (by decide)) dX4_lookAt_42 ?_
  refine lv_topi (fun yn4 eyn4 => ?_)
  obtain rfl : yn4 = (ft tn) := eyn4.trans (by rw [nI_clamp (by omega)])
  refine va_put (D := D) (ci := 8) (v := .int (ft tn)) (ty := .int) (C := RX4) (T := TX4) (N := 9) hx hb hts inX4 tyX4 tyX4_ok nmX4 hown hK hP hD hS 0 rfl rfl 4 (by decide) (hts (.fieldLink RX4 80 "EscrowDesk$Reader" "start" "I") (by decide +kernel)) (fun _ h9 => h9) rfl (by decide +kernel) rfl rfl (Nat.le_of_ble_eq_true rfl) dX4_lookAt_43 (fun H locs hP hD hS => ?_)
  obtain ⟨hP, hD⟩ : PDq D A [(oX4 r0 r1 p0 (nI tn) (fk tn) (ft tn) ir5 ir6 ir7 ir8), (oX5 r1 k1 k2 k3 (nI ct)), (k1, .inl (cA 0, 701, .inl fk)), (k2, .inl (cA 0, 701, .inl ft)), (k3, .inl (cA 1, 701, .inr (.inl fv)))] H := ⟨hP, hD⟩
  refine lv_aload_n hx hb dX4_lookAt_46 rfl (lv_at hl 0 rfl) ?_
  refine lv_aload_n hx hb dX4_lookAt_47 rfl (lv_at hl 0 rfl) ?_
  refine va_get (D := D) (ci := 8) (v := .ref r1) (C := RX4) (T := TX4) (N := 9) hx hb hts inX4 hown hK hP 0 rfl rfl 0 (by decide) (hts (.fieldLink RX4 12 "EscrowDesk$Reader" "scanner" "LEscrowDesk$Scanner;") (by decide +kernel)) (fun _ h9 => h9) rfl dX4_lookAt_48 ?_
  refine va_getN (D := D) (ci := 9) (v := .ref k3) (C := RX5) (T := TX5) (N := 4) hx hb hts inX5 hown hK hP 1 rfl rfl 2 (by decide) (hC.f (A := _) (a := RX4) (i := 83) (b := "EscrowDesk$Scanner") (n := "values") (d := "[J") (x := "EscrowDesk") (by decide +kernel)) (fun _ h9 => h9) rfl dX4_lookAt_51 ?_
  refine lv_iload_n hx hb dX4_lookAt_54 rfl (lv_at hl 1 rfl) ?_
  refine va_lald hx hb hK hP 4 1 rfl rfl (vp_in_nI (n := tn) (N := 701) (show tn < 701 by omega) (by decide)) dX4_lookAt_55 ?_
  refine lv_topl (fun yn5 eyn5 => ?_)
  obtain rfl : yn5 = (fv tn) := eyn5.trans (by rw [nI_clamp (by omega)])
  refine va_put (D := D) (ci := 8) (v := .long (fv tn)) (ty := .long) (C := RX4) (T := TX4) (N := 9) hx hb hts inX4 tyX4 tyX4_ok nmX4 hown hK hP hD hS 0 rfl rfl 5 (by decide) (hts (.fieldLink RX4 87 "EscrowDesk$Reader" "value" "J") (by decide +kernel)) (fun _ h9 => h9) rfl (by decide +kernel) rfl rfl (Nat.le_of_ble_eq_true rfl) dX4_lookAt_56 (fun H locs hP hD hS => ?_)
  obtain ⟨hP, hD⟩ : PDq D A [(oX4 r0 r1 p0 (nI tn) (fk tn) (ft tn) (fv tn) ir6 ir7 ir8), (oX5 r1 k1 k2 k3 (nI ct)), (k1, .inl (cA 0, 701, .inl fk)), (k2, .inl (cA 0, 701, .inl ft)), (k3, .inl (cA 1, 701, .inr (.inl fv)))] H := ⟨hP, hD⟩
  obtain ⟨hP9, hD9⟩ := PDq.sub (ws' := [(oX4 r0 r1 p0 (nI tn) (fk tn) (ft tn) (fv tn) ir6 ir7 ir8), (oX5 r1 k1 k2 k3 (nI ct)), (k1, .inl (cA 0, 701, .inl fk)), (k2, .inl (cA 0, 701, .inl ft)), (k3, .inl (cA 1, 701, .inr (.inl fv)))]) hP hD [0, 1, 2, 3, 4] (by decide) rfl
  refine W.widen (k := 0) (n := 0) (Nat.le_of_ble_eq_true rfl) (Nat.le_of_ble_eq_true rfl) ?_
  exact (W.vret hx hb hr (fun t ht hW => ⟨⟨(), rfl, trivial, by rw [ht]; exact hP9, hD9⟩, hS.F ht⟩) hS.2.2 dX4_lookAt_59)

set_option maxHeartbeats 4000000 in
set_option maxRecDepth 100000 in
/-- fail -/
theorem x_fail_look (l : Launch) (D : va_G) (cA : Nat → ClassId) (sa : Nat → Nat) (r0 : Nat) (r1 : Nat) (p0 : Nat) (ir2 : Int32) (ir3 : Int32) (ir4 : Int32) (ir6 : Int32) (ir7 : Int32) (ir8 : Int32) (ir5 : Int64) (a : Int32) (sz : Nat) : Met l yX4_fail wsX4_fail ({ frames := 0, cells := 0, slots := 0, locals := 0 }) (va_Pc [.ref r0, .int a] (Wd D cA sa [(oX4 r0 r1 p0 ir2 ir3 ir4 ir5 ir6 ir7 ir8)] sz)) (va_Qi (fun (r : Int32) (_ : Unit) => r = 0) (fun (_ : Unit) t => ∃ zek : Int32, zek = fek ir3 a ∧ Wq D (va_A [(oX4 r0 r1 p0 ir2 ir3 ir4 ir5 ir6 ir7 ir8)] sz) [(oX4 r0 r1 p0 ir2 ir3 ir4 ir5 ir6 zek ir4)] t) (va_A [(oX4 r0 r1 p0 ir2 ir3 ir4 ir5 ir6 ir7 ir8)] sz)) 0 0 (va_A [(oX4 r0 r1 p0 ir2 ir3 ir4 ir5 ir6 ir7 ir8)] sz) := by
  refine Met.ofW (cc := cX4_fail) (maxL := 2) (ret := (some .boolean)) (by decide) rfl ?_
  intro p e s m args below meth c s₁ B hml hv
  obtain ⟨rfl, hsz, hP, hK, hD0, hC, hZ⟩ := hv
  have hx := B.exec
  have hb := B.bytes
  have hr := B.returns
  have hts := atoms_spec (ws := wsX4_fail) B.pre
  have hown : s.vm.findClass RX4 = some m.cls := findClass_of_methodNamed B.named
  have hlocks := B.notSynchronized
  subst hsz
  have hD := hD0.self (sz := s.heap.size)
  generalize hAe : va_A [(oX4 r0 r1 p0 ir2 ir3 ir4 ir5 ir6 ir7 ir8)] s.heap.size = A at hD hZ ⊢
  have hA : ∀ q : Nat, s.heap.size ≤ q → A q := fun q h => by rw [← hAe]; exact Or.inr h
  have hS : va_S A s.heap s.heap [] := va_S.rf
  have hP : va_P D vwCl [(oX4 r0 r1 p0 ir2 ir3 ir4 ir5 ir6 ir7 ir8)] s.heap := hP
  have hl := lv_entry ([.ref r0, .int a]) (n := 2) (Nat.le_of_ble_eq_true rfl)
  rw [lg_entry_eq]
  generalize (lg_sl ([.ref r0, .int a]) ++ List.replicate (2 - (lg_sl ([.ref r0, .int a])).length) Slot.unset).toArray = ls at hl ⊢
  have hl : lv_has ls 2 [(0, .ref r0), (1, .int a)] := hl
  have inX4 : ∀ w ∈ u_ws RX4 TX4 9, w ∈ wsX4_fail := by decide +kernel
  refine lv_aload_n hx hb dX4_fail_0 rfl (lv_at hl 0 rfl) ?_
  refine lv_aload_n hx hb dX4_fail_1 rfl (lv_at hl 0 rfl) ?_
  refine va_get (D := D) (ci := 8) (v := .int ir3) (C := RX4) (T := TX4) (N := 9) hx hb hts inX4 hown hK hP 0 rfl rfl 3 (by decide) (hts (.fieldLink RX4 42 "EscrowDesk$Reader" "kind" "I") (by decide +kernel)) (fun _ h9 => h9) rfl dX4_fail_2 ?_
  refine lv_iconst (v := 2) hx hb dX4_fail_5 (by decide) ?_
  refine lv_icmp_ne (tgt := 13) hx hb dX4_fail_6 (by decide) (fun c1 => ?_) (fun c1 => ?_)
  · skip
    refine lv_iload_n hx hb dX4_fail_13 rfl (lv_at hl 1 rfl) ?_
    refine va_put (D := D) (ci := 8) (v := .int a) (ty := .int) (C := RX4) (T := TX4) (N := 9) hx hb hts inX4 tyX4 tyX4_ok nmX4 hown hK hP hD hS 0 rfl rfl 7 (by decide) (hts (.fieldLink RX4 18 "EscrowDesk$Reader" "errorKind" "I") (by decide +kernel)) (fun _ h9 => h9) rfl (by decide +kernel) rfl rfl (Nat.le_of_ble_eq_true rfl) dX4_fail_14 (fun H locs hP hD hS => ?_)
    obtain ⟨hP, hD⟩ : PDq D A [(oX4 r0 r1 p0 ir2 ir3 ir4 ir5 ir6 a ir8)] H := ⟨hP, hD⟩
    refine lv_aload_n hx hb dX4_fail_17 rfl (lv_at hl 0 rfl) ?_
    refine lv_aload_n hx hb dX4_fail_18 rfl (lv_at hl 0 rfl) ?_
    refine va_get (D := D) (ci := 8) (v := .int ir4) (C := RX4) (T := TX4) (N := 9) hx hb hts inX4 hown hK hP 0 rfl rfl 4 (by decide) (hts (.fieldLink RX4 80 "EscrowDesk$Reader" "start" "I") (by decide +kernel)) (fun _ h9 => h9) rfl dX4_fail_19 ?_
    refine va_put (D := D) (ci := 8) (v := .int ir4) (ty := .int) (C := RX4) (T := TX4) (N := 9) hx hb hts inX4 tyX4 tyX4_ok nmX4 hown hK hP hD hS 0 rfl rfl 8 (by decide) (hts (.fieldLink RX4 22 "EscrowDesk$Reader" "errorPosition" "I") (by decide +kernel)) (fun _ h9 => h9) rfl (by decide +kernel) rfl rfl (Nat.le_of_ble_eq_true rfl) dX4_fail_22 (fun H locs hP hD hS => ?_)
    obtain ⟨hP, hD⟩ : PDq D A [(oX4 r0 r1 p0 ir2 ir3 ir4 ir5 ir6 a ir4)] H := ⟨hP, hD⟩
    refine lv_iconst (v := 0) hx hb dX4_fail_25 (by decide) ?_
    obtain ⟨hP9, hD9⟩ := PDq.sub (ws' := [(oX4 r0 r1 p0 ir2 ir3 ir4 ir5 ir6 a ir4)]) hP hD [0] (by decide) rfl
    refine W.widen (k := 0) (n := 0) (Nat.le_of_ble_eq_true rfl) (Nat.le_of_ble_eq_true rfl) ?_
    exact (W.zret (v := 0) hx hb hr (by first | rfl | decide) (fun t ht hW => ⟨⟨0, (), rfl, rfl, a, (fek_n c1 a), by rw [ht]; exact hP9, hD9⟩, hS.F ht⟩) hS.2.2 dX4_fail_26)
  · skip
    refine lv_iconst (v := 1) hx hb dX4_fail_9 (by decide) ?_
    refine lv_goto (tgt := 14) hx hb dX4_fail_10 (by decide) ?_
    refine va_put (D := D) (ci := 8) (v := .int 1) (ty := .int) (C := RX4) (T := TX4) (N := 9) hx hb hts inX4 tyX4 tyX4_ok nmX4 hown hK hP hD hS 0 rfl rfl 7 (by decide) (hts (.fieldLink RX4 18 "EscrowDesk$Reader" "errorKind" "I") (by decide +kernel)) (fun _ h9 => h9) rfl (by decide +kernel) rfl rfl (Nat.le_of_ble_eq_true rfl) dX4_fail_14 (fun H locs hP hD hS => ?_)
    obtain ⟨hP, hD⟩ : PDq D A [(oX4 r0 r1 p0 ir2 ir3 ir4 ir5 ir6 1 ir8)] H := ⟨hP, hD⟩
    refine lv_aload_n hx hb dX4_fail_17 rfl (lv_at hl 0 rfl) ?_
    refine lv_aload_n hx hb dX4_fail_18 rfl (lv_at hl 0 rfl) ?_
    refine va_get (D := D) (ci := 8) (v := .int ir4) (C := RX4) (T := TX4) (N := 9) hx hb hts inX4 hown hK hP 0 rfl rfl 4 (by decide) (hts (.fieldLink RX4 80 "EscrowDesk$Reader" "start" "I") (by decide +kernel)) (fun _ h9 => h9) rfl dX4_fail_19 ?_
    refine va_put (D := D) (ci := 8) (v := .int ir4) (ty := .int) (C := RX4) (T := TX4) (N := 9) hx hb hts inX4 tyX4 tyX4_ok nmX4 hown hK hP hD hS 0 rfl rfl 8 (by decide) (hts (.fieldLink RX4 22 "EscrowDesk$Reader" "errorPosition" "I") (by decide +kernel)) (fun _ h9 => h9) rfl (by decide +kernel) rfl rfl (Nat.le_of_ble_eq_true rfl) dX4_fail_22 (fun H locs hP hD hS => ?_)
    obtain ⟨hP, hD⟩ : PDq D A [(oX4 r0 r1 p0 ir2 ir3 ir4 ir5 ir6 1 ir4)] H := ⟨hP, hD⟩
    refine lv_iconst (v := 0) hx hb dX4_fail_25 (by decide) ?_
    obtain ⟨hP9, hD9⟩ := PDq.sub (ws' := [(oX4 r0 r1 p0 ir2 ir3 ir4 ir5 ir6 1 ir4)]) hP hD [0] (by decide) rfl
    refine W.widen (k := 0) (n := 0) (Nat.le_of_ble_eq_true rfl) (Nat.le_of_ble_eq_true rfl) ?_
    exact (W.zret (v := 0) hx hb hr (by first | rfl | decide) (fun t ht hW => ⟨⟨0, (), rfl, rfl, 1, (fek_2 c1 a), by rw [ht]; exact hP9, hD9⟩, hS.F ht⟩) hS.2.2 dX4_fail_26)

set_option maxHeartbeats 4000000 in
set_option maxRecDepth 100000 in
/-- take -/
theorem x_take_look (l : Launch) (D : va_G) (cA : Nat → ClassId) (sa : Nat → Nat) (r0 : Nat) (p0 : Nat) (ti : Nat) (ln : Nat) (inb : Int32) (iek : Int32) (iep : Int32) (r1 : Nat) (k1 : Nat) (k2 : Nat) (k3 : Nat) (ct : Nat) (fk : Nat → Int32) (ft : Nat → Int32) (fv : Nat → Int64) (fb : Nat → Int32) (gP : Nat → Nat) (gR : Nat → Nat) (a : Int32) (sz : Nat) (hct : ct ≤ 701) (hln : ln ≤ 700) (hti : ti < ct) (hTX : TX fb ln ct gP gR ft fv fk) (ha : a ≠ 1) : Met l yX4_take wsX4_take ({ frames := 1, cells := 0, slots := 0, locals := 21 }) (va_Pc [.ref r0, .int a] (Wd D cA sa [(oX4 r0 r1 p0 (nI ti) (fk ti) (ft ti) (fv ti) inb iek iep), (oX5 r1 k1 k2 k3 (nI ct)), (k1, .inl (cA 0, 701, .inl fk)), (k2, .inl (cA 0, 701, .inl ft)), (k3, .inl (cA 1, 701, .inr (.inl fv)))] sz)) (va_Qi (fun (r : Int32) (u9 : Int32) => u9 = r ∧ (r = 0 ∨ r = 1)) (fun (u9 : Int32) t => ∃ tj : Nat, ∃ zek : Int32, ∃ zep : Int32, tj < ct ∧ gP tj ≤ ln ∧ ti ≤ tj ∧ (u9 = 1 → tj = ti + 1) ∧ (u9 = 1 → zek = iek) ∧ (u9 = 1 → zep = iep) ∧ (u9 = 1 → gP ti + 1 ≤ gP tj) ∧ (u9 = 1 → fk ti = a) ∧ (u9 = 0 → zek = fek (fk ti) 2) ∧ (u9 = 0 → zep = (ft ti)) ∧ (u9 = 0 → ¬ fk ti = a) ∧ Wq D (va_A [(oX4 r0 r1 p0 (nI ti) (fk ti) (ft ti) (fv ti) inb iek iep), (oX5 r1 k1 k2 k3 (nI ct)), (k1, .inl (cA 0, 701, .inl fk)), (k2, .inl (cA 0, 701, .inl ft)), (k3, .inl (cA 1, 701, .inr (.inl fv)))] sz) [(oX4 r0 r1 p0 (nI tj) (fk tj) (ft tj) (fv tj) inb zek zep), (oX5 r1 k1 k2 k3 (nI ct)), (k1, .inl (cA 0, 701, .inl fk)), (k2, .inl (cA 0, 701, .inl ft)), (k3, .inl (cA 1, 701, .inr (.inl fv)))] t) (va_A [(oX4 r0 r1 p0 (nI ti) (fk ti) (ft ti) (fv ti) inb iek iep), (oX5 r1 k1 k2 k3 (nI ct)), (k1, .inl (cA 0, 701, .inl fk)), (k2, .inl (cA 0, 701, .inl ft)), (k3, .inl (cA 1, 701, .inr (.inl fv)))] sz)) 0 0 (va_A [(oX4 r0 r1 p0 (nI ti) (fk ti) (ft ti) (fv ti) inb iek iep), (oX5 r1 k1 k2 k3 (nI ct)), (k1, .inl (cA 0, 701, .inl fk)), (k2, .inl (cA 0, 701, .inl ft)), (k3, .inl (cA 1, 701, .inr (.inl fv)))] sz) := by
  refine Met.ofW (cc := cX4_take) (maxL := 2) (ret := (some .boolean)) (by decide) rfl ?_
  intro p e s m args below meth c s₁ B hml hv
  obtain ⟨rfl, hsz, hP, hK, hD0, hC, hZ⟩ := hv
  have hx := B.exec
  have hb := B.bytes
  have hr := B.returns
  have hts := atoms_spec (ws := wsX4_take) B.pre
  have hown : s.vm.findClass RX4 = some m.cls := findClass_of_methodNamed B.named
  have hlocks := B.notSynchronized
  subst hsz
  have hD := hD0.self (sz := s.heap.size)
  generalize hAe : va_A [(oX4 r0 r1 p0 (nI ti) (fk ti) (ft ti) (fv ti) inb iek iep), (oX5 r1 k1 k2 k3 (nI ct)), (k1, .inl (cA 0, 701, .inl fk)), (k2, .inl (cA 0, 701, .inl ft)), (k3, .inl (cA 1, 701, .inr (.inl fv)))] s.heap.size = A at hD hZ ⊢
  have hA : ∀ q : Nat, s.heap.size ≤ q → A q := fun q h => by rw [← hAe]; exact Or.inr h
  have hS : va_S A s.heap s.heap [] := va_S.rf
  have hP : va_P D vwCl [(oX4 r0 r1 p0 (nI ti) (fk ti) (ft ti) (fv ti) inb iek iep), (oX5 r1 k1 k2 k3 (nI ct)), (k1, .inl (cA 0, 701, .inl fk)), (k2, .inl (cA 0, 701, .inl ft)), (k3, .inl (cA 1, 701, .inr (.inl fv)))] s.heap := hP
  have hl := lv_entry ([.ref r0, .int a]) (n := 2) (Nat.le_of_ble_eq_true rfl)
  rw [lg_entry_eq]
  generalize (lg_sl ([.ref r0, .int a]) ++ List.replicate (2 - (lg_sl ([.ref r0, .int a])).length) Slot.unset).toArray = ls at hl ⊢
  have hl : lv_has ls 2 [(0, .ref r0), (1, .int a)] := hl
  have inX4 : ∀ w ∈ u_ws RX4 TX4 9, w ∈ wsX4_take := by decide +kernel
  have hle9 := TX.le hTX hti
  refine lv_aload_n hx hb dX4_take_0 rfl (lv_at hl 0 rfl) ?_
  refine va_get (D := D) (ci := 8) (v := .int (fk ti)) (C := RX4) (T := TX4) (N := 9) hx hb hts inX4 hown hK hP 0 rfl rfl 3 (by decide) (hts (.fieldLink RX4 42 "EscrowDesk$Reader" "kind" "I") (by decide +kernel)) (fun _ h9 => h9) rfl dX4_take_1 ?_
  refine lv_iload_n hx hb dX4_take_4 rfl (lv_at hl 1 rfl) ?_
  refine lv_icmp_eq (tgt := 14) hx hb dX4_take_5 (by decide) (fun c1 => ?_) (fun c1 => ?_)
  · skip
    have hn2 := TX.go hTX hti (by rw [c1]; exact ha)
    refine lv_aload_n hx hb dX4_take_14 rfl (lv_at hl 0 rfl) ?_
    refine lv_aload_n hx hb dX4_take_15 rfl (lv_at hl 0 rfl) ?_
    refine va_get (D := D) (ci := 8) (v := .int (nI ti)) (C := RX4) (T := TX4) (N := 9) hx hb hts inX4 hown hK hP 0 rfl rfl 2 (by decide) (hts (.fieldLink RX4 70 "EscrowDesk$Reader" "token" "I") (by decide +kernel)) (fun _ h9 => h9) rfl dX4_take_16 ?_
    refine lv_iconst (v := 1) hx hb dX4_take_19 (by decide) ?_
    refine lv_iadd hx hb dX4_take_20 ?_
    refine lv_topi (fun yn3 eyn3 => ?_)
    obtain rfl : yn3 = (nI (ti + 1)) := eyn3.trans (nI_add ti 1)
    obtain ⟨hPc, hDc, hFc⟩ := PDq.cut (wc := [(oX4 r0 r1 p0 (nI ti) (fk ti) (ft ti) (fv ti) inb iek iep), (oX5 r1 k1 k2 k3 (nI ct)), (k1, .inl (cA 0, 701, .inl fk)), (k2, .inl (cA 0, 701, .inl ft)), (k3, .inl (cA 1, 701, .inr (.inl fv)))]) hP hD hS hA [0, 1, 2, 3, 4] (by decide) rfl
    refine va_callv (va_runV (As := [.int (nI (ti + 1))]) (rest := []) ⟨hx, hb, hml, hown, hts⟩ (x_lookAt l D cA sa r0 p0 (ti + 1) (nI ti) (fk ti) (ft ti) inb iek iep (fv ti) r1 k1 k2 k3 ct fk ft fv s.heap.size hct (by omega)) (cwV 1 hts gX4_take_X4_lookAt rfl rfl rfl (by decide +kernel) ⟨(Nat.le_of_ble_eq_true rfl), (Nat.le_of_ble_eq_true rfl)⟩) ⟨Wd.blind, va_recv hK hPc (ci := 8) (q0 := 0) rfl rfl, fun U hU hW => ⟨rfl, Wd.call hPc hDc hK hC hZ hS hFc U hU hW⟩⟩ rfl rfl hl.1 rfl (lv_room (Nat.le_of_ble_eq_true rfl)) dX4_take_21 ⟨(Nat.le_of_ble_eq_true rfl), (Nat.le_of_ble_eq_true rfl)⟩) hS (fun q _ h => hFc q h) hFc (fun u t H1 locs ht hvm hw hB hz1 hk1 hS => ?_)
    obtain ⟨hP1, hD1⟩ := hB
    rw [ht] at hP1
    obtain ⟨hP, hD⟩ := PDq.join (w := [(oX4 r0 r1 p0 (nI (ti + 1)) (fk (ti + 1)) (ft (ti + 1)) (fv (ti + 1)) inb iek iep), (oX5 r1 k1 k2 k3 (nI ct)), (k1, .inl (cA 0, 701, .inl fk)), (k2, .inl (cA 0, 701, .inl ft)), (k3, .inl (cA 1, 701, .inr (.inl fv)))]) 0 hP hD [0, 1, 2, 3, 4] [] rfl rfl (by decide) (by decide) hk1 hFc hP1 hD1 rfl
    generalize H1 = H at hP hS ⊢
    refine lv_iconst (v := 1) hx hb dX4_take_24 (by decide) ?_
    obtain ⟨hP9, hD9⟩ := PDq.sub (ws' := [(oX4 r0 r1 p0 (nI (ti + 1)) (fk (ti + 1)) (ft (ti + 1)) (fv (ti + 1)) inb iek iep), (oX5 r1 k1 k2 k3 (nI ct)), (k1, .inl (cA 0, 701, .inl fk)), (k2, .inl (cA 0, 701, .inl ft)), (k3, .inl (cA 1, 701, .inr (.inl fv)))]) hP hD [0, 1, 2, 3, 4] (by decide) rfl
    refine W.widen (k := 0) (n := 0) (Nat.le_of_ble_eq_true rfl) (Nat.le_of_ble_eq_true rfl) ?_
    exact (W.zret (v := 1) hx hb hr (by first | rfl | decide) (fun t ht hW => ⟨⟨1, 1, rfl, ⟨rfl, by decide⟩, (ti + 1), iek, iep, (by omega), (by omega), (by omega), (fun _ => rfl), (fun _ => rfl), (fun _ => rfl), (fun _ => (by omega)), (fun _ => c1), (fun h9 => absurd h9 (by decide)), (fun h9 => absurd h9 (by decide)), (fun h9 => absurd h9 (by decide)), by rw [ht]; exact hP9, hD9⟩, hS.F ht⟩) hS.2.2 dX4_take_25)
  · skip
    refine lv_aload_n hx hb dX4_take_8 rfl (lv_at hl 0 rfl) ?_
    refine lv_iconst (v := 2) hx hb dX4_take_9 (by decide) ?_
    obtain ⟨hPc, hDc, hFc⟩ := PDq.cut (wc := [(oX4 r0 r1 p0 (nI ti) (fk ti) (ft ti) (fv ti) inb iek iep)]) hP hD hS hA [0] (by decide) rfl
    refine va_calli (va_runV (As := [.int 2]) (rest := []) ⟨hx, hb, hml, hown, hts⟩ (x_fail l D cA sa r0 r1 p0 (nI ti) (fk ti) (ft ti) inb iek iep (fv ti) 2 s.heap.size) (cwV 1 hts gX4_take_X4_fail rfl rfl rfl (by decide +kernel) ⟨(Nat.le_of_ble_eq_true rfl), (Nat.le_of_ble_eq_true rfl)⟩) ⟨Wd.blind, va_recv hK hPc (ci := 8) (q0 := 0) rfl rfl, fun U hU hW => ⟨rfl, Wd.call hPc hDc hK hC hZ hS hFc U hU hW⟩⟩ rfl rfl hl.1 rfl (lv_room (Nat.le_of_ble_eq_true rfl)) dX4_take_10 ⟨(Nat.le_of_ble_eq_true rfl), (Nat.le_of_ble_eq_true rfl)⟩) hS (fun q _ h => hFc q h) hFc (fun rn4 u t H1 locs ht hvm hw hB hz1 hk1 hS => ?_)
    obtain ⟨zn5, hn6, hP1, hD1⟩ := hB
    rw [ht] at hP1
    obtain ⟨hP, hD⟩ := PDq.join (w := [(oX5 r1 k1 k2 k3 (nI ct)), (k1, .inl (cA 0, 701, .inl fk)), (k2, .inl (cA 0, 701, .inl ft)), (k3, .inl (cA 1, 701, .inr (.inl fv))), (oX4 r0 r1 p0 (nI ti) (fk ti) (ft ti) (fv ti) inb zn5 (ft ti))]) 4 hP hD [0] [1, 2, 3, 4] rfl rfl (by decide) (by decide) hk1 hFc hP1 hD1 rfl
    generalize H1 = H at hP hS ⊢
    obtain rfl : rn4 = 0 := hw
    obtain ⟨hP9, hD9⟩ := PDq.sub (ws' := [(oX4 r0 r1 p0 (nI ti) (fk ti) (ft ti) (fv ti) inb zn5 (ft ti)), (oX5 r1 k1 k2 k3 (nI ct)), (k1, .inl (cA 0, 701, .inl fk)), (k2, .inl (cA 0, 701, .inl ft)), (k3, .inl (cA 1, 701, .inr (.inl fv)))]) hP hD [4, 0, 1, 2, 3] (by decide) rfl
    refine W.widen (k := 0) (n := 0) (Nat.le_of_ble_eq_true rfl) (Nat.le_of_ble_eq_true rfl) ?_
    exact (W.zret (v := 0) hx hb hr (by first | rfl | decide) (fun t ht hW => ⟨⟨0, 0, rfl, ⟨rfl, by decide⟩, ti, zn5, (ft ti), hti, (by omega), (by omega), (fun h9 => absurd h9 (by decide)), (fun h9 => absurd h9 (by decide)), (fun h9 => absurd h9 (by decide)), (fun h9 => absurd h9 (by decide)), (fun h9 => absurd h9 (by decide)), (fun _ => hn6), (fun _ => rfl), (fun _ => c1), by rw [ht]; exact hP9, hD9⟩, hS.F ht⟩) hS.2.2 dX4_take_13)

set_option maxHeartbeats 4000000 in
set_option maxRecDepth 100000 in
/-- takeNumber -/
theorem x_takeNumber_look (l : Launch) (D : va_G) (cA : Nat → ClassId) (sa : Nat → Nat) (r0 : Nat) (p0 : Nat) (ti : Nat) (ln : Nat) (inb : Int32) (iek : Int32) (iep : Int32) (r1 : Nat) (k1 : Nat) (k2 : Nat) (k3 : Nat) (ct : Nat) (fk : Nat → Int32) (ft : Nat → Int32) (fv : Nat → Int64) (fb : Nat → Int32) (gP : Nat → Nat) (gR : Nat → Nat) (lo : Nat) (hi : Nat) (sz : Nat) (hct : ct ≤ 701) (hln : ln ≤ 700) (hti : ti < ct) (hTX : TX fb ln ct gP gR ft fv fk) (hlo : lo < 2147483648) (hhi : hi < 2147483648) : Met l yX4_takeNumber wsX4_takeNumber ({ frames := 1, cells := 0, slots := 0, locals := 21 }) (va_Pc [.ref r0, .int (nI lo), .int (nI hi)] (Wd D cA sa [(oX4 r0 r1 p0 (nI ti) (fk ti) (ft ti) (fv ti) inb iek iep), (oX5 r1 k1 k2 k3 (nI ct)), (k1, .inl (cA 0, 701, .inl fk)), (k2, .inl (cA 0, 701, .inl ft)), (k3, .inl (cA 1, 701, .inr (.inl fv)))] sz)) (va_Qi (fun (r : Int32) (u9 : Int32) => u9 = r ∧ (r = 0 ∨ r = 1)) (fun (u9 : Int32) t => ∃ tj : Nat, ∃ znr : Int32, ∃ zek : Int32, ∃ zep : Int32, tj < ct ∧ gP tj ≤ ln ∧ ti ≤ tj ∧ (u9 = 1 → tj = ti + 1) ∧ (u9 = 1 → zek = iek) ∧ (u9 = 1 → zep = iep) ∧ (u9 = 1 → gP ti + 1 ≤ gP tj) ∧ (u9 = 1 → nmE (lN lo) (lN hi) (fk ti) (fv ti) = none) ∧ (u9 = 0 → NmF lo hi (fk ti) (fv ti) zek) ∧ (u9 = 0 → zep = (ft ti)) ∧ Wq D (va_A [(oX4 r0 r1 p0 (nI ti) (fk ti) (ft ti) (fv ti) inb iek iep), (oX5 r1 k1 k2 k3 (nI ct)), (k1, .inl (cA 0, 701, .inl fk)), (k2, .inl (cA 0, 701, .inl ft)), (k3, .inl (cA 1, 701, .inr (.inl fv)))] sz) [(oX4 r0 r1 p0 (nI tj) (fk tj) (ft tj) (fv tj) znr zek zep), (oX5 r1 k1 k2 k3 (nI ct)), (k1, .inl (cA 0, 701, .inl fk)), (k2, .inl (cA 0, 701, .inl ft)), (k3, .inl (cA 1, 701, .inr (.inl fv)))] t) (va_A [(oX4 r0 r1 p0 (nI ti) (fk ti) (ft ti) (fv ti) inb iek iep), (oX5 r1 k1 k2 k3 (nI ct)), (k1, .inl (cA 0, 701, .inl fk)), (k2, .inl (cA 0, 701, .inl ft)), (k3, .inl (cA 1, 701, .inr (.inl fv)))] sz)) 0 0 (va_A [(oX4 r0 r1 p0 (nI ti) (fk ti) (ft ti) (fv ti) inb iek iep), (oX5 r1 k1 k2 k3 (nI ct)), (k1, .inl (cA 0, 701, .inl fk)), (k2, .inl (cA 0, 701, .inl ft)), (k3, .inl (cA 1, 701, .inr (.inl fv)))] sz) := by
  refine Met.ofW (cc := cX4_takeNumber) (maxL := 3) (ret := (some .boolean)) (by decide) rfl ?_
  intro p e s m args below meth c s₁ B hml hv
  obtain ⟨rfl, hsz, hP, hK, hD0, hC, hZ⟩ := hv
  have hx := B.exec
  have hb := B.bytes
  have hr := B.returns
  have hts := atoms_spec (ws := wsX4_takeNumber) B.pre
  have hown : s.vm.findClass RX4 = some m.cls := findClass_of_methodNamed B.named
  have hlocks := B.notSynchronized
  subst hsz
  have hD := hD0.self (sz := s.heap.size)
  generalize hAe : va_A [(oX4 r0 r1 p0 (nI ti) (fk ti) (ft ti) (fv ti) inb iek iep), (oX5 r1 k1 k2 k3 (nI ct)), (k1, .inl (cA 0, 701, .inl fk)), (k2, .inl (cA 0, 701, .inl ft)), (k3, .inl (cA 1, 701, .inr (.inl fv)))] s.heap.size = A at hD hZ ⊢
  have hA : ∀ q : Nat, s.heap.size ≤ q → A q := fun q h => by rw [← hAe]; exact Or.inr h
  have hS : va_S A s.heap s.heap [] := va_S.rf
  have hP : va_P D vwCl [(oX4 r0 r1 p0 (nI ti) (fk ti) (ft ti) (fv ti) inb iek iep), (oX5 r1 k1 k2 k3 (nI ct)), (k1, .inl (cA 0, 701, .inl fk)), (k2, .inl (cA 0, 701, .inl ft)), (k3, .inl (cA 1, 701, .inr (.inl fv)))] s.heap := hP
  have hl := lv_entry ([.ref r0, .int (nI lo), .int (nI hi)]) (n := 3) (Nat.le_of_ble_eq_true rfl)
  rw [lg_entry_eq]
  generalize (lg_sl ([.ref r0, .int (nI lo), .int (nI hi)]) ++ List.replicate (3 - (lg_sl ([.ref r0, .int (nI lo), .int (nI hi)])).length) Slot.unset).toArray = ls at hl ⊢
  have hl : lv_has ls 3 [(0, .ref r0), (1, .int (nI lo)), (2, .int (nI hi))] := hl
  have inX4 : ∀ w ∈ u_ws RX4 TX4 9, w ∈ wsX4_takeNumber := by decide +kernel
  have hle9 := TX.le hTX hti
  refine lv_aload_n hx hb dX4_takeNumber_0 rfl (lv_at hl 0 rfl) ?_
  refine va_get (D := D) (ci := 8) (v := .int (fk ti)) (C := RX4) (T := TX4) (N := 9) hx hb hts inX4 hown hK hP 0 rfl rfl 3 (by decide) (hts (.fieldLink RX4 42 "EscrowDesk$Reader" "kind" "I") (by decide +kernel)) (fun _ h9 => h9) rfl dX4_takeNumber_1 ?_
  refine lv_iconst (v := 3) hx hb dX4_takeNumber_4 (by decide) ?_
  refine lv_icmp_eq (tgt := 14) hx hb dX4_takeNumber_5 (by decide) (fun c1 => ?_) (fun c1 => ?_)
  · skip
    refine lv_aload_n hx hb dX4_takeNumber_14 rfl (lv_at hl 0 rfl) ?_
    refine va_get (D := D) (ci := 8) (v := .long (fv ti)) (C := RX4) (T := TX4) (N := 9) hx hb hts inX4 hown hK hP 0 rfl rfl 5 (by decide) (hts (.fieldLink RX4 87 "EscrowDesk$Reader" "value" "J") (by decide +kernel)) (fun _ h9 => h9) rfl dX4_takeNumber_15 ?_
    refine lv_iload_n hx hb dX4_takeNumber_18 rfl (lv_at hl 1 rfl) ?_
    refine lv_i2l (v := ((nI lo).toInt64)) hx hb dX4_takeNumber_19 rfl ?_
    refine W.lcmp hx hb dX4_takeNumber_20 ?_
    refine lv_if_lt (tgt := 34) hx hb dX4_takeNumber_21 (by decide) (fun c2 => ?_) (fun c2 => ?_)
    · skip
      refine lv_aload_n hx hb dX4_takeNumber_34 rfl (lv_at hl 0 rfl) ?_
      refine lv_iconst (v := 3) hx hb dX4_takeNumber_35 (by decide) ?_
      obtain ⟨hPc, hDc, hFc⟩ := PDq.cut (wc := [(oX4 r0 r1 p0 (nI ti) (fk ti) (ft ti) (fv ti) inb iek iep)]) hP hD hS hA [0] (by decide) rfl
      refine va_calli (va_runV (As := [.int 3]) (rest := []) ⟨hx, hb, hml, hown, hts⟩ (x_fail l D cA sa r0 r1 p0 (nI ti) (fk ti) (ft ti) inb iek iep (fv ti) 3 s.heap.size) (cwV 1 hts gX4_takeNumber_X4_fail rfl rfl rfl (by decide +kernel) ⟨(Nat.le_of_ble_eq_true rfl), (Nat.le_of_ble_eq_true rfl)⟩) ⟨Wd.blind, va_recv hK hPc (ci := 8) (q0 := 0) rfl rfl, fun U hU hW => ⟨rfl, Wd.call hPc hDc hK hC hZ hS hFc U hU hW⟩⟩ rfl rfl hl.1 rfl (lv_room (Nat.le_of_ble_eq_true rfl)) dX4_takeNumber_36 ⟨(Nat.le_of_ble_eq_true rfl), (Nat.le_of_ble_eq_true rfl)⟩) hS (fun q _ h => hFc q h) hFc (fun rn3 u t H1 locs ht hvm hw hB hz1 hk1 hS => ?_)
      obtain ⟨zn4, hn5, hP1, hD1⟩ := hB
      rw [ht] at hP1
      obtain ⟨hP, hD⟩ := PDq.join (w := [(oX5 r1 k1 k2 k3 (nI ct)), (k1, .inl (cA 0, 701, .inl fk)), (k2, .inl (cA 0, 701, .inl ft)), (k3, .inl (cA 1, 701, .inr (.inl fv))), (oX4 r0 r1 p0 (nI ti) (fk ti) (ft ti) (fv ti) inb zn4 (ft ti))]) 4 hP hD [0] [1, 2, 3, 4] rfl rfl (by decide) (by decide) hk1 hFc hP1 hD1 rfl
      generalize H1 = H at hP hS ⊢
      obtain rfl : rn3 = 0 := hw
      obtain ⟨hP9, hD9⟩ := PDq.sub (ws' := [(oX4 r0 r1 p0 (nI ti) (fk ti) (ft ti) (fv ti) inb zn4 (ft ti)), (oX5 r1 k1 k2 k3 (nI ct)), (k1, .inl (cA 0, 701, .inl fk)), (k2, .inl (cA 0, 701, .inl ft)), (k3, .inl (cA 1, 701, .inr (.inl fv)))]) hP hD [4, 0, 1, 2, 3] (by decide) rfl
      refine W.widen (k := 0) (n := 0) (Nat.le_of_ble_eq_true rfl) (Nat.le_of_ble_eq_true rfl) ?_
      exact (W.zret (v := 0) hx hb hr (by first | rfl | decide) (fun t ht hW => ⟨⟨0, 0, rfl, ⟨rfl, by decide⟩, ti, inb, zn4, (ft ti), hti, (by omega), (by omega), (fun h9 => absurd h9 (by decide)), (fun h9 => absurd h9 (by decide)), (fun h9 => absurd h9 (by decide)), (fun h9 => absurd h9 (by decide)), (fun h9 => absurd h9 (by decide)), (fun _ => ⟨3, nm_lo c1 (by omega) c2, hn5⟩), (fun _ => rfl), by rw [ht]; exact hP9, hD9⟩, hS.F ht⟩) hS.2.2 dX4_takeNumber_39)
    · skip
      refine lv_aload_n hx hb dX4_takeNumber_24 rfl (lv_at hl 0 rfl) ?_
      refine va_get (D := D) (ci := 8) (v := .long (fv ti)) (C := RX4) (T := TX4) (N := 9) hx hb hts inX4 hown hK hP 0 rfl rfl 5 (by decide) (hts (.fieldLink RX4 87 "EscrowDesk$Reader" "value" "J") (by decide +kernel)) (fun _ h9 => h9) rfl dX4_takeNumber_25 ?_
      refine lv_iload_n hx hb dX4_takeNumber_28 rfl (lv_at hl 2 rfl) ?_
      refine lv_i2l (v := ((nI hi).toInt64)) hx hb dX4_takeNumber_29 rfl ?_
      refine W.lcmp hx hb dX4_takeNumber_30 ?_
      refine lv_if_le (tgt := 40) hx hb dX4_takeNumber_31 (by decide) (fun c6 => ?_) (fun c6 => ?_)
      · skip
        have hn7 := TX.go hTX hti (by rw [c1]; decide)
        refine lv_aload_n hx hb dX4_takeNumber_40 rfl (lv_at hl 0 rfl) ?_
        refine lv_aload_n hx hb dX4_takeNumber_41 rfl (lv_at hl 0 rfl) ?_
        refine va_get (D := D) (ci := 8) (v := .long (fv ti)) (C := RX4) (T := TX4) (N := 9) hx hb hts inX4 hown hK hP 0 rfl rfl 5 (by decide) (hts (.fieldLink RX4 87 "EscrowDesk$Reader" "value" "J") (by decide +kernel)) (fun _ h9 => h9) rfl dX4_takeNumber_42 ?_
        refine lv_l2i (v := (fv ti).toInt32) hx hb dX4_takeNumber_45 rfl ?_
        refine lv_topi (fun yn8 eyn8 => ?_)
        refine va_put (D := D) (ci := 8) (v := .int yn8) (ty := .int) (C := RX4) (T := TX4) (N := 9) hx hb hts inX4 tyX4 tyX4_ok nmX4 hown hK hP hD hS 0 rfl rfl 6 (by decide) (hts (.fieldLink RX4 91 "EscrowDesk$Reader" "number" "I") (by decide +kernel)) (fun _ h9 => h9) rfl (by decide +kernel) rfl rfl (Nat.le_of_ble_eq_true rfl) dX4_takeNumber_46 (fun H locs hP hD hS => ?_)
        obtain ⟨hP, hD⟩ : PDq D A [(oX4 r0 r1 p0 (nI ti) (fk ti) (ft ti) (fv ti) yn8 iek iep), (oX5 r1 k1 k2 k3 (nI ct)), (k1, .inl (cA 0, 701, .inl fk)), (k2, .inl (cA 0, 701, .inl ft)), (k3, .inl (cA 1, 701, .inr (.inl fv)))] H := ⟨hP, hD⟩
        refine lv_aload_n hx hb dX4_takeNumber_49 rfl (lv_at hl 0 rfl) ?_
        refine lv_aload_n hx hb dX4_takeNumber_50 rfl (lv_at hl 0 rfl) ?_
        refine va_get (D := D) (ci := 8) (v := .int (nI ti)) (C := RX4) (T := TX4) (N := 9) hx hb hts inX4 hown hK hP 0 rfl rfl 2 (by decide) (hts (.fieldLink RX4 70 "EscrowDesk$Reader" "token" "I") (by decide +kernel)) (fun _ h9 => h9) rfl dX4_takeNumber_51 ?_
        refine lv_iconst (v := 1) hx hb dX4_takeNumber_54 (by decide) ?_
        refine lv_iadd hx hb dX4_takeNumber_55 ?_
        refine lv_topi (fun yn9 eyn9 => ?_)
        obtain rfl : yn9 = (nI (ti + 1)) := eyn9.trans (nI_add ti 1)
        obtain ⟨hPc, hDc, hFc⟩ := PDq.cut (wc := [(oX4 r0 r1 p0 (nI ti) (fk ti) (ft ti) (fv ti) yn8 iek iep), (oX5 r1 k1 k2 k3 (nI ct)), (k1, .inl (cA 0, 701, .inl fk)), (k2, .inl (cA 0, 701, .inl ft)), (k3, .inl (cA 1, 701, .inr (.inl fv)))]) hP hD hS hA [0, 1, 2, 3, 4] (by decide) rfl
        refine va_callv (va_runV (As := [.int (nI (ti + 1))]) (rest := []) ⟨hx, hb, hml, hown, hts⟩ (x_lookAt l D cA sa r0 p0 (ti + 1) (nI ti) (fk ti) (ft ti) yn8 iek iep (fv ti) r1 k1 k2 k3 ct fk ft fv H.size hct (by omega)) (cwV 1 hts gX4_takeNumber_X4_lookAt rfl rfl rfl (by decide +kernel) ⟨(Nat.le_of_ble_eq_true rfl), (Nat.le_of_ble_eq_true rfl)⟩) ⟨Wd.blind, va_recv hK hPc (ci := 8) (q0 := 0) rfl rfl, fun U hU hW => ⟨rfl, Wd.call hPc hDc hK hC hZ hS hFc U hU hW⟩⟩ rfl rfl hl.1 rfl (lv_room (Nat.le_of_ble_eq_true rfl)) dX4_takeNumber_56 ⟨(Nat.le_of_ble_eq_true rfl), (Nat.le_of_ble_eq_true rfl)⟩) hS (fun q _ h => hFc q h) hFc (fun u t H1 locs ht hvm hw hB hz1 hk1 hS => ?_)
        obtain ⟨hP1, hD1⟩ := hB
        rw [ht] at hP1
        obtain ⟨hP, hD⟩ := PDq.join (w := [(oX4 r0 r1 p0 (nI (ti + 1)) (fk (ti + 1)) (ft (ti + 1)) (fv (ti + 1)) yn8 iek iep), (oX5 r1 k1 k2 k3 (nI ct)), (k1, .inl (cA 0, 701, .inl fk)), (k2, .inl (cA 0, 701, .inl ft)), (k3, .inl (cA 1, 701, .inr (.inl fv)))]) 0 hP hD [0, 1, 2, 3, 4] [] rfl rfl (by decide) (by decide) hk1 hFc hP1 hD1 rfl
        generalize H1 = H at hP hS ⊢
        refine lv_iconst (v := 1) hx hb dX4_takeNumber_59 (by decide) ?_
        obtain ⟨hP9, hD9⟩ := PDq.sub (ws' := [(oX4 r0 r1 p0 (nI (ti + 1)) (fk (ti + 1)) (ft (ti + 1)) (fv (ti + 1)) yn8 iek iep), (oX5 r1 k1 k2 k3 (nI ct)), (k1, .inl (cA 0, 701, .inl fk)), (k2, .inl (cA 0, 701, .inl ft)), (k3, .inl (cA 1, 701, .inr (.inl fv)))]) hP hD [0, 1, 2, 3, 4] (by decide) rfl
        refine W.widen (k := 0) (n := 0) (Nat.le_of_ble_eq_true rfl) (Nat.le_of_ble_eq_true rfl) ?_
        exact (W.zret (v := 1) hx hb hr (by first | rfl | decide) (fun t ht hW => ⟨⟨1, 1, rfl, ⟨rfl, by decide⟩, (ti + 1), yn8, iek, iep, (by omega), (by omega), (by omega), (fun _ => rfl), (fun _ => rfl), (fun _ => rfl), (fun _ => (by omega)), (fun _ => (nm_ok c1 (by omega) (by omega) c2 c6)), (fun h9 => absurd h9 (by decide)), (fun h9 => absurd h9 (by decide)), by rw [ht]; exact hP9, hD9⟩, hS.F ht⟩) hS.2.2 dX4_takeNumber_60)
      · skip
        refine lv_aload_n hx hb dX4_takeNumber_34 rfl (lv_at hl 0 rfl) ?_
        refine lv_iconst (v := 3) hx hb dX4_takeNumber_35 (by decide) ?_
        obtain ⟨hPc, hDc, hFc⟩ := PDq.cut (wc := [(oX4 r0 r1 p0 (nI ti) (fk ti) (ft ti) (fv ti) inb iek iep)]) hP hD hS hA [0] (by decide) rfl
        refine va_calli (va_runV (As := [.int 3]) (rest := []) ⟨hx, hb, hml, hown, hts⟩ (x_fail l D cA sa r0 r1 p0 (nI ti) (fk ti) (ft ti) inb iek iep (fv ti) 3 s.heap.size) (cwV 1 hts gX4_takeNumber_X4_fail rfl rfl rfl (by decide +kernel) ⟨(Nat.le_of_ble_eq_true rfl), (Nat.le_of_ble_eq_true rfl)⟩) ⟨Wd.blind, va_recv hK hPc (ci := 8) (q0 := 0) rfl rfl, fun U hU hW => ⟨rfl, Wd.call hPc hDc hK hC hZ hS hFc U hU hW⟩⟩ rfl rfl hl.1 rfl (lv_room (Nat.le_of_ble_eq_true rfl)) dX4_takeNumber_36 ⟨(Nat.le_of_ble_eq_true rfl), (Nat.le_of_ble_eq_true rfl)⟩) hS (fun q _ h => hFc q h) hFc (fun rn10 u t H1 locs ht hvm hw hB hz1 hk1 hS => ?_)
        obtain ⟨zn11, hn12, hP1, hD1⟩ := hB
        rw [ht] at hP1
        obtain ⟨hP, hD⟩ := PDq.join (w := [(oX5 r1 k1 k2 k3 (nI ct)), (k1, .inl (cA 0, 701, .inl fk)), (k2, .inl (cA 0, 701, .inl ft)), (k3, .inl (cA 1, 701, .inr (.inl fv))), (oX4 r0 r1 p0 (nI ti) (fk ti) (ft ti) (fv ti) inb zn11 (ft ti))]) 4 hP hD [0] [1, 2, 3, 4] rfl rfl (by decide) (by decide) hk1 hFc hP1 hD1 rfl
        generalize H1 = H at hP hS ⊢
        obtain rfl : rn10 = 0 := hw
        obtain ⟨hP9, hD9⟩ := PDq.sub (ws' := [(oX4 r0 r1 p0 (nI ti) (fk ti) (ft ti) (fv ti) inb zn11 (ft ti)), (oX5 r1 k1 k2 k3 (nI ct)), (k1, .inl (cA 0, 701, .inl fk)), (k2, .inl (cA 0, 701, .inl ft)), (k3, .inl (cA 1, 701, .inr (.inl fv)))]) hP hD [4, 0, 1, 2, 3] (by decide) rfl
        refine W.widen (k := 0) (n := 0) (Nat.le_of_ble_eq_true rfl) (Nat.le_of_ble_eq_true rfl) ?_
        exact (W.zret (v := 0) hx hb hr (by first | rfl | decide) (fun t ht hW => ⟨⟨0, 0, rfl, ⟨rfl, by decide⟩, ti, inb, zn11, (ft ti), hti, (by omega), (by omega), (fun h9 => absurd h9 (by decide)), (fun h9 => absurd h9 (by decide)), (fun h9 => absurd h9 (by decide)), (fun h9 => absurd h9 (by decide)), (fun h9 => absurd h9 (by decide)), (fun _ => ⟨3, nm_hi c1 (by omega) c6, hn12⟩), (fun _ => rfl), by rw [ht]; exact hP9, hD9⟩, hS.F ht⟩) hS.2.2 dX4_takeNumber_39)
  · skip
    refine lv_aload_n hx hb dX4_takeNumber_8 rfl (lv_at hl 0 rfl) ?_
    refine lv_iconst (v := 2) hx hb dX4_takeNumber_9 (by decide) ?_
    obtain ⟨hPc, hDc, hFc⟩ := PDq.cut (wc := [(oX4 r0 r1 p0 (nI ti) (fk ti) (ft ti) (fv ti) inb iek iep)]) hP hD hS hA [0] (by decide) rfl
    refine va_calli (va_runV (As := [.int 2]) (rest := []) ⟨hx, hb, hml, hown, hts⟩ (x_fail l D cA sa r0 r1 p0 (nI ti) (fk ti) (ft ti) inb iek iep (fv ti) 2 s.heap.size) (cwV 1 hts gX4_takeNumber_X4_fail rfl rfl rfl (by decide +kernel) ⟨(Nat.le_of_ble_eq_true rfl), (Nat.le_of_ble_eq_true rfl)⟩) ⟨Wd.blind, va_recv hK hPc (ci := 8) (q0 := 0) rfl rfl, fun U hU hW => ⟨rfl, Wd.call hPc hDc hK hC hZ hS hFc U hU hW⟩⟩ rfl rfl hl.1 rfl (lv_room (Nat.le_of_ble_eq_true rfl)) dX4_takeNumber_10 ⟨(Nat.le_of_ble_eq_true rfl), (Nat.le_of_ble_eq_true rfl)⟩) hS (fun q _ h => hFc q h) hFc (fun rn13 u t H1 locs ht hvm hw hB hz1 hk1 hS => ?_)
    obtain ⟨zn14, hn15, hP1, hD1⟩ := hB
    rw [ht] at hP1
    obtain ⟨hP, hD⟩ := PDq.join (w := [(oX5 r1 k1 k2 k3 (nI ct)), (k1, .inl (cA 0, 701, .inl fk)), (k2, .inl (cA 0, 701, .inl ft)), (k3, .inl (cA 1, 701, .inr (.inl fv))), (oX4 r0 r1 p0 (nI ti) (fk ti) (ft ti) (fv ti) inb zn14 (ft ti))]) 4 hP hD [0] [1, 2, 3, 4] rfl rfl (by decide) (by decide) hk1 hFc hP1 hD1 rfl
    generalize H1 = H at hP hS ⊢
    obtain rfl : rn13 = 0 := hw
    obtain ⟨hP9, hD9⟩ := PDq.sub (ws' := [(oX4 r0 r1 p0 (nI ti) (fk ti) (ft ti) (fv ti) inb zn14 (ft ti)), (oX5 r1 k1 k2 k3 (nI ct)), (k1, .inl (cA 0, 701, .inl fk)), (k2, .inl (cA 0, 701, .inl ft)), (k3, .inl (cA 1, 701, .inr (.inl fv)))]) hP hD [4, 0, 1, 2, 3] (by decide) rfl
    refine W.widen (k := 0) (n := 0) (Nat.le_of_ble_eq_true rfl) (Nat.le_of_ble_eq_true rfl) ?_
    exact (W.zret (v := 0) hx hb hr (by first | rfl | decide) (fun t ht hW => ⟨⟨0, 0, rfl, ⟨rfl, by decide⟩, ti, inb, zn14, (ft ti), hti, (by omega), (by omega), (fun h9 => absurd h9 (by decide)), (fun h9 => absurd h9 (by decide)), (fun h9 => absurd h9 (by decide)), (fun h9 => absurd h9 (by decide)), (fun h9 => absurd h9 (by decide)), (fun _ => ⟨2, nm_k _ c1, hn15⟩), (fun _ => rfl), by rw [ht]; exact hP9, hD9⟩, hS.F ht⟩) hS.2.2 dX4_takeNumber_13)

set_option maxHeartbeats 4000000 in
set_option maxRecDepth 100000 in
/-- beginsFact -/
theorem x_beginsFact_look (l : Launch) (D : va_G) (cA : Nat → ClassId) (sa : Nat → Nat) (a : Int32) (sz : Nat) : Met l yX7_beginsFact wsX7_beginsFact ({ frames := 0, cells := 0, slots := 0, locals := 0 }) (va_Pc [.int a] (Wd D cA sa [] sz)) (va_Qi (fun (r : Int32) (_ : Unit) => (r = 1 ∧ (a = 5 ∨ (16 ≤ a ∧ a ≤ 22))) ∨ (r = 0 ∧ ¬ (a = 5 ∨ (16 ≤ a ∧ a ≤ 22)))) (fun (_ : Unit) t => Wq D (va_A [] sz) [] t) (va_A [] sz)) 0 0 (va_A [] sz) := by
  refine Met.ofW (cc := cX7_beginsFact) (maxL := 1) (ret := (some .boolean)) (by decide) rfl ?_
  intro p e s m args below meth c s₁ B hml hv
  obtain ⟨rfl, hsz, hP, hK, hD0, hC, hZ⟩ := hv
  have hx := B.exec
  have hb := B.bytes
  have hr := B.returns
  have hts := atoms_spec (ws := wsX7_beginsFact) B.pre
  have hown : s.vm.findClass RX7 = some m.cls := findClass_of_methodNamed B.named
  have hlocks := B.notSynchronized
  subst hsz
  have hD := hD0.self (sz := s.heap.size)
  generalize hAe : va_A [] s.heap.size = A at hD hZ ⊢
  have hA : ∀ q : Nat, s.heap.size ≤ q → A q := fun q h => by rw [← hAe]; exact Or.inr h
  have hS : va_S A s.heap s.heap [] := va_S.rf
  have hP : va_P D vwCl [] s.heap := hP
  have hl := lv_entry ([.int a]) (n := 1) (Nat.le_of_ble_eq_true rfl)
  rw [lg_entry_eq]
  generalize (lg_sl ([.int a]) ++ List.replicate (1 - (lg_sl ([.int a])).length) Slot.unset).toArray = ls at hl ⊢
  have hl : lv_has ls 1 [(0, .int a)] := hl
  refine lv_iload_n hx hb dX7_beginsFact_0 rfl (lv_at hl 0 rfl) ?_
  refine lv_iconst (v := 5) hx hb dX7_beginsFact_1 (by decide) ?_
  refine lv_icmp_eq (tgt := 17) hx hb dX7_beginsFact_2 (by decide) (fun c1 => ?_) (fun c1 => ?_)
  · skip
    rw [c1] at hl
    have hl : lv_has ls 1 [(0, .int 5)] := hl
    refine lv_iconst (v := 1) hx hb dX7_beginsFact_17 (by decide) ?_
    refine lv_goto (tgt := 22) hx hb dX7_beginsFact_18 (by decide) ?_
    obtain ⟨hP9, hD9⟩ := PDq.sub (ws' := []) hP hD [] (by decide) rfl
    refine W.widen (k := 0) (n := 0) (Nat.le_of_ble_eq_true rfl) (Nat.le_of_ble_eq_true rfl) ?_
    exact (W.zret (v := 1) hx hb hr (by first | rfl | decide) (fun t ht hW => ⟨⟨1, (), rfl, (Or.inl ⟨rfl, (Or.inl c1)⟩), by rw [ht]; exact hP9, hD9⟩, hS.F ht⟩) hS.2.2 dX7_beginsFact_22)
  · skip
    refine lv_iload_n hx hb dX7_beginsFact_5 rfl (lv_at hl 0 rfl) ?_
    refine lv_bipush (v := 16) hx hb dX7_beginsFact_6 (by decide) ?_
    refine lv_icmp_lt (tgt := 21) hx hb dX7_beginsFact_8 (by decide) (fun c2 => ?_) (fun c2 => ?_)
    · skip
      refine lv_iconst (v := 0) hx hb dX7_beginsFact_21 (by decide) ?_
      obtain ⟨hP9, hD9⟩ := PDq.sub (ws' := []) hP hD [] (by decide) rfl
      refine W.widen (k := 0) (n := 0) (Nat.le_of_ble_eq_true rfl) (Nat.le_of_ble_eq_true rfl) ?_
      exact (W.zret (v := 0) hx hb hr (by first | rfl | decide) (fun t ht hW => ⟨⟨0, (), rfl, (Or.inr ⟨rfl, (fun q => q.elim c1 (fun z => absurd z.1 (Int32.not_le.mpr c2)))⟩), by rw [ht]; exact hP9, hD9⟩, hS.F ht⟩) hS.2.2 dX7_beginsFact_22)
    · skip
      refine lv_iload_n hx hb dX7_beginsFact_11 rfl (lv_at hl 0 rfl) ?_
      refine lv_bipush (v := 22) hx hb dX7_beginsFact_12 (by decide) ?_
      refine lv_icmp_gt (tgt := 21) hx hb dX7_beginsFact_14 (by decide) (fun c3 => ?_) (fun c3 => ?_)
      · skip
        refine lv_iconst (v := 0) hx hb dX7_beginsFact_21 (by decide) ?_
        obtain ⟨hP9, hD9⟩ := PDq.sub (ws' := []) hP hD [] (by decide) rfl
        refine W.widen (k := 0) (n := 0) (Nat.le_of_ble_eq_true rfl) (Nat.le_of_ble_eq_true rfl) ?_
        exact (W.zret (v := 0) hx hb hr (by first | rfl | decide) (fun t ht hW => ⟨⟨0, (), rfl, (Or.inr ⟨rfl, (fun q => q.elim c1 (fun z => absurd z.2 (Int32.not_le.mpr c3)))⟩), by rw [ht]; exact hP9, hD9⟩, hS.F ht⟩) hS.2.2 dX7_beginsFact_22)
      · skip
        refine lv_iconst (v := 1) hx hb dX7_beginsFact_17 (by decide) ?_
        refine lv_goto (tgt := 22) hx hb dX7_beginsFact_18 (by decide) ?_
        obtain ⟨hP9, hD9⟩ := PDq.sub (ws' := []) hP hD [] (by decide) rfl
        refine W.widen (k := 0) (n := 0) (Nat.le_of_ble_eq_true rfl) (Nat.le_of_ble_eq_true rfl) ?_
        exact (W.zret (v := 1) hx hb hr (by first | rfl | decide) (fun t ht hW => ⟨⟨1, (), rfl, (Or.inl ⟨rfl, (Or.inr ⟨Int32.not_lt.mp c2, Int32.not_lt.mp c3⟩)⟩), by rw [ht]; exact hP9, hD9⟩, hS.F ht⟩) hS.2.2 dX7_beginsFact_22)

set_option maxHeartbeats 4000000 in
set_option maxRecDepth 100000 in
/-- isBasis -/
theorem x_isBasis_look (l : Launch) (D : va_G) (cA : Nat → ClassId) (sa : Nat → Nat) (a : Int64) (sz : Nat) : Met l yX9_isBasis wsX9_isBasis ({ frames := 0, cells := 0, slots := 0, locals := 0 }) (va_Pc [.long a] (Wd D cA sa [] sz)) (va_Qi (fun (r : Int32) (_ : Unit) => (r = 1 ∧ (a = 360 ∨ a = 365)) ∨ (r = 0 ∧ ¬ (a = 360 ∨ a = 365))) (fun (_ : Unit) t => Wq D (va_A [] sz) [] t) (va_A [] sz)) 0 0 (va_A [] sz) := by
  refine Met.ofW (cc := cX9_isBasis) (maxL := 2) (ret := (some .boolean)) (by decide) rfl ?_
  intro p e s m args below meth c s₁ B hml hv
  obtain ⟨rfl, hsz, hP, hK, hD0, hC, hZ⟩ := hv
  have hx := B.exec
  have hb := B.bytes
  have hr := B.returns
  have hts := atoms_spec (ws := wsX9_isBasis) B.pre
  have hown : s.vm.findClass RX9 = some m.cls := findClass_of_methodNamed B.named
  have hlocks := B.notSynchronized
  subst hsz
  have hD := hD0.self (sz := s.heap.size)
  generalize hAe : va_A [] s.heap.size = A at hD hZ ⊢
  have hA : ∀ q : Nat, s.heap.size ≤ q → A q := fun q h => by rw [← hAe]; exact Or.inr h
  have hS : va_S A s.heap s.heap [] := va_S.rf
  have hP : va_P D vwCl [] s.heap := hP
  have hl := lv_entry ([.long a]) (n := 2) (Nat.le_of_ble_eq_true rfl)
  rw [lg_entry_eq]
  generalize (lg_sl ([.long a]) ++ List.replicate (2 - (lg_sl ([.long a])).length) Slot.unset).toArray = ls at hl ⊢
  have hl : lv_has ls 2 [(0, .long a)] := hl
  refine lv_lload_n hx hb dX9_isBasis_0 rfl (lv_at hl 0 rfl) ?_
  refine lv_ldc2 (v := 360) hx hb hown (hts (.constantLong RX9 374 360) (by decide +kernel)) dX9_isBasis_1 ?_
  refine W.lcmp hx hb dX9_isBasis_4 ?_
  refine lv_if_eq (tgt := 16) hx hb dX9_isBasis_5 (by decide) (fun c1 => ?_) (fun c1 => ?_)
  · skip
    refine lv_iconst (v := 1) hx hb dX9_isBasis_16 (by decide) ?_
    refine lv_goto (tgt := 21) hx hb dX9_isBasis_17 (by decide) ?_
    obtain ⟨hP9, hD9⟩ := PDq.sub (ws' := []) hP hD [] (by decide) rfl
    refine W.widen (k := 0) (n := 0) (Nat.le_of_ble_eq_true rfl) (Nat.le_of_ble_eq_true rfl) ?_
    exact (W.zret (v := 1) hx hb hr (by first | rfl | decide) (fun t ht hW => ⟨⟨1, (), rfl, (Or.inl ⟨rfl, (Or.inl (lg_eq0 c1))⟩), by rw [ht]; exact hP9, hD9⟩, hS.F ht⟩) hS.2.2 dX9_isBasis_21)
  · skip
    refine lv_lload_n hx hb dX9_isBasis_8 rfl (lv_at hl 0 rfl) ?_
    refine lv_ldc2 (v := 365) hx hb hown (hts (.constantLong RX9 376 365) (by decide +kernel)) dX9_isBasis_9 ?_
    refine W.lcmp hx hb dX9_isBasis_12 ?_
    refine lv_if_ne (tgt := 20) hx hb dX9_isBasis_13 (by decide) (fun c2 => ?_) (fun c2 => ?_)
    · skip
      refine lv_iconst (v := 0) hx hb dX9_isBasis_20 (by decide) ?_
      obtain ⟨hP9, hD9⟩ := PDq.sub (ws' := []) hP hD [] (by decide) rfl
      refine W.widen (k := 0) (n := 0) (Nat.le_of_ble_eq_true rfl) (Nat.le_of_ble_eq_true rfl) ?_
      exact (W.zret (v := 0) hx hb hr (by first | rfl | decide) (fun t ht hW => ⟨⟨0, (), rfl, (Or.inr ⟨rfl, (fun q => q.elim (fun z => c1 (lg_0eq z)) (fun z => c2 (lg_0eq z)))⟩), by rw [ht]; exact hP9, hD9⟩, hS.F ht⟩) hS.2.2 dX9_isBasis_21)
    · skip
      refine lv_iconst (v := 1) hx hb dX9_isBasis_16 (by decide) ?_
      refine lv_goto (tgt := 21) hx hb dX9_isBasis_17 (by decide) ?_
      obtain ⟨hP9, hD9⟩ := PDq.sub (ws' := []) hP hD [] (by decide) rfl
      refine W.widen (k := 0) (n := 0) (Nat.le_of_ble_eq_true rfl) (Nat.le_of_ble_eq_true rfl) ?_
      exact (W.zret (v := 1) hx hb hr (by first | rfl | decide) (fun t ht hW => ⟨⟨1, (), rfl, (Or.inl ⟨rfl, (Or.inr (lg_eq0 c2))⟩), by rw [ht]; exact hP9, hD9⟩, hS.F ht⟩) hS.2.2 dX9_isBasis_21)

set_option maxHeartbeats 4000000 in
set_option maxRecDepth 100000 in
/-- milestoneNamed -/
theorem x_milNamed_look (l : Launch) (D : va_G) (cA : Nat → ClassId) (sa : Nat → Nat) (p0 : Nat) (p1 : Nat) (p2 : Nat) (p3 : Nat) (p4 : Nat) (p5 : Nat) (p6 : Nat) (p7 : Nat) (p8 : Nat) (p9 : Nat) (cn : Nat) (pq : Nat) (nd : Nat) (sc : Nat) (pr : Int32) (pb : Int32) (pe : Int32) (pg : Int32) (w : Int64) (fna : Nat → Int64) (sz : Nat) (hcn : cn ≤ 10) (hpq : pq ≤ 8) (hnd : nd ≤ 6) (hsc : sc ≤ 350) : Met l yX3_milestoneNamed wsX3_milestoneNamed ({ frames := 0, cells := 0, slots := 0, locals := 0 }) (va_Pc [.ref p0, .long w] (Wd D cA sa [(oX3 p0 pr pb pe pg p1 (nI nd) p2 p3 p4 p5 (nI cn) p6 (nI pq) p7 p8 p9 (nI sc)), (p2, .inl (cA 1, 10, .inr (.inl fna)))] sz)) (va_Qi (fun (r : Int32) (_ : Unit) => (r = -1 ∧ ∀ j, j < cn → fna j ≠ w) ∨ ∃ n, n < cn ∧ r = nI n ∧ fna n = w) (fun (_ : Unit) t => Wq D (va_A [(oX3 p0 pr pb pe pg p1 (nI nd) p2 p3 p4 p5 (nI cn) p6 (nI pq) p7 p8 p9 (nI sc)), (p2, .inl (cA 1, 10, .inr (.inl fna)))] sz) [(oX3 p0 pr pb pe pg p1 (nI nd) p2 p3 p4 p5 (nI cn) p6 (nI pq) p7 p8 p9 (nI sc)), (p2, .inl (cA 1, 10, .inr (.inl fna)))] t) (va_A [(oX3 p0 pr pb pe pg p1 (nI nd) p2 p3 p4 p5 (nI cn) p6 (nI pq) p7 p8 p9 (nI sc)), (p2, .inl (cA 1, 10, .inr (.inl fna)))] sz)) 0 0 (va_A [(oX3 p0 pr pb pe pg p1 (nI nd) p2 p3 p4 p5 (nI cn) p6 (nI pq) p7 p8 p9 (nI sc)), (p2, .inl (cA 1, 10, .inr (.inl fna)))] sz) := by
  refine Met.ofW (cc := cX3_milestoneNamed) (maxL := 4) (ret := (some .int)) (by decide) rfl ?_
  intro p e s m args below meth c s₁ B hml hv
  obtain ⟨rfl, hsz, hP, hK, hD0, hC, hZ⟩ := hv
  have hx := B.exec
  have hb := B.bytes
  have hr := B.returns
  have hts := atoms_spec (ws := wsX3_milestoneNamed) B.pre
  have hown : s.vm.findClass RX3 = some m.cls := findClass_of_methodNamed B.named
  have hlocks := B.notSynchronized
  subst hsz
  have hD := hD0.self (sz := s.heap.size)
  generalize hAe : va_A [(oX3 p0 pr pb pe pg p1 (nI nd) p2 p3 p4 p5 (nI cn) p6 (nI pq) p7 p8 p9 (nI sc)), (p2, .inl (cA 1, 10, .inr (.inl fna)))] s.heap.size = A at hD hZ ⊢
  have hA : ∀ q : Nat, s.heap.size ≤ q → A q := fun q h => by rw [← hAe]; exact Or.inr h
  have hS : va_S A s.heap s.heap [] := va_S.rf
  have hP : va_P D vwCl [(oX3 p0 pr pb pe pg p1 (nI nd) p2 p3 p4 p5 (nI cn) p6 (nI pq) p7 p8 p9 (nI sc)), (p2, .inl (cA 1, 10, .inr (.inl fna)))] s.heap := hP
  have hl := lv_entry ([.ref p0, .long w]) (n := 4) (Nat.le_of_ble_eq_true rfl)
  rw [lg_entry_eq]
  generalize (lg_sl ([.ref p0, .long w]) ++ List.replicate (4 - (lg_sl ([.ref p0, .long w])).length) Slot.unset).toArray = ls at hl ⊢
  have hl : lv_has ls 4 [(0, .ref p0), (1, .long w)] := hl
  have inX3 : ∀ w ∈ u_ws RX3 TX3 17, w ∈ wsX3_milestoneNamed := by decide +kernel
  refine lv_iconst (v := 0) hx hb dX3_milestoneNamed_0 (by decide) ?_
  refine lv_istore_n (lv' := [(3, .int 0), (0, .ref p0), (1, .long w)]) hx hb dX3_milestoneNamed_1 rfl hl (by decide) rfl (fun ls hl => ?_)
  have loop1 : ∀ (n1 i1 : Nat) (H : Heap) (locs : List Loc) (ls : Array Slot), i1 + n1 = cn → Nof i1 w fna → va_P D vwCl [(oX3 p0 pr pb pe pg p1 (nI nd) p2 p3 p4 p5 (nI cn) p6 (nI pq) p7 p8 p9 (nI sc)), (p2, .inl (cA 1, 10, .inr (.inl fna)))] H → va_D A [(oX3 p0 pr pb pe pg p1 (nI nd) p2 p3 p4 p5 (nI cn) p6 (nI pq) p7 p8 p9 (nI sc)), (p2, .inl (cA 1, 10, .inr (.inl fna)))] → va_S A s.heap H locs → lv_has ls 4 [(3, .int (nI i1)), (0, .ref p0), (1, .long w)] → W p l e (headSpec wsX3_milestoneNamed ({ frames := 0, cells := 0, slots := 0, locals := 0 } : Room)).room s m ([.ref p0, .long w] : List Value).toArray below meth c H locs 0 0 (MQ below (va_Qi (fun (r : Int32) (_ : Unit) => (r = -1 ∧ ∀ j, j < cn → fna j ≠ w) ∨ ∃ n, n < cn ∧ r = nI n ∧ fna n = w) (fun (_ : Unit) t => Wq D A [(oX3 p0 pr pb pe pg p1 (nI nd) p2 p3 p4 p5 (nI cn) p6 (nI pq) p7 p8 p9 (nI sc)), (p2, .inl (cA 1, 10, .inr (.inl fna)))] t) A) ([.ref p0, .long w] : List Value).toArray s 0 0 A) (F0 m 2 ls []) := by
    intro n1
    induction n1 with
    | zero =>
      intro i1 H locs ls hi1 hv0_1 hP hD hS hl
      obtain rfl : cn = i1 := by omega
      refine lv_iload_n hx hb dX3_milestoneNamed_2 rfl (lv_at hl 0 rfl) ?_
      refine lv_aload_n hx hb dX3_milestoneNamed_3 rfl (lv_at hl 1 rfl) ?_
      refine va_get (D := D) (ci := 7) (v := .int (nI cn)) (C := RX3) (T := TX3) (N := 17) hx hb hts inX3 hown hK hP 0 rfl rfl 10 (by decide) (hts (.fieldLink RX3 56 "EscrowDesk$Plan" "milestoneCount" "I") (by decide +kernel)) (fun _ h9 => h9) rfl dX3_milestoneNamed_4 ?_
      refine lv_icmp_ge (tgt := 29) hx hb dX3_milestoneNamed_7 (by decide) (fun c1 => ?_) (fun c9 => absurd (nI_le (a := cn) (b := cn) (show cn ≤ cn by omega) (by omega)) c9)
      refine lv_iconst (v := (-1)) hx hb dX3_milestoneNamed_29 (by decide) ?_
      obtain ⟨hP9, hD9⟩ := PDq.sub (ws' := [(oX3 p0 pr pb pe pg p1 (nI nd) p2 p3 p4 p5 (nI cn) p6 (nI pq) p7 p8 p9 (nI sc)), (p2, .inl (cA 1, 10, .inr (.inl fna)))]) hP hD [0, 1] (by decide) rfl
      refine W.widen (k := 0) (n := 0) (Nat.le_of_ble_eq_true rfl) (Nat.le_of_ble_eq_true rfl) ?_
      exact (W.iret (v := (-1)) hx hb hr (fun t ht hW => ⟨⟨(-1), (), rfl, (Or.inl ⟨rfl, hv0_1⟩), by rw [ht]; exact hP9, hD9⟩, hS.F ht⟩) hS.2.2 dX3_milestoneNamed_30)
    | succ n1 ih1 =>
      intro i1 H locs ls hi1 hv0_1 hP hD hS hl
      refine lv_iload_n hx hb dX3_milestoneNamed_2 rfl (lv_at hl 0 rfl) ?_
      refine lv_aload_n hx hb dX3_milestoneNamed_3 rfl (lv_at hl 1 rfl) ?_
      refine va_get (D := D) (ci := 7) (v := .int (nI cn)) (C := RX3) (T := TX3) (N := 17) hx hb hts inX3 hown hK hP 0 rfl rfl 10 (by decide) (hts (.fieldLink RX3 56 "EscrowDesk$Plan" "milestoneCount" "I") (by decide +kernel)) (fun _ h9 => h9) rfl dX3_milestoneNamed_4 ?_
      refine lv_icmp_ge (tgt := 29) hx hb dX3_milestoneNamed_7 (by decide) (fun c9 => absurd c9 (nI_ge (a := i1) (b := cn) (show i1 < cn by omega) (by omega))) (fun c2 => ?_)
      refine lv_aload_n hx hb dX3_milestoneNamed_10 rfl (lv_at hl 1 rfl) ?_
      refine va_get (D := D) (ci := 7) (v := .ref p2) (C := RX3) (T := TX3) (N := 17) hx hb hts inX3 hown hK hP 0 rfl rfl 6 (by decide) (hts (.fieldLink RX3 19 "EscrowDesk$Plan" "names" "[J") (by decide +kernel)) (fun _ h9 => h9) rfl dX3_milestoneNamed_11 ?_
      refine lv_iload_n hx hb dX3_milestoneNamed_14 rfl (lv_at hl 0 rfl) ?_
      refine va_lald hx hb hK hP 1 1 rfl rfl (vp_in_nI (n := i1) (N := 10) (show i1 < 10 by omega) (by decide)) dX3_milestoneNamed_15 ?_
      refine lv_topl (fun yn3 eyn3 => ?_)
      obtain rfl : yn3 = (fna i1) := eyn3.trans (by rw [nI_clamp (by omega)])
      refine lv_lload_n hx hb dX3_milestoneNamed_16 rfl (lv_at hl 2 rfl) ?_
      refine W.lcmp hx hb dX3_milestoneNamed_17 ?_
      refine lv_if_ne (tgt := 23) hx hb dX3_milestoneNamed_18 (by decide) (fun c4 => ?_) (fun c4 => ?_)
      · skip
        refine lv_iinc (v := (nI (i1 + 1))) (lv' := [(3, .int (nI (i1 + 1))), (0, .ref p0), (1, .long w)]) hx hb dX3_milestoneNamed_23 hl (k := 0) rfl (nI_1 _) (by decide) rfl (fun ls hl => ?_)
        refine lv_goto (tgt := 2) hx hb dX3_milestoneNamed_26 (by decide) ?_
        obtain ⟨hP9, hD9⟩ := PDq.sub (ws' := [(oX3 p0 pr pb pe pg p1 (nI nd) p2 p3 p4 p5 (nI cn) p6 (nI pq) p7 p8 p9 (nI sc)), (p2, .inl (cA 1, 10, .inr (.inl fna)))]) hP hD [0, 1] (by decide) rfl
        exact ih1 (i1 + 1)  H _ ls (by omega) (Nof.step hv0_1 c4) hP9 hD9 hS (lv_sub hl [0, 1, 2] rfl)
      · skip
        refine lv_iload_n hx hb dX3_milestoneNamed_21 rfl (lv_at hl 0 rfl) ?_
        obtain ⟨hP9, hD9⟩ := PDq.sub (ws' := [(oX3 p0 pr pb pe pg p1 (nI nd) p2 p3 p4 p5 (nI cn) p6 (nI pq) p7 p8 p9 (nI sc)), (p2, .inl (cA 1, 10, .inr (.inl fna)))]) hP hD [0, 1] (by decide) rfl
        refine W.widen (k := 0) (n := 0) (Nat.le_of_ble_eq_true rfl) (Nat.le_of_ble_eq_true rfl) ?_
        exact (W.iret (v := (nI i1)) hx hb hr (fun t ht hW => ⟨⟨(nI i1), (), rfl, (Or.inr ⟨i1, by omega, rfl, lg_eq0 c4⟩), by rw [ht]; exact hP9, hD9⟩, hS.F ht⟩) hS.2.2 dX3_milestoneNamed_22)
  obtain ⟨hP9, hD9⟩ := PDq.sub (ws' := [(oX3 p0 pr pb pe pg p1 (nI nd) p2 p3 p4 p5 (nI cn) p6 (nI pq) p7 p8 p9 (nI sc)), (p2, .inl (cA 1, 10, .inr (.inl fna)))]) hP hD [0, 1] (by decide) rfl
  exact loop1 (cn - 0) 0  _ _ ls (by omega) (Nof.zero w fna) hP9 hD9 hS (lv_sub hl [0, 1, 2] rfl)

set_option maxHeartbeats 4000000 in
set_option maxRecDepth 100000 in
/-- proofNamed: an old one -/
theorem x_proofOld_look (l : Launch) (D : va_G) (cA : Nat → ClassId) (sa : Nat → Nat) (p0 : Nat) (p1 : Nat) (p2 : Nat) (p3 : Nat) (p4 : Nat) (p5 : Nat) (p6 : Nat) (p7 : Nat) (p8 : Nat) (p9 : Nat) (cn : Nat) (pq : Nat) (nd : Nat) (sc : Nat) (pr : Int32) (pb : Int32) (pe : Int32) (pg : Int32) (w : Int64) (fpn : Nat → Int64) (pl : List Int64) (sz : Nat) (hcn : cn ≤ 10) (hpq : pq ≤ 8) (hnd : nd ≤ 6) (hsc : sc ≤ 350) (hNP : NL pl pq fpn) (hm : w ∈ pl) : Met l yX3_proofNamed wsX3_proofNamed ({ frames := 0, cells := 0, slots := 0, locals := 0 }) (va_Pc [.ref p0, .long w] (Wd D cA sa [(oX3 p0 pr pb pe pg p1 (nI nd) p2 p3 p4 p5 (nI cn) p6 (nI pq) p7 p8 p9 (nI sc)), (p6, .inl (cA 1, 8, .inr (.inl fpn)))] sz)) (va_Qi (fun (r : Int32) (_ : Unit) => ∃ n, n < 8 ∧ r = nI n) (fun (_ : Unit) t => Wq D (va_A [(oX3 p0 pr pb pe pg p1 (nI nd) p2 p3 p4 p5 (nI cn) p6 (nI pq) p7 p8 p9 (nI sc)), (p6, .inl (cA 1, 8, .inr (.inl fpn)))] sz) [(oX3 p0 pr pb pe pg p1 (nI nd) p2 p3 p4 p5 (nI cn) p6 (nI pq) p7 p8 p9 (nI sc)), (p6, .inl (cA 1, 8, .inr (.inl fpn)))] t) (va_A [(oX3 p0 pr pb pe pg p1 (nI nd) p2 p3 p4 p5 (nI cn) p6 (nI pq) p7 p8 p9 (nI sc)), (p6, .inl (cA 1, 8, .inr (.inl fpn)))] sz)) 0 0 (va_A [(oX3 p0 pr pb pe pg p1 (nI nd) p2 p3 p4 p5 (nI cn) p6 (nI pq) p7 p8 p9 (nI sc)), (p6, .inl (cA 1, 8, .inr (.inl fpn)))] sz) := by
  refine Met.ofW (cc := cX3_proofNamed) (maxL := 4) (ret := (some .int)) (by decide) rfl ?_
  intro p e s m args below meth c s₁ B hml hv
  obtain ⟨rfl, hsz, hP, hK, hD0, hC, hZ⟩ := hv
  have hx := B.exec
  have hb := B.bytes
  have hr := B.returns
  have hts := atoms_spec (ws := wsX3_proofNamed) B.pre
  have hown : s.vm.findClass RX3 = some m.cls := findClass_of_methodNamed B.named
  have hlocks := B.notSynchronized
  subst hsz
  have hD := hD0.self (sz := s.heap.size)
  generalize hAe : va_A [(oX3 p0 pr pb pe pg p1 (nI nd) p2 p3 p4 p5 (nI cn) p6 (nI pq) p7 p8 p9 (nI sc)), (p6, .inl (cA 1, 8, .inr (.inl fpn)))] s.heap.size = A at hD hZ ⊢
  have hA : ∀ q : Nat, s.heap.size ≤ q → A q := fun q h => by rw [← hAe]; exact Or.inr h
  have hS : va_S A s.heap s.heap [] := va_S.rf
  have hP : va_P D vwCl [(oX3 p0 pr pb pe pg p1 (nI nd) p2 p3 p4 p5 (nI cn) p6 (nI pq) p7 p8 p9 (nI sc)), (p6, .inl (cA 1, 8, .inr (.inl fpn)))] s.heap := hP
  have hl := lv_entry ([.ref p0, .long w]) (n := 4) (Nat.le_of_ble_eq_true rfl)
  rw [lg_entry_eq]
  generalize (lg_sl ([.ref p0, .long w]) ++ List.replicate (4 - (lg_sl ([.ref p0, .long w])).length) Slot.unset).toArray = ls at hl ⊢
  have hl : lv_has ls 4 [(0, .ref p0), (1, .long w)] := hl
  have inX3 : ∀ w ∈ u_ws RX3 TX3 17, w ∈ wsX3_proofNamed := by decide +kernel
  refine lv_iconst (v := 0) hx hb dX3_proofNamed_0 (by decide) ?_
  refine lv_istore_n (lv' := [(3, .int 0), (0, .ref p0), (1, .long w)]) hx hb dX3_proofNamed_1 rfl hl (by decide) rfl (fun ls hl => ?_)
  have loop1 : ∀ (n1 i1 : Nat) (H : Heap) (locs : List Loc) (ls : Array Slot), i1 + n1 = pq → Nof i1 w fpn → va_P D vwCl [(oX3 p0 pr pb pe pg p1 (nI nd) p2 p3 p4 p5 (nI cn) p6 (nI pq) p7 p8 p9 (nI sc)), (p6, .inl (cA 1, 8, .inr (.inl fpn)))] H → va_D A [(oX3 p0 pr pb pe pg p1 (nI nd) p2 p3 p4 p5 (nI cn) p6 (nI pq) p7 p8 p9 (nI sc)), (p6, .inl (cA 1, 8, .inr (.inl fpn)))] → va_S A s.heap H locs → lv_has ls 4 [(3, .int (nI i1)), (0, .ref p0), (1, .long w)] → W p l e (headSpec wsX3_proofNamed ({ frames := 0, cells := 0, slots := 0, locals := 0 } : Room)).room s m ([.ref p0, .long w] : List Value).toArray below meth c H locs 0 0 (MQ below (va_Qi (fun (r : Int32) (_ : Unit) => ∃ n, n < 8 ∧ r = nI n) (fun (_ : Unit) t => Wq D A [(oX3 p0 pr pb pe pg p1 (nI nd) p2 p3 p4 p5 (nI cn) p6 (nI pq) p7 p8 p9 (nI sc)), (p6, .inl (cA 1, 8, .inr (.inl fpn)))] t) A) ([.ref p0, .long w] : List Value).toArray s 0 0 A) (F0 m 2 ls []) := by
    intro n1
    induction n1 with
    | zero =>
      intro i1 H locs ls hi1 hv0_1 hP hD hS hl
      obtain rfl : pq = i1 := by omega
      exact absurd hm (NL.not hNP hv0_1)
    | succ n1 ih1 =>
      intro i1 H locs ls hi1 hv0_1 hP hD hS hl
      refine lv_iload_n hx hb dX3_proofNamed_2 rfl (lv_at hl 0 rfl) ?_
      refine lv_aload_n hx hb dX3_proofNamed_3 rfl (lv_at hl 1 rfl) ?_
      refine va_get (D := D) (ci := 7) (v := .int (nI pq)) (C := RX3) (T := TX3) (N := 17) hx hb hts inX3 hown hK hP 0 rfl rfl 12 (by decide) (hts (.fieldLink RX3 59 "EscrowDesk$Plan" "proofCount" "I") (by decide +kernel)) (fun _ h9 => h9) rfl dX3_proofNamed_4 ?_
      refine lv_icmp_ge (tgt := 29) hx hb dX3_proofNamed_7 (by decide) (fun c9 => absurd c9 (nI_ge (a := i1) (b := pq) (show i1 < pq by omega) (by omega))) (fun c1 => ?_)
      refine lv_aload_n hx hb dX3_proofNamed_10 rfl (lv_at hl 1 rfl) ?_
      refine va_get (D := D) (ci := 7) (v := .ref p6) (C := RX3) (T := TX3) (N := 17) hx hb hts inX3 hown hK hP 0 rfl rfl 11 (by decide) (hts (.fieldLink RX3 32 "EscrowDesk$Plan" "proofNames" "[J") (by decide +kernel)) (fun _ h9 => h9) rfl dX3_proofNamed_11 ?_
      refine lv_iload_n hx hb dX3_proofNamed_14 rfl (lv_at hl 0 rfl) ?_
      refine va_lald hx hb hK hP 1 1 rfl rfl (vp_in_nI (n := i1) (N := 8) (show i1 < 8 by omega) (by decide)) dX3_proofNamed_15 ?_
      refine lv_topl (fun yn2 eyn2 => ?_)
      obtain rfl : yn2 = (fpn i1) := eyn2.trans (by rw [nI_clamp (by omega)])
      refine lv_lload_n hx hb dX3_proofNamed_16 rfl (lv_at hl 2 rfl) ?_
      refine W.lcmp hx hb dX3_proofNamed_17 ?_
      refine lv_if_ne (tgt := 23) hx hb dX3_proofNamed_18 (by decide) (fun c3 => ?_) (fun c3 => ?_)
      · skip
        refine lv_iinc (v := (nI (i1 + 1))) (lv' := [(3, .int (nI (i1 + 1))), (0, .ref p0), (1, .long w)]) hx hb dX3_proofNamed_23 hl (k := 0) rfl (nI_1 _) (by decide) rfl (fun ls hl => ?_)
        refine lv_goto (tgt := 2) hx hb dX3_proofNamed_26 (by decide) ?_
        obtain ⟨hP9, hD9⟩ := PDq.sub (ws' := [(oX3 p0 pr pb pe pg p1 (nI nd) p2 p3 p4 p5 (nI cn) p6 (nI pq) p7 p8 p9 (nI sc)), (p6, .inl (cA 1, 8, .inr (.inl fpn)))]) hP hD [0, 1] (by decide) rfl
        exact ih1 (i1 + 1)  H _ ls (by omega) (Nof.step hv0_1 c3) hP9 hD9 hS (lv_sub hl [0, 1, 2] rfl)
      · skip
        refine lv_iload_n hx hb dX3_proofNamed_21 rfl (lv_at hl 0 rfl) ?_
        obtain ⟨hP9, hD9⟩ := PDq.sub (ws' := [(oX3 p0 pr pb pe pg p1 (nI nd) p2 p3 p4 p5 (nI cn) p6 (nI pq) p7 p8 p9 (nI sc)), (p6, .inl (cA 1, 8, .inr (.inl fpn)))]) hP hD [0, 1] (by decide) rfl
        refine W.widen (k := 0) (n := 0) (Nat.le_of_ble_eq_true rfl) (Nat.le_of_ble_eq_true rfl) ?_
        exact (W.iret (v := (nI i1)) hx hb hr (fun t ht hW => ⟨⟨(nI i1), (), rfl, ⟨i1, by omega, rfl⟩, by rw [ht]; exact hP9, hD9⟩, hS.F ht⟩) hS.2.2 dX3_proofNamed_22)
  obtain ⟨hP9, hD9⟩ := PDq.sub (ws' := [(oX3 p0 pr pb pe pg p1 (nI nd) p2 p3 p4 p5 (nI cn) p6 (nI pq) p7 p8 p9 (nI sc)), (p6, .inl (cA 1, 8, .inr (.inl fpn)))]) hP hD [0, 1] (by decide) rfl
  exact loop1 (pq - 0) 0  _ _ ls (by omega) (Nof.zero w fpn) hP9 hD9 hS (lv_sub hl [0, 1, 2] rfl)

set_option maxHeartbeats 4000000 in
set_option maxRecDepth 100000 in
/-- proofNamed: one too many -/
theorem x_proofFull_look (l : Launch) (D : va_G) (cA : Nat → ClassId) (sa : Nat → Nat) (p0 : Nat) (p1 : Nat) (p2 : Nat) (p3 : Nat) (p4 : Nat) (p5 : Nat) (p6 : Nat) (p7 : Nat) (p8 : Nat) (p9 : Nat) (cn : Nat) (pq : Nat) (nd : Nat) (sc : Nat) (pr : Int32) (pb : Int32) (pe : Int32) (pg : Int32) (w : Int64) (fpn : Nat → Int64) (pl : List Int64) (sz : Nat) (hcn : cn ≤ 10) (hpq : pq ≤ 8) (hnd : nd ≤ 6) (hsc : sc ≤ 350) (hNP : NL pl pq fpn) (hnm : ¬ w ∈ pl) (h8 : pq = 8) : Met l yX3_proofNamed wsX3_proofNamed ({ frames := 0, cells := 0, slots := 0, locals := 0 }) (va_Pc [.ref p0, .long w] (Wd D cA sa [(oX3 p0 pr pb pe pg p1 (nI nd) p2 p3 p4 p5 (nI cn) p6 (nI pq) p7 p8 p9 (nI sc)), (p6, .inl (cA 1, 8, .inr (.inl fpn)))] sz)) (va_Qi (fun (r : Int32) (_ : Unit) => r = (-1)) (fun (_ : Unit) t => Wq D (va_A [(oX3 p0 pr pb pe pg p1 (nI nd) p2 p3 p4 p5 (nI cn) p6 (nI pq) p7 p8 p9 (nI sc)), (p6, .inl (cA 1, 8, .inr (.inl fpn)))] sz) [(oX3 p0 pr pb pe pg p1 (nI nd) p2 p3 p4 p5 (nI cn) p6 (nI pq) p7 p8 p9 (nI sc)), (p6, .inl (cA 1, 8, .inr (.inl fpn)))] t) (va_A [(oX3 p0 pr pb pe pg p1 (nI nd) p2 p3 p4 p5 (nI cn) p6 (nI pq) p7 p8 p9 (nI sc)), (p6, .inl (cA 1, 8, .inr (.inl fpn)))] sz)) 0 0 (va_A [(oX3 p0 pr pb pe pg p1 (nI nd) p2 p3 p4 p5 (nI cn) p6 (nI pq) p7 p8 p9 (nI sc)), (p6, .inl (cA 1, 8, .inr (.inl fpn)))] sz) := by
  refine Met.ofW (cc := cX3_proofNamed) (maxL := 4) (ret := (some .int)) (by decide) rfl ?_
  intro p e s m args below meth c s₁ B hml hv
  obtain ⟨rfl, hsz, hP, hK, hD0, hC, hZ⟩ := hv
  have hx := B.exec
  have hb := B.bytes
  have hr := B.returns
  have hts := atoms_spec (ws := wsX3_proofNamed) B.pre
  have hown : s.vm.findClass RX3 = some m.cls := findClass_of_methodNamed B.named
  have hlocks := B.notSynchronized
  subst hsz
  have hD := hD0.self (sz := s.heap.size)
  generalize hAe : va_A [(oX3 p0 pr pb pe pg p1 (nI nd) p2 p3 p4 p5 (nI cn) p6 (nI pq) p7 p8 p9 (nI sc)), (p6, .inl (cA 1, 8, .inr (.inl fpn)))] s.heap.size = A at hD hZ ⊢
  have hA : ∀ q : Nat, s.heap.size ≤ q → A q := fun q h => by rw [← hAe]; exact Or.inr h
  have hS : va_S A s.heap s.heap [] := va_S.rf
  have hP : va_P D vwCl [(oX3 p0 pr pb pe pg p1 (nI nd) p2 p3 p4 p5 (nI cn) p6 (nI pq) p7 p8 p9 (nI sc)), (p6, .inl (cA 1, 8, .inr (.inl fpn)))] s.heap := hP
  have hl := lv_entry ([.ref p0, .long w]) (n := 4) (Nat.le_of_ble_eq_true rfl)
  rw [lg_entry_eq]
  generalize (lg_sl ([.ref p0, .long w]) ++ List.replicate (4 - (lg_sl ([.ref p0, .long w])).length) Slot.unset).toArray = ls at hl ⊢
  have hl : lv_has ls 4 [(0, .ref p0), (1, .long w)] := hl
  have inX3 : ∀ w ∈ u_ws RX3 TX3 17, w ∈ wsX3_proofNamed := by decide +kernel
  refine lv_iconst (v := 0) hx hb dX3_proofNamed_0 (by decide) ?_
  refine lv_istore_n (lv' := [(3, .int 0), (0, .ref p0), (1, .long w)]) hx hb dX3_proofNamed_1 rfl hl (by decide) rfl (fun ls hl => ?_)
  have loop1 : ∀ (n1 i1 : Nat) (H : Heap) (locs : List Loc) (ls : Array Slot), i1 + n1 = pq → Nof i1 w fpn → va_P D vwCl [(oX3 p0 pr pb pe pg p1 (nI nd) p2 p3 p4 p5 (nI cn) p6 (nI pq) p7 p8 p9 (nI sc)), (p6, .inl (cA 1, 8, .inr (.inl fpn)))] H → va_D A [(oX3 p0 pr pb pe pg p1 (nI nd) p2 p3 p4 p5 (nI cn) p6 (nI pq) p7 p8 p9 (nI sc)), (p6, .inl (cA 1, 8, .inr (.inl fpn)))] → va_S A s.heap H locs → lv_has ls 4 [(3, .int (nI i1)), (0, .ref p0), (1, .long w)] → W p l e (headSpec wsX3_proofNamed ({ frames := 0, cells := 0, slots := 0, locals := 0 } : Room)).room s m ([.ref p0, .long w] : List Value).toArray below meth c H locs 0 0 (MQ below (va_Qi (fun (r : Int32) (_ : Unit) => r = (-1)) (fun (_ : Unit) t => Wq D A [(oX3 p0 pr pb pe pg p1 (nI nd) p2 p3 p4 p5 (nI cn) p6 (nI pq) p7 p8 p9 (nI sc)), (p6, .inl (cA 1, 8, .inr (.inl fpn)))] t) A) ([.ref p0, .long w] : List Value).toArray s 0 0 A) (F0 m 2 ls []) := by
    intro n1
    induction n1 with
    | zero =>
      intro i1 H locs ls hi1 hv0_1 hP hD hS hl
      obtain rfl : pq = i1 := by omega
      refine lv_iload_n hx hb dX3_proofNamed_2 rfl (lv_at hl 0 rfl) ?_
      refine lv_aload_n hx hb dX3_proofNamed_3 rfl (lv_at hl 1 rfl) ?_
      refine va_get (D := D) (ci := 7) (v := .int (nI pq)) (C := RX3) (T := TX3) (N := 17) hx hb hts inX3 hown hK hP 0 rfl rfl 12 (by decide) (hts (.fieldLink RX3 59 "EscrowDesk$Plan" "proofCount" "I") (by decide +kernel)) (fun _ h9 => h9) rfl dX3_proofNamed_4 ?_
      refine lv_icmp_ge (tgt := 29) hx hb dX3_proofNamed_7 (by decide) (fun c1 => ?_) (fun c9 => absurd (nI_le (a := pq) (b := pq) (show pq ≤ pq by omega) (by omega)) c9)
      refine lv_aload_n hx hb dX3_proofNamed_29 rfl (lv_at hl 1 rfl) ?_
      refine va_get (D := D) (ci := 7) (v := .int (nI pq)) (C := RX3) (T := TX3) (N := 17) hx hb hts inX3 hown hK hP 0 rfl rfl 12 (by decide) (hts (.fieldLink RX3 59 "EscrowDesk$Plan" "proofCount" "I") (by decide +kernel)) (fun _ h9 => h9) rfl dX3_proofNamed_30 ?_
      refine lv_bipush (v := 8) hx hb dX3_proofNamed_33 (by decide) ?_
      refine lv_icmp_lt (tgt := 40) hx hb dX3_proofNamed_35 (by decide) (fun c9 => absurd c9 (nI_nlt (a := pq) (b := 8) (show 8 ≤ pq by omega) (by omega))) (fun c2 => ?_)
      refine lv_iconst (v := (-1)) hx hb dX3_proofNamed_38 (by decide) ?_
      obtain ⟨hP9, hD9⟩ := PDq.sub (ws' := [(oX3 p0 pr pb pe pg p1 (nI nd) p2 p3 p4 p5 (nI cn) p6 (nI pq) p7 p8 p9 (nI sc)), (p6, .inl (cA 1, 8, .inr (.inl fpn)))]) hP hD [0, 1] (by decide) rfl
      refine W.widen (k := 0) (n := 0) (Nat.le_of_ble_eq_true rfl) (Nat.le_of_ble_eq_true rfl) ?_
      exact (W.iret (v := (-1)) hx hb hr (fun t ht hW => ⟨⟨(-1), (), rfl, rfl, by rw [ht]; exact hP9, hD9⟩, hS.F ht⟩) hS.2.2 dX3_proofNamed_39)
    | succ n1 ih1 =>
      intro i1 H locs ls hi1 hv0_1 hP hD hS hl
      refine lv_iload_n hx hb dX3_proofNamed_2 rfl (lv_at hl 0 rfl) ?_
      refine lv_aload_n hx hb dX3_proofNamed_3 rfl (lv_at hl 1 rfl) ?_
      refine va_get (D := D) (ci := 7) (v := .int (nI pq)) (C := RX3) (T := TX3) (N := 17) hx hb hts inX3 hown hK hP 0 rfl rfl 12 (by decide) (hts (.fieldLink RX3 59 "EscrowDesk$Plan" "proofCount" "I") (by decide +kernel)) (fun _ h9 => h9) rfl dX3_proofNamed_4 ?_
      refine lv_icmp_ge (tgt := 29) hx hb dX3_proofNamed_7 (by decide) (fun c9 => absurd c9 (nI_ge (a := i1) (b := pq) (show i1 < pq by omega) (by omega))) (fun c3 => ?_)
      refine lv_aload_n hx hb dX3_proofNamed_10 rfl (lv_at hl 1 rfl) ?_
      refine va_get (D := D) (ci := 7) (v := .ref p6) (C := RX3) (T := TX3) (N := 17) hx hb hts inX3 hown hK hP 0 rfl rfl 11 (by decide) (hts (.fieldLink RX3 32 "EscrowDesk$Plan" "proofNames" "[J") (by decide +kernel)) (fun _ h9 => h9) rfl dX3_proofNamed_11 ?_
      refine lv_iload_n hx hb dX3_proofNamed_14 rfl (lv_at hl 0 rfl) ?_
      refine va_lald hx hb hK hP 1 1 rfl rfl (vp_in_nI (n := i1) (N := 8) (show i1 < 8 by omega) (by decide)) dX3_proofNamed_15 ?_
      refine lv_topl (fun yn4 eyn4 => ?_)
      obtain rfl : yn4 = (fpn i1) := eyn4.trans (by rw [nI_clamp (by omega)])
      refine lv_lload_n hx hb dX3_proofNamed_16 rfl (lv_at hl 2 rfl) ?_
      refine W.lcmp hx hb dX3_proofNamed_17 ?_
      refine lv_if_ne (tgt := 23) hx hb dX3_proofNamed_18 (by decide) (fun c5 => ?_) (fun c5 => ?_)
      · skip
        refine lv_iinc (v := (nI (i1 + 1))) (lv' := [(3, .int (nI (i1 + 1))), (0, .ref p0), (1, .long w)]) hx hb dX3_proofNamed_23 hl (k := 0) rfl (nI_1 _) (by decide) rfl (fun ls hl => ?_)
        refine lv_goto (tgt := 2) hx hb dX3_proofNamed_26 (by decide) ?_
        obtain ⟨hP9, hD9⟩ := PDq.sub (ws' := [(oX3 p0 pr pb pe pg p1 (nI nd) p2 p3 p4 p5 (nI cn) p6 (nI pq) p7 p8 p9 (nI sc)), (p6, .inl (cA 1, 8, .inr (.inl fpn)))]) hP hD [0, 1] (by decide) rfl
        exact ih1 (i1 + 1)  H _ ls (by omega) (Nof.step hv0_1 c5) hP9 hD9 hS (lv_sub hl [0, 1, 2] rfl)
      · skip
        exact absurd (NL.mem hNP (show i1 < pq by omega) (lg_eq0 c5)) hnm
  obtain ⟨hP9, hD9⟩ := PDq.sub (ws' := [(oX3 p0 pr pb pe pg p1 (nI nd) p2 p3 p4 p5 (nI cn) p6 (nI pq) p7 p8 p9 (nI sc)), (p6, .inl (cA 1, 8, .inr (.inl fpn)))]) hP hD [0, 1] (by decide) rfl
  exact loop1 (pq - 0) 0  _ _ ls (by omega) (Nof.zero w fpn) hP9 hD9 hS (lv_sub hl [0, 1, 2] rfl)

set_option maxHeartbeats 4000000 in
set_option maxRecDepth 100000 in
/-- proofNamed: a new one -/
theorem x_proofNew_look (l : Launch) (D : va_G) (cA : Nat → ClassId) (sa : Nat → Nat) (p0 : Nat) (p1 : Nat) (p2 : Nat) (p3 : Nat) (p4 : Nat) (p5 : Nat) (p6 : Nat) (p7 : Nat) (p8 : Nat) (p9 : Nat) (cn : Nat) (pq : Nat) (nd : Nat) (sc : Nat) (pr : Int32) (pb : Int32) (pe : Int32) (pg : Int32) (w : Int64) (fpn : Nat → Int64) (pl : List Int64) (sz : Nat) (hcn : cn ≤ 10) (hpq : pq ≤ 8) (hnd : nd ≤ 6) (hsc : sc ≤ 350) (hNP : NL pl pq fpn) (hnm : ¬ w ∈ pl) (h8 : pq < 8) : Met l yX3_proofNamed wsX3_proofNamed ({ frames := 0, cells := 0, slots := 0, locals := 0 }) (va_Pc [.ref p0, .long w] (Wd D cA sa [(oX3 p0 pr pb pe pg p1 (nI nd) p2 p3 p4 p5 (nI cn) p6 (nI pq) p7 p8 p9 (nI sc)), (p6, .inl (cA 1, 8, .inr (.inl fpn)))] sz)) (va_Qi (fun (r : Int32) (_ : Unit) => ∃ n, n < 8 ∧ r = nI n) (fun (_ : Unit) t => ∃ zpn : Nat → Int64, NL (pl ++ [w]) (pq + 1) zpn ∧ Wq D (va_A [(oX3 p0 pr pb pe pg p1 (nI nd) p2 p3 p4 p5 (nI cn) p6 (nI pq) p7 p8 p9 (nI sc)), (p6, .inl (cA 1, 8, .inr (.inl fpn)))] sz) [(oX3 p0 pr pb pe pg p1 (nI nd) p2 p3 p4 p5 (nI cn) p6 (nI (pq + 1)) p7 p8 p9 (nI sc)), (p6, .inl (cA 1, 8, .inr (.inl zpn)))] t) (va_A [(oX3 p0 pr pb pe pg p1 (nI nd) p2 p3 p4 p5 (nI cn) p6 (nI pq) p7 p8 p9 (nI sc)), (p6, .inl (cA 1, 8, .inr (.inl fpn)))] sz)) 0 0 (va_A [(oX3 p0 pr pb pe pg p1 (nI nd) p2 p3 p4 p5 (nI cn) p6 (nI pq) p7 p8 p9 (nI sc)), (p6, .inl (cA 1, 8, .inr (.inl fpn)))] sz) := by
  refine Met.ofW (cc := cX3_proofNamed) (maxL := 4) (ret := (some .int)) (by decide) rfl ?_
  intro p e s m args below meth c s₁ B hml hv
  obtain ⟨rfl, hsz, hP, hK, hD0, hC, hZ⟩ := hv
  have hx := B.exec
  have hb := B.bytes
  have hr := B.returns
  have hts := atoms_spec (ws := wsX3_proofNamed) B.pre
  have hown : s.vm.findClass RX3 = some m.cls := findClass_of_methodNamed B.named
  have hlocks := B.notSynchronized
  subst hsz
  have hD := hD0.self (sz := s.heap.size)
  generalize hAe : va_A [(oX3 p0 pr pb pe pg p1 (nI nd) p2 p3 p4 p5 (nI cn) p6 (nI pq) p7 p8 p9 (nI sc)), (p6, .inl (cA 1, 8, .inr (.inl fpn)))] s.heap.size = A at hD hZ ⊢
  have hA : ∀ q : Nat, s.heap.size ≤ q → A q := fun q h => by rw [← hAe]; exact Or.inr h
  have hS : va_S A s.heap s.heap [] := va_S.rf
  have hP : va_P D vwCl [(oX3 p0 pr pb pe pg p1 (nI nd) p2 p3 p4 p5 (nI cn) p6 (nI pq) p7 p8 p9 (nI sc)), (p6, .inl (cA 1, 8, .inr (.inl fpn)))] s.heap := hP
  have hl := lv_entry ([.ref p0, .long w]) (n := 4) (Nat.le_of_ble_eq_true rfl)
  rw [lg_entry_eq]
  generalize (lg_sl ([.ref p0, .long w]) ++ List.replicate (4 - (lg_sl ([.ref p0, .long w])).length) Slot.unset).toArray = ls at hl ⊢
  have hl : lv_has ls 4 [(0, .ref p0), (1, .long w)] := hl
  have inX3 : ∀ w ∈ u_ws RX3 TX3 17, w ∈ wsX3_proofNamed := by decide +kernel
  refine lv_iconst (v := 0) hx hb dX3_proofNamed_0 (by decide) ?_
  refine lv_istore_n (lv' := [(3, .int 0), (0, .ref p0), (1, .long w)]) hx hb dX3_proofNamed_1 rfl hl (by decide) rfl (fun ls hl => ?_)
  have loop1 : ∀ (n1 i1 : Nat) (H : Heap) (locs : List Loc) (ls : Array Slot), i1 + n1 = pq → Nof i1 w fpn → va_P D vwCl [(oX3 p0 pr pb pe pg p1 (nI nd) p2 p3 p4 p5 (nI cn) p6 (nI pq) p7 p8 p9 (nI sc)), (p6, .inl (cA 1, 8, .inr (.inl fpn)))] H → va_D A [(oX3 p0 pr pb pe pg p1 (nI nd) p2 p3 p4 p5 (nI cn) p6 (nI pq) p7 p8 p9 (nI sc)), (p6, .inl (cA 1, 8, .inr (.inl fpn)))] → va_S A s.heap H locs → lv_has ls 4 [(3, .int (nI i1)), (0, .ref p0), (1, .long w)] → W p l e (headSpec wsX3_proofNamed ({ frames := 0, cells := 0, slots := 0, locals := 0 } : Room)).room s m ([.ref p0, .long w] : List Value).toArray below meth c H locs 0 0 (MQ below (va_Qi (fun (r : Int32) (_ : Unit) => ∃ n, n < 8 ∧ r = nI n) (fun (_ : Unit) t => ∃ zpn : Nat → Int64, NL (pl ++ [w]) (pq + 1) zpn ∧ Wq D A [(oX3 p0 pr pb pe pg p1 (nI nd) p2 p3 p4 p5 (nI cn) p6 (nI (pq + 1)) p7 p8 p9 (nI sc)), (p6, .inl (cA 1, 8, .inr (.inl zpn)))] t) A) ([.ref p0, .long w] : List Value).toArray s 0 0 A) (F0 m 2 ls []) := by
    intro n1
    induction n1 with
    | zero =>
      intro i1 H locs ls hi1 hv0_1 hP hD hS hl
      obtain rfl : pq = i1 := by omega
      refine lv_iload_n hx hb dX3_proofNamed_2 rfl (lv_at hl 0 rfl) ?_
      refine lv_aload_n hx hb dX3_proofNamed_3 rfl (lv_at hl 1 rfl) ?_
      refine va_get (D := D) (ci := 7) (v := .int (nI pq)) (C := RX3) (T := TX3) (N := 17) hx hb hts inX3 hown hK hP 0 rfl rfl 12 (by decide) (hts (.fieldLink RX3 59 "EscrowDesk$Plan" "proofCount" "I") (by decide +kernel)) (fun _ h9 => h9) rfl dX3_proofNamed_4 ?_
      refine lv_icmp_ge (tgt := 29) hx hb dX3_proofNamed_7 (by decide) (fun c1 => ?_) (fun c9 => absurd (nI_le (a := pq) (b := pq) (show pq ≤ pq by omega) (by omega)) c9)
      refine lv_aload_n hx hb dX3_proofNamed_29 rfl (lv_at hl 1 rfl) ?_
      refine va_get (D := D) (ci := 7) (v := .int (nI pq)) (C := RX3) (T := TX3) (N := 17) hx hb hts inX3 hown hK hP 0 rfl rfl 12 (by decide) (hts (.fieldLink RX3 59 "EscrowDesk$Plan" "proofCount" "I") (by decide +kernel)) (fun _ h9 => h9) rfl dX3_proofNamed_30 ?_
      refine lv_bipush (v := 8) hx hb dX3_proofNamed_33 (by decide) ?_
      refine lv_icmp_lt (tgt := 40) hx hb dX3_proofNamed_35 (by decide) (fun c2 => ?_) (fun c9 => absurd (nI_lt (a := pq) (b := 8) (show pq < 8 by omega) (by omega)) c9)
      refine lv_aload_n hx hb dX3_proofNamed_40 rfl (lv_at hl 1 rfl) ?_
      refine va_get (D := D) (ci := 7) (v := .ref p6) (C := RX3) (T := TX3) (N := 17) hx hb hts inX3 hown hK hP 0 rfl rfl 11 (by decide) (hts (.fieldLink RX3 32 "EscrowDesk$Plan" "proofNames" "[J") (by decide +kernel)) (fun _ h9 => h9) rfl dX3_proofNamed_41 ?_
      refine lv_aload_n hx hb dX3_proofNamed_44 rfl (lv_at hl 1 rfl) ?_
      refine va_get (D := D) (ci := 7) (v := .int (nI pq)) (C := RX3) (T := TX3) (N := 17) hx hb hts inX3 hown hK hP 0 rfl rfl 12 (by decide) (hts (.fieldLink RX3 59 "EscrowDesk$Plan" "proofCount" "I") (by decide +kernel)) (fun _ h9 => h9) rfl dX3_proofNamed_45 ?_
      refine lv_lload_n hx hb dX3_proofNamed_48 rfl (lv_at hl 2 rfl) ?_
      refine va_last hx hb hK hP hD hS 1 1 rfl rfl (vp_in_nI (n := pq) (N := 8) (show pq < 8 by omega) (by decide)) dX3_proofNamed_49 (fun H locs hP hD hS => ?_)
      obtain ⟨hP, hD⟩ : PDq D A [(oX3 p0 pr pb pe pg p1 (nI nd) p2 p3 p4 p5 (nI cn) p6 (nI pq) p7 p8 p9 (nI sc)), (p6, .inl (cA 1, 8, .inr (.inl (vp_updL fpn (((nI pq)).toNatClampNeg) w))))] H := ⟨hP, hD⟩
      have hn4 : UppL pq w fpn (vp_updL fpn (((nI pq)).toNatClampNeg) w) := UppL.of (by omega)
      have hn5 : Rdd (vp_updL fpn (((nI pq)).toNatClampNeg) w) := rfl
      generalize (vp_updL fpn (((nI pq)).toNatClampNeg) w) = fn3 at hP hD hn4 hn5
      obtain ⟨hP, hD⟩ : PDq D A [(oX3 p0 pr pb pe pg p1 (nI nd) p2 p3 p4 p5 (nI cn) p6 (nI pq) p7 p8 p9 (nI sc)), (p6, .inl (cA 1, 8, .inr (.inl fn3)))] H := ⟨hP, hD⟩
      refine lv_aload_n hx hb dX3_proofNamed_50 rfl (lv_at hl 1 rfl) ?_
      refine lv_dup hx hb dX3_proofNamed_51 rfl ?_
      refine va_get (D := D) (ci := 7) (v := .int (nI pq)) (C := RX3) (T := TX3) (N := 17) hx hb hts inX3 hown hK hP 0 rfl rfl 12 (by decide) (hts (.fieldLink RX3 59 "EscrowDesk$Plan" "proofCount" "I") (by decide +kernel)) (fun _ h9 => h9) rfl dX3_proofNamed_52 ?_
      refine lv_iconst (v := 1) hx hb dX3_proofNamed_55 (by decide) ?_
      refine lv_iadd hx hb dX3_proofNamed_56 ?_
      refine lv_topi (fun yn6 eyn6 => ?_)
      obtain rfl : yn6 = (nI (pq + 1)) := eyn6.trans (nI_add pq 1)
      refine va_put (D := D) (ci := 7) (v := .int (nI (pq + 1))) (ty := .int) (C := RX3) (T := TX3) (N := 17) hx hb hts inX3 tyX3 tyX3_ok nmX3 hown hK hP hD hS 0 rfl rfl 12 (by decide) (hts (.fieldLink RX3 59 "EscrowDesk$Plan" "proofCount" "I") (by decide +kernel)) (fun _ h9 => h9) rfl (by decide +kernel) rfl rfl (Nat.le_of_ble_eq_true rfl) dX3_proofNamed_57 (fun H locs hP hD hS => ?_)
      obtain ⟨hP, hD⟩ : PDq D A [(oX3 p0 pr pb pe pg p1 (nI nd) p2 p3 p4 p5 (nI cn) p6 (nI (pq + 1)) p7 p8 p9 (nI sc)), (p6, .inl (cA 1, 8, .inr (.inl fn3)))] H := ⟨hP, hD⟩
      refine lv_aload_n hx hb dX3_proofNamed_60 rfl (lv_at hl 1 rfl) ?_
      refine va_get (D := D) (ci := 7) (v := .int (nI (pq + 1))) (C := RX3) (T := TX3) (N := 17) hx hb hts inX3 hown hK hP 0 rfl rfl 12 (by decide) (hts (.fieldLink RX3 59 "EscrowDesk$Plan" "proofCount" "I") (by decide +kernel)) (fun _ h9 => h9) rfl dX3_proofNamed_61 ?_
      refine lv_iconst (v := 1) hx hb dX3_proofNamed_64 (by decide) ?_
      refine lv_isub hx hb dX3_proofNamed_65 ?_
      refine lv_topi (fun yn7 eyn7 => ?_)
      obtain rfl : yn7 = (nI ((pq + 1) - 1)) := eyn7.trans (nI_sub (a := (pq + 1)) (b := 1) (by omega))
      obtain ⟨hP9, hD9⟩ := PDq.sub (ws' := [(oX3 p0 pr pb pe pg p1 (nI nd) p2 p3 p4 p5 (nI cn) p6 (nI (pq + 1)) p7 p8 p9 (nI sc)), (p6, .inl (cA 1, 8, .inr (.inl fn3)))]) hP hD [0, 1] (by decide) rfl
      refine W.widen (k := 0) (n := 0) (Nat.le_of_ble_eq_true rfl) (Nat.le_of_ble_eq_true rfl) ?_
      exact (W.iret (v := (nI ((pq + 1) - 1))) hx hb hr (fun t ht hW => ⟨⟨(nI ((pq + 1) - 1)), (), rfl, ⟨((pq + 1) - 1), by omega, rfl⟩, fn3, (by have q9 := NL.put hNP w; rw [← show fn3 = vp_updL fpn pq w from hn4] at q9; exact q9), by rw [ht]; exact hP9, hD9⟩, hS.F ht⟩) hS.2.2 dX3_proofNamed_66)
    | succ n1 ih1 =>
      intro i1 H locs ls hi1 hv0_1 hP hD hS hl
      refine lv_iload_n hx hb dX3_proofNamed_2 rfl (lv_at hl 0 rfl) ?_
      refine lv_aload_n hx hb dX3_proofNamed_3 rfl (lv_at hl 1 rfl) ?_
      refine va_get (D := D) (ci := 7) (v := .int (nI pq)) (C := RX3) (T := TX3) (N := 17) hx hb hts inX3 hown hK hP 0 rfl rfl 12 (by decide) (hts (.fieldLink RX3 59 "EscrowDesk$Plan" "proofCount" "I") (by decide +kernel)) (fun _ h9 => h9) rfl dX3_proofNamed_4 ?_
      refine lv_icmp_ge (tgt := 29) hx hb dX3_proofNamed_7 (by decide) (fun c9 => absurd c9 (nI_ge (a := i1) (b := pq) (show i1 < pq by omega) (by omega))) (fun c8 => ?_)
      refine lv_aload_n hx hb dX3_proofNamed_10 rfl (lv_at hl 1 rfl) ?_
      refine va_get (D := D) (ci := 7) (v := .ref p6) (C := RX3) (T := TX3) (N := 17) hx hb hts inX3 hown hK hP 0 rfl rfl 11 (by decide) (hts (.fieldLink RX3 32 "EscrowDesk$Plan" "proofNames" "[J") (by decide +kernel)) (fun _ h9 => h9) rfl dX3_proofNamed_11 ?_
      refine lv_iload_n hx hb dX3_proofNamed_14 rfl (lv_at hl 0 rfl) ?_
      refine va_lald hx hb hK hP 1 1 rfl rfl (vp_in_nI (n := i1) (N := 8) (show i1 < 8 by omega) (by decide)) dX3_proofNamed_15 ?_
      refine lv_topl (fun yn9 eyn9 => ?_)
      obtain rfl : yn9 = (fpn i1) := eyn9.trans (by rw [nI_clamp (by omega)])
      refine lv_lload_n hx hb dX3_proofNamed_16 rfl (lv_at hl 2 rfl) ?_
      refine W.lcmp hx hb dX3_proofNamed_17 ?_
      refine lv_if_ne (tgt := 23) hx hb dX3_proofNamed_18 (by decide) (fun c10 => ?_) (fun c10 => ?_)
      · skip
        refine lv_iinc (v := (nI (i1 + 1))) (lv' := [(3, .int (nI (i1 + 1))), (0, .ref p0), (1, .long w)]) hx hb dX3_proofNamed_23 hl (k := 0) rfl (nI_1 _) (by decide) rfl (fun ls hl => ?_)
        refine lv_goto (tgt := 2) hx hb dX3_proofNamed_26 (by decide) ?_
        obtain ⟨hP9, hD9⟩ := PDq.sub (ws' := [(oX3 p0 pr pb pe pg p1 (nI nd) p2 p3 p4 p5 (nI cn) p6 (nI pq) p7 p8 p9 (nI sc)), (p6, .inl (cA 1, 8, .inr (.inl fpn)))]) hP hD [0, 1] (by decide) rfl
        exact ih1 (i1 + 1)  H _ ls (by omega) (Nof.step hv0_1 c10) hP9 hD9 hS (lv_sub hl [0, 1, 2] rfl)
      · skip
        exact absurd (NL.mem hNP (show i1 < pq by omega) (lg_eq0 c10)) hnm
  obtain ⟨hP9, hD9⟩ := PDq.sub (ws' := [(oX3 p0 pr pb pe pg p1 (nI nd) p2 p3 p4 p5 (nI cn) p6 (nI pq) p7 p8 p9 (nI sc)), (p6, .inl (cA 1, 8, .inr (.inl fpn)))]) hP hD [0, 1] (by decide) rfl
  exact loop1 (pq - 0) 0  _ _ ls (by omega) (Nof.zero w fpn) hP9 hD9 hS (lv_sub hl [0, 1, 2] rfl)

set_option maxHeartbeats 4000000 in
set_option maxRecDepth 100000 in
/-- addStep -/
theorem x_addStep_look (l : Launch) (D : va_G) (cA : Nat → ClassId) (sa : Nat → Nat) (p0 : Nat) (p1 : Nat) (p2 : Nat) (p3 : Nat) (p4 : Nat) (p5 : Nat) (p6 : Nat) (p7 : Nat) (p8 : Nat) (p9 : Nat) (cn : Nat) (pq : Nat) (nd : Nat) (sc : Nat) (pr : Int32) (pb : Int32) (pe : Int32) (pg : Int32) (a : Int32) (b : Int32) (fst : Nat → Int32) (fop : Nat → Int32) (sz : Nat) (hsc : sc < 350) : Met l yX3_addStep wsX3_addStep ({ frames := 0, cells := 0, slots := 0, locals := 0 }) (va_Pc [.ref p0, .int a, .int b] (Wd D cA sa [(oX3 p0 pr pb pe pg p1 (nI nd) p2 p3 p4 p5 (nI cn) p6 (nI pq) p7 p8 p9 (nI sc)), (p7, .inl (cA 0, 350, .inl fst)), (p8, .inl (cA 0, 350, .inl fop))] sz)) (va_Qi (fun (r : Int32) (_ : Unit) => r = 1) (fun (_ : Unit) t => ∃ zst : Nat → Int32, ∃ zop : Nat → Int32, Wq D (va_A [(oX3 p0 pr pb pe pg p1 (nI nd) p2 p3 p4 p5 (nI cn) p6 (nI pq) p7 p8 p9 (nI sc)), (p7, .inl (cA 0, 350, .inl fst)), (p8, .inl (cA 0, 350, .inl fop))] sz) [(oX3 p0 pr pb pe pg p1 (nI nd) p2 p3 p4 p5 (nI cn) p6 (nI pq) p7 p8 p9 (nI (sc + 1))), (p7, .inl (cA 0, 350, .inl zst)), (p8, .inl (cA 0, 350, .inl zop))] t) (va_A [(oX3 p0 pr pb pe pg p1 (nI nd) p2 p3 p4 p5 (nI cn) p6 (nI pq) p7 p8 p9 (nI sc)), (p7, .inl (cA 0, 350, .inl fst)), (p8, .inl (cA 0, 350, .inl fop))] sz)) 0 0 (va_A [(oX3 p0 pr pb pe pg p1 (nI nd) p2 p3 p4 p5 (nI cn) p6 (nI pq) p7 p8 p9 (nI sc)), (p7, .inl (cA 0, 350, .inl fst)), (p8, .inl (cA 0, 350, .inl fop))] sz) := by
  refine Met.ofW (cc := cX3_addStep) (maxL := 3) (ret := (some .boolean)) (by decide) rfl ?_
  intro p e s m args below meth c s₁ B hml hv
  obtain ⟨rfl, hsz, hP, hK, hD0, hC, hZ⟩ := hv
  have hx := B.exec
  have hb := B.bytes
  have hr := B.returns
  have hts := atoms_spec (ws := wsX3_addStep) B.pre
  have hown : s.vm.findClass RX3 = some m.cls := findClass_of_methodNamed B.named
  have hlocks := B.notSynchronized
  subst hsz
  have hD := hD0.self (sz := s.heap.size)
  generalize hAe : va_A [(oX3 p0 pr pb pe pg p1 (nI nd) p2 p3 p4 p5 (nI cn) p6 (nI pq) p7 p8 p9 (nI sc)), (p7, .inl (cA 0, 350, .inl fst)), (p8, .inl (cA 0, 350, .inl fop))] s.heap.size = A at hD hZ ⊢
  have hA : ∀ q : Nat, s.heap.size ≤ q → A q := fun q h => by rw [← hAe]; exact Or.inr h
  have hS : va_S A s.heap s.heap [] := va_S.rf
  have hP : va_P D vwCl [(oX3 p0 pr pb pe pg p1 (nI nd) p2 p3 p4 p5 (nI cn) p6 (nI pq) p7 p8 p9 (nI sc)), (p7, .inl (cA 0, 350, .inl fst)), (p8, .inl (cA 0, 350, .inl fop))] s.heap := hP
  have hl := lv_entry ([.ref p0, .int a, .int b]) (n := 3) (Nat.le_of_ble_eq_true rfl)
  rw [lg_entry_eq]
  generalize (lg_sl ([.ref p0, .int a, .int b]) ++ List.replicate (3 - (lg_sl ([.ref p0, .int a, .int b])).length) Slot.unset).toArray = ls at hl ⊢
  have hl : lv_has ls 3 [(0, .ref p0), (1, .int a), (2, .int b)] := hl
  have inX3 : ∀ w ∈ u_ws RX3 TX3 17, w ∈ wsX3_addStep := by decide +kernel
  refine lv_aload_n hx hb dX3_addStep_0 rfl (lv_at hl 0 rfl) ?_
  refine va_get (D := D) (ci := 7) (v := .int (nI sc)) (C := RX3) (T := TX3) (N := 17) hx hb hts inX3 hown hK hP 0 rfl rfl 16 (by decide) (hts (.fieldLink RX3 62 "EscrowDesk$Plan" "stepCount" "I") (by decide +kernel)) (fun _ h9 => h9) rfl dX3_addStep_1 ?_
  refine lv_sipush (v := 350) hx hb dX3_addStep_4 (by decide) ?_
  refine lv_icmp_lt (tgt := 12) hx hb dX3_addStep_7 (by decide) (fun c1 => ?_) (fun c9 => absurd (nI_lt (a := sc) (b := 350) (show sc < 350 by omega) (by omega)) c9)
  refine lv_aload_n hx hb dX3_addStep_12 rfl (lv_at hl 0 rfl) ?_
  refine va_get (D := D) (ci := 7) (v := .ref p7) (C := RX3) (T := TX3) (N := 17) hx hb hts inX3 hown hK hP 0 rfl rfl 13 (by decide) (hts (.fieldLink RX3 35 "EscrowDesk$Plan" "steps" "[I") (by decide +kernel)) (fun _ h9 => h9) rfl dX3_addStep_13 ?_
  refine lv_aload_n hx hb dX3_addStep_16 rfl (lv_at hl 0 rfl) ?_
  refine va_get (D := D) (ci := 7) (v := .int (nI sc)) (C := RX3) (T := TX3) (N := 17) hx hb hts inX3 hown hK hP 0 rfl rfl 16 (by decide) (hts (.fieldLink RX3 62 "EscrowDesk$Plan" "stepCount" "I") (by decide +kernel)) (fun _ h9 => h9) rfl dX3_addStep_17 ?_
  refine lv_iload_n hx hb dX3_addStep_20 rfl (lv_at hl 1 rfl) ?_
  refine va_iast hx hb hK hP hD hS 1 0 rfl rfl (vp_in_nI (n := sc) (N := 350) (show sc < 350 by omega) (by decide)) dX3_addStep_21 (fun H locs hP hD hS => ?_)
  obtain ⟨hP, hD⟩ : PDq D A [(oX3 p0 pr pb pe pg p1 (nI nd) p2 p3 p4 p5 (nI cn) p6 (nI pq) p7 p8 p9 (nI sc)), (p7, .inl (cA 0, 350, .inl (upd fst (((nI sc)).toNatClampNeg) a))), (p8, .inl (cA 0, 350, .inl fop))] H := ⟨hP, hD⟩
  generalize (upd fst (((nI sc)).toNatClampNeg) a) = fn2 at hP hD
  obtain ⟨hP, hD⟩ : PDq D A [(oX3 p0 pr pb pe pg p1 (nI nd) p2 p3 p4 p5 (nI cn) p6 (nI pq) p7 p8 p9 (nI sc)), (p7, .inl (cA 0, 350, .inl fn2)), (p8, .inl (cA 0, 350, .inl fop))] H := ⟨hP, hD⟩
  refine lv_aload_n hx hb dX3_addStep_22 rfl (lv_at hl 0 rfl) ?_
  refine va_get (D := D) (ci := 7) (v := .ref p8) (C := RX3) (T := TX3) (N := 17) hx hb hts inX3 hown hK hP 0 rfl rfl 14 (by decide) (hts (.fieldLink RX3 38 "EscrowDesk$Plan" "operands" "[I") (by decide +kernel)) (fun _ h9 => h9) rfl dX3_addStep_23 ?_
  refine lv_aload_n hx hb dX3_addStep_26 rfl (lv_at hl 0 rfl) ?_
  refine va_get (D := D) (ci := 7) (v := .int (nI sc)) (C := RX3) (T := TX3) (N := 17) hx hb hts inX3 hown hK hP 0 rfl rfl 16 (by decide) (hts (.fieldLink RX3 62 "EscrowDesk$Plan" "stepCount" "I") (by decide +kernel)) (fun _ h9 => h9) rfl dX3_addStep_27 ?_
  refine lv_iload_n hx hb dX3_addStep_30 rfl (lv_at hl 2 rfl) ?_
  refine va_iast hx hb hK hP hD hS 2 0 rfl rfl (vp_in_nI (n := sc) (N := 350) (show sc < 350 by omega) (by decide)) dX3_addStep_31 (fun H locs hP hD hS => ?_)
  obtain ⟨hP, hD⟩ : PDq D A [(oX3 p0 pr pb pe pg p1 (nI nd) p2 p3 p4 p5 (nI cn) p6 (nI pq) p7 p8 p9 (nI sc)), (p7, .inl (cA 0, 350, .inl fn2)), (p8, .inl (cA 0, 350, .inl (upd fop (((nI sc)).toNatClampNeg) b)))] H := ⟨hP, hD⟩
  generalize (upd fop (((nI sc)).toNatClampNeg) b) = fn3 at hP hD
  obtain ⟨hP, hD⟩ : PDq D A [(oX3 p0 pr pb pe pg p1 (nI nd) p2 p3 p4 p5 (nI cn) p6 (nI pq) p7 p8 p9 (nI sc)), (p7, .inl (cA 0, 350, .inl fn2)), (p8, .inl (cA 0, 350, .inl fn3))] H := ⟨hP, hD⟩
  refine lv_aload_n hx hb dX3_addStep_32 rfl (lv_at hl 0 rfl) ?_
  refine lv_dup hx hb dX3_addStep_33 rfl ?_
  refine va_get (D := D) (ci := 7) (v := .int (nI sc)) (C := RX3) (T := TX3) (N := 17) hx hb hts inX3 hown hK hP 0 rfl rfl 16 (by decide) (hts (.fieldLink RX3 62 "EscrowDesk$Plan" "stepCount" "I") (by decide +kernel)) (fun _ h9 => h9) rfl dX3_addStep_34 ?_
  refine lv_iconst (v := 1) hx hb dX3_addStep_37 (by decide) ?_
  refine lv_iadd hx hb dX3_addStep_38 ?_
  refine lv_topi (fun yn4 eyn4 => ?_)
  obtain rfl : yn4 = (nI (sc + 1)) := eyn4.trans (nI_add sc 1)
  refine va_put (D := D) (ci := 7) (v := .int (nI (sc + 1))) (ty := .int) (C := RX3) (T := TX3) (N := 17) hx hb hts inX3 tyX3 tyX3_ok nmX3 hown hK hP hD hS 0 rfl rfl 16 (by decide) (hts (.fieldLink RX3 62 "EscrowDesk$Plan" "stepCount" "I") (by decide +kernel)) (fun _ h9 => h9) rfl (by decide +kernel) rfl rfl (Nat.le_of_ble_eq_true rfl) dX3_addStep_39 (fun H locs hP hD hS => ?_)
  obtain ⟨hP, hD⟩ : PDq D A [(oX3 p0 pr pb pe pg p1 (nI nd) p2 p3 p4 p5 (nI cn) p6 (nI pq) p7 p8 p9 (nI (sc + 1))), (p7, .inl (cA 0, 350, .inl fn2)), (p8, .inl (cA 0, 350, .inl fn3))] H := ⟨hP, hD⟩
  refine lv_iconst (v := 1) hx hb dX3_addStep_42 (by decide) ?_
  obtain ⟨hP9, hD9⟩ := PDq.sub (ws' := [(oX3 p0 pr pb pe pg p1 (nI nd) p2 p3 p4 p5 (nI cn) p6 (nI pq) p7 p8 p9 (nI (sc + 1))), (p7, .inl (cA 0, 350, .inl fn2)), (p8, .inl (cA 0, 350, .inl fn3))]) hP hD [0, 1, 2] (by decide) rfl
  refine W.widen (k := 0) (n := 0) (Nat.le_of_ble_eq_true rfl) (Nat.le_of_ble_eq_true rfl) ?_
  exact (W.zret (v := 1) hx hb hr (by first | rfl | decide) (fun t ht hW => ⟨⟨1, (), rfl, rfl, fn2, fn3, by rw [ht]; exact hP9, hD9⟩, hS.F ht⟩) hS.2.2 dX3_addStep_43)

set_option maxHeartbeats 4000000 in
set_option maxRecDepth 100000 in
/-- readProofName -/
theorem x_readProofName_look (l : Launch) (D : va_G) (cA : Nat → ClassId) (sa : Nat → Nat) (r0 : Nat) (p0 : Nat) (ti : Nat) (ln : Nat) (inb : Int32) (iek : Int32) (iep : Int32) (r1 : Nat) (k1 : Nat) (k2 : Nat) (k3 : Nat) (ct : Nat) (fk : Nat → Int32) (ft : Nat → Int32) (fv : Nat → Int64) (fb : Nat → Int32) (gP : Nat → Nat) (gR : Nat → Nat) (p1 : Nat) (p2 : Nat) (p3 : Nat) (p4 : Nat) (p5 : Nat) (p6 : Nat) (p7 : Nat) (p8 : Nat) (p9 : Nat) (cn : Nat) (pq : Nat) (nd : Nat) (sc : Nat) (pr : Int32) (pb : Int32) (pe : Int32) (pg : Int32) (fna : Nat → Int64) (fpn : Nat → Int64) (fst : Nat → Int32) (fop : Nat → Int32) (ml : List Int64) (pl : List Int64) (sl : Nat) (sz : Nat) (hct : ct ≤ 701) (hln : ln ≤ 700) (hti : ti < ct) (hTX : TX fb ln ct gP gR ft fv fk) (hcn : cn ≤ 10) (hpq : pq ≤ 8) (hnd : nd ≤ 6) (hsc : sc ≤ 350) (hNM : NL ml cn fna) (hNP : NL pl pq fpn) (hsl : 2 * sc + sl + 2 ≤ gP ti) : Met l yX4_readProofName wsX4_readProofName ({ frames := 1, cells := 0, slots := 0, locals := 23 }) (va_Pc [.ref r0] (Wd D cA sa [(oX4 r0 r1 p0 (nI ti) (fk ti) (ft ti) (fv ti) inb iek iep), (oX5 r1 k1 k2 k3 (nI ct)), (k1, .inl (cA 0, 701, .inl fk)), (k2, .inl (cA 0, 701, .inl ft)), (k3, .inl (cA 1, 701, .inr (.inl fv))), (oX3 p0 pr pb pe pg p1 (nI nd) p2 p3 p4 p5 (nI cn) p6 (nI pq) p7 p8 p9 (nI sc)), (p2, .inl (cA 1, 10, .inr (.inl fna))), (p6, .inl (cA 1, 8, .inr (.inl fpn))), (p7, .inl (cA 0, 350, .inl fst)), (p8, .inl (cA 0, 350, .inl fop))] sz)) (va_Qi (fun (r : Int32) (u9 : Int32) => u9 = r ∧ (r = 0 ∨ r = 1)) (fun (u9 : Int32) t => ∃ tj : Nat, ∃ qm : Nat, ∃ sm : Nat, ∃ znr : Int32, ∃ zek : Int32, ∃ zep : Int32, ∃ zpn : Nat → Int64, ∃ zst : Nat → Int32, ∃ zop : Nat → Int32, ∃ zpl : List Int64, tj < ct ∧ gP tj ≤ ln ∧ ti ≤ tj ∧ qm ≤ 8 ∧ sm ≤ 350 ∧ NL zpl qm zpn ∧ (u9 = 1 → zek = iek) ∧ (u9 = 1 → zep = iep) ∧ (u9 = 1 → tj = ti + 1) ∧ (u9 = 1 → 2 * sm + sl ≤ gP tj) ∧ (u9 = 1 → PnF (fk ti) (fv ti) pl zpl) ∧ (u9 = 0 → PnE (fk ti) (fv ti) pl zek) ∧ (u9 = 0 → zep = (ft ti)) ∧ Wq D (va_A [(oX4 r0 r1 p0 (nI ti) (fk ti) (ft ti) (fv ti) inb iek iep), (oX5 r1 k1 k2 k3 (nI ct)), (k1, .inl (cA 0, 701, .inl fk)), (k2, .inl (cA 0, 701, .inl ft)), (k3, .inl (cA 1, 701, .inr (.inl fv))), (oX3 p0 pr pb pe pg p1 (nI nd) p2 p3 p4 p5 (nI cn) p6 (nI pq) p7 p8 p9 (nI sc)), (p2, .inl (cA 1, 10, .inr (.inl fna))), (p6, .inl (cA 1, 8, .inr (.inl fpn))), (p7, .inl (cA 0, 350, .inl fst)), (p8, .inl (cA 0, 350, .inl fop))] sz) [(oX4 r0 r1 p0 (nI tj) (fk tj) (ft tj) (fv tj) znr zek zep), (oX5 r1 k1 k2 k3 (nI ct)), (k1, .inl (cA 0, 701, .inl fk)), (k2, .inl (cA 0, 701, .inl ft)), (k3, .inl (cA 1, 701, .inr (.inl fv))), (oX3 p0 pr pb pe pg p1 (nI nd) p2 p3 p4 p5 (nI cn) p6 (nI qm) p7 p8 p9 (nI sm)), (p2, .inl (cA 1, 10, .inr (.inl fna))), (p6, .inl (cA 1, 8, .inr (.inl zpn))), (p7, .inl (cA 0, 350, .inl zst)), (p8, .inl (cA 0, 350, .inl zop))] t) (va_A [(oX4 r0 r1 p0 (nI ti) (fk ti) (ft ti) (fv ti) inb iek iep), (oX5 r1 k1 k2 k3 (nI ct)), (k1, .inl (cA 0, 701, .inl fk)), (k2, .inl (cA 0, 701, .inl ft)), (k3, .inl (cA 1, 701, .inr (.inl fv))), (oX3 p0 pr pb pe pg p1 (nI nd) p2 p3 p4 p5 (nI cn) p6 (nI pq) p7 p8 p9 (nI sc)), (p2, .inl (cA 1, 10, .inr (.inl fna))), (p6, .inl (cA 1, 8, .inr (.inl fpn))), (p7, .inl (cA 0, 350, .inl fst)), (p8, .inl (cA 0, 350, .inl fop))] sz)) 0 0 (va_A [(oX4 r0 r1 p0 (nI ti) (fk ti) (ft ti) (fv ti) inb iek iep), (oX5 r1 k1 k2 k3 (nI ct)), (k1, .inl (cA 0, 701, .inl fk)), (k2, .inl (cA 0, 701, .inl ft)), (k3, .inl (cA 1, 701, .inr (.inl fv))), (oX3 p0 pr pb pe pg p1 (nI nd) p2 p3 p4 p5 (nI cn) p6 (nI pq) p7 p8 p9 (nI sc)), (p2, .inl (cA 1, 10, .inr (.inl fna))), (p6, .inl (cA 1, 8, .inr (.inl fpn))), (p7, .inl (cA 0, 350, .inl fst)), (p8, .inl (cA 0, 350, .inl fop))] sz) := by
  refine Met.ofW (cc := cX4_readProofName) (maxL := 2) (ret := (some .boolean)) (by decide) rfl ?_
  intro p e s m args below meth c s₁ B hml hv
  obtain ⟨rfl, hsz, hP, hK, hD0, hC, hZ⟩ := hv
  have hx := B.exec
  have hb := B.bytes
  have hr := B.returns
  have hts := atoms_spec (ws := wsX4_readProofName) B.pre
  have hown : s.vm.findClass RX4 = some m.cls := findClass_of_methodNamed B.named
  have hlocks := B.notSynchronized
  subst hsz
  have hD := hD0.self (sz := s.heap.size)
  generalize hAe : va_A [(oX4 r0 r1 p0 (nI ti) (fk ti) (ft ti) (fv ti) inb iek iep), (oX5 r1 k1 k2 k3 (nI ct)), (k1, .inl (cA 0, 701, .inl fk)), (k2, .inl (cA 0, 701, .inl ft)), (k3, .inl (cA 1, 701, .inr (.inl fv))), (oX3 p0 pr pb pe pg p1 (nI nd) p2 p3 p4 p5 (nI cn) p6 (nI pq) p7 p8 p9 (nI sc)), (p2, .inl (cA 1, 10, .inr (.inl fna))), (p6, .inl (cA 1, 8, .inr (.inl fpn))), (p7, .inl (cA 0, 350, .inl fst)), (p8, .inl (cA 0, 350, .inl fop))] s.heap.size = A at hD hZ ⊢
  have hA : ∀ q : Nat, s.heap.size ≤ q → A q := fun q h => by rw [← hAe]; exact Or.inr h
  have hS : va_S A s.heap s.heap [] := va_S.rf
  have hP : va_P D vwCl [(oX4 r0 r1 p0 (nI ti) (fk ti) (ft ti) (fv ti) inb iek iep), (oX5 r1 k1 k2 k3 (nI ct)), (k1, .inl (cA 0, 701, .inl fk)), (k2, .inl (cA 0, 701, .inl ft)), (k3, .inl (cA 1, 701, .inr (.inl fv))), (oX3 p0 pr pb pe pg p1 (nI nd) p2 p3 p4 p5 (nI cn) p6 (nI pq) p7 p8 p9 (nI sc)), (p2, .inl (cA 1, 10, .inr (.inl fna))), (p6, .inl (cA 1, 8, .inr (.inl fpn))), (p7, .inl (cA 0, 350, .inl fst)), (p8, .inl (cA 0, 350, .inl fop))] s.heap := hP
  have hl := lv_entry ([.ref r0]) (n := 2) (Nat.le_of_ble_eq_true rfl)
  rw [lg_entry_eq]
  generalize (lg_sl ([.ref r0]) ++ List.replicate (2 - (lg_sl ([.ref r0])).length) Slot.unset).toArray = ls at hl ⊢
  have hl : lv_has ls 2 [(0, .ref r0)] := hl
  have inX4 : ∀ w ∈ u_ws RX4 TX4 9, w ∈ wsX4_readProofName := by decide +kernel
  have hle9 := TX.le hTX hti
  refine lv_aload_n hx hb dX4_readProofName_0 rfl (lv_at hl 0 rfl) ?_
  refine va_get (D := D) (ci := 8) (v := .int (fk ti)) (C := RX4) (T := TX4) (N := 9) hx hb hts inX4 hown hK hP 0 rfl rfl 3 (by decide) (hts (.fieldLink RX4 42 "EscrowDesk$Reader" "kind" "I") (by decide +kernel)) (fun _ h9 => h9) rfl dX4_readProofName_1 ?_
  refine lv_iconst (v := 4) hx hb dX4_readProofName_4 (by decide) ?_
  refine lv_icmp_eq (tgt := 14) hx hb dX4_readProofName_5 (by decide) (fun c1 => ?_) (fun c1 => ?_)
  · skip
    refine lv_aload_n hx hb dX4_readProofName_14 rfl (lv_at hl 0 rfl) ?_
    refine va_get (D := D) (ci := 8) (v := .ref p0) (C := RX4) (T := TX4) (N := 9) hx hb hts inX4 hown hK hP 0 rfl rfl 1 (by decide) (hts (.fieldLink RX4 25 "EscrowDesk$Reader" "plan" "LEscrowDesk$Plan;") (by decide +kernel)) (fun _ h9 => h9) rfl dX4_readProofName_15 ?_
    refine lv_aload_n hx hb dX4_readProofName_18 rfl (lv_at hl 0 rfl) ?_
    refine va_get (D := D) (ci := 8) (v := .long (fv ti)) (C := RX4) (T := TX4) (N := 9) hx hb hts inX4 hown hK hP 0 rfl rfl 5 (by decide) (hts (.fieldLink RX4 87 "EscrowDesk$Reader" "value" "J") (by decide +kernel)) (fun _ h9 => h9) rfl dX4_readProofName_19 ?_
    by_cases hn2 : (fv ti) ∈ pl
    · skip
      obtain ⟨hPc, hDc, hFc⟩ := PDq.cut (wc := [(oX3 p0 pr pb pe pg p1 (nI nd) p2 p3 p4 p5 (nI cn) p6 (nI pq) p7 p8 p9 (nI sc)), (p6, .inl (cA 1, 8, .inr (.inl fpn)))]) hP hD hS hA [5, 7] (by decide) rfl
      refine va_calli (va_runV (As := [.long (fv ti)]) (rest := []) ⟨hx, hb, hml, hown, hts⟩ (x_proofOld l D cA sa p0 p1 p2 p3 p4 p5 p6 p7 p8 p9 cn pq nd sc pr pb pe pg (fv ti) fpn pl s.heap.size hcn hpq hnd hsc hNP hn2) (cwV 1 hts gX4_readProofName_X3_proofNamed rfl rfl rfl (by decide +kernel) ⟨(Nat.le_of_ble_eq_true rfl), (Nat.le_of_ble_eq_true rfl)⟩) ⟨Wd.blind, va_recv hK hPc (ci := 7) (q0 := 0) rfl rfl, fun U hU hW => ⟨rfl, Wd.call hPc hDc hK hC hZ hS hFc U hU hW⟩⟩ rfl rfl hl.1 rfl (lv_room (Nat.le_of_ble_eq_true rfl)) dX4_readProofName_22 ⟨(Nat.le_of_ble_eq_true rfl), (Nat.le_of_ble_eq_true rfl)⟩) hS (fun q _ h => hFc q h) hFc (fun rn4 u t H1 locs ht hvm hw hB hz1 hk1 hS => ?_)
      obtain ⟨hP1, hD1⟩ := hB
      rw [ht] at hP1
      obtain ⟨hP, hD⟩ := PDq.join (w := [(oX4 r0 r1 p0 (nI ti) (fk ti) (ft ti) (fv ti) inb iek iep), (oX5 r1 k1 k2 k3 (nI ct)), (k1, .inl (cA 0, 701, .inl fk)), (k2, .inl (cA 0, 701, .inl ft)), (k3, .inl (cA 1, 701, .inr (.inl fv))), (p2, .inl (cA 1, 10, .inr (.inl fna))), (p7, .inl (cA 0, 350, .inl fst)), (p8, .inl (cA 0, 350, .inl fop)), (oX3 p0 pr pb pe pg p1 (nI nd) p2 p3 p4 p5 (nI cn) p6 (nI pq) p7 p8 p9 (nI sc)), (p6, .inl (cA 1, 8, .inr (.inl fpn)))]) 8 hP hD [5, 7] [0, 1, 2, 3, 4, 6, 8, 9] rfl rfl (by decide) (by decide +kernel) hk1 hFc hP1 hD1 rfl
      generalize H1 = H at hP hS ⊢
      obtain ⟨kn5, hn6, hr9⟩ := hw
      subst hr9
      refine lv_istore_n (lv' := [(1, .int (nI kn5)), (0, .ref r0)]) hx hb dX4_readProofName_25 rfl hl (by decide) rfl (fun ls hl => ?_)
      refine lv_iload_n hx hb dX4_readProofName_26 rfl (lv_at hl 0 rfl) ?_
      refine lv_iconst (v := (-1)) hx hb dX4_readProofName_27 (by decide) ?_
      refine lv_icmp_ne (tgt := 37) hx hb dX4_readProofName_28 (by decide) (fun c7 => ?_) (fun c9 => absurd c9 (nI_neg (n := kn5) (by omega) (by decide)))
      have hn8 := TX.go hTX (show ti < ct by omega) (by rw [c1]; decide)
      have hn8a := hn8.2.1
      have hn8b := hn8.2.2
      have hn8c := hn8.1
      refine lv_aload_n hx hb dX4_readProofName_37 rfl (lv_at hl 1 rfl) ?_
      refine lv_aload_n hx hb dX4_readProofName_38 rfl (lv_at hl 1 rfl) ?_
      refine va_get (D := D) (ci := 8) (v := .int (nI ti)) (C := RX4) (T := TX4) (N := 9) hx hb hts inX4 hown hK hP 0 rfl rfl 2 (by decide) (hts (.fieldLink RX4 70 "EscrowDesk$Reader" "token" "I") (by decide +kernel)) (fun _ h9 => h9) rfl dX4_readProofName_39 ?_
      refine lv_iconst (v := 1) hx hb dX4_readProofName_42 (by decide) ?_
      refine lv_iadd hx hb dX4_readProofName_43 ?_
      refine lv_topi (fun yn9 eyn9 => ?_)
      obtain rfl : yn9 = (nI (ti + 1)) := eyn9.trans (nI_add ti 1)
      obtain ⟨hPc, hDc, hFc⟩ := PDq.cut (wc := [(oX4 r0 r1 p0 (nI ti) (fk ti) (ft ti) (fv ti) inb iek iep), (oX5 r1 k1 k2 k3 (nI ct)), (k1, .inl (cA 0, 701, .inl fk)), (k2, .inl (cA 0, 701, .inl ft)), (k3, .inl (cA 1, 701, .inr (.inl fv)))]) hP hD hS hA [0, 1, 2, 3, 4] (by decide) rfl
      refine va_callv (va_runV (As := [.int (nI (ti + 1))]) (rest := []) ⟨hx, hb, hml, hown, hts⟩ (x_lookAt l D cA sa r0 p0 (ti + 1) (nI ti) (fk ti) (ft ti) inb iek iep (fv ti) r1 k1 k2 k3 ct fk ft fv H.size hct hn8.1) (cwV 1 hts gX4_readProofName_X4_lookAt rfl rfl rfl (by decide +kernel) ⟨(Nat.le_of_ble_eq_true rfl), (Nat.le_of_ble_eq_true rfl)⟩) ⟨Wd.blind, va_recv hK hPc (ci := 8) (q0 := 0) rfl rfl, fun U hU hW => ⟨rfl, Wd.call hPc hDc hK hC hZ hS hFc U hU hW⟩⟩ rfl rfl hl.1 rfl (lv_room (Nat.le_of_ble_eq_true rfl)) dX4_readProofName_44 ⟨(Nat.le_of_ble_eq_true rfl), (Nat.le_of_ble_eq_true rfl)⟩) hS (fun q _ h => hFc q h) hFc (fun u t H1 locs ht hvm hw hB hz1 hk1 hS => ?_)
      obtain ⟨hP1, hD1⟩ := hB
      rw [ht] at hP1
      obtain ⟨hP, hD⟩ := PDq.join (w := [(p2, .inl (cA 1, 10, .inr (.inl fna))), (p7, .inl (cA 0, 350, .inl fst)), (p8, .inl (cA 0, 350, .inl fop)), (oX3 p0 pr pb pe pg p1 (nI nd) p2 p3 p4 p5 (nI cn) p6 (nI pq) p7 p8 p9 (nI sc)), (p6, .inl (cA 1, 8, .inr (.inl fpn))), (oX4 r0 r1 p0 (nI (ti + 1)) (fk (ti + 1)) (ft (ti + 1)) (fv (ti + 1)) inb iek iep), (oX5 r1 k1 k2 k3 (nI ct)), (k1, .inl (cA 0, 701, .inl fk)), (k2, .inl (cA 0, 701, .inl ft)), (k3, .inl (cA 1, 701, .inr (.inl fv)))]) 5 hP hD [0, 1, 2, 3, 4] [5, 6, 7, 8, 9] rfl rfl (by decide) (by decide +kernel) hk1 hFc hP1 hD1 rfl
      generalize H1 = H at hP hS ⊢
      refine lv_aload_n hx hb dX4_readProofName_47 rfl (lv_at hl 1 rfl) ?_
      refine va_get (D := D) (ci := 8) (v := .ref p0) (C := RX4) (T := TX4) (N := 9) hx hb hts inX4 hown hK hP 5 rfl rfl 1 (by decide) (hts (.fieldLink RX4 25 "EscrowDesk$Reader" "plan" "LEscrowDesk$Plan;") (by decide +kernel)) (fun _ h9 => h9) rfl dX4_readProofName_48 ?_
      refine lv_bipush (v := 18) hx hb dX4_readProofName_51 (by decide) ?_
      refine lv_iload_n hx hb dX4_readProofName_53 rfl (lv_at hl 0 rfl) ?_
      obtain ⟨hPc, hDc, hFc⟩ := PDq.cut (wc := [(oX3 p0 pr pb pe pg p1 (nI nd) p2 p3 p4 p5 (nI cn) p6 (nI pq) p7 p8 p9 (nI sc)), (p7, .inl (cA 0, 350, .inl fst)), (p8, .inl (cA 0, 350, .inl fop))]) hP hD hS hA [3, 1, 2] (by decide) rfl
      refine va_calli (va_runV (As := [.int 18, .int (nI kn5)]) (rest := []) ⟨hx, hb, hml, hown, hts⟩ (x_addStep l D cA sa p0 p1 p2 p3 p4 p5 p6 p7 p8 p9 cn pq nd sc pr pb pe pg 18 (nI kn5) fst fop H.size (by omega)) (cwV 2 hts gX4_readProofName_X3_addStep rfl rfl rfl (by decide +kernel) ⟨(Nat.le_of_ble_eq_true rfl), (Nat.le_of_ble_eq_true rfl)⟩) ⟨Wd.blind, va_recv hK hPc (ci := 7) (q0 := 0) rfl rfl, fun U hU hW => ⟨rfl, Wd.call hPc hDc hK hC hZ hS hFc U hU hW⟩⟩ rfl rfl hl.1 rfl (lv_room (Nat.le_of_ble_eq_true rfl)) dX4_readProofName_54 ⟨(Nat.le_of_ble_eq_true rfl), (Nat.le_of_ble_eq_true rfl)⟩) hS (fun q _ h => hFc q h) hFc (fun rn10 u t H1 locs ht hvm hw hB hz1 hk1 hS => ?_)
      obtain ⟨fn11, fn12, hP1, hD1⟩ := hB
      rw [ht] at hP1
      obtain ⟨hP, hD⟩ := PDq.join (w := [(p2, .inl (cA 1, 10, .inr (.inl fna))), (p6, .inl (cA 1, 8, .inr (.inl fpn))), (oX4 r0 r1 p0 (nI (ti + 1)) (fk (ti + 1)) (ft (ti + 1)) (fv (ti + 1)) inb iek iep), (oX5 r1 k1 k2 k3 (nI ct)), (k1, .inl (cA 0, 701, .inl fk)), (k2, .inl (cA 0, 701, .inl ft)), (k3, .inl (cA 1, 701, .inr (.inl fv))), (oX3 p0 pr pb pe pg p1 (nI nd) p2 p3 p4 p5 (nI cn) p6 (nI pq) p7 p8 p9 (nI (sc + 1))), (p7, .inl (cA 0, 350, .inl fn11)), (p8, .inl (cA 0, 350, .inl fn12))]) 7 hP hD [3, 1, 2] [0, 4, 5, 6, 7, 8, 9] rfl rfl (by decide) (by decide +kernel) hk1 hFc hP1 hD1 rfl
      generalize H1 = H at hP hS ⊢
      obtain rfl : rn10 = 1 := hw
      obtain ⟨hP9, hD9⟩ := PDq.sub (ws' := [(oX4 r0 r1 p0 (nI (ti + 1)) (fk (ti + 1)) (ft (ti + 1)) (fv (ti + 1)) inb iek iep), (oX5 r1 k1 k2 k3 (nI ct)), (k1, .inl (cA 0, 701, .inl fk)), (k2, .inl (cA 0, 701, .inl ft)), (k3, .inl (cA 1, 701, .inr (.inl fv))), (oX3 p0 pr pb pe pg p1 (nI nd) p2 p3 p4 p5 (nI cn) p6 (nI pq) p7 p8 p9 (nI (sc + 1))), (p2, .inl (cA 1, 10, .inr (.inl fna))), (p6, .inl (cA 1, 8, .inr (.inl fpn))), (p7, .inl (cA 0, 350, .inl fn11)), (p8, .inl (cA 0, 350, .inl fn12))]) hP hD [2, 3, 4, 5, 6, 7, 0, 1, 8, 9] (by decide +kernel) rfl
      refine W.widen (k := 0) (n := 0) (Nat.le_of_ble_eq_true rfl) (Nat.le_of_ble_eq_true rfl) ?_
      exact (W.zret (v := 1) hx hb hr (by first | rfl | decide) (fun t ht hW => ⟨⟨1, 1, rfl, ⟨rfl, by decide⟩, (ti + 1), pq, (sc + 1), inb, iek, iep, fpn, fn11, fn12, pl, hn8.1, (by omega), (by omega), hpq, (by omega), hNP, (fun _ => rfl), (fun _ => rfl), (fun _ => rfl), (fun _ => (by omega)), (fun _ => ⟨c1, Or.inl ⟨hn2, rfl⟩⟩), (fun h9 => absurd h9 (by decide)), (fun h9 => absurd h9 (by decide)), by rw [ht]; exact hP9, hD9⟩, hS.F ht⟩) hS.2.2 dX4_readProofName_57)
    · skip
      by_cases hn3 : pq = 8
      · skip
        obtain ⟨hPc, hDc, hFc⟩ := PDq.cut (wc := [(oX3 p0 pr pb pe pg p1 (nI nd) p2 p3 p4 p5 (nI cn) p6 (nI pq) p7 p8 p9 (nI sc)), (p6, .inl (cA 1, 8, .inr (.inl fpn)))]) hP hD hS hA [5, 7] (by decide) rfl
        refine va_calli (va_runV (As := [.long (fv ti)]) (rest := []) ⟨hx, hb, hml, hown, hts⟩ (x_proofFull l D cA sa p0 p1 p2 p3 p4 p5 p6 p7 p8 p9 cn pq nd sc pr pb pe pg (fv ti) fpn pl s.heap.size hcn hpq hnd hsc hNP hn2 hn3) (cwV 1 hts gX4_readProofName_X3_proofNamed rfl rfl rfl (by decide +kernel) ⟨(Nat.le_of_ble_eq_true rfl), (Nat.le_of_ble_eq_true rfl)⟩) ⟨Wd.blind, va_recv hK hPc (ci := 7) (q0 := 0) rfl rfl, fun U hU hW => ⟨rfl, Wd.call hPc hDc hK hC hZ hS hFc U hU hW⟩⟩ rfl rfl hl.1 rfl (lv_room (Nat.le_of_ble_eq_true rfl)) dX4_readProofName_22 ⟨(Nat.le_of_ble_eq_true rfl), (Nat.le_of_ble_eq_true rfl)⟩) hS (fun q _ h => hFc q h) hFc (fun rn13 u t H1 locs ht hvm hw hB hz1 hk1 hS => ?_)
        obtain ⟨hP1, hD1⟩ := hB
        rw [ht] at hP1
        obtain ⟨hP, hD⟩ := PDq.join (w := [(oX4 r0 r1 p0 (nI ti) (fk ti) (ft ti) (fv ti) inb iek iep), (oX5 r1 k1 k2 k3 (nI ct)), (k1, .inl (cA 0, 701, .inl fk)), (k2, .inl (cA 0, 701, .inl ft)), (k3, .inl (cA 1, 701, .inr (.inl fv))), (p2, .inl (cA 1, 10, .inr (.inl fna))), (p7, .inl (cA 0, 350, .inl fst)), (p8, .inl (cA 0, 350, .inl fop)), (oX3 p0 pr pb pe pg p1 (nI nd) p2 p3 p4 p5 (nI cn) p6 (nI pq) p7 p8 p9 (nI sc)), (p6, .inl (cA 1, 8, .inr (.inl fpn)))]) 8 hP hD [5, 7] [0, 1, 2, 3, 4, 6, 8, 9] rfl rfl (by decide) (by decide +kernel) hk1 hFc hP1 hD1 rfl
        generalize H1 = H at hP hS ⊢
        obtain rfl : rn13 = (-1) := hw
        refine lv_istore_n (lv' := [(1, .int (-1)), (0, .ref r0)]) hx hb dX4_readProofName_25 rfl hl (by decide) rfl (fun ls hl => ?_)
        refine lv_iload_n hx hb dX4_readProofName_26 rfl (lv_at hl 0 rfl) ?_
        refine lv_iconst (v := (-1)) hx hb dX4_readProofName_27 (by decide) ?_
        refine lv_icmp_ne (tgt := 37) hx hb dX4_readProofName_28 (by decide) (fun c9 => absurd c9 (by decide)) (fun c14 => ?_)
        refine lv_aload_n hx hb dX4_readProofName_31 rfl (lv_at hl 1 rfl) ?_
        refine lv_iconst (v := 5) hx hb dX4_readProofName_32 (by decide) ?_
        obtain ⟨hPc, hDc, hFc⟩ := PDq.cut (wc := [(oX4 r0 r1 p0 (nI ti) (fk ti) (ft ti) (fv ti) inb iek iep)]) hP hD hS hA [0] (by decide) rfl
        refine va_calli (va_runV (As := [.int 5]) (rest := []) ⟨hx, hb, hml, hown, hts⟩ (x_fail l D cA sa r0 r1 p0 (nI ti) (fk ti) (ft ti) inb iek iep (fv ti) 5 H.size) (cwV 1 hts gX4_readProofName_X4_fail rfl rfl rfl (by decide +kernel) ⟨(Nat.le_of_ble_eq_true rfl), (Nat.le_of_ble_eq_true rfl)⟩) ⟨Wd.blind, va_recv hK hPc (ci := 8) (q0 := 0) rfl rfl, fun U hU hW => ⟨rfl, Wd.call hPc hDc hK hC hZ hS hFc U hU hW⟩⟩ rfl rfl hl.1 rfl (lv_room (Nat.le_of_ble_eq_true rfl)) dX4_readProofName_33 ⟨(Nat.le_of_ble_eq_true rfl), (Nat.le_of_ble_eq_true rfl)⟩) hS (fun q _ h => hFc q h) hFc (fun rn15 u t H1 locs ht hvm hw hB hz1 hk1 hS => ?_)
        obtain ⟨zn16, hn17, hP1, hD1⟩ := hB
        rw [ht] at hP1
        obtain ⟨hP, hD⟩ := PDq.join (w := [(oX5 r1 k1 k2 k3 (nI ct)), (k1, .inl (cA 0, 701, .inl fk)), (k2, .inl (cA 0, 701, .inl ft)), (k3, .inl (cA 1, 701, .inr (.inl fv))), (p2, .inl (cA 1, 10, .inr (.inl fna))), (p7, .inl (cA 0, 350, .inl fst)), (p8, .inl (cA 0, 350, .inl fop)), (oX3 p0 pr pb pe pg p1 (nI nd) p2 p3 p4 p5 (nI cn) p6 (nI pq) p7 p8 p9 (nI sc)), (p6, .inl (cA 1, 8, .inr (.inl fpn))), (oX4 r0 r1 p0 (nI ti) (fk ti) (ft ti) (fv ti) inb zn16 (ft ti))]) 9 hP hD [0] [1, 2, 3, 4, 5, 6, 7, 8, 9] rfl rfl (by decide +kernel) (by decide +kernel) hk1 hFc hP1 hD1 rfl
        generalize H1 = H at hP hS ⊢
        obtain rfl : rn15 = 0 := hw
        obtain ⟨hP9, hD9⟩ := PDq.sub (ws' := [(oX4 r0 r1 p0 (nI ti) (fk ti) (ft ti) (fv ti) inb zn16 (ft ti)), (oX5 r1 k1 k2 k3 (nI ct)), (k1, .inl (cA 0, 701, .inl fk)), (k2, .inl (cA 0, 701, .inl ft)), (k3, .inl (cA 1, 701, .inr (.inl fv))), (oX3 p0 pr pb pe pg p1 (nI nd) p2 p3 p4 p5 (nI cn) p6 (nI pq) p7 p8 p9 (nI sc)), (p2, .inl (cA 1, 10, .inr (.inl fna))), (p6, .inl (cA 1, 8, .inr (.inl fpn))), (p7, .inl (cA 0, 350, .inl fst)), (p8, .inl (cA 0, 350, .inl fop))]) hP hD [9, 0, 1, 2, 3, 7, 4, 8, 5, 6] (by decide +kernel) rfl
        refine W.widen (k := 0) (n := 0) (Nat.le_of_ble_eq_true rfl) (Nat.le_of_ble_eq_true rfl) ?_
        exact (W.zret (v := 0) hx hb hr (by first | rfl | decide) (fun t ht hW => ⟨⟨0, 0, rfl, ⟨rfl, by decide⟩, ti, pq, sc, inb, zn16, (ft ti), fpn, fst, fop, pl, hti, (by omega), (by omega), hpq, hsc, hNP, (fun h9 => absurd h9 (by decide)), (fun h9 => absurd h9 (by decide)), (fun h9 => absurd h9 (by decide)), (fun h9 => absurd h9 (by decide)), (fun h9 => absurd h9 (by decide)), (fun _ => ⟨5, hn17, Or.inr ⟨c1, hn2, hNP.1.trans hn3, rfl⟩⟩), (fun _ => rfl), by rw [ht]; exact hP9, hD9⟩, hS.F ht⟩) hS.2.2 dX4_readProofName_36)
      · skip
        obtain ⟨hPc, hDc, hFc⟩ := PDq.cut (wc := [(oX3 p0 pr pb pe pg p1 (nI nd) p2 p3 p4 p5 (nI cn) p6 (nI pq) p7 p8 p9 (nI sc)), (p6, .inl (cA 1, 8, .inr (.inl fpn)))]) hP hD hS hA [5, 7] (by decide) rfl
        refine va_calli (va_runV (As := [.long (fv ti)]) (rest := []) ⟨hx, hb, hml, hown, hts⟩ (x_proofNew l D cA sa p0 p1 p2 p3 p4 p5 p6 p7 p8 p9 cn pq nd sc pr pb pe pg (fv ti) fpn pl s.heap.size hcn hpq hnd hsc hNP hn2 (by omega)) (cwV 1 hts gX4_readProofName_X3_proofNamed rfl rfl rfl (by decide +kernel) ⟨(Nat.le_of_ble_eq_true rfl), (Nat.le_of_ble_eq_true rfl)⟩) ⟨Wd.blind, va_recv hK hPc (ci := 7) (q0 := 0) rfl rfl, fun U hU hW => ⟨rfl, Wd.call hPc hDc hK hC hZ hS hFc U hU hW⟩⟩ rfl rfl hl.1 rfl (lv_room (Nat.le_of_ble_eq_true rfl)) dX4_readProofName_22 ⟨(Nat.le_of_ble_eq_true rfl), (Nat.le_of_ble_eq_true rfl)⟩) hS (fun q _ h => hFc q h) hFc (fun rn18 u t H1 locs ht hvm hw hB hz1 hk1 hS => ?_)
        obtain ⟨fn19, hn20, hP1, hD1⟩ := hB
        rw [ht] at hP1
        obtain ⟨hP, hD⟩ := PDq.join (w := [(oX4 r0 r1 p0 (nI ti) (fk ti) (ft ti) (fv ti) inb iek iep), (oX5 r1 k1 k2 k3 (nI ct)), (k1, .inl (cA 0, 701, .inl fk)), (k2, .inl (cA 0, 701, .inl ft)), (k3, .inl (cA 1, 701, .inr (.inl fv))), (p2, .inl (cA 1, 10, .inr (.inl fna))), (p7, .inl (cA 0, 350, .inl fst)), (p8, .inl (cA 0, 350, .inl fop)), (oX3 p0 pr pb pe pg p1 (nI nd) p2 p3 p4 p5 (nI cn) p6 (nI (pq + 1)) p7 p8 p9 (nI sc)), (p6, .inl (cA 1, 8, .inr (.inl fn19)))]) 8 hP hD [5, 7] [0, 1, 2, 3, 4, 6, 8, 9] rfl rfl (by decide) (by decide +kernel) hk1 hFc hP1 hD1 rfl
        generalize H1 = H at hP hS ⊢
        obtain ⟨kn21, hn22, hr9⟩ := hw
        subst hr9
        refine lv_istore_n (lv' := [(1, .int (nI kn21)), (0, .ref r0)]) hx hb dX4_readProofName_25 rfl hl (by decide) rfl (fun ls hl => ?_)
        refine lv_iload_n hx hb dX4_readProofName_26 rfl (lv_at hl 0 rfl) ?_
        refine lv_iconst (v := (-1)) hx hb dX4_readProofName_27 (by decide) ?_
        refine lv_icmp_ne (tgt := 37) hx hb dX4_readProofName_28 (by decide) (fun c23 => ?_) (fun c9 => absurd c9 (nI_neg (n := kn21) (by omega) (by decide)))
        have hn24 := TX.go hTX (show ti < ct by omega) (by rw [c1]; decide)
        have hn24a := hn24.2.1
        have hn24b := hn24.2.2
        have hn24c := hn24.1
        refine lv_aload_n hx hb dX4_readProofName_37 rfl (lv_at hl 1 rfl) ?_
        refine lv_aload_n hx hb dX4_readProofName_38 rfl (lv_at hl 1 rfl) ?_
        refine va_get (D := D) (ci := 8) (v := .int (nI ti)) (C := RX4) (T := TX4) (N := 9) hx hb hts inX4 hown hK hP 0 rfl rfl 2 (by decide) (hts (.fieldLink RX4 70 "EscrowDesk$Reader" "token" "I") (by decide +kernel)) (fun _ h9 => h9) rfl dX4_readProofName_39 ?_
        refine lv_iconst (v := 1) hx hb dX4_readProofName_42 (by decide) ?_
        refine lv_iadd hx hb dX4_readProofName_43 ?_
        refine lv_topi (fun yn25 eyn25 => ?_)
        obtain rfl : yn25 = (nI (ti + 1)) := eyn25.trans (nI_add ti 1)
        obtain ⟨hPc, hDc, hFc⟩ := PDq.cut (wc := [(oX4 r0 r1 p0 (nI ti) (fk ti) (ft ti) (fv ti) inb iek iep), (oX5 r1 k1 k2 k3 (nI ct)), (k1, .inl (cA 0, 701, .inl fk)), (k2, .inl (cA 0, 701, .inl ft)), (k3, .inl (cA 1, 701, .inr (.inl fv)))]) hP hD hS hA [0, 1, 2, 3, 4] (by decide) rfl
        refine va_callv (va_runV (As := [.int (nI (ti + 1))]) (rest := []) ⟨hx, hb, hml, hown, hts⟩ (x_lookAt l D cA sa r0 p0 (ti + 1) (nI ti) (fk ti) (ft ti) inb iek iep (fv ti) r1 k1 k2 k3 ct fk ft fv H.size hct hn24.1) (cwV 1 hts gX4_readProofName_X4_lookAt rfl rfl rfl (by decide +kernel) ⟨(Nat.le_of_ble_eq_true rfl), (Nat.le_of_ble_eq_true rfl)⟩) ⟨Wd.blind, va_recv hK hPc (ci := 8) (q0 := 0) rfl rfl, fun U hU hW => ⟨rfl, Wd.call hPc hDc hK hC hZ hS hFc U hU hW⟩⟩ rfl rfl hl.1 rfl (lv_room (Nat.le_of_ble_eq_true rfl)) dX4_readProofName_44 ⟨(Nat.le_of_ble_eq_true rfl), (Nat.le_of_ble_eq_true rfl)⟩) hS (fun q _ h => hFc q h) hFc (fun u t H1 locs ht hvm hw hB hz1 hk1 hS => ?_)
        obtain ⟨hP1, hD1⟩ := hB
        rw [ht] at hP1
        obtain ⟨hP, hD⟩ := PDq.join (w := [(p2, .inl (cA 1, 10, .inr (.inl fna))), (p7, .inl (cA 0, 350, .inl fst)), (p8, .inl (cA 0, 350, .inl fop)), (oX3 p0 pr pb pe pg p1 (nI nd) p2 p3 p4 p5 (nI cn) p6 (nI (pq + 1)) p7 p8 p9 (nI sc)), (p6, .inl (cA 1, 8, .inr (.inl fn19))), (oX4 r0 r1 p0 (nI (ti + 1)) (fk (ti + 1)) (ft (ti + 1)) (fv (ti + 1)) inb iek iep), (oX5 r1 k1 k2 k3 (nI ct)), (k1, .inl (cA 0, 701, .inl fk)), (k2, .inl (cA 0, 701, .inl ft)), (k3, .inl (cA 1, 701, .inr (.inl fv)))]) 5 hP hD [0, 1, 2, 3, 4] [5, 6, 7, 8, 9] rfl rfl (by decide) (by decide +kernel) hk1 hFc hP1 hD1 rfl
        generalize H1 = H at hP hS ⊢
        refine lv_aload_n hx hb dX4_readProofName_47 rfl (lv_at hl 1 rfl) ?_
        refine va_get (D := D) (ci := 8) (v := .ref p0) (C := RX4) (T := TX4) (N := 9) hx hb hts inX4 hown hK hP 5 rfl rfl 1 (by decide) (hts (.fieldLink RX4 25 "EscrowDesk$Reader" "plan" "LEscrowDesk$Plan;") (by decide +kernel)) (fun _ h9 => h9) rfl dX4_readProofName_48 ?_
        refine lv_bipush (v := 18) hx hb dX4_readProofName_51 (by decide) ?_
        refine lv_iload_n hx hb dX4_readProofName_53 rfl (lv_at hl 0 rfl) ?_
        obtain ⟨hPc, hDc, hFc⟩ := PDq.cut (wc := [(oX3 p0 pr pb pe pg p1 (nI nd) p2 p3 p4 p5 (nI cn) p6 (nI (pq + 1)) p7 p8 p9 (nI sc)), (p7, .inl (cA 0, 350, .inl fst)), (p8, .inl (cA 0, 350, .inl fop))]) hP hD hS hA [3, 1, 2] (by decide) rfl
        refine va_calli (va_runV (As := [.int 18, .int (nI kn21)]) (rest := []) ⟨hx, hb, hml, hown, hts⟩ (x_addStep l D cA sa p0 p1 p2 p3 p4 p5 p6 p7 p8 p9 cn (pq + 1) nd sc pr pb pe pg 18 (nI kn21) fst fop H.size (by omega)) (cwV 2 hts gX4_readProofName_X3_addStep rfl rfl rfl (by decide +kernel) ⟨(Nat.le_of_ble_eq_true rfl), (Nat.le_of_ble_eq_true rfl)⟩) ⟨Wd.blind, va_recv hK hPc (ci := 7) (q0 := 0) rfl rfl, fun U hU hW => ⟨rfl, Wd.call hPc hDc hK hC hZ hS hFc U hU hW⟩⟩ rfl rfl hl.1 rfl (lv_room (Nat.le_of_ble_eq_true rfl)) dX4_readProofName_54 ⟨(Nat.le_of_ble_eq_true rfl), (Nat.le_of_ble_eq_true rfl)⟩) hS (fun q _ h => hFc q h) hFc (fun rn26 u t H1 locs ht hvm hw hB hz1 hk1 hS => ?_)
        obtain ⟨fn27, fn28, hP1, hD1⟩ := hB
        rw [ht] at hP1
        obtain ⟨hP, hD⟩ := PDq.join (w := [(p2, .inl (cA 1, 10, .inr (.inl fna))), (p6, .inl (cA 1, 8, .inr (.inl fn19))), (oX4 r0 r1 p0 (nI (ti + 1)) (fk (ti + 1)) (ft (ti + 1)) (fv (ti + 1)) inb iek iep), (oX5 r1 k1 k2 k3 (nI ct)), (k1, .inl (cA 0, 701, .inl fk)), (k2, .inl (cA 0, 701, .inl ft)), (k3, .inl (cA 1, 701, .inr (.inl fv))), (oX3 p0 pr pb pe pg p1 (nI nd) p2 p3 p4 p5 (nI cn) p6 (nI (pq + 1)) p7 p8 p9 (nI (sc + 1))), (p7, .inl (cA 0, 350, .inl fn27)), (p8, .inl (cA 0, 350, .inl fn28))]) 7 hP hD [3, 1, 2] [0, 4, 5, 6, 7, 8, 9] rfl rfl (by decide) (by decide +kernel) hk1 hFc hP1 hD1 rfl
        generalize H1 = H at hP hS ⊢
        obtain rfl : rn26 = 1 := hw
        obtain ⟨hP9, hD9⟩ := PDq.sub (ws' := [(oX4 r0 r1 p0 (nI (ti + 1)) (fk (ti + 1)) (ft (ti + 1)) (fv (ti + 1)) inb iek iep), (oX5 r1 k1 k2 k3 (nI ct)), (k1, .inl (cA 0, 701, .inl fk)), (k2, .inl (cA 0, 701, .inl ft)), (k3, .inl (cA 1, 701, .inr (.inl fv))), (oX3 p0 pr pb pe pg p1 (nI nd) p2 p3 p4 p5 (nI cn) p6 (nI (pq + 1)) p7 p8 p9 (nI (sc + 1))), (p2, .inl (cA 1, 10, .inr (.inl fna))), (p6, .inl (cA 1, 8, .inr (.inl fn19))), (p7, .inl (cA 0, 350, .inl fn27)), (p8, .inl (cA 0, 350, .inl fn28))]) hP hD [2, 3, 4, 5, 6, 7, 0, 1, 8, 9] (by decide +kernel) rfl
        refine W.widen (k := 0) (n := 0) (Nat.le_of_ble_eq_true rfl) (Nat.le_of_ble_eq_true rfl) ?_
        exact (W.zret (v := 1) hx hb hr (by first | rfl | decide) (fun t ht hW => ⟨⟨1, 1, rfl, ⟨rfl, by decide⟩, (ti + 1), (pq + 1), (sc + 1), inb, iek, iep, fn19, fn27, fn28, (pl ++ [(fv ti)]), hn24.1, (by omega), (by omega), (by omega), (by omega), hn20, (fun _ => rfl), (fun _ => rfl), (fun _ => rfl), (fun _ => (by omega)), (fun _ => ⟨c1, Or.inr ⟨hn2, fun q9 => hn3 (hNP.1.symm.trans q9), rfl⟩⟩), (fun h9 => absurd h9 (by decide)), (fun h9 => absurd h9 (by decide)), by rw [ht]; exact hP9, hD9⟩, hS.F ht⟩) hS.2.2 dX4_readProofName_57)
  · skip
    refine lv_aload_n hx hb dX4_readProofName_8 rfl (lv_at hl 0 rfl) ?_
    refine lv_iconst (v := 2) hx hb dX4_readProofName_9 (by decide) ?_
    obtain ⟨hPc, hDc, hFc⟩ := PDq.cut (wc := [(oX4 r0 r1 p0 (nI ti) (fk ti) (ft ti) (fv ti) inb iek iep)]) hP hD hS hA [0] (by decide) rfl
    refine va_calli (va_runV (As := [.int 2]) (rest := []) ⟨hx, hb, hml, hown, hts⟩ (x_fail l D cA sa r0 r1 p0 (nI ti) (fk ti) (ft ti) inb iek iep (fv ti) 2 s.heap.size) (cwV 1 hts gX4_readProofName_X4_fail rfl rfl rfl (by decide +kernel) ⟨(Nat.le_of_ble_eq_true rfl), (Nat.le_of_ble_eq_true rfl)⟩) ⟨Wd.blind, va_recv hK hPc (ci := 8) (q0 := 0) rfl rfl, fun U hU hW => ⟨rfl, Wd.call hPc hDc hK hC hZ hS hFc U hU hW⟩⟩ rfl rfl hl.1 rfl (lv_room (Nat.le_of_ble_eq_true rfl)) dX4_readProofName_10 ⟨(Nat.le_of_ble_eq_true rfl), (Nat.le_of_ble_eq_true rfl)⟩) hS (fun q _ h => hFc q h) hFc (fun rn29 u t H1 locs ht hvm hw hB hz1 hk1 hS => ?_)
    obtain ⟨zn30, hn31, hP1, hD1⟩ := hB
    rw [ht] at hP1
    obtain ⟨hP, hD⟩ := PDq.join (w := [(oX5 r1 k1 k2 k3 (nI ct)), (k1, .inl (cA 0, 701, .inl fk)), (k2, .inl (cA 0, 701, .inl ft)), (k3, .inl (cA 1, 701, .inr (.inl fv))), (oX3 p0 pr pb pe pg p1 (nI nd) p2 p3 p4 p5 (nI cn) p6 (nI pq) p7 p8 p9 (nI sc)), (p2, .inl (cA 1, 10, .inr (.inl fna))), (p6, .inl (cA 1, 8, .inr (.inl fpn))), (p7, .inl (cA 0, 350, .inl fst)), (p8, .inl (cA 0, 350, .inl fop)), (oX4 r0 r1 p0 (nI ti) (fk ti) (ft ti) (fv ti) inb zn30 (ft ti))]) 9 hP hD [0] [1, 2, 3, 4, 5, 6, 7, 8, 9] rfl rfl (by decide +kernel) (by decide +kernel) hk1 hFc hP1 hD1 rfl
    generalize H1 = H at hP hS ⊢
    obtain rfl : rn29 = 0 := hw
    obtain ⟨hP9, hD9⟩ := PDq.sub (ws' := [(oX4 r0 r1 p0 (nI ti) (fk ti) (ft ti) (fv ti) inb zn30 (ft ti)), (oX5 r1 k1 k2 k3 (nI ct)), (k1, .inl (cA 0, 701, .inl fk)), (k2, .inl (cA 0, 701, .inl ft)), (k3, .inl (cA 1, 701, .inr (.inl fv))), (oX3 p0 pr pb pe pg p1 (nI nd) p2 p3 p4 p5 (nI cn) p6 (nI pq) p7 p8 p9 (nI sc)), (p2, .inl (cA 1, 10, .inr (.inl fna))), (p6, .inl (cA 1, 8, .inr (.inl fpn))), (p7, .inl (cA 0, 350, .inl fst)), (p8, .inl (cA 0, 350, .inl fop))]) hP hD [9, 0, 1, 2, 3, 4, 5, 6, 7, 8] (by decide +kernel) rfl
    refine W.widen (k := 0) (n := 0) (Nat.le_of_ble_eq_true rfl) (Nat.le_of_ble_eq_true rfl) ?_
    exact (W.zret (v := 0) hx hb hr (by first | rfl | decide) (fun t ht hW => ⟨⟨0, 0, rfl, ⟨rfl, by decide⟩, ti, pq, sc, inb, zn30, (ft ti), fpn, fst, fop, pl, hti, (by omega), (by omega), hpq, hsc, hNP, (fun h9 => absurd h9 (by decide)), (fun h9 => absurd h9 (by decide)), (fun h9 => absurd h9 (by decide)), (fun h9 => absurd h9 (by decide)), (fun h9 => absurd h9 (by decide)), (fun _ => ⟨2, hn31, Or.inl ⟨c1, rfl⟩⟩), (fun _ => rfl), by rw [ht]; exact hP9, hD9⟩, hS.F ht⟩) hS.2.2 dX4_readProofName_13)

set_option maxHeartbeats 4000000 in
set_option maxRecDepth 100000 in
/-- readDoneName -/
theorem x_readDoneName_look (l : Launch) (D : va_G) (cA : Nat → ClassId) (sa : Nat → Nat) (r0 : Nat) (p0 : Nat) (ti : Nat) (ln : Nat) (inb : Int32) (iek : Int32) (iep : Int32) (r1 : Nat) (k1 : Nat) (k2 : Nat) (k3 : Nat) (ct : Nat) (fk : Nat → Int32) (ft : Nat → Int32) (fv : Nat → Int64) (fb : Nat → Int32) (gP : Nat → Nat) (gR : Nat → Nat) (p1 : Nat) (p2 : Nat) (p3 : Nat) (p4 : Nat) (p5 : Nat) (p6 : Nat) (p7 : Nat) (p8 : Nat) (p9 : Nat) (cn : Nat) (pq : Nat) (nd : Nat) (sc : Nat) (pr : Int32) (pb : Int32) (pe : Int32) (pg : Int32) (fna : Nat → Int64) (fpn : Nat → Int64) (fst : Nat → Int32) (fop : Nat → Int32) (ml : List Int64) (pl : List Int64) (sl : Nat) (sz : Nat) (hct : ct ≤ 701) (hln : ln ≤ 700) (hti : ti < ct) (hTX : TX fb ln ct gP gR ft fv fk) (hcn : cn ≤ 10) (hpq : pq ≤ 8) (hnd : nd ≤ 6) (hsc : sc ≤ 350) (hNM : NL ml cn fna) (hNP : NL pl pq fpn) (hsl : 2 * sc + sl + 2 ≤ gP ti) : Met l yX4_readDoneName wsX4_readDoneName ({ frames := 1, cells := 0, slots := 0, locals := 23 }) (va_Pc [.ref r0] (Wd D cA sa [(oX4 r0 r1 p0 (nI ti) (fk ti) (ft ti) (fv ti) inb iek iep), (oX5 r1 k1 k2 k3 (nI ct)), (k1, .inl (cA 0, 701, .inl fk)), (k2, .inl (cA 0, 701, .inl ft)), (k3, .inl (cA 1, 701, .inr (.inl fv))), (oX3 p0 pr pb pe pg p1 (nI nd) p2 p3 p4 p5 (nI cn) p6 (nI pq) p7 p8 p9 (nI sc)), (p2, .inl (cA 1, 10, .inr (.inl fna))), (p6, .inl (cA 1, 8, .inr (.inl fpn))), (p7, .inl (cA 0, 350, .inl fst)), (p8, .inl (cA 0, 350, .inl fop))] sz)) (va_Qi (fun (r : Int32) (u9 : Int32) => u9 = r ∧ (r = 0 ∨ r = 1)) (fun (u9 : Int32) t => ∃ tj : Nat, ∃ qm : Nat, ∃ sm : Nat, ∃ znr : Int32, ∃ zek : Int32, ∃ zep : Int32, ∃ zpn : Nat → Int64, ∃ zst : Nat → Int32, ∃ zop : Nat → Int32, ∃ zpl : List Int64, tj < ct ∧ gP tj ≤ ln ∧ ti ≤ tj ∧ qm ≤ 8 ∧ sm ≤ 350 ∧ NL zpl qm zpn ∧ (u9 = 1 → zek = iek) ∧ (u9 = 1 → zep = iep) ∧ (u9 = 1 → tj = ti + 1) ∧ (u9 = 1 → 2 * sm + sl ≤ gP tj) ∧ (u9 = 1 → zpl = pl) ∧ (u9 = 1 → DnF (fk ti) (fv ti) ml) ∧ (u9 = 0 → DnE (fk ti) (fv ti) ml zek) ∧ (u9 = 0 → zep = (ft ti)) ∧ Wq D (va_A [(oX4 r0 r1 p0 (nI ti) (fk ti) (ft ti) (fv ti) inb iek iep), (oX5 r1 k1 k2 k3 (nI ct)), (k1, .inl (cA 0, 701, .inl fk)), (k2, .inl (cA 0, 701, .inl ft)), (k3, .inl (cA 1, 701, .inr (.inl fv))), (oX3 p0 pr pb pe pg p1 (nI nd) p2 p3 p4 p5 (nI cn) p6 (nI pq) p7 p8 p9 (nI sc)), (p2, .inl (cA 1, 10, .inr (.inl fna))), (p6, .inl (cA 1, 8, .inr (.inl fpn))), (p7, .inl (cA 0, 350, .inl fst)), (p8, .inl (cA 0, 350, .inl fop))] sz) [(oX4 r0 r1 p0 (nI tj) (fk tj) (ft tj) (fv tj) znr zek zep), (oX5 r1 k1 k2 k3 (nI ct)), (k1, .inl (cA 0, 701, .inl fk)), (k2, .inl (cA 0, 701, .inl ft)), (k3, .inl (cA 1, 701, .inr (.inl fv))), (oX3 p0 pr pb pe pg p1 (nI nd) p2 p3 p4 p5 (nI cn) p6 (nI qm) p7 p8 p9 (nI sm)), (p2, .inl (cA 1, 10, .inr (.inl fna))), (p6, .inl (cA 1, 8, .inr (.inl zpn))), (p7, .inl (cA 0, 350, .inl zst)), (p8, .inl (cA 0, 350, .inl zop))] t) (va_A [(oX4 r0 r1 p0 (nI ti) (fk ti) (ft ti) (fv ti) inb iek iep), (oX5 r1 k1 k2 k3 (nI ct)), (k1, .inl (cA 0, 701, .inl fk)), (k2, .inl (cA 0, 701, .inl ft)), (k3, .inl (cA 1, 701, .inr (.inl fv))), (oX3 p0 pr pb pe pg p1 (nI nd) p2 p3 p4 p5 (nI cn) p6 (nI pq) p7 p8 p9 (nI sc)), (p2, .inl (cA 1, 10, .inr (.inl fna))), (p6, .inl (cA 1, 8, .inr (.inl fpn))), (p7, .inl (cA 0, 350, .inl fst)), (p8, .inl (cA 0, 350, .inl fop))] sz)) 0 0 (va_A [(oX4 r0 r1 p0 (nI ti) (fk ti) (ft ti) (fv ti) inb iek iep), (oX5 r1 k1 k2 k3 (nI ct)), (k1, .inl (cA 0, 701, .inl fk)), (k2, .inl (cA 0, 701, .inl ft)), (k3, .inl (cA 1, 701, .inr (.inl fv))), (oX3 p0 pr pb pe pg p1 (nI nd) p2 p3 p4 p5 (nI cn) p6 (nI pq) p7 p8 p9 (nI sc)), (p2, .inl (cA 1, 10, .inr (.inl fna))), (p6, .inl (cA 1, 8, .inr (.inl fpn))), (p7, .inl (cA 0, 350, .inl fst)), (p8, .inl (cA 0, 350, .inl fop))] sz) := by
  refine Met.ofW (cc := cX4_readDoneName) (maxL := 2) (ret := (some .boolean)) (by decide) rfl ?_
  intro p e s m args below meth c s₁ B hml hv
  obtain ⟨rfl, hsz, hP, hK, hD0, hC, hZ⟩ := hv
  have hx := B.exec
  have hb := B.bytes
  have hr := B.returns
  have hts := atoms_spec (ws := wsX4_readDoneName) B.pre
  have hown : s.vm.findClass RX4 = some m.cls := findClass_of_methodNamed B.named
  have hlocks := B.notSynchronized
  subst hsz
  have hD := hD0.self (sz := s.heap.size)
  generalize hAe : va_A [(oX4 r0 r1 p0 (nI ti) (fk ti) (ft ti) (fv ti) inb iek iep), (oX5 r1 k1 k2 k3 (nI ct)), (k1, .inl (cA 0, 701, .inl fk)), (k2, .inl (cA 0, 701, .inl ft)), (k3, .inl (cA 1, 701, .inr (.inl fv))), (oX3 p0 pr pb pe pg p1 (nI nd) p2 p3 p4 p5 (nI cn) p6 (nI pq) p7 p8 p9 (nI sc)), (p2, .inl (cA 1, 10, .inr (.inl fna))), (p6, .inl (cA 1, 8, .inr (.inl fpn))), (p7, .inl (cA 0, 350, .inl fst)), (p8, .inl (cA 0, 350, .inl fop))] s.heap.size = A at hD hZ ⊢
  have hA : ∀ q : Nat, s.heap.size ≤ q → A q := fun q h => by rw [← hAe]; exact Or.inr h
  have hS : va_S A s.heap s.heap [] := va_S.rf
  have hP : va_P D vwCl [(oX4 r0 r1 p0 (nI ti) (fk ti) (ft ti) (fv ti) inb iek iep), (oX5 r1 k1 k2 k3 (nI ct)), (k1, .inl (cA 0, 701, .inl fk)), (k2, .inl (cA 0, 701, .inl ft)), (k3, .inl (cA 1, 701, .inr (.inl fv))), (oX3 p0 pr pb pe pg p1 (nI nd) p2 p3 p4 p5 (nI cn) p6 (nI pq) p7 p8 p9 (nI sc)), (p2, .inl (cA 1, 10, .inr (.inl fna))), (p6, .inl (cA 1, 8, .inr (.inl fpn))), (p7, .inl (cA 0, 350, .inl fst)), (p8, .inl (cA 0, 350, .inl fop))] s.heap := hP
  have hl := lv_entry ([.ref r0]) (n := 2) (Nat.le_of_ble_eq_true rfl)
  rw [lg_entry_eq]
  generalize (lg_sl ([.ref r0]) ++ List.replicate (2 - (lg_sl ([.ref r0])).length) Slot.unset).toArray = ls at hl ⊢
  have hl : lv_has ls 2 [(0, .ref r0)] := hl
  have inX4 : ∀ w ∈ u_ws RX4 TX4 9, w ∈ wsX4_readDoneName := by decide +kernel
  have hle9 := TX.le hTX hti
  refine lv_aload_n hx hb dX4_readDoneName_0 rfl (lv_at hl 0 rfl) ?_
  refine va_get (D := D) (ci := 8) (v := .int (fk ti)) (C := RX4) (T := TX4) (N := 9) hx hb hts inX4 hown hK hP 0 rfl rfl 3 (by decide) (hts (.fieldLink RX4 42 "EscrowDesk$Reader" "kind" "I") (by decide +kernel)) (fun _ h9 => h9) rfl dX4_readDoneName_1 ?_
  refine lv_iconst (v := 4) hx hb dX4_readDoneName_4 (by decide) ?_
  refine lv_icmp_eq (tgt := 14) hx hb dX4_readDoneName_5 (by decide) (fun c1 => ?_) (fun c1 => ?_)
  · skip
    refine lv_aload_n hx hb dX4_readDoneName_14 rfl (lv_at hl 0 rfl) ?_
    refine va_get (D := D) (ci := 8) (v := .ref p0) (C := RX4) (T := TX4) (N := 9) hx hb hts inX4 hown hK hP 0 rfl rfl 1 (by decide) (hts (.fieldLink RX4 25 "EscrowDesk$Reader" "plan" "LEscrowDesk$Plan;") (by decide +kernel)) (fun _ h9 => h9) rfl dX4_readDoneName_15 ?_
    refine lv_aload_n hx hb dX4_readDoneName_18 rfl (lv_at hl 0 rfl) ?_
    refine va_get (D := D) (ci := 8) (v := .long (fv ti)) (C := RX4) (T := TX4) (N := 9) hx hb hts inX4 hown hK hP 0 rfl rfl 5 (by decide) (hts (.fieldLink RX4 87 "EscrowDesk$Reader" "value" "J") (by decide +kernel)) (fun _ h9 => h9) rfl dX4_readDoneName_19 ?_
    obtain ⟨hPc, hDc, hFc⟩ := PDq.cut (wc := [(oX3 p0 pr pb pe pg p1 (nI nd) p2 p3 p4 p5 (nI cn) p6 (nI pq) p7 p8 p9 (nI sc)), (p2, .inl (cA 1, 10, .inr (.inl fna)))]) hP hD hS hA [5, 6] (by decide) rfl
    refine va_calli (va_runV (As := [.long (fv ti)]) (rest := []) ⟨hx, hb, hml, hown, hts⟩ (x_milNamed l D cA sa p0 p1 p2 p3 p4 p5 p6 p7 p8 p9 cn pq nd sc pr pb pe pg (fv ti) fna s.heap.size hcn hpq hnd hsc) (cwV 1 hts gX4_readDoneName_X3_milestoneNamed rfl rfl rfl (by decide +kernel) ⟨(Nat.le_of_ble_eq_true rfl), (Nat.le_of_ble_eq_true rfl)⟩) ⟨Wd.blind, va_recv hK hPc (ci := 7) (q0 := 0) rfl rfl, fun U hU hW => ⟨rfl, Wd.call hPc hDc hK hC hZ hS hFc U hU hW⟩⟩ rfl rfl hl.1 rfl (lv_room (Nat.le_of_ble_eq_true rfl)) dX4_readDoneName_22 ⟨(Nat.le_of_ble_eq_true rfl), (Nat.le_of_ble_eq_true rfl)⟩) hS (fun q _ h => hFc q h) hFc (fun rn2 u t H1 locs ht hvm hw hB hz1 hk1 hS => ?_)
    obtain ⟨hP1, hD1⟩ := hB
    rw [ht] at hP1
    obtain ⟨hP, hD⟩ := PDq.join (w := [(oX4 r0 r1 p0 (nI ti) (fk ti) (ft ti) (fv ti) inb iek iep), (oX5 r1 k1 k2 k3 (nI ct)), (k1, .inl (cA 0, 701, .inl fk)), (k2, .inl (cA 0, 701, .inl ft)), (k3, .inl (cA 1, 701, .inr (.inl fv))), (p6, .inl (cA 1, 8, .inr (.inl fpn))), (p7, .inl (cA 0, 350, .inl fst)), (p8, .inl (cA 0, 350, .inl fop)), (oX3 p0 pr pb pe pg p1 (nI nd) p2 p3 p4 p5 (nI cn) p6 (nI pq) p7 p8 p9 (nI sc)), (p2, .inl (cA 1, 10, .inr (.inl fna)))]) 8 hP hD [5, 6] [0, 1, 2, 3, 4, 7, 8, 9] rfl rfl (by decide) (by decide +kernel) hk1 hFc hP1 hD1 rfl
    generalize H1 = H at hP hS ⊢
    rcases hw with ⟨hr9, hn3⟩ | ⟨kn4, hn5, hr9, hn3⟩
    · skip
      subst hr9
      have hn3 := NL.not hNM hn3
      refine lv_istore_n (lv' := [(1, .int (-1)), (0, .ref r0)]) hx hb dX4_readDoneName_25 rfl hl (by decide) rfl (fun ls hl => ?_)
      refine lv_iload_n hx hb dX4_readDoneName_26 rfl (lv_at hl 0 rfl) ?_
      refine lv_iconst (v := (-1)) hx hb dX4_readDoneName_27 (by decide) ?_
      refine lv_icmp_ne (tgt := 37) hx hb dX4_readDoneName_28 (by decide) (fun c9 => absurd c9 (by decide)) (fun c6 => ?_)
      refine lv_aload_n hx hb dX4_readDoneName_31 rfl (lv_at hl 1 rfl) ?_
      refine lv_iconst (v := 4) hx hb dX4_readDoneName_32 (by decide) ?_
      obtain ⟨hPc, hDc, hFc⟩ := PDq.cut (wc := [(oX4 r0 r1 p0 (nI ti) (fk ti) (ft ti) (fv ti) inb iek iep)]) hP hD hS hA [0] (by decide) rfl
      refine va_calli (va_runV (As := [.int 4]) (rest := []) ⟨hx, hb, hml, hown, hts⟩ (x_fail l D cA sa r0 r1 p0 (nI ti) (fk ti) (ft ti) inb iek iep (fv ti) 4 H.size) (cwV 1 hts gX4_readDoneName_X4_fail rfl rfl rfl (by decide +kernel) ⟨(Nat.le_of_ble_eq_true rfl), (Nat.le_of_ble_eq_true rfl)⟩) ⟨Wd.blind, va_recv hK hPc (ci := 8) (q0 := 0) rfl rfl, fun U hU hW => ⟨rfl, Wd.call hPc hDc hK hC hZ hS hFc U hU hW⟩⟩ rfl rfl hl.1 rfl (lv_room (Nat.le_of_ble_eq_true rfl)) dX4_readDoneName_33 ⟨(Nat.le_of_ble_eq_true rfl), (Nat.le_of_ble_eq_true rfl)⟩) hS (fun q _ h => hFc q h) hFc (fun rn7 u t H1 locs ht hvm hw hB hz1 hk1 hS => ?_)
      obtain ⟨zn8, hn9, hP1, hD1⟩ := hB
      rw [ht] at hP1
      obtain ⟨hP, hD⟩ := PDq.join (w := [(oX5 r1 k1 k2 k3 (nI ct)), (k1, .inl (cA 0, 701, .inl fk)), (k2, .inl (cA 0, 701, .inl ft)), (k3, .inl (cA 1, 701, .inr (.inl fv))), (p6, .inl (cA 1, 8, .inr (.inl fpn))), (p7, .inl (cA 0, 350, .inl fst)), (p8, .inl (cA 0, 350, .inl fop)), (oX3 p0 pr pb pe pg p1 (nI nd) p2 p3 p4 p5 (nI cn) p6 (nI pq) p7 p8 p9 (nI sc)), (p2, .inl (cA 1, 10, .inr (.inl fna))), (oX4 r0 r1 p0 (nI ti) (fk ti) (ft ti) (fv ti) inb zn8 (ft ti))]) 9 hP hD [0] [1, 2, 3, 4, 5, 6, 7, 8, 9] rfl rfl (by decide +kernel) (by decide +kernel) hk1 hFc hP1 hD1 rfl
      generalize H1 = H at hP hS ⊢
      obtain rfl : rn7 = 0 := hw
      obtain ⟨hP9, hD9⟩ := PDq.sub (ws' := [(oX4 r0 r1 p0 (nI ti) (fk ti) (ft ti) (fv ti) inb zn8 (ft ti)), (oX5 r1 k1 k2 k3 (nI ct)), (k1, .inl (cA 0, 701, .inl fk)), (k2, .inl (cA 0, 701, .inl ft)), (k3, .inl (cA 1, 701, .inr (.inl fv))), (oX3 p0 pr pb pe pg p1 (nI nd) p2 p3 p4 p5 (nI cn) p6 (nI pq) p7 p8 p9 (nI sc)), (p2, .inl (cA 1, 10, .inr (.inl fna))), (p6, .inl (cA 1, 8, .inr (.inl fpn))), (p7, .inl (cA 0, 350, .inl fst)), (p8, .inl (cA 0, 350, .inl fop))]) hP hD [9, 0, 1, 2, 3, 7, 8, 4, 5, 6] (by decide +kernel) rfl
      refine W.widen (k := 0) (n := 0) (Nat.le_of_ble_eq_true rfl) (Nat.le_of_ble_eq_true rfl) ?_
      exact (W.zret (v := 0) hx hb hr (by first | rfl | decide) (fun t ht hW => ⟨⟨0, 0, rfl, ⟨rfl, by decide⟩, ti, pq, sc, inb, zn8, (ft ti), fpn, fst, fop, pl, hti, (by omega), (by omega), hpq, hsc, hNP, (fun h9 => absurd h9 (by decide)), (fun h9 => absurd h9 (by decide)), (fun h9 => absurd h9 (by decide)), (fun h9 => absurd h9 (by decide)), (fun h9 => absurd h9 (by decide)), (fun h9 => absurd h9 (by decide)), (fun _ => ⟨4, hn9, Or.inr ⟨c1, hn3, rfl⟩⟩), (fun _ => rfl), by rw [ht]; exact hP9, hD9⟩, hS.F ht⟩) hS.2.2 dX4_readDoneName_36)
    · skip
      subst hr9
      have hn3 := NL.mem hNM hn5 hn3
      refine lv_istore_n (lv' := [(1, .int (nI kn4)), (0, .ref r0)]) hx hb dX4_readDoneName_25 rfl hl (by decide) rfl (fun ls hl => ?_)
      refine lv_iload_n hx hb dX4_readDoneName_26 rfl (lv_at hl 0 rfl) ?_
      refine lv_iconst (v := (-1)) hx hb dX4_readDoneName_27 (by decide) ?_
      refine lv_icmp_ne (tgt := 37) hx hb dX4_readDoneName_28 (by decide) (fun c10 => ?_) (fun c9 => absurd c9 (nI_neg (n := kn4) (by omega) (by decide)))
      have hn11 := TX.go hTX (show ti < ct by omega) (by rw [c1]; decide)
      have hn11a := hn11.2.1
      have hn11b := hn11.2.2
      have hn11c := hn11.1
      refine lv_aload_n hx hb dX4_readDoneName_37 rfl (lv_at hl 1 rfl) ?_
      refine lv_aload_n hx hb dX4_readDoneName_38 rfl (lv_at hl 1 rfl) ?_
      refine va_get (D := D) (ci := 8) (v := .int (nI ti)) (C := RX4) (T := TX4) (N := 9) hx hb hts inX4 hown hK hP 0 rfl rfl 2 (by decide) (hts (.fieldLink RX4 70 "EscrowDesk$Reader" "token" "I") (by decide +kernel)) (fun _ h9 => h9) rfl dX4_readDoneName_39 ?_
      refine lv_iconst (v := 1) hx hb dX4_readDoneName_42 (by decide) ?_
      refine lv_iadd hx hb dX4_readDoneName_43 ?_
      refine lv_topi (fun yn12 eyn12 => ?_)
      obtain rfl : yn12 = (nI (ti + 1)) := eyn12.trans (nI_add ti 1)
      obtain ⟨hPc, hDc, hFc⟩ := PDq.cut (wc := [(oX4 r0 r1 p0 (nI ti) (fk ti) (ft ti) (fv ti) inb iek iep), (oX5 r1 k1 k2 k3 (nI ct)), (k1, .inl (cA 0, 701, .inl fk)), (k2, .inl (cA 0, 701, .inl ft)), (k3, .inl (cA 1, 701, .inr (.inl fv)))]) hP hD hS hA [0, 1, 2, 3, 4] (by decide) rfl
      refine va_callv (va_runV (As := [.int (nI (ti + 1))]) (rest := []) ⟨hx, hb, hml, hown, hts⟩ (x_lookAt l D cA sa r0 p0 (ti + 1) (nI ti) (fk ti) (ft ti) inb iek iep (fv ti) r1 k1 k2 k3 ct fk ft fv H.size hct hn11.1) (cwV 1 hts gX4_readDoneName_X4_lookAt rfl rfl rfl (by decide +kernel) ⟨(Nat.le_of_ble_eq_true rfl), (Nat.le_of_ble_eq_true rfl)⟩) ⟨Wd.blind, va_recv hK hPc (ci := 8) (q0 := 0) rfl rfl, fun U hU hW => ⟨rfl, Wd.call hPc hDc hK hC hZ hS hFc U hU hW⟩⟩ rfl rfl hl.1 rfl (lv_room (Nat.le_of_ble_eq_true rfl)) dX4_readDoneName_44 ⟨(Nat.le_of_ble_eq_true rfl), (Nat.le_of_ble_eq_true rfl)⟩) hS (fun q _ h => hFc q h) hFc (fun u t H1 locs ht hvm hw hB hz1 hk1 hS => ?_)
      obtain ⟨hP1, hD1⟩ := hB
      rw [ht] at hP1
      obtain ⟨hP, hD⟩ := PDq.join (w := [(p6, .inl (cA 1, 8, .inr (.inl fpn))), (p7, .inl (cA 0, 350, .inl fst)), (p8, .inl (cA 0, 350, .inl fop)), (oX3 p0 pr pb pe pg p1 (nI nd) p2 p3 p4 p5 (nI cn) p6 (nI pq) p7 p8 p9 (nI sc)), (p2, .inl (cA 1, 10, .inr (.inl fna))), (oX4 r0 r1 p0 (nI (ti + 1)) (fk (ti + 1)) (ft (ti + 1)) (fv (ti + 1)) inb iek iep), (oX5 r1 k1 k2 k3 (nI ct)), (k1, .inl (cA 0, 701, .inl fk)), (k2, .inl (cA 0, 701, .inl ft)), (k3, .inl (cA 1, 701, .inr (.inl fv)))]) 5 hP hD [0, 1, 2, 3, 4] [5, 6, 7, 8, 9] rfl rfl (by decide) (by decide +kernel) hk1 hFc hP1 hD1 rfl
      generalize H1 = H at hP hS ⊢
      refine lv_aload_n hx hb dX4_readDoneName_47 rfl (lv_at hl 1 rfl) ?_
      refine va_get (D := D) (ci := 8) (v := .ref p0) (C := RX4) (T := TX4) (N := 9) hx hb hts inX4 hown hK hP 5 rfl rfl 1 (by decide) (hts (.fieldLink RX4 25 "EscrowDesk$Reader" "plan" "LEscrowDesk$Plan;") (by decide +kernel)) (fun _ h9 => h9) rfl dX4_readDoneName_48 ?_
      refine lv_bipush (v := 19) hx hb dX4_readDoneName_51 (by decide) ?_
      refine lv_iload_n hx hb dX4_readDoneName_53 rfl (lv_at hl 0 rfl) ?_
      obtain ⟨hPc, hDc, hFc⟩ := PDq.cut (wc := [(oX3 p0 pr pb pe pg p1 (nI nd) p2 p3 p4 p5 (nI cn) p6 (nI pq) p7 p8 p9 (nI sc)), (p7, .inl (cA 0, 350, .inl fst)), (p8, .inl (cA 0, 350, .inl fop))]) hP hD hS hA [3, 1, 2] (by decide) rfl
      refine va_calli (va_runV (As := [.int 19, .int (nI kn4)]) (rest := []) ⟨hx, hb, hml, hown, hts⟩ (x_addStep l D cA sa p0 p1 p2 p3 p4 p5 p6 p7 p8 p9 cn pq nd sc pr pb pe pg 19 (nI kn4) fst fop H.size (by omega)) (cwV 2 hts gX4_readDoneName_X3_addStep rfl rfl rfl (by decide +kernel) ⟨(Nat.le_of_ble_eq_true rfl), (Nat.le_of_ble_eq_true rfl)⟩) ⟨Wd.blind, va_recv hK hPc (ci := 7) (q0 := 0) rfl rfl, fun U hU hW => ⟨rfl, Wd.call hPc hDc hK hC hZ hS hFc U hU hW⟩⟩ rfl rfl hl.1 rfl (lv_room (Nat.le_of_ble_eq_true rfl)) dX4_readDoneName_54 ⟨(Nat.le_of_ble_eq_true rfl), (Nat.le_of_ble_eq_true rfl)⟩) hS (fun q _ h => hFc q h) hFc (fun rn13 u t H1 locs ht hvm hw hB hz1 hk1 hS => ?_)
      obtain ⟨fn14, fn15, hP1, hD1⟩ := hB
      rw [ht] at hP1
      obtain ⟨hP, hD⟩ := PDq.join (w := [(p6, .inl (cA 1, 8, .inr (.inl fpn))), (p2, .inl (cA 1, 10, .inr (.inl fna))), (oX4 r0 r1 p0 (nI (ti + 1)) (fk (ti + 1)) (ft (ti + 1)) (fv (ti + 1)) inb iek iep), (oX5 r1 k1 k2 k3 (nI ct)), (k1, .inl (cA 0, 701, .inl fk)), (k2, .inl (cA 0, 701, .inl ft)), (k3, .inl (cA 1, 701, .inr (.inl fv))), (oX3 p0 pr pb pe pg p1 (nI nd) p2 p3 p4 p5 (nI cn) p6 (nI pq) p7 p8 p9 (nI (sc + 1))), (p7, .inl (cA 0, 350, .inl fn14)), (p8, .inl (cA 0, 350, .inl fn15))]) 7 hP hD [3, 1, 2] [0, 4, 5, 6, 7, 8, 9] rfl rfl (by decide) (by decide +kernel) hk1 hFc hP1 hD1 rfl
      generalize H1 = H at hP hS ⊢
      obtain rfl : rn13 = 1 := hw
      obtain ⟨hP9, hD9⟩ := PDq.sub (ws' := [(oX4 r0 r1 p0 (nI (ti + 1)) (fk (ti + 1)) (ft (ti + 1)) (fv (ti + 1)) inb iek iep), (oX5 r1 k1 k2 k3 (nI ct)), (k1, .inl (cA 0, 701, .inl fk)), (k2, .inl (cA 0, 701, .inl ft)), (k3, .inl (cA 1, 701, .inr (.inl fv))), (oX3 p0 pr pb pe pg p1 (nI nd) p2 p3 p4 p5 (nI cn) p6 (nI pq) p7 p8 p9 (nI (sc + 1))), (p2, .inl (cA 1, 10, .inr (.inl fna))), (p6, .inl (cA 1, 8, .inr (.inl fpn))), (p7, .inl (cA 0, 350, .inl fn14)), (p8, .inl (cA 0, 350, .inl fn15))]) hP hD [2, 3, 4, 5, 6, 7, 1, 0, 8, 9] (by decide +kernel) rfl
      refine W.widen (k := 0) (n := 0) (Nat.le_of_ble_eq_true rfl) (Nat.le_of_ble_eq_true rfl) ?_
      exact (W.zret (v := 1) hx hb hr (by first | rfl | decide) (fun t ht hW => ⟨⟨1, 1, rfl, ⟨rfl, by decide⟩, (ti + 1), pq, (sc + 1), inb, iek, iep, fpn, fn14, fn15, pl, hn11.1, (by omega), (by omega), hpq, (by omega), hNP, (fun _ => rfl), (fun _ => rfl), (fun _ => rfl), (fun _ => (by omega)), (fun _ => rfl), (fun _ => ⟨c1, hn3⟩), (fun h9 => absurd h9 (by decide)), (fun h9 => absurd h9 (by decide)), by rw [ht]; exact hP9, hD9⟩, hS.F ht⟩) hS.2.2 dX4_readDoneName_57)
  · skip
    refine lv_aload_n hx hb dX4_readDoneName_8 rfl (lv_at hl 0 rfl) ?_
    refine lv_iconst (v := 2) hx hb dX4_readDoneName_9 (by decide) ?_
    obtain ⟨hPc, hDc, hFc⟩ := PDq.cut (wc := [(oX4 r0 r1 p0 (nI ti) (fk ti) (ft ti) (fv ti) inb iek iep)]) hP hD hS hA [0] (by decide) rfl
    refine va_calli (va_runV (As := [.int 2]) (rest := []) ⟨hx, hb, hml, hown, hts⟩ (x_fail l D cA sa r0 r1 p0 (nI ti) (fk ti) (ft ti) inb iek iep (fv ti) 2 s.heap.size) (cwV 1 hts gX4_readDoneName_X4_fail rfl rfl rfl (by decide +kernel) ⟨(Nat.le_of_ble_eq_true rfl), (Nat.le_of_ble_eq_true rfl)⟩) ⟨Wd.blind, va_recv hK hPc (ci := 8) (q0 := 0) rfl rfl, fun U hU hW => ⟨rfl, Wd.call hPc hDc hK hC hZ hS hFc U hU hW⟩⟩ rfl rfl hl.1 rfl (lv_room (Nat.le_of_ble_eq_true rfl)) dX4_readDoneName_10 ⟨(Nat.le_of_ble_eq_true rfl), (Nat.le_of_ble_eq_true rfl)⟩) hS (fun q _ h => hFc q h) hFc (fun rn16 u t H1 locs ht hvm hw hB hz1 hk1 hS => ?_)
    obtain ⟨zn17, hn18, hP1, hD1⟩ := hB
    rw [ht] at hP1
    obtain ⟨hP, hD⟩ := PDq.join (w := [(oX5 r1 k1 k2 k3 (nI ct)), (k1, .inl (cA 0, 701, .inl fk)), (k2, .inl (cA 0, 701, .inl ft)), (k3, .inl (cA 1, 701, .inr (.inl fv))), (oX3 p0 pr pb pe pg p1 (nI nd) p2 p3 p4 p5 (nI cn) p6 (nI pq) p7 p8 p9 (nI sc)), (p2, .inl (cA 1, 10, .inr (.inl fna))), (p6, .inl (cA 1, 8, .inr (.inl fpn))), (p7, .inl (cA 0, 350, .inl fst)), (p8, .inl (cA 0, 350, .inl fop)), (oX4 r0 r1 p0 (nI ti) (fk ti) (ft ti) (fv ti) inb zn17 (ft ti))]) 9 hP hD [0] [1, 2, 3, 4, 5, 6, 7, 8, 9] rfl rfl (by decide +kernel) (by decide +kernel) hk1 hFc hP1 hD1 rfl
    generalize H1 = H at hP hS ⊢
    obtain rfl : rn16 = 0 := hw
    obtain ⟨hP9, hD9⟩ := PDq.sub (ws' := [(oX4 r0 r1 p0 (nI ti) (fk ti) (ft ti) (fv ti) inb zn17 (ft ti)), (oX5 r1 k1 k2 k3 (nI ct)), (k1, .inl (cA 0, 701, .inl fk)), (k2, .inl (cA 0, 701, .inl ft)), (k3, .inl (cA 1, 701, .inr (.inl fv))), (oX3 p0 pr pb pe pg p1 (nI nd) p2 p3 p4 p5 (nI cn) p6 (nI pq) p7 p8 p9 (nI sc)), (p2, .inl (cA 1, 10, .inr (.inl fna))), (p6, .inl (cA 1, 8, .inr (.inl fpn))), (p7, .inl (cA 0, 350, .inl fst)), (p8, .inl (cA 0, 350, .inl fop))]) hP hD [9, 0, 1, 2, 3, 4, 5, 6, 7, 8] (by decide +kernel) rfl
    refine W.widen (k := 0) (n := 0) (Nat.le_of_ble_eq_true rfl) (Nat.le_of_ble_eq_true rfl) ?_
    exact (W.zret (v := 0) hx hb hr (by first | rfl | decide) (fun t ht hW => ⟨⟨0, 0, rfl, ⟨rfl, by decide⟩, ti, pq, sc, inb, zn17, (ft ti), fpn, fst, fop, pl, hti, (by omega), (by omega), hpq, hsc, hNP, (fun h9 => absurd h9 (by decide)), (fun h9 => absurd h9 (by decide)), (fun h9 => absurd h9 (by decide)), (fun h9 => absurd h9 (by decide)), (fun h9 => absurd h9 (by decide)), (fun h9 => absurd h9 (by decide)), (fun _ => ⟨2, hn18, Or.inl ⟨c1, rfl⟩⟩), (fun _ => rfl), by rw [ht]; exact hP9, hD9⟩, hS.F ht⟩) hS.2.2 dX4_readDoneName_13)

set_option maxHeartbeats 4000000 in
set_option maxRecDepth 100000 in
/-- readFact -/
theorem x_readFact_B_look (l : Launch) (D : va_G) (cA : Nat → ClassId) (sa : Nat → Nat) (r0 : Nat) (p0 : Nat) (ti : Nat) (ln : Nat) (inb : Int32) (iek : Int32) (iep : Int32) (r1 : Nat) (k1 : Nat) (k2 : Nat) (k3 : Nat) (ct : Nat) (fk : Nat → Int32) (ft : Nat → Int32) (fv : Nat → Int64) (fb : Nat → Int32) (gP : Nat → Nat) (gR : Nat → Nat) (p1 : Nat) (p2 : Nat) (p3 : Nat) (p4 : Nat) (p5 : Nat) (p6 : Nat) (p7 : Nat) (p8 : Nat) (p9 : Nat) (cn : Nat) (pq : Nat) (nd : Nat) (sc : Nat) (pr : Int32) (pb : Int32) (pe : Int32) (pg : Int32) (fna : Nat → Int64) (fpn : Nat → Int64) (fst : Nat → Int32) (fop : Nat → Int32) (ml : List Int64) (pl : List Int64) (sl : Nat) (o9 : Nat) (sz : Nat) (hct : ct ≤ 701) (hln : ln ≤ 700) (hti : ti < ct) (hTX : TX fb ln ct gP gR ft fv fk) (hcn : cn ≤ 10) (hpq : pq ≤ 8) (hnd : nd ≤ 6) (hsc : sc ≤ 350) (hNM : NL ml cn fna) (hNP : NL pl pq fpn) (hsl : 2 * sc + sl ≤ gP ti) (ho : o9 = 8) : Met l yX4_readFact wsX4_readFact ({ frames := 20, cells := 0, slots := 0, locals := 320 }) (va_Pc [.ref r0, .int (nI o9)] (Wd D cA sa [(oX4 r0 r1 p0 (nI ti) (fk ti) (ft ti) (fv ti) inb iek iep), (oX5 r1 k1 k2 k3 (nI ct)), (k1, .inl (cA 0, 701, .inl fk)), (k2, .inl (cA 0, 701, .inl ft)), (k3, .inl (cA 1, 701, .inr (.inl fv))), (oX3 p0 pr pb pe pg p1 (nI nd) p2 p3 p4 p5 (nI cn) p6 (nI pq) p7 p8 p9 (nI sc)), (p2, .inl (cA 1, 10, .inr (.inl fna))), (p6, .inl (cA 1, 8, .inr (.inl fpn))), (p7, .inl (cA 0, 350, .inl fst)), (p8, .inl (cA 0, 350, .inl fop))] sz)) (va_Qi (fun (r : Int32) (u9 : Int32) => u9 = r ∧ (r = 0 ∨ r = 1)) (fun (u9 : Int32) t => ∃ tj : Nat, ∃ qm : Nat, ∃ sm : Nat, ∃ znr : Int32, ∃ zek : Int32, ∃ zep : Int32, ∃ zpn : Nat → Int64, ∃ zst : Nat → Int32, ∃ zop : Nat → Int32, ∃ zpl : List Int64, tj < ct ∧ gP tj ≤ ln ∧ ti ≤ tj ∧ qm ≤ 8 ∧ sm ≤ 350 ∧ NL zpl qm zpn ∧ (u9 = 1 → zek = iek) ∧ (u9 = 1 → zep = iep) ∧ (u9 = 1 → 2 * sm + sl ≤ gP tj) ∧ (u9 = 1 → ti + 1 ≤ tj) ∧ (u9 = 1 → PRx fk ft fv ml 0 o9 ti pl (.inr (tj, zpl))) ∧ (u9 = 0 → PRx fk ft fv ml 0 o9 ti pl (.inl (zek, zep))) ∧ Wq D (va_A [(oX4 r0 r1 p0 (nI ti) (fk ti) (ft ti) (fv ti) inb iek iep), (oX5 r1 k1 k2 k3 (nI ct)), (k1, .inl (cA 0, 701, .inl fk)), (k2, .inl (cA 0, 701, .inl ft)), (k3, .inl (cA 1, 701, .inr (.inl fv))), (oX3 p0 pr pb pe pg p1 (nI nd) p2 p3 p4 p5 (nI cn) p6 (nI pq) p7 p8 p9 (nI sc)), (p2, .inl (cA 1, 10, .inr (.inl fna))), (p6, .inl (cA 1, 8, .inr (.inl fpn))), (p7, .inl (cA 0, 350, .inl fst)), (p8, .inl (cA 0, 350, .inl fop))] sz) [(oX4 r0 r1 p0 (nI tj) (fk tj) (ft tj) (fv tj) znr zek zep), (oX5 r1 k1 k2 k3 (nI ct)), (k1, .inl (cA 0, 701, .inl fk)), (k2, .inl (cA 0, 701, .inl ft)), (k3, .inl (cA 1, 701, .inr (.inl fv))), (oX3 p0 pr pb pe pg p1 (nI nd) p2 p3 p4 p5 (nI cn) p6 (nI qm) p7 p8 p9 (nI sm)), (p2, .inl (cA 1, 10, .inr (.inl fna))), (p6, .inl (cA 1, 8, .inr (.inl zpn))), (p7, .inl (cA 0, 350, .inl zst)), (p8, .inl (cA 0, 350, .inl zop))] t) (va_A [(oX4 r0 r1 p0 (nI ti) (fk ti) (ft ti) (fv ti) inb iek iep), (oX5 r1 k1 k2 k3 (nI ct)), (k1, .inl (cA 0, 701, .inl fk)), (k2, .inl (cA 0, 701, .inl ft)), (k3, .inl (cA 1, 701, .inr (.inl fv))), (oX3 p0 pr pb pe pg p1 (nI nd) p2 p3 p4 p5 (nI cn) p6 (nI pq) p7 p8 p9 (nI sc)), (p2, .inl (cA 1, 10, .inr (.inl fna))), (p6, .inl (cA 1, 8, .inr (.inl fpn))), (p7, .inl (cA 0, 350, .inl fst)), (p8, .inl (cA 0, 350, .inl fop))] sz)) 0 0 (va_A [(oX4 r0 r1 p0 (nI ti) (fk ti) (ft ti) (fv ti) inb iek iep), (oX5 r1 k1 k2 k3 (nI ct)), (k1, .inl (cA 0, 701, .inl fk)), (k2, .inl (cA 0, 701, .inl ft)), (k3, .inl (cA 1, 701, .inr (.inl fv))), (oX3 p0 pr pb pe pg p1 (nI nd) p2 p3 p4 p5 (nI cn) p6 (nI pq) p7 p8 p9 (nI sc)), (p2, .inl (cA 1, 10, .inr (.inl fna))), (p6, .inl (cA 1, 8, .inr (.inl fpn))), (p7, .inl (cA 0, 350, .inl fst)), (p8, .inl (cA 0, 350, .inl fop))] sz) := by
  refine Met.ofW (cc := cX4_readFact) (maxL := 3) (ret := (some .boolean)) (by decide) rfl ?_
  intro p e s m args below meth c s₁ B hml hv
  obtain ⟨rfl, hsz, hP, hK, hD0, hC, hZ⟩ := hv
  have hx := B.exec
  have hb := B.bytes
  have hr := B.returns
  have hts := atoms_spec (ws := wsX4_readFact) B.pre
  have hown : s.vm.findClass RX4 = some m.cls := findClass_of_methodNamed B.named
  have hlocks := B.notSynchronized
  subst hsz
  have hD := hD0.self (sz := s.heap.size)
  generalize hAe : va_A [(oX4 r0 r1 p0 (nI ti) (fk ti) (ft ti) (fv ti) inb iek iep), (oX5 r1 k1 k2 k3 (nI ct)), (k1, .inl (cA 0, 701, .inl fk)), (k2, .inl (cA 0, 701, .inl ft)), (k3, .inl (cA 1, 701, .inr (.inl fv))), (oX3 p0 pr pb pe pg p1 (nI nd) p2 p3 p4 p5 (nI cn) p6 (nI pq) p7 p8 p9 (nI sc)), (p2, .inl (cA 1, 10, .inr (.inl fna))), (p6, .inl (cA 1, 8, .inr (.inl fpn))), (p7, .inl (cA 0, 350, .inl fst)), (p8, .inl (cA 0, 350, .inl fop))] s.heap.size = A at hD hZ ⊢
  have hA : ∀ q : Nat, s.heap.size ≤ q → A q := fun q h => by rw [← hAe]; exact Or.inr h
  have hS : va_S A s.heap s.heap [] := va_S.rf
  have hP : va_P D vwCl [(oX4 r0 r1 p0 (nI ti) (fk ti) (ft ti) (fv ti) inb iek iep), (oX5 r1 k1 k2 k3 (nI ct)), (k1, .inl (cA 0, 701, .inl fk)), (k2, .inl (cA 0, 701, .inl ft)), (k3, .inl (cA 1, 701, .inr (.inl fv))), (oX3 p0 pr pb pe pg p1 (nI nd) p2 p3 p4 p5 (nI cn) p6 (nI pq) p7 p8 p9 (nI sc)), (p2, .inl (cA 1, 10, .inr (.inl fna))), (p6, .inl (cA 1, 8, .inr (.inl fpn))), (p7, .inl (cA 0, 350, .inl fst)), (p8, .inl (cA 0, 350, .inl fop))] s.heap := hP
  have hl := lv_entry ([.ref r0, .int (nI o9)]) (n := 3) (Nat.le_of_ble_eq_true rfl)
  rw [lg_entry_eq]
  generalize (lg_sl ([.ref r0, .int (nI o9)]) ++ List.replicate (3 - (lg_sl ([.ref r0, .int (nI o9)])).length) Slot.unset).toArray = ls at hl ⊢
  have hl : lv_has ls 3 [(0, .ref r0), (1, .int (nI o9))] := hl
  have inX4 : ∀ w ∈ u_ws RX4 TX4 9, w ∈ wsX4_readFact := by decide +kernel
  have hle9 := TX.le hTX hti
  refine lv_aload_n hx hb dX4_readFact_0 rfl (lv_at hl 0 rfl) ?_
  refine va_get (D := D) (ci := 8) (v := .int (fk ti)) (C := RX4) (T := TX4) (N := 9) hx hb hts inX4 hown hK hP 0 rfl rfl 3 (by decide) (hts (.fieldLink RX4 42 "EscrowDesk$Reader" "kind" "I") (by decide +kernel)) (fun _ h9 => h9) rfl dX4_readFact_1 ?_
  refine lv_istore_n (lv' := [(2, .int (fk ti)), (0, .ref r0), (1, .int (nI o9))]) hx hb dX4_readFact_4 rfl hl (by decide) rfl (fun ls hl => ?_)
  refine lv_iload_n hx hb dX4_readFact_5 rfl (lv_at hl 0 rfl) ?_
  refine lv_bipush (v := 16) hx hb dX4_readFact_6 (by decide) ?_
  refine lv_icmp_eq (tgt := 16) hx hb dX4_readFact_8 (by decide) (fun c1 => ?_) (fun c1 => ?_)
  · skip
    rw [c1] at hl
    have hl : lv_has ls 3 [(2, .int 16), (0, .ref r0), (1, .int (nI o9))] := hl
    refine lv_iload_n hx hb dX4_readFact_16 rfl (lv_at hl 2 rfl) ?_
    refine lv_bipush (v := 8) hx hb dX4_readFact_17 (by decide) ?_
    refine lv_icmp_lt (tgt := 28) hx hb dX4_readFact_19 (by decide) (fun c9 => absurd c9 (nI_nlt (a := o9) (b := 8) (show 8 ≤ o9 by omega) (by omega))) (fun c2 => ?_)
    refine lv_aload_n hx hb dX4_readFact_22 rfl (lv_at hl 1 rfl) ?_
    refine lv_iconst (v := 5) hx hb dX4_readFact_23 (by decide) ?_
    obtain ⟨hPc, hDc, hFc⟩ := PDq.cut (wc := [(oX4 r0 r1 p0 (nI ti) (fk ti) (ft ti) (fv ti) inb iek iep)]) hP hD hS hA [0] (by decide) rfl
    refine va_calli (va_runV (As := [.int 5]) (rest := []) ⟨hx, hb, hml, hown, hts⟩ (x_fail l D cA sa r0 r1 p0 (nI ti) (fk ti) (ft ti) inb iek iep (fv ti) 5 s.heap.size) (cwV 1 hts gX4_readFact_X4_fail rfl rfl rfl (by decide +kernel) ⟨by show (0) + 1 ≤ 20; omega, by show 8 + (2 + 11) + (0) ≤ 320; omega⟩) ⟨Wd.blind, va_recv hK hPc (ci := 8) (q0 := 0) rfl rfl, fun U hU hW => ⟨rfl, Wd.call hPc hDc hK hC hZ hS hFc U hU hW⟩⟩ rfl rfl hl.1 rfl (lv_room (Nat.le_of_ble_eq_true rfl)) dX4_readFact_24 ⟨(Nat.le_of_ble_eq_true rfl), (Nat.le_of_ble_eq_true rfl)⟩) hS (fun q _ h => hFc q h) hFc (fun rn3 u t H1 locs ht hvm hw hB hz1 hk1 hS => ?_)
    obtain ⟨zn4, hn5, hP1, hD1⟩ := hB
    rw [ht] at hP1
    obtain ⟨hP, hD⟩ := PDq.join (w := [(oX5 r1 k1 k2 k3 (nI ct)), (k1, .inl (cA 0, 701, .inl fk)), (k2, .inl (cA 0, 701, .inl ft)), (k3, .inl (cA 1, 701, .inr (.inl fv))), (oX3 p0 pr pb pe pg p1 (nI nd) p2 p3 p4 p5 (nI cn) p6 (nI pq) p7 p8 p9 (nI sc)), (p2, .inl (cA 1, 10, .inr (.inl fna))), (p6, .inl (cA 1, 8, .inr (.inl fpn))), (p7, .inl (cA 0, 350, .inl fst)), (p8, .inl (cA 0, 350, .inl fop)), (oX4 r0 r1 p0 (nI ti) (fk ti) (ft ti) (fv ti) inb zn4 (ft ti))]) 9 hP hD [0] [1, 2, 3, 4, 5, 6, 7, 8, 9] rfl rfl (by decide +kernel) (by decide +kernel) hk1 hFc hP1 hD1 rfl
    generalize H1 = H at hP hS ⊢
    obtain rfl : rn3 = 0 := hw
    obtain ⟨hP9, hD9⟩ := PDq.sub (ws' := [(oX4 r0 r1 p0 (nI ti) (fk ti) (ft ti) (fv ti) inb zn4 (ft ti)), (oX5 r1 k1 k2 k3 (nI ct)), (k1, .inl (cA 0, 701, .inl fk)), (k2, .inl (cA 0, 701, .inl ft)), (k3, .inl (cA 1, 701, .inr (.inl fv))), (oX3 p0 pr pb pe pg p1 (nI nd) p2 p3 p4 p5 (nI cn) p6 (nI pq) p7 p8 p9 (nI sc)), (p2, .inl (cA 1, 10, .inr (.inl fna))), (p6, .inl (cA 1, 8, .inr (.inl fpn))), (p7, .inl (cA 0, 350, .inl fst)), (p8, .inl (cA 0, 350, .inl fop))]) hP hD [9, 0, 1, 2, 3, 4, 5, 6, 7, 8] (by decide +kernel) rfl
    refine W.widen (k := 0) (n := 0) (Nat.le_of_ble_eq_true rfl) (Nat.le_of_ble_eq_true rfl) ?_
    exact (W.zret (v := 0) hx hb hr (by first | rfl | decide) (fun t ht hW => ⟨⟨0, 0, rfl, ⟨rfl, by decide⟩, ti, pq, sc, inb, zn4, (ft ti), fpn, fst, fop, pl, hti, (by omega), (by omega), hpq, hsc, hNP, (fun h9 => absurd h9 (by decide)), (fun h9 => absurd h9 (by decide)), (fun h9 => absurd h9 (by decide)), (fun h9 => absurd h9 (by decide)), (fun h9 => absurd h9 (by decide)), (fun _ => (P_manyx (Or.inl c1) (by omega) hn5 rfl)), by rw [ht]; exact hP9, hD9⟩, hS.F ht⟩) hS.2.2 dX4_readFact_27)
  · skip
    refine lv_iload_n hx hb dX4_readFact_11 rfl (lv_at hl 0 rfl) ?_
    refine lv_iconst (v := 5) hx hb dX4_readFact_12 (by decide) ?_
    refine lv_icmp_ne (tgt := 28) hx hb dX4_readFact_13 (by decide) (fun c6 => ?_) (fun c6 => ?_)
    · skip
      refine lv_iload_n hx hb dX4_readFact_28 rfl (lv_at hl 0 rfl) ?_
      obtain ⟨hPc, hDc, hFc⟩ := PDq.cut (wc := []) hP hD hS hA [] (by decide) rfl
      refine va_calli (va_runS (As := [.int (fk ti)]) (rest := []) ⟨hx, hb, hml, hown, hts⟩ (x_beginsFact l D cA sa (fk ti) s.heap.size) (va_cwS 1 hts gX4_readFact_X7_beginsFact rfl rfl rfl (by decide +kernel) ⟨by show (0) + 1 ≤ 20; omega, by show 8 + (1 + 11) + (0) ≤ 320; omega⟩) ⟨Wd.blind, fun U hU hW => ⟨rfl, Wd.call hPc hDc hK hC hZ hS hFc U hU hW⟩⟩ rfl rfl hl.1 rfl (lv_room (Nat.le_of_ble_eq_true rfl)) dX4_readFact_29 ⟨(Nat.le_of_ble_eq_true rfl), (Nat.le_of_ble_eq_true rfl)⟩) hS (fun q _ h => hFc q h) hFc (fun rn7 u t H1 locs ht hvm hw hB hz1 hk1 hS => ?_)
      obtain ⟨hP1, hD1⟩ := hB
      rw [ht] at hP1
      obtain ⟨hP, hD⟩ := PDq.join (w := [(oX4 r0 r1 p0 (nI ti) (fk ti) (ft ti) (fv ti) inb iek iep), (oX5 r1 k1 k2 k3 (nI ct)), (k1, .inl (cA 0, 701, .inl fk)), (k2, .inl (cA 0, 701, .inl ft)), (k3, .inl (cA 1, 701, .inr (.inl fv))), (oX3 p0 pr pb pe pg p1 (nI nd) p2 p3 p4 p5 (nI cn) p6 (nI pq) p7 p8 p9 (nI sc)), (p2, .inl (cA 1, 10, .inr (.inl fna))), (p6, .inl (cA 1, 8, .inr (.inl fpn))), (p7, .inl (cA 0, 350, .inl fst)), (p8, .inl (cA 0, 350, .inl fop))]) 10 hP hD [] [0, 1, 2, 3, 4, 5, 6, 7, 8, 9] rfl rfl (by decide +kernel) (by decide +kernel) hk1 hFc hP1 hD1 rfl
      generalize H1 = H at hP hS ⊢
      rcases hw with ⟨hr9, hn8⟩ | ⟨hr9, hn8⟩
      · skip
        subst hr9
        refine lv_if_ne (tgt := 41) hx hb dX4_readFact_32 (by decide) (fun c9 => ?_) (fun c9 => absurd c9 (by decide))
        have hn10 := TX.go2 hTX hti (bf8 hn8 c6)
        have hn10a := hn10.2.1
        have hn10b := hn10.2.2
        have hn10c := hn10.1
        refine lv_aload_n hx hb dX4_readFact_41 rfl (lv_at hl 1 rfl) ?_
        refine lv_aload_n hx hb dX4_readFact_42 rfl (lv_at hl 1 rfl) ?_
        refine va_get (D := D) (ci := 8) (v := .int (nI ti)) (C := RX4) (T := TX4) (N := 9) hx hb hts inX4 hown hK hP 0 rfl rfl 2 (by decide) (hts (.fieldLink RX4 70 "EscrowDesk$Reader" "token" "I") (by decide +kernel)) (fun _ h9 => h9) rfl dX4_readFact_43 ?_
        refine lv_iconst (v := 1) hx hb dX4_readFact_46 (by decide) ?_
        refine lv_iadd hx hb dX4_readFact_47 ?_
        refine lv_topi (fun yn11 eyn11 => ?_)
        obtain rfl : yn11 = (nI (ti + 1)) := eyn11.trans (nI_add ti 1)
        obtain ⟨hPc, hDc, hFc⟩ := PDq.cut (wc := [(oX4 r0 r1 p0 (nI ti) (fk ti) (ft ti) (fv ti) inb iek iep), (oX5 r1 k1 k2 k3 (nI ct)), (k1, .inl (cA 0, 701, .inl fk)), (k2, .inl (cA 0, 701, .inl ft)), (k3, .inl (cA 1, 701, .inr (.inl fv)))]) hP hD hS hA [0, 1, 2, 3, 4] (by decide) rfl
        refine va_callv (va_runV (As := [.int (nI (ti + 1))]) (rest := []) ⟨hx, hb, hml, hown, hts⟩ (x_lookAt l D cA sa r0 p0 (ti + 1) (nI ti) (fk ti) (ft ti) inb iek iep (fv ti) r1 k1 k2 k3 ct fk ft fv H.size hct hn10.1) (cwV 1 hts gX4_readFact_X4_lookAt rfl rfl rfl (by decide +kernel) ⟨by show (0) + 1 ≤ 20; omega, by show 8 + (2 + 11) + (0) ≤ 320; omega⟩) ⟨Wd.blind, va_recv hK hPc (ci := 8) (q0 := 0) rfl rfl, fun U hU hW => ⟨rfl, Wd.call hPc hDc hK hC hZ hS hFc U hU hW⟩⟩ rfl rfl hl.1 rfl (lv_room (Nat.le_of_ble_eq_true rfl)) dX4_readFact_48 ⟨(Nat.le_of_ble_eq_true rfl), (Nat.le_of_ble_eq_true rfl)⟩) hS (fun q _ h => hFc q h) hFc (fun u t H1 locs ht hvm hw hB hz1 hk1 hS => ?_)
        obtain ⟨hP1, hD1⟩ := hB
        rw [ht] at hP1
        obtain ⟨hP, hD⟩ := PDq.join (w := [(oX3 p0 pr pb pe pg p1 (nI nd) p2 p3 p4 p5 (nI cn) p6 (nI pq) p7 p8 p9 (nI sc)), (p2, .inl (cA 1, 10, .inr (.inl fna))), (p6, .inl (cA 1, 8, .inr (.inl fpn))), (p7, .inl (cA 0, 350, .inl fst)), (p8, .inl (cA 0, 350, .inl fop)), (oX4 r0 r1 p0 (nI (ti + 1)) (fk (ti + 1)) (ft (ti + 1)) (fv (ti + 1)) inb iek iep), (oX5 r1 k1 k2 k3 (nI ct)), (k1, .inl (cA 0, 701, .inl fk)), (k2, .inl (cA 0, 701, .inl ft)), (k3, .inl (cA 1, 701, .inr (.inl fv)))]) 5 hP hD [0, 1, 2, 3, 4] [5, 6, 7, 8, 9] rfl rfl (by decide) (by decide +kernel) hk1 hFc hP1 hD1 rfl
        generalize H1 = H at hP hS ⊢
        refine lv_iload_n hx hb dX4_readFact_51 rfl (lv_at hl 0 rfl) ?_
        by_cases hn12 : (fk ti) = 5
        · skip
          exact absurd hn12 c6
        · skip
          by_cases hn13 : (fk ti) = 6
          · skip
            exact absurd hn13 (fun z9 => absurd hn8 (by rw [z9]; decide))
          · skip
            by_cases hn14 : (fk ti) = 7
            · skip
              exact absurd hn14 (fun z9 => absurd hn8 (by rw [z9]; decide))
            · skip
              by_cases hn15 : (fk ti) = 8
              · skip
                exact absurd hn15 (fun z9 => absurd hn8 (by rw [z9]; decide))
              · skip
                by_cases hn16 : (fk ti) = 9
                · skip
                  exact absurd hn16 (fun z9 => absurd hn8 (by rw [z9]; decide))
                · skip
                  by_cases hn17 : (fk ti) = 10
                  · skip
                    exact absurd hn17 (fun z9 => absurd hn8 (by rw [z9]; decide))
                  · skip
                    by_cases hn18 : (fk ti) = 11
                    · skip
                      exact absurd hn18 (fun z9 => absurd hn8 (by rw [z9]; decide))
                    · skip
                      by_cases hn19 : (fk ti) = 12
                      · skip
                        exact absurd hn19 (fun z9 => absurd hn8 (by rw [z9]; decide))
                      · skip
                        by_cases hn20 : (fk ti) = 13
                        · skip
                          exact absurd hn20 (fun z9 => absurd hn8 (by rw [z9]; decide))
                        · skip
                          by_cases hn21 : (fk ti) = 14
                          · skip
                            exact absurd hn21 (fun z9 => absurd hn8 (by rw [z9]; decide))
                          · skip
                            by_cases hn22 : (fk ti) = 15
                            · skip
                              exact absurd hn22 (fun z9 => absurd hn8 (by rw [z9]; decide))
                            · skip
                              by_cases hn23 : (fk ti) = 16
                              · skip
                                exact absurd hn23 c1
                              · skip
                                by_cases hn24 : (fk ti) = 17
                                · skip
                                  refine W.eq (g2 := F0 m 52 ls [.int 17]) (by rw [hn24]) ?_
                                  refine lv_tableIn (off := 133) (tgt := 185) hx hb dX4_readFact_52 (by decide) (by decide) (by decide) (by decide) ?_
                                  refine lv_aload_n hx hb dX4_readFact_185 rfl (lv_at hl 1 rfl) ?_
                                  refine lv_iconst (v := 0) hx hb dX4_readFact_186 (by decide) ?_
                                  refine lv_sipush (v := 999) hx hb dX4_readFact_187 (by decide) ?_
                                  obtain ⟨hPc, hDc, hFc⟩ := PDq.cut (wc := [(oX4 r0 r1 p0 (nI (ti + 1)) (fk (ti + 1)) (ft (ti + 1)) (fv (ti + 1)) inb iek iep), (oX5 r1 k1 k2 k3 (nI ct)), (k1, .inl (cA 0, 701, .inl fk)), (k2, .inl (cA 0, 701, .inl ft)), (k3, .inl (cA 1, 701, .inr (.inl fv)))]) hP hD hS hA [5, 6, 7, 8, 9] (by decide) rfl
                                  refine va_calli (va_runV (As := [.int 0, .int 999]) (rest := []) ⟨hx, hb, hml, hown, hts⟩ (x_takeNumber l D cA sa r0 p0 (ti + 1) ln inb iek iep r1 k1 k2 k3 ct fk ft fv fb gP gR 0 999 H.size hct hln hn10.1 hTX (by omega) (by omega)) (cwV 2 hts gX4_readFact_X4_takeNumber rfl rfl rfl (by decide +kernel) ⟨by show (1) + 1 ≤ 20; omega, by show 8 + (3 + 11) + (21) ≤ 320; omega⟩) ⟨Wd.blind, va_recv hK hPc (ci := 8) (q0 := 0) rfl rfl, fun U hU hW => ⟨rfl, Wd.call hPc hDc hK hC hZ hS hFc U hU hW⟩⟩ rfl rfl hl.1 rfl (lv_room (Nat.le_of_ble_eq_true rfl)) dX4_readFact_190 ⟨(Nat.le_of_ble_eq_true rfl), (Nat.le_of_ble_eq_true rfl)⟩) hS (fun q _ h => hFc q h) hFc (fun rn25 u t H1 locs ht hvm hw hB hz1 hk1 hS => ?_)
                                  obtain ⟨qn26, zn27, zn28, zn29, hn30, hn31, hn32, hn33, hn34, hn35, hn36, hn37, hn38, hn39, hP1, hD1⟩ := hB
                                  rw [ht] at hP1
                                  obtain ⟨hP, hD⟩ := PDq.join (w := [(oX3 p0 pr pb pe pg p1 (nI nd) p2 p3 p4 p5 (nI cn) p6 (nI pq) p7 p8 p9 (nI sc)), (p2, .inl (cA 1, 10, .inr (.inl fna))), (p6, .inl (cA 1, 8, .inr (.inl fpn))), (p7, .inl (cA 0, 350, .inl fst)), (p8, .inl (cA 0, 350, .inl fop)), (oX4 r0 r1 p0 (nI qn26) (fk qn26) (ft qn26) (fv qn26) zn27 zn28 zn29), (oX5 r1 k1 k2 k3 (nI ct)), (k1, .inl (cA 0, 701, .inl fk)), (k2, .inl (cA 0, 701, .inl ft)), (k3, .inl (cA 1, 701, .inr (.inl fv)))]) 5 hP hD [5, 6, 7, 8, 9] [0, 1, 2, 3, 4] rfl rfl (by decide) (by decide +kernel) hk1 hFc hP1 hD1 rfl
                                  generalize H1 = H at hP hS ⊢
                                  rcases hw.2 with hr9 | hr9
                                  · skip
                                    have hn38 := hn38 (hw.1.trans hr9)
                                    have hn39 := hn39 (hw.1.trans hr9)
                                    subst hr9
                                    refine lv_if_eq (tgt := 215) hx hb dX4_readFact_193 (by decide) (fun c40 => ?_) (fun c9 => absurd c9 (by decide))
                                    refine lv_iconst (v := 0) hx hb dX4_readFact_215 (by decide) ?_
                                    obtain ⟨hP9, hD9⟩ := PDq.sub (ws' := [(oX4 r0 r1 p0 (nI qn26) (fk qn26) (ft qn26) (fv qn26) zn27 zn28 zn29), (oX5 r1 k1 k2 k3 (nI ct)), (k1, .inl (cA 0, 701, .inl fk)), (k2, .inl (cA 0, 701, .inl ft)), (k3, .inl (cA 1, 701, .inr (.inl fv))), (oX3 p0 pr pb pe pg p1 (nI nd) p2 p3 p4 p5 (nI cn) p6 (nI pq) p7 p8 p9 (nI sc)), (p2, .inl (cA 1, 10, .inr (.inl fna))), (p6, .inl (cA 1, 8, .inr (.inl fpn))), (p7, .inl (cA 0, 350, .inl fst)), (p8, .inl (cA 0, 350, .inl fop))]) hP hD [5, 6, 7, 8, 9, 0, 1, 2, 3, 4] (by decide +kernel) rfl
                                    refine W.widen (k := 0) (n := 0) (Nat.le_of_ble_eq_true rfl) (Nat.le_of_ble_eq_true rfl) ?_
                                    exact (W.zret (v := 0) hx hb hr (by first | rfl | decide) (fun t ht hW => ⟨⟨0, 0, rfl, ⟨rfl, by decide⟩, qn26, pq, sc, zn27, zn28, zn29, fpn, fst, fop, pl, hn30, hn31, (by omega), hpq, hsc, hNP, (fun h9 => absurd h9 (by decide)), (fun h9 => absurd h9 (by decide)), (fun h9 => absurd h9 (by decide)), (fun h9 => absurd h9 (by decide)), (fun h9 => absurd h9 (by decide)), (fun _ => (P_dayEx hn24 hn38 hn39)), by rw [ht]; exact hP9, hD9⟩, hS.F ht⟩) hS.2.2 dX4_readFact_216)
                                  · skip
                                    have hn33 := hn33 (hw.1.trans hr9)
                                    subst hn33
                                    obtain ⟨hP, hD⟩ : PDq D A [(oX3 p0 pr pb pe pg p1 (nI nd) p2 p3 p4 p5 (nI cn) p6 (nI pq) p7 p8 p9 (nI sc)), (p2, .inl (cA 1, 10, .inr (.inl fna))), (p6, .inl (cA 1, 8, .inr (.inl fpn))), (p7, .inl (cA 0, 350, .inl fst)), (p8, .inl (cA 0, 350, .inl fop)), (oX4 r0 r1 p0 (nI ((ti + 1) + 1)) (fk ((ti + 1) + 1)) (ft ((ti + 1) + 1)) (fv ((ti + 1) + 1)) zn27 zn28 zn29), (oX5 r1 k1 k2 k3 (nI ct)), (k1, .inl (cA 0, 701, .inl fk)), (k2, .inl (cA 0, 701, .inl ft)), (k3, .inl (cA 1, 701, .inr (.inl fv)))] H := ⟨hP, hD⟩
                                    have hn34 := hn34 (hw.1.trans hr9)
                                    obtain rfl : iek = zn28 := hn34.symm
                                    obtain ⟨hP, hD⟩ : PDq D A [(oX3 p0 pr pb pe pg p1 (nI nd) p2 p3 p4 p5 (nI cn) p6 (nI pq) p7 p8 p9 (nI sc)), (p2, .inl (cA 1, 10, .inr (.inl fna))), (p6, .inl (cA 1, 8, .inr (.inl fpn))), (p7, .inl (cA 0, 350, .inl fst)), (p8, .inl (cA 0, 350, .inl fop)), (oX4 r0 r1 p0 (nI ((ti + 1) + 1)) (fk ((ti + 1) + 1)) (ft ((ti + 1) + 1)) (fv ((ti + 1) + 1)) zn27 iek zn29), (oX5 r1 k1 k2 k3 (nI ct)), (k1, .inl (cA 0, 701, .inl fk)), (k2, .inl (cA 0, 701, .inl ft)), (k3, .inl (cA 1, 701, .inr (.inl fv)))] H := ⟨hP, hD⟩
                                    have hn35 := hn35 (hw.1.trans hr9)
                                    obtain rfl : iep = zn29 := hn35.symm
                                    obtain ⟨hP, hD⟩ : PDq D A [(oX3 p0 pr pb pe pg p1 (nI nd) p2 p3 p4 p5 (nI cn) p6 (nI pq) p7 p8 p9 (nI sc)), (p2, .inl (cA 1, 10, .inr (.inl fna))), (p6, .inl (cA 1, 8, .inr (.inl fpn))), (p7, .inl (cA 0, 350, .inl fst)), (p8, .inl (cA 0, 350, .inl fop)), (oX4 r0 r1 p0 (nI ((ti + 1) + 1)) (fk ((ti + 1) + 1)) (ft ((ti + 1) + 1)) (fv ((ti + 1) + 1)) zn27 iek iep), (oX5 r1 k1 k2 k3 (nI ct)), (k1, .inl (cA 0, 701, .inl fk)), (k2, .inl (cA 0, 701, .inl ft)), (k3, .inl (cA 1, 701, .inr (.inl fv)))] H := ⟨hP, hD⟩
                                    have hn36 := hn36 (hw.1.trans hr9)
                                    have hn37 := hn37 (hw.1.trans hr9)
                                    subst hr9
                                    refine lv_if_eq (tgt := 215) hx hb dX4_readFact_193 (by decide) (fun c9 => absurd c9 (by decide)) (fun c41 => ?_)
                                    refine lv_aload_n hx hb dX4_readFact_196 rfl (lv_at hl 1 rfl) ?_
                                    refine va_get (D := D) (ci := 8) (v := .ref p0) (C := RX4) (T := TX4) (N := 9) hx hb hts inX4 hown hK hP 5 rfl rfl 1 (by decide) (hts (.fieldLink RX4 25 "EscrowDesk$Reader" "plan" "LEscrowDesk$Plan;") (by decide +kernel)) (fun _ h9 => h9) rfl dX4_readFact_197 ?_
                                    refine lv_iload_n hx hb dX4_readFact_200 rfl (lv_at hl 0 rfl) ?_
                                    refine lv_aload_n hx hb dX4_readFact_201 rfl (lv_at hl 1 rfl) ?_
                                    refine va_get (D := D) (ci := 8) (v := .int zn27) (C := RX4) (T := TX4) (N := 9) hx hb hts inX4 hown hK hP 5 rfl rfl 6 (by decide) (hts (.fieldLink RX4 91 "EscrowDesk$Reader" "number" "I") (by decide +kernel)) (fun _ h9 => h9) rfl dX4_readFact_202 ?_
                                    obtain ⟨hPc, hDc, hFc⟩ := PDq.cut (wc := [(oX3 p0 pr pb pe pg p1 (nI nd) p2 p3 p4 p5 (nI cn) p6 (nI pq) p7 p8 p9 (nI sc)), (p7, .inl (cA 0, 350, .inl fst)), (p8, .inl (cA 0, 350, .inl fop))]) hP hD hS hA [0, 3, 4] (by decide) rfl
                                    refine va_calli (va_runV (As := [.int (fk ti), .int zn27]) (rest := []) ⟨hx, hb, hml, hown, hts⟩ (x_addStep l D cA sa p0 p1 p2 p3 p4 p5 p6 p7 p8 p9 cn pq nd sc pr pb pe pg (fk ti) zn27 fst fop H.size (by omega)) (cwV 2 hts gX4_readFact_X3_addStep rfl rfl rfl (by decide +kernel) ⟨by show (0) + 1 ≤ 20; omega, by show 8 + (3 + 11) + (0) ≤ 320; omega⟩) ⟨Wd.blind, va_recv hK hPc (ci := 7) (q0 := 0) rfl rfl, fun U hU hW => ⟨rfl, Wd.call hPc hDc hK hC hZ hS hFc U hU hW⟩⟩ rfl rfl hl.1 rfl (lv_room (Nat.le_of_ble_eq_true rfl)) dX4_readFact_205 ⟨(Nat.le_of_ble_eq_true rfl), (Nat.le_of_ble_eq_true rfl)⟩) hS (fun q _ h => hFc q h) hFc (fun rn42 u t H1 locs ht hvm hw hB hz1 hk1 hS => ?_)
                                    obtain ⟨fn43, fn44, hP1, hD1⟩ := hB
                                    rw [ht] at hP1
                                    obtain ⟨hP, hD⟩ := PDq.join (w := [(p2, .inl (cA 1, 10, .inr (.inl fna))), (p6, .inl (cA 1, 8, .inr (.inl fpn))), (oX4 r0 r1 p0 (nI ((ti + 1) + 1)) (fk ((ti + 1) + 1)) (ft ((ti + 1) + 1)) (fv ((ti + 1) + 1)) zn27 iek iep), (oX5 r1 k1 k2 k3 (nI ct)), (k1, .inl (cA 0, 701, .inl fk)), (k2, .inl (cA 0, 701, .inl ft)), (k3, .inl (cA 1, 701, .inr (.inl fv))), (oX3 p0 pr pb pe pg p1 (nI nd) p2 p3 p4 p5 (nI cn) p6 (nI pq) p7 p8 p9 (nI (sc + 1))), (p7, .inl (cA 0, 350, .inl fn43)), (p8, .inl (cA 0, 350, .inl fn44))]) 7 hP hD [0, 3, 4] [1, 2, 5, 6, 7, 8, 9] rfl rfl (by decide) (by decide +kernel) hk1 hFc hP1 hD1 rfl
                                    generalize H1 = H at hP hS ⊢
                                    obtain rfl : rn42 = 1 := hw
                                    refine lv_if_eq (tgt := 215) hx hb dX4_readFact_208 (by decide) (fun c9 => absurd c9 (by decide)) (fun c45 => ?_)
                                    refine lv_iconst (v := 1) hx hb dX4_readFact_211 (by decide) ?_
                                    refine lv_goto (tgt := 216) hx hb dX4_readFact_212 (by decide) ?_
                                    obtain ⟨hP9, hD9⟩ := PDq.sub (ws' := [(oX4 r0 r1 p0 (nI ((ti + 1) + 1)) (fk ((ti + 1) + 1)) (ft ((ti + 1) + 1)) (fv ((ti + 1) + 1)) zn27 iek iep), (oX5 r1 k1 k2 k3 (nI ct)), (k1, .inl (cA 0, 701, .inl fk)), (k2, .inl (cA 0, 701, .inl ft)), (k3, .inl (cA 1, 701, .inr (.inl fv))), (oX3 p0 pr pb pe pg p1 (nI nd) p2 p3 p4 p5 (nI cn) p6 (nI pq) p7 p8 p9 (nI (sc + 1))), (p2, .inl (cA 1, 10, .inr (.inl fna))), (p6, .inl (cA 1, 8, .inr (.inl fpn))), (p7, .inl (cA 0, 350, .inl fn43)), (p8, .inl (cA 0, 350, .inl fn44))]) hP hD [2, 3, 4, 5, 6, 7, 0, 1, 8, 9] (by decide +kernel) rfl
                                    refine W.widen (k := 0) (n := 0) (Nat.le_of_ble_eq_true rfl) (Nat.le_of_ble_eq_true rfl) ?_
                                    exact (W.zret (v := 1) hx hb hr (by first | rfl | decide) (fun t ht hW => ⟨⟨1, 1, rfl, ⟨rfl, by decide⟩, ((ti + 1) + 1), pq, (sc + 1), zn27, iek, iep, fpn, fn43, fn44, pl, hn30, hn31, (by omega), hpq, (by omega), hNP, (fun _ => rfl), (fun _ => rfl), (fun _ => (by omega)), (fun _ => (by omega)), (fun _ => (P_day hn24 hn37)), (fun h9 => absurd h9 (by decide)), by rw [ht]; exact hP9, hD9⟩, hS.F ht⟩) hS.2.2 dX4_readFact_216)
                                · skip
                                  by_cases hn46 : (fk ti) = 18
                                  · skip
                                    refine W.eq (g2 := F0 m 52 ls [.int 18]) (by rw [hn46]) ?_
                                    refine lv_tableIn (off := 196) (tgt := 248) hx hb dX4_readFact_52 (by decide) (by decide) (by decide) (by decide) ?_
                                    refine lv_aload_n hx hb dX4_readFact_248 rfl (lv_at hl 1 rfl) ?_
                                    obtain ⟨hPc, hDc, hFc⟩ := PDq.cut (wc := [(oX4 r0 r1 p0 (nI (ti + 1)) (fk (ti + 1)) (ft (ti + 1)) (fv (ti + 1)) inb iek iep), (oX5 r1 k1 k2 k3 (nI ct)), (k1, .inl (cA 0, 701, .inl fk)), (k2, .inl (cA 0, 701, .inl ft)), (k3, .inl (cA 1, 701, .inr (.inl fv))), (oX3 p0 pr pb pe pg p1 (nI nd) p2 p3 p4 p5 (nI cn) p6 (nI pq) p7 p8 p9 (nI sc)), (p2, .inl (cA 1, 10, .inr (.inl fna))), (p6, .inl (cA 1, 8, .inr (.inl fpn))), (p7, .inl (cA 0, 350, .inl fst)), (p8, .inl (cA 0, 350, .inl fop))]) hP hD hS hA [5, 6, 7, 8, 9, 0, 1, 2, 3, 4] (by decide +kernel) rfl
                                    refine va_calli (va_runV (As := []) (rest := []) ⟨hx, hb, hml, hown, hts⟩ (x_readProofName l D cA sa r0 p0 (ti + 1) ln inb iek iep r1 k1 k2 k3 ct fk ft fv fb gP gR p1 p2 p3 p4 p5 p6 p7 p8 p9 cn pq nd sc pr pb pe pg fna fpn fst fop ml pl sl H.size hct hln hn10.1 hTX hcn hpq hnd hsc hNM hNP (by omega)) (cwV 0 hts gX4_readFact_X4_readProofName rfl rfl rfl (by decide +kernel) ⟨by show (1) + 1 ≤ 20; omega, by show 8 + (2 + 11) + (23) ≤ 320; omega⟩) ⟨Wd.blind, va_recv hK hPc (ci := 8) (q0 := 0) rfl rfl, fun U hU hW => ⟨rfl, Wd.call hPc hDc hK hC hZ hS hFc U hU hW⟩⟩ rfl rfl hl.1 rfl (lv_room (Nat.le_of_ble_eq_true rfl)) dX4_readFact_249 ⟨(Nat.le_of_ble_eq_true rfl), (Nat.le_of_ble_eq_true rfl)⟩) hS (fun q _ h => hFc q h) hFc (fun rn47 u t H1 locs ht hvm hw hB hz1 hk1 hS => ?_)
                                    obtain ⟨qn48, qn49, qn50, zn51, zn52, zn53, fn54, fn55, fn56, zn57, hn58, hn59, hn60, hn61, hn62, hn63, hn64, hn65, hn66, hn67, hn68, hn69, hn70, hP1, hD1⟩ := hB
                                    rw [ht] at hP1
                                    obtain ⟨hP, hD⟩ := PDq.join (w := [(oX4 r0 r1 p0 (nI qn48) (fk qn48) (ft qn48) (fv qn48) zn51 zn52 zn53), (oX5 r1 k1 k2 k3 (nI ct)), (k1, .inl (cA 0, 701, .inl fk)), (k2, .inl (cA 0, 701, .inl ft)), (k3, .inl (cA 1, 701, .inr (.inl fv))), (oX3 p0 pr pb pe pg p1 (nI nd) p2 p3 p4 p5 (nI cn) p6 (nI qn49) p7 p8 p9 (nI qn50)), (p2, .inl (cA 1, 10, .inr (.inl fna))), (p6, .inl (cA 1, 8, .inr (.inl fn54))), (p7, .inl (cA 0, 350, .inl fn55)), (p8, .inl (cA 0, 350, .inl fn56))]) 0 hP hD [5, 6, 7, 8, 9, 0, 1, 2, 3, 4] [] rfl rfl (by decide) (by decide +kernel) hk1 hFc hP1 hD1 rfl
                                    generalize H1 = H at hP hS ⊢
                                    rcases hw.2 with hr9 | hr9
                                    · skip
                                      have hn69 := hn69 (hw.1.trans hr9)
                                      have hn70 := hn70 (hw.1.trans hr9)
                                      subst hr9
                                      obtain ⟨hP9, hD9⟩ := PDq.sub (ws' := [(oX4 r0 r1 p0 (nI qn48) (fk qn48) (ft qn48) (fv qn48) zn51 zn52 zn53), (oX5 r1 k1 k2 k3 (nI ct)), (k1, .inl (cA 0, 701, .inl fk)), (k2, .inl (cA 0, 701, .inl ft)), (k3, .inl (cA 1, 701, .inr (.inl fv))), (oX3 p0 pr pb pe pg p1 (nI nd) p2 p3 p4 p5 (nI cn) p6 (nI qn49) p7 p8 p9 (nI qn50)), (p2, .inl (cA 1, 10, .inr (.inl fna))), (p6, .inl (cA 1, 8, .inr (.inl fn54))), (p7, .inl (cA 0, 350, .inl fn55)), (p8, .inl (cA 0, 350, .inl fn56))]) hP hD [0, 1, 2, 3, 4, 5, 6, 7, 8, 9] (by decide +kernel) rfl
                                      refine W.widen (k := 0) (n := 0) (Nat.le_of_ble_eq_true rfl) (Nat.le_of_ble_eq_true rfl) ?_
                                      exact (W.zret (v := 0) hx hb hr (by first | rfl | decide) (fun t ht hW => ⟨⟨0, 0, rfl, ⟨rfl, by decide⟩, qn48, qn49, qn50, zn51, zn52, zn53, fn54, fn55, fn56, zn57, hn58, hn59, (by omega), hn61, hn62, hn63, (fun h9 => absurd h9 (by decide)), (fun h9 => absurd h9 (by decide)), (fun h9 => absurd h9 (by decide)), (fun h9 => absurd h9 (by decide)), (fun h9 => absurd h9 (by decide)), (fun _ => (P_pnE hn46 hn69 hn70)), by rw [ht]; exact hP9, hD9⟩, hS.F ht⟩) hS.2.2 dX4_readFact_252)
                                    · skip
                                      have hn64 := hn64 (hw.1.trans hr9)
                                      obtain rfl : iek = zn52 := hn64.symm
                                      obtain ⟨hP, hD⟩ : PDq D A [(oX4 r0 r1 p0 (nI qn48) (fk qn48) (ft qn48) (fv qn48) zn51 iek zn53), (oX5 r1 k1 k2 k3 (nI ct)), (k1, .inl (cA 0, 701, .inl fk)), (k2, .inl (cA 0, 701, .inl ft)), (k3, .inl (cA 1, 701, .inr (.inl fv))), (oX3 p0 pr pb pe pg p1 (nI nd) p2 p3 p4 p5 (nI cn) p6 (nI qn49) p7 p8 p9 (nI qn50)), (p2, .inl (cA 1, 10, .inr (.inl fna))), (p6, .inl (cA 1, 8, .inr (.inl fn54))), (p7, .inl (cA 0, 350, .inl fn55)), (p8, .inl (cA 0, 350, .inl fn56))] H := ⟨hP, hD⟩
                                      have hn65 := hn65 (hw.1.trans hr9)
                                      obtain rfl : iep = zn53 := hn65.symm
                                      obtain ⟨hP, hD⟩ : PDq D A [(oX4 r0 r1 p0 (nI qn48) (fk qn48) (ft qn48) (fv qn48) zn51 iek iep), (oX5 r1 k1 k2 k3 (nI ct)), (k1, .inl (cA 0, 701, .inl fk)), (k2, .inl (cA 0, 701, .inl ft)), (k3, .inl (cA 1, 701, .inr (.inl fv))), (oX3 p0 pr pb pe pg p1 (nI nd) p2 p3 p4 p5 (nI cn) p6 (nI qn49) p7 p8 p9 (nI qn50)), (p2, .inl (cA 1, 10, .inr (.inl fna))), (p6, .inl (cA 1, 8, .inr (.inl fn54))), (p7, .inl (cA 0, 350, .inl fn55)), (p8, .inl (cA 0, 350, .inl fn56))] H := ⟨hP, hD⟩
                                      have hn66 := hn66 (hw.1.trans hr9)
                                      subst hn66
                                      obtain ⟨hP, hD⟩ : PDq D A [(oX4 r0 r1 p0 (nI ((ti + 1) + 1)) (fk ((ti + 1) + 1)) (ft ((ti + 1) + 1)) (fv ((ti + 1) + 1)) zn51 iek iep), (oX5 r1 k1 k2 k3 (nI ct)), (k1, .inl (cA 0, 701, .inl fk)), (k2, .inl (cA 0, 701, .inl ft)), (k3, .inl (cA 1, 701, .inr (.inl fv))), (oX3 p0 pr pb pe pg p1 (nI nd) p2 p3 p4 p5 (nI cn) p6 (nI qn49) p7 p8 p9 (nI qn50)), (p2, .inl (cA 1, 10, .inr (.inl fna))), (p6, .inl (cA 1, 8, .inr (.inl fn54))), (p7, .inl (cA 0, 350, .inl fn55)), (p8, .inl (cA 0, 350, .inl fn56))] H := ⟨hP, hD⟩
                                      have hn67 := hn67 (hw.1.trans hr9)
                                      have hn68 := hn68 (hw.1.trans hr9)
                                      subst hr9
                                      obtain ⟨hP9, hD9⟩ := PDq.sub (ws' := [(oX4 r0 r1 p0 (nI ((ti + 1) + 1)) (fk ((ti + 1) + 1)) (ft ((ti + 1) + 1)) (fv ((ti + 1) + 1)) zn51 iek iep), (oX5 r1 k1 k2 k3 (nI ct)), (k1, .inl (cA 0, 701, .inl fk)), (k2, .inl (cA 0, 701, .inl ft)), (k3, .inl (cA 1, 701, .inr (.inl fv))), (oX3 p0 pr pb pe pg p1 (nI nd) p2 p3 p4 p5 (nI cn) p6 (nI qn49) p7 p8 p9 (nI qn50)), (p2, .inl (cA 1, 10, .inr (.inl fna))), (p6, .inl (cA 1, 8, .inr (.inl fn54))), (p7, .inl (cA 0, 350, .inl fn55)), (p8, .inl (cA 0, 350, .inl fn56))]) hP hD [0, 1, 2, 3, 4, 5, 6, 7, 8, 9] (by decide +kernel) rfl
                                      refine W.widen (k := 0) (n := 0) (Nat.le_of_ble_eq_true rfl) (Nat.le_of_ble_eq_true rfl) ?_
                                      exact (W.zret (v := 1) hx hb hr (by first | rfl | decide) (fun t ht hW => ⟨⟨1, 1, rfl, ⟨rfl, by decide⟩, ((ti + 1) + 1), qn49, qn50, zn51, iek, iep, fn54, fn55, fn56, zn57, hn58, hn59, (by omega), hn61, hn62, hn63, (fun _ => rfl), (fun _ => rfl), (fun _ => hn67), (fun _ => (by omega)), (fun _ => (P_pn hn46 hn68)), (fun h9 => absurd h9 (by decide)), by rw [ht]; exact hP9, hD9⟩, hS.F ht⟩) hS.2.2 dX4_readFact_252)
                                  · skip
                                    by_cases hn71 : (fk ti) = 19
                                    · skip
                                      refine W.eq (g2 := F0 m 52 ls [.int 19]) (by rw [hn71]) ?_
                                      refine lv_tableIn (off := 201) (tgt := 253) hx hb dX4_readFact_52 (by decide) (by decide) (by decide) (by decide) ?_
                                      refine lv_aload_n hx hb dX4_readFact_253 rfl (lv_at hl 1 rfl) ?_
                                      obtain ⟨hPc, hDc, hFc⟩ := PDq.cut (wc := [(oX4 r0 r1 p0 (nI (ti + 1)) (fk (ti + 1)) (ft (ti + 1)) (fv (ti + 1)) inb iek iep), (oX5 r1 k1 k2 k3 (nI ct)), (k1, .inl (cA 0, 701, .inl fk)), (k2, .inl (cA 0, 701, .inl ft)), (k3, .inl (cA 1, 701, .inr (.inl fv))), (oX3 p0 pr pb pe pg p1 (nI nd) p2 p3 p4 p5 (nI cn) p6 (nI pq) p7 p8 p9 (nI sc)), (p2, .inl (cA 1, 10, .inr (.inl fna))), (p6, .inl (cA 1, 8, .inr (.inl fpn))), (p7, .inl (cA 0, 350, .inl fst)), (p8, .inl (cA 0, 350, .inl fop))]) hP hD hS hA [5, 6, 7, 8, 9, 0, 1, 2, 3, 4] (by decide +kernel) rfl
                                      refine va_calli (va_runV (As := []) (rest := []) ⟨hx, hb, hml, hown, hts⟩ (x_readDoneName l D cA sa r0 p0 (ti + 1) ln inb iek iep r1 k1 k2 k3 ct fk ft fv fb gP gR p1 p2 p3 p4 p5 p6 p7 p8 p9 cn pq nd sc pr pb pe pg fna fpn fst fop ml pl sl H.size hct hln hn10.1 hTX hcn hpq hnd hsc hNM hNP (by omega)) (cwV 0 hts gX4_readFact_X4_readDoneName rfl rfl rfl (by decide +kernel) ⟨by show (1) + 1 ≤ 20; omega, by show 8 + (2 + 11) + (23) ≤ 320; omega⟩) ⟨Wd.blind, va_recv hK hPc (ci := 8) (q0 := 0) rfl rfl, fun U hU hW => ⟨rfl, Wd.call hPc hDc hK hC hZ hS hFc U hU hW⟩⟩ rfl rfl hl.1 rfl (lv_room (Nat.le_of_ble_eq_true rfl)) dX4_readFact_254 ⟨(Nat.le_of_ble_eq_true rfl), (Nat.le_of_ble_eq_true rfl)⟩) hS (fun q _ h => hFc q h) hFc (fun rn72 u t H1 locs ht hvm hw hB hz1 hk1 hS => ?_)
                                      obtain ⟨qn73, qn74, qn75, zn76, zn77, zn78, fn79, fn80, fn81, zn82, hn83, hn84, hn85, hn86, hn87, hn88, hn89, hn90, hn91, hn92, hn93, hn94, hn95, hn96, hP1, hD1⟩ := hB
                                      rw [ht] at hP1
                                      obtain ⟨hP, hD⟩ := PDq.join (w := [(oX4 r0 r1 p0 (nI qn73) (fk qn73) (ft qn73) (fv qn73) zn76 zn77 zn78), (oX5 r1 k1 k2 k3 (nI ct)), (k1, .inl (cA 0, 701, .inl fk)), (k2, .inl (cA 0, 701, .inl ft)), (k3, .inl (cA 1, 701, .inr (.inl fv))), (oX3 p0 pr pb pe pg p1 (nI nd) p2 p3 p4 p5 (nI cn) p6 (nI qn74) p7 p8 p9 (nI qn75)), (p2, .inl (cA 1, 10, .inr (.inl fna))), (p6, .inl (cA 1, 8, .inr (.inl fn79))), (p7, .inl (cA 0, 350, .inl fn80)), (p8, .inl (cA 0, 350, .inl fn81))]) 0 hP hD [5, 6, 7, 8, 9, 0, 1, 2, 3, 4] [] rfl rfl (by decide) (by decide +kernel) hk1 hFc hP1 hD1 rfl
                                      generalize H1 = H at hP hS ⊢
                                      rcases hw.2 with hr9 | hr9
                                      · skip
                                        have hn95 := hn95 (hw.1.trans hr9)
                                        have hn96 := hn96 (hw.1.trans hr9)
                                        subst hr9
                                        obtain ⟨hP9, hD9⟩ := PDq.sub (ws' := [(oX4 r0 r1 p0 (nI qn73) (fk qn73) (ft qn73) (fv qn73) zn76 zn77 zn78), (oX5 r1 k1 k2 k3 (nI ct)), (k1, .inl (cA 0, 701, .inl fk)), (k2, .inl (cA 0, 701, .inl ft)), (k3, .inl (cA 1, 701, .inr (.inl fv))), (oX3 p0 pr pb pe pg p1 (nI nd) p2 p3 p4 p5 (nI cn) p6 (nI qn74) p7 p8 p9 (nI qn75)), (p2, .inl (cA 1, 10, .inr (.inl fna))), (p6, .inl (cA 1, 8, .inr (.inl fn79))), (p7, .inl (cA 0, 350, .inl fn80)), (p8, .inl (cA 0, 350, .inl fn81))]) hP hD [0, 1, 2, 3, 4, 5, 6, 7, 8, 9] (by decide +kernel) rfl
                                        refine W.widen (k := 0) (n := 0) (Nat.le_of_ble_eq_true rfl) (Nat.le_of_ble_eq_true rfl) ?_
                                        exact (W.zret (v := 0) hx hb hr (by first | rfl | decide) (fun t ht hW => ⟨⟨0, 0, rfl, ⟨rfl, by decide⟩, qn73, qn74, qn75, zn76, zn77, zn78, fn79, fn80, fn81, zn82, hn83, hn84, (by omega), hn86, hn87, hn88, (fun h9 => absurd h9 (by decide)), (fun h9 => absurd h9 (by decide)), (fun h9 => absurd h9 (by decide)), (fun h9 => absurd h9 (by decide)), (fun h9 => absurd h9 (by decide)), (fun _ => (P_dnE hn71 hn95 hn96)), by rw [ht]; exact hP9, hD9⟩, hS.F ht⟩) hS.2.2 dX4_readFact_257)
                                      · skip
                                        have hn89 := hn89 (hw.1.trans hr9)
                                        obtain rfl : iek = zn77 := hn89.symm
                                        obtain ⟨hP, hD⟩ : PDq D A [(oX4 r0 r1 p0 (nI qn73) (fk qn73) (ft qn73) (fv qn73) zn76 iek zn78), (oX5 r1 k1 k2 k3 (nI ct)), (k1, .inl (cA 0, 701, .inl fk)), (k2, .inl (cA 0, 701, .inl ft)), (k3, .inl (cA 1, 701, .inr (.inl fv))), (oX3 p0 pr pb pe pg p1 (nI nd) p2 p3 p4 p5 (nI cn) p6 (nI qn74) p7 p8 p9 (nI qn75)), (p2, .inl (cA 1, 10, .inr (.inl fna))), (p6, .inl (cA 1, 8, .inr (.inl fn79))), (p7, .inl (cA 0, 350, .inl fn80)), (p8, .inl (cA 0, 350, .inl fn81))] H := ⟨hP, hD⟩
                                        have hn90 := hn90 (hw.1.trans hr9)
                                        obtain rfl : iep = zn78 := hn90.symm
                                        obtain ⟨hP, hD⟩ : PDq D A [(oX4 r0 r1 p0 (nI qn73) (fk qn73) (ft qn73) (fv qn73) zn76 iek iep), (oX5 r1 k1 k2 k3 (nI ct)), (k1, .inl (cA 0, 701, .inl fk)), (k2, .inl (cA 0, 701, .inl ft)), (k3, .inl (cA 1, 701, .inr (.inl fv))), (oX3 p0 pr pb pe pg p1 (nI nd) p2 p3 p4 p5 (nI cn) p6 (nI qn74) p7 p8 p9 (nI qn75)), (p2, .inl (cA 1, 10, .inr (.inl fna))), (p6, .inl (cA 1, 8, .inr (.inl fn79))), (p7, .inl (cA 0, 350, .inl fn80)), (p8, .inl (cA 0, 350, .inl fn81))] H := ⟨hP, hD⟩
                                        have hn91 := hn91 (hw.1.trans hr9)
                                        subst hn91
                                        obtain ⟨hP, hD⟩ : PDq D A [(oX4 r0 r1 p0 (nI ((ti + 1) + 1)) (fk ((ti + 1) + 1)) (ft ((ti + 1) + 1)) (fv ((ti + 1) + 1)) zn76 iek iep), (oX5 r1 k1 k2 k3 (nI ct)), (k1, .inl (cA 0, 701, .inl fk)), (k2, .inl (cA 0, 701, .inl ft)), (k3, .inl (cA 1, 701, .inr (.inl fv))), (oX3 p0 pr pb pe pg p1 (nI nd) p2 p3 p4 p5 (nI cn) p6 (nI qn74) p7 p8 p9 (nI qn75)), (p2, .inl (cA 1, 10, .inr (.inl fna))), (p6, .inl (cA 1, 8, .inr (.inl fn79))), (p7, .inl (cA 0, 350, .inl fn80)), (p8, .inl (cA 0, 350, .inl fn81))] H := ⟨hP, hD⟩
                                        have hn92 := hn92 (hw.1.trans hr9)
                                        have hn93 := hn93 (hw.1.trans hr9)
                                        obtain rfl : pl = zn82 := hn93.symm
                                        obtain ⟨hP, hD⟩ : PDq D A [(oX4 r0 r1 p0 (nI ((ti + 1) + 1)) (fk ((ti + 1) + 1)) (ft ((ti + 1) + 1)) (fv ((ti + 1) + 1)) zn76 iek iep), (oX5 r1 k1 k2 k3 (nI ct)), (k1, .inl (cA 0, 701, .inl fk)), (k2, .inl (cA 0, 701, .inl ft)), (k3, .inl (cA 1, 701, .inr (.inl fv))), (oX3 p0 pr pb pe pg p1 (nI nd) p2 p3 p4 p5 (nI cn) p6 (nI qn74) p7 p8 p9 (nI qn75)), (p2, .inl (cA 1, 10, .inr (.inl fna))), (p6, .inl (cA 1, 8, .inr (.inl fn79))), (p7, .inl (cA 0, 350, .inl fn80)), (p8, .inl (cA 0, 350, .inl fn81))] H := ⟨hP, hD⟩
                                        have hn94 := hn94 (hw.1.trans hr9)
                                        subst hr9
                                        obtain ⟨hP9, hD9⟩ := PDq.sub (ws' := [(oX4 r0 r1 p0 (nI ((ti + 1) + 1)) (fk ((ti + 1) + 1)) (ft ((ti + 1) + 1)) (fv ((ti + 1) + 1)) zn76 iek iep), (oX5 r1 k1 k2 k3 (nI ct)), (k1, .inl (cA 0, 701, .inl fk)), (k2, .inl (cA 0, 701, .inl ft)), (k3, .inl (cA 1, 701, .inr (.inl fv))), (oX3 p0 pr pb pe pg p1 (nI nd) p2 p3 p4 p5 (nI cn) p6 (nI qn74) p7 p8 p9 (nI qn75)), (p2, .inl (cA 1, 10, .inr (.inl fna))), (p6, .inl (cA 1, 8, .inr (.inl fn79))), (p7, .inl (cA 0, 350, .inl fn80)), (p8, .inl (cA 0, 350, .inl fn81))]) hP hD [0, 1, 2, 3, 4, 5, 6, 7, 8, 9] (by decide +kernel) rfl
                                        refine W.widen (k := 0) (n := 0) (Nat.le_of_ble_eq_true rfl) (Nat.le_of_ble_eq_true rfl) ?_
                                        exact (W.zret (v := 1) hx hb hr (by first | rfl | decide) (fun t ht hW => ⟨⟨1, 1, rfl, ⟨rfl, by decide⟩, ((ti + 1) + 1), qn74, qn75, zn76, iek, iep, fn79, fn80, fn81, pl, hn83, hn84, (by omega), hn86, hn87, hn88, (fun _ => rfl), (fun _ => rfl), (fun _ => hn92), (fun _ => (by omega)), (fun _ => (P_dn hn71 hn94)), (fun h9 => absurd h9 (by decide)), by rw [ht]; exact hP9, hD9⟩, hS.F ht⟩) hS.2.2 dX4_readFact_257)
                                    · skip
                                      by_cases hn97 : (fk ti) = 20
                                      · skip
                                        refine W.eq (g2 := F0 m 52 ls [.int 20]) (by rw [hn97]) ?_
                                        refine lv_tableIn (off := 165) (tgt := 217) hx hb dX4_readFact_52 (by decide) (by decide) (by decide) (by decide) ?_
                                        refine lv_aload_n hx hb dX4_readFact_217 rfl (lv_at hl 1 rfl) ?_
                                        refine lv_iconst (v := 0) hx hb dX4_readFact_218 (by decide) ?_
                                        refine lv_ldc (v := 99999) hx hb hown (hts (.constant RX4 120 99999) (by decide +kernel)) dX4_readFact_219 ?_
                                        obtain ⟨hPc, hDc, hFc⟩ := PDq.cut (wc := [(oX4 r0 r1 p0 (nI (ti + 1)) (fk (ti + 1)) (ft (ti + 1)) (fv (ti + 1)) inb iek iep), (oX5 r1 k1 k2 k3 (nI ct)), (k1, .inl (cA 0, 701, .inl fk)), (k2, .inl (cA 0, 701, .inl ft)), (k3, .inl (cA 1, 701, .inr (.inl fv)))]) hP hD hS hA [5, 6, 7, 8, 9] (by decide) rfl
                                        refine va_calli (va_runV (As := [.int 0, .int 99999]) (rest := []) ⟨hx, hb, hml, hown, hts⟩ (x_takeNumber l D cA sa r0 p0 (ti + 1) ln inb iek iep r1 k1 k2 k3 ct fk ft fv fb gP gR 0 99999 H.size hct hln hn10.1 hTX (by omega) (by omega)) (cwV 2 hts gX4_readFact_X4_takeNumber rfl rfl rfl (by decide +kernel) ⟨by show (1) + 1 ≤ 20; omega, by show 8 + (3 + 11) + (21) ≤ 320; omega⟩) ⟨Wd.blind, va_recv hK hPc (ci := 8) (q0 := 0) rfl rfl, fun U hU hW => ⟨rfl, Wd.call hPc hDc hK hC hZ hS hFc U hU hW⟩⟩ rfl rfl hl.1 rfl (lv_room (Nat.le_of_ble_eq_true rfl)) dX4_readFact_221 ⟨(Nat.le_of_ble_eq_true rfl), (Nat.le_of_ble_eq_true rfl)⟩) hS (fun q _ h => hFc q h) hFc (fun rn98 u t H1 locs ht hvm hw hB hz1 hk1 hS => ?_)
                                        obtain ⟨qn99, zn100, zn101, zn102, hn103, hn104, hn105, hn106, hn107, hn108, hn109, hn110, hn111, hn112, hP1, hD1⟩ := hB
                                        rw [ht] at hP1
                                        obtain ⟨hP, hD⟩ := PDq.join (w := [(oX3 p0 pr pb pe pg p1 (nI nd) p2 p3 p4 p5 (nI cn) p6 (nI pq) p7 p8 p9 (nI sc)), (p2, .inl (cA 1, 10, .inr (.inl fna))), (p6, .inl (cA 1, 8, .inr (.inl fpn))), (p7, .inl (cA 0, 350, .inl fst)), (p8, .inl (cA 0, 350, .inl fop)), (oX4 r0 r1 p0 (nI qn99) (fk qn99) (ft qn99) (fv qn99) zn100 zn101 zn102), (oX5 r1 k1 k2 k3 (nI ct)), (k1, .inl (cA 0, 701, .inl fk)), (k2, .inl (cA 0, 701, .inl ft)), (k3, .inl (cA 1, 701, .inr (.inl fv)))]) 5 hP hD [5, 6, 7, 8, 9] [0, 1, 2, 3, 4] rfl rfl (by decide) (by decide +kernel) hk1 hFc hP1 hD1 rfl
                                        generalize H1 = H at hP hS ⊢
                                        rcases hw.2 with hr9 | hr9
                                        · skip
                                          have hn111 := hn111 (hw.1.trans hr9)
                                          have hn112 := hn112 (hw.1.trans hr9)
                                          subst hr9
                                          refine lv_if_eq (tgt := 246) hx hb dX4_readFact_224 (by decide) (fun c113 => ?_) (fun c9 => absurd c9 (by decide))
                                          refine lv_iconst (v := 0) hx hb dX4_readFact_246 (by decide) ?_
                                          obtain ⟨hP9, hD9⟩ := PDq.sub (ws' := [(oX4 r0 r1 p0 (nI qn99) (fk qn99) (ft qn99) (fv qn99) zn100 zn101 zn102), (oX5 r1 k1 k2 k3 (nI ct)), (k1, .inl (cA 0, 701, .inl fk)), (k2, .inl (cA 0, 701, .inl ft)), (k3, .inl (cA 1, 701, .inr (.inl fv))), (oX3 p0 pr pb pe pg p1 (nI nd) p2 p3 p4 p5 (nI cn) p6 (nI pq) p7 p8 p9 (nI sc)), (p2, .inl (cA 1, 10, .inr (.inl fna))), (p6, .inl (cA 1, 8, .inr (.inl fpn))), (p7, .inl (cA 0, 350, .inl fst)), (p8, .inl (cA 0, 350, .inl fop))]) hP hD [5, 6, 7, 8, 9, 0, 1, 2, 3, 4] (by decide +kernel) rfl
                                          refine W.widen (k := 0) (n := 0) (Nat.le_of_ble_eq_true rfl) (Nat.le_of_ble_eq_true rfl) ?_
                                          exact (W.zret (v := 0) hx hb hr (by first | rfl | decide) (fun t ht hW => ⟨⟨0, 0, rfl, ⟨rfl, by decide⟩, qn99, pq, sc, zn100, zn101, zn102, fpn, fst, fop, pl, hn103, hn104, (by omega), hpq, hsc, hNP, (fun h9 => absurd h9 (by decide)), (fun h9 => absurd h9 (by decide)), (fun h9 => absurd h9 (by decide)), (fun h9 => absurd h9 (by decide)), (fun h9 => absurd h9 (by decide)), (fun _ => (P_sumEx hn97 hn111 hn112)), by rw [ht]; exact hP9, hD9⟩, hS.F ht⟩) hS.2.2 dX4_readFact_247)
                                        · skip
                                          have hn106 := hn106 (hw.1.trans hr9)
                                          subst hn106
                                          obtain ⟨hP, hD⟩ : PDq D A [(oX3 p0 pr pb pe pg p1 (nI nd) p2 p3 p4 p5 (nI cn) p6 (nI pq) p7 p8 p9 (nI sc)), (p2, .inl (cA 1, 10, .inr (.inl fna))), (p6, .inl (cA 1, 8, .inr (.inl fpn))), (p7, .inl (cA 0, 350, .inl fst)), (p8, .inl (cA 0, 350, .inl fop)), (oX4 r0 r1 p0 (nI ((ti + 1) + 1)) (fk ((ti + 1) + 1)) (ft ((ti + 1) + 1)) (fv ((ti + 1) + 1)) zn100 zn101 zn102), (oX5 r1 k1 k2 k3 (nI ct)), (k1, .inl (cA 0, 701, .inl fk)), (k2, .inl (cA 0, 701, .inl ft)), (k3, .inl (cA 1, 701, .inr (.inl fv)))] H := ⟨hP, hD⟩
                                          have hn107 := hn107 (hw.1.trans hr9)
                                          obtain rfl : iek = zn101 := hn107.symm
                                          obtain ⟨hP, hD⟩ : PDq D A [(oX3 p0 pr pb pe pg p1 (nI nd) p2 p3 p4 p5 (nI cn) p6 (nI pq) p7 p8 p9 (nI sc)), (p2, .inl (cA 1, 10, .inr (.inl fna))), (p6, .inl (cA 1, 8, .inr (.inl fpn))), (p7, .inl (cA 0, 350, .inl fst)), (p8, .inl (cA 0, 350, .inl fop)), (oX4 r0 r1 p0 (nI ((ti + 1) + 1)) (fk ((ti + 1) + 1)) (ft ((ti + 1) + 1)) (fv ((ti + 1) + 1)) zn100 iek zn102), (oX5 r1 k1 k2 k3 (nI ct)), (k1, .inl (cA 0, 701, .inl fk)), (k2, .inl (cA 0, 701, .inl ft)), (k3, .inl (cA 1, 701, .inr (.inl fv)))] H := ⟨hP, hD⟩
                                          have hn108 := hn108 (hw.1.trans hr9)
                                          obtain rfl : iep = zn102 := hn108.symm
                                          obtain ⟨hP, hD⟩ : PDq D A [(oX3 p0 pr pb pe pg p1 (nI nd) p2 p3 p4 p5 (nI cn) p6 (nI pq) p7 p8 p9 (nI sc)), (p2, .inl (cA 1, 10, .inr (.inl fna))), (p6, .inl (cA 1, 8, .inr (.inl fpn))), (p7, .inl (cA 0, 350, .inl fst)), (p8, .inl (cA 0, 350, .inl fop)), (oX4 r0 r1 p0 (nI ((ti + 1) + 1)) (fk ((ti + 1) + 1)) (ft ((ti + 1) + 1)) (fv ((ti + 1) + 1)) zn100 iek iep), (oX5 r1 k1 k2 k3 (nI ct)), (k1, .inl (cA 0, 701, .inl fk)), (k2, .inl (cA 0, 701, .inl ft)), (k3, .inl (cA 1, 701, .inr (.inl fv)))] H := ⟨hP, hD⟩
                                          have hn109 := hn109 (hw.1.trans hr9)
                                          have hn110 := hn110 (hw.1.trans hr9)
                                          subst hr9
                                          refine lv_if_eq (tgt := 246) hx hb dX4_readFact_224 (by decide) (fun c9 => absurd c9 (by decide)) (fun c114 => ?_)
                                          refine lv_aload_n hx hb dX4_readFact_227 rfl (lv_at hl 1 rfl) ?_
                                          refine va_get (D := D) (ci := 8) (v := .ref p0) (C := RX4) (T := TX4) (N := 9) hx hb hts inX4 hown hK hP 5 rfl rfl 1 (by decide) (hts (.fieldLink RX4 25 "EscrowDesk$Reader" "plan" "LEscrowDesk$Plan;") (by decide +kernel)) (fun _ h9 => h9) rfl dX4_readFact_228 ?_
                                          refine lv_iload_n hx hb dX4_readFact_231 rfl (lv_at hl 0 rfl) ?_
                                          refine lv_aload_n hx hb dX4_readFact_232 rfl (lv_at hl 1 rfl) ?_
                                          refine va_get (D := D) (ci := 8) (v := .int zn100) (C := RX4) (T := TX4) (N := 9) hx hb hts inX4 hown hK hP 5 rfl rfl 6 (by decide) (hts (.fieldLink RX4 91 "EscrowDesk$Reader" "number" "I") (by decide +kernel)) (fun _ h9 => h9) rfl dX4_readFact_233 ?_
                                          obtain ⟨hPc, hDc, hFc⟩ := PDq.cut (wc := [(oX3 p0 pr pb pe pg p1 (nI nd) p2 p3 p4 p5 (nI cn) p6 (nI pq) p7 p8 p9 (nI sc)), (p7, .inl (cA 0, 350, .inl fst)), (p8, .inl (cA 0, 350, .inl fop))]) hP hD hS hA [0, 3, 4] (by decide) rfl
                                          refine va_calli (va_runV (As := [.int (fk ti), .int zn100]) (rest := []) ⟨hx, hb, hml, hown, hts⟩ (x_addStep l D cA sa p0 p1 p2 p3 p4 p5 p6 p7 p8 p9 cn pq nd sc pr pb pe pg (fk ti) zn100 fst fop H.size (by omega)) (cwV 2 hts gX4_readFact_X3_addStep rfl rfl rfl (by decide +kernel) ⟨by show (0) + 1 ≤ 20; omega, by show 8 + (3 + 11) + (0) ≤ 320; omega⟩) ⟨Wd.blind, va_recv hK hPc (ci := 7) (q0 := 0) rfl rfl, fun U hU hW => ⟨rfl, Wd.call hPc hDc hK hC hZ hS hFc U hU hW⟩⟩ rfl rfl hl.1 rfl (lv_room (Nat.le_of_ble_eq_true rfl)) dX4_readFact_236 ⟨(Nat.le_of_ble_eq_true rfl), (Nat.le_of_ble_eq_true rfl)⟩) hS (fun q _ h => hFc q h) hFc (fun rn115 u t H1 locs ht hvm hw hB hz1 hk1 hS => ?_)
                                          obtain ⟨fn116, fn117, hP1, hD1⟩ := hB
                                          rw [ht] at hP1
                                          obtain ⟨hP, hD⟩ := PDq.join (w := [(p2, .inl (cA 1, 10, .inr (.inl fna))), (p6, .inl (cA 1, 8, .inr (.inl fpn))), (oX4 r0 r1 p0 (nI ((ti + 1) + 1)) (fk ((ti + 1) + 1)) (ft ((ti + 1) + 1)) (fv ((ti + 1) + 1)) zn100 iek iep), (oX5 r1 k1 k2 k3 (nI ct)), (k1, .inl (cA 0, 701, .inl fk)), (k2, .inl (cA 0, 701, .inl ft)), (k3, .inl (cA 1, 701, .inr (.inl fv))), (oX3 p0 pr pb pe pg p1 (nI nd) p2 p3 p4 p5 (nI cn) p6 (nI pq) p7 p8 p9 (nI (sc + 1))), (p7, .inl (cA 0, 350, .inl fn116)), (p8, .inl (cA 0, 350, .inl fn117))]) 7 hP hD [0, 3, 4] [1, 2, 5, 6, 7, 8, 9] rfl rfl (by decide) (by decide +kernel) hk1 hFc hP1 hD1 rfl
                                          generalize H1 = H at hP hS ⊢
                                          obtain rfl : rn115 = 1 := hw
                                          refine lv_if_eq (tgt := 246) hx hb dX4_readFact_239 (by decide) (fun c9 => absurd c9 (by decide)) (fun c118 => ?_)
                                          refine lv_iconst (v := 1) hx hb dX4_readFact_242 (by decide) ?_
                                          refine lv_goto (tgt := 247) hx hb dX4_readFact_243 (by decide) ?_
                                          obtain ⟨hP9, hD9⟩ := PDq.sub (ws' := [(oX4 r0 r1 p0 (nI ((ti + 1) + 1)) (fk ((ti + 1) + 1)) (ft ((ti + 1) + 1)) (fv ((ti + 1) + 1)) zn100 iek iep), (oX5 r1 k1 k2 k3 (nI ct)), (k1, .inl (cA 0, 701, .inl fk)), (k2, .inl (cA 0, 701, .inl ft)), (k3, .inl (cA 1, 701, .inr (.inl fv))), (oX3 p0 pr pb pe pg p1 (nI nd) p2 p3 p4 p5 (nI cn) p6 (nI pq) p7 p8 p9 (nI (sc + 1))), (p2, .inl (cA 1, 10, .inr (.inl fna))), (p6, .inl (cA 1, 8, .inr (.inl fpn))), (p7, .inl (cA 0, 350, .inl fn116)), (p8, .inl (cA 0, 350, .inl fn117))]) hP hD [2, 3, 4, 5, 6, 7, 0, 1, 8, 9] (by decide +kernel) rfl
                                          refine W.widen (k := 0) (n := 0) (Nat.le_of_ble_eq_true rfl) (Nat.le_of_ble_eq_true rfl) ?_
                                          exact (W.zret (v := 1) hx hb hr (by first | rfl | decide) (fun t ht hW => ⟨⟨1, 1, rfl, ⟨rfl, by decide⟩, ((ti + 1) + 1), pq, (sc + 1), zn100, iek, iep, fpn, fn116, fn117, pl, hn103, hn104, (by omega), hpq, (by omega), hNP, (fun _ => rfl), (fun _ => rfl), (fun _ => (by omega)), (fun _ => (by omega)), (fun _ => (P_sum hn97 hn110)), (fun h9 => absurd h9 (by decide)), by rw [ht]; exact hP9, hD9⟩, hS.F ht⟩) hS.2.2 dX4_readFact_247)
                                      · skip
                                        refine lv_tableOut (tgt := 258) hx hb dX4_readFact_52 (by have q0 : ¬ ((fk ti)).toInt = 5 := fun e9 => hn12 (Int32.toInt_inj.mp (e9.trans (by decide))); have q1 : ¬ ((fk ti)).toInt = 6 := fun e9 => hn13 (Int32.toInt_inj.mp (e9.trans (by decide))); have q2 : ¬ ((fk ti)).toInt = 7 := fun e9 => hn14 (Int32.toInt_inj.mp (e9.trans (by decide))); have q3 : ¬ ((fk ti)).toInt = 8 := fun e9 => hn15 (Int32.toInt_inj.mp (e9.trans (by decide))); have q4 : ¬ ((fk ti)).toInt = 9 := fun e9 => hn16 (Int32.toInt_inj.mp (e9.trans (by decide))); have q5 : ¬ ((fk ti)).toInt = 10 := fun e9 => hn17 (Int32.toInt_inj.mp (e9.trans (by decide))); have q6 : ¬ ((fk ti)).toInt = 11 := fun e9 => hn18 (Int32.toInt_inj.mp (e9.trans (by decide))); have q7 : ¬ ((fk ti)).toInt = 12 := fun e9 => hn19 (Int32.toInt_inj.mp (e9.trans (by decide))); have q8 : ¬ ((fk ti)).toInt = 13 := fun e9 => hn20 (Int32.toInt_inj.mp (e9.trans (by decide))); have q9 : ¬ ((fk ti)).toInt = 14 := fun e9 => hn21 (Int32.toInt_inj.mp (e9.trans (by decide))); have q10 : ¬ ((fk ti)).toInt = 15 := fun e9 => hn22 (Int32.toInt_inj.mp (e9.trans (by decide))); have q11 : ¬ ((fk ti)).toInt = 16 := fun e9 => hn23 (Int32.toInt_inj.mp (e9.trans (by decide))); have q12 : ¬ ((fk ti)).toInt = 17 := fun e9 => hn24 (Int32.toInt_inj.mp (e9.trans (by decide))); have q13 : ¬ ((fk ti)).toInt = 18 := fun e9 => hn46 (Int32.toInt_inj.mp (e9.trans (by decide))); have q14 : ¬ ((fk ti)).toInt = 19 := fun e9 => hn71 (Int32.toInt_inj.mp (e9.trans (by decide))); have q15 : ¬ ((fk ti)).toInt = 20 := fun e9 => hn97 (Int32.toInt_inj.mp (e9.trans (by decide))); omega) (by decide) ?_
                                        have hn119 := k2122 hn8 hn12 hn23 hn24 hn46 hn71 hn97
                                        refine lv_aload_n hx hb dX4_readFact_258 rfl (lv_at hl 1 rfl) ?_
                                        refine va_get (D := D) (ci := 8) (v := .ref p0) (C := RX4) (T := TX4) (N := 9) hx hb hts inX4 hown hK hP 5 rfl rfl 1 (by decide) (hts (.fieldLink RX4 25 "EscrowDesk$Reader" "plan" "LEscrowDesk$Plan;") (by decide +kernel)) (fun _ h9 => h9) rfl dX4_readFact_259 ?_
                                        refine lv_iload_n hx hb dX4_readFact_262 rfl (lv_at hl 0 rfl) ?_
                                        refine lv_iconst (v := 0) hx hb dX4_readFact_263 (by decide) ?_
                                        obtain ⟨hPc, hDc, hFc⟩ := PDq.cut (wc := [(oX3 p0 pr pb pe pg p1 (nI nd) p2 p3 p4 p5 (nI cn) p6 (nI pq) p7 p8 p9 (nI sc)), (p7, .inl (cA 0, 350, .inl fst)), (p8, .inl (cA 0, 350, .inl fop))]) hP hD hS hA [0, 3, 4] (by decide) rfl
                                        refine va_calli (va_runV (As := [.int (fk ti), .int 0]) (rest := []) ⟨hx, hb, hml, hown, hts⟩ (x_addStep l D cA sa p0 p1 p2 p3 p4 p5 p6 p7 p8 p9 cn pq nd sc pr pb pe pg (fk ti) 0 fst fop H.size (by omega)) (cwV 2 hts gX4_readFact_X3_addStep rfl rfl rfl (by decide +kernel) ⟨by show (0) + 1 ≤ 20; omega, by show 8 + (3 + 11) + (0) ≤ 320; omega⟩) ⟨Wd.blind, va_recv hK hPc (ci := 7) (q0 := 0) rfl rfl, fun U hU hW => ⟨rfl, Wd.call hPc hDc hK hC hZ hS hFc U hU hW⟩⟩ rfl rfl hl.1 rfl (lv_room (Nat.le_of_ble_eq_true rfl)) dX4_readFact_264 ⟨(Nat.le_of_ble_eq_true rfl), (Nat.le_of_ble_eq_true rfl)⟩) hS (fun q _ h => hFc q h) hFc (fun rn120 u t H1 locs ht hvm hw hB hz1 hk1 hS => ?_)
                                        obtain ⟨fn121, fn122, hP1, hD1⟩ := hB
                                        rw [ht] at hP1
                                        obtain ⟨hP, hD⟩ := PDq.join (w := [(p2, .inl (cA 1, 10, .inr (.inl fna))), (p6, .inl (cA 1, 8, .inr (.inl fpn))), (oX4 r0 r1 p0 (nI (ti + 1)) (fk (ti + 1)) (ft (ti + 1)) (fv (ti + 1)) inb iek iep), (oX5 r1 k1 k2 k3 (nI ct)), (k1, .inl (cA 0, 701, .inl fk)), (k2, .inl (cA 0, 701, .inl ft)), (k3, .inl (cA 1, 701, .inr (.inl fv))), (oX3 p0 pr pb pe pg p1 (nI nd) p2 p3 p4 p5 (nI cn) p6 (nI pq) p7 p8 p9 (nI (sc + 1))), (p7, .inl (cA 0, 350, .inl fn121)), (p8, .inl (cA 0, 350, .inl fn122))]) 7 hP hD [0, 3, 4] [1, 2, 5, 6, 7, 8, 9] rfl rfl (by decide) (by decide +kernel) hk1 hFc hP1 hD1 rfl
                                        generalize H1 = H at hP hS ⊢
                                        obtain rfl : rn120 = 1 := hw
                                        obtain ⟨hP9, hD9⟩ := PDq.sub (ws' := [(oX4 r0 r1 p0 (nI (ti + 1)) (fk (ti + 1)) (ft (ti + 1)) (fv (ti + 1)) inb iek iep), (oX5 r1 k1 k2 k3 (nI ct)), (k1, .inl (cA 0, 701, .inl fk)), (k2, .inl (cA 0, 701, .inl ft)), (k3, .inl (cA 1, 701, .inr (.inl fv))), (oX3 p0 pr pb pe pg p1 (nI nd) p2 p3 p4 p5 (nI cn) p6 (nI pq) p7 p8 p9 (nI (sc + 1))), (p2, .inl (cA 1, 10, .inr (.inl fna))), (p6, .inl (cA 1, 8, .inr (.inl fpn))), (p7, .inl (cA 0, 350, .inl fn121)), (p8, .inl (cA 0, 350, .inl fn122))]) hP hD [2, 3, 4, 5, 6, 7, 0, 1, 8, 9] (by decide +kernel) rfl
                                        refine W.widen (k := 0) (n := 0) (Nat.le_of_ble_eq_true rfl) (Nat.le_of_ble_eq_true rfl) ?_
                                        exact (W.zret (v := 1) hx hb hr (by first | rfl | decide) (fun t ht hW => ⟨⟨1, 1, rfl, ⟨rfl, by decide⟩, (ti + 1), pq, (sc + 1), inb, iek, iep, fpn, fn121, fn122, pl, hn10.1, (by omega), (by omega), hpq, (by omega), hNP, (fun _ => rfl), (fun _ => rfl), (fun _ => (by omega)), (fun _ => (by omega)), (fun _ => (P_plain hn119)), (fun h9 => absurd h9 (by decide)), by rw [ht]; exact hP9, hD9⟩, hS.F ht⟩) hS.2.2 dX4_readFact_267)
      · skip
        subst hr9
        refine lv_if_ne (tgt := 41) hx hb dX4_readFact_32 (by decide) (fun c9 => absurd c9 (by decide)) (fun c123 => ?_)
        refine lv_aload_n hx hb dX4_readFact_35 rfl (lv_at hl 1 rfl) ?_
        refine lv_iconst (v := 2) hx hb dX4_readFact_36 (by decide) ?_
        obtain ⟨hPc, hDc, hFc⟩ := PDq.cut (wc := [(oX4 r0 r1 p0 (nI ti) (fk ti) (ft ti) (fv ti) inb iek iep)]) hP hD hS hA [0] (by decide) rfl
        refine va_calli (va_runV (As := [.int 2]) (rest := []) ⟨hx, hb, hml, hown, hts⟩ (x_fail l D cA sa r0 r1 p0 (nI ti) (fk ti) (ft ti) inb iek iep (fv ti) 2 H.size) (cwV 1 hts gX4_readFact_X4_fail rfl rfl rfl (by decide +kernel) ⟨by show (0) + 1 ≤ 20; omega, by show 8 + (2 + 11) + (0) ≤ 320; omega⟩) ⟨Wd.blind, va_recv hK hPc (ci := 8) (q0 := 0) rfl rfl, fun U hU hW => ⟨rfl, Wd.call hPc hDc hK hC hZ hS hFc U hU hW⟩⟩ rfl rfl hl.1 rfl (lv_room (Nat.le_of_ble_eq_true rfl)) dX4_readFact_37 ⟨(Nat.le_of_ble_eq_true rfl), (Nat.le_of_ble_eq_true rfl)⟩) hS (fun q _ h => hFc q h) hFc (fun rn124 u t H1 locs ht hvm hw hB hz1 hk1 hS => ?_)
        obtain ⟨zn125, hn126, hP1, hD1⟩ := hB
        rw [ht] at hP1
        obtain ⟨hP, hD⟩ := PDq.join (w := [(oX5 r1 k1 k2 k3 (nI ct)), (k1, .inl (cA 0, 701, .inl fk)), (k2, .inl (cA 0, 701, .inl ft)), (k3, .inl (cA 1, 701, .inr (.inl fv))), (oX3 p0 pr pb pe pg p1 (nI nd) p2 p3 p4 p5 (nI cn) p6 (nI pq) p7 p8 p9 (nI sc)), (p2, .inl (cA 1, 10, .inr (.inl fna))), (p6, .inl (cA 1, 8, .inr (.inl fpn))), (p7, .inl (cA 0, 350, .inl fst)), (p8, .inl (cA 0, 350, .inl fop)), (oX4 r0 r1 p0 (nI ti) (fk ti) (ft ti) (fv ti) inb zn125 (ft ti))]) 9 hP hD [0] [1, 2, 3, 4, 5, 6, 7, 8, 9] rfl rfl (by decide +kernel) (by decide +kernel) hk1 hFc hP1 hD1 rfl
        generalize H1 = H at hP hS ⊢
        obtain rfl : rn124 = 0 := hw
        obtain ⟨hP9, hD9⟩ := PDq.sub (ws' := [(oX4 r0 r1 p0 (nI ti) (fk ti) (ft ti) (fv ti) inb zn125 (ft ti)), (oX5 r1 k1 k2 k3 (nI ct)), (k1, .inl (cA 0, 701, .inl fk)), (k2, .inl (cA 0, 701, .inl ft)), (k3, .inl (cA 1, 701, .inr (.inl fv))), (oX3 p0 pr pb pe pg p1 (nI nd) p2 p3 p4 p5 (nI cn) p6 (nI pq) p7 p8 p9 (nI sc)), (p2, .inl (cA 1, 10, .inr (.inl fna))), (p6, .inl (cA 1, 8, .inr (.inl fpn))), (p7, .inl (cA 0, 350, .inl fst)), (p8, .inl (cA 0, 350, .inl fop))]) hP hD [9, 0, 1, 2, 3, 4, 5, 6, 7, 8] (by decide +kernel) rfl
        refine W.widen (k := 0) (n := 0) (Nat.le_of_ble_eq_true rfl) (Nat.le_of_ble_eq_true rfl) ?_
        exact (W.zret (v := 0) hx hb hr (by first | rfl | decide) (fun t ht hW => ⟨⟨0, 0, rfl, ⟨rfl, by decide⟩, ti, pq, sc, inb, zn125, (ft ti), fpn, fst, fop, pl, hti, (by omega), (by omega), hpq, hsc, hNP, (fun h9 => absurd h9 (by decide)), (fun h9 => absurd h9 (by decide)), (fun h9 => absurd h9 (by decide)), (fun h9 => absurd h9 (by decide)), (fun h9 => absurd h9 (by decide)), (fun _ => (P_nonex (fun z9 => hn8 (Or.inl z9)) (fun z9 => hn8 (Or.inr z9)) hn126 rfl)), by rw [ht]; exact hP9, hD9⟩, hS.F ht⟩) hS.2.2 dX4_readFact_40)
    · skip
      rw [c6] at hl
      have hl : lv_has ls 3 [(2, .int 5), (0, .ref r0), (1, .int (nI o9))] := hl
      refine lv_iload_n hx hb dX4_readFact_16 rfl (lv_at hl 2 rfl) ?_
      refine lv_bipush (v := 8) hx hb dX4_readFact_17 (by decide) ?_
      refine lv_icmp_lt (tgt := 28) hx hb dX4_readFact_19 (by decide) (fun c9 => absurd c9 (nI_nlt (a := o9) (b := 8) (show 8 ≤ o9 by omega) (by omega))) (fun c127 => ?_)
      refine lv_aload_n hx hb dX4_readFact_22 rfl (lv_at hl 1 rfl) ?_
      refine lv_iconst (v := 5) hx hb dX4_readFact_23 (by decide) ?_
      obtain ⟨hPc, hDc, hFc⟩ := PDq.cut (wc := [(oX4 r0 r1 p0 (nI ti) (fk ti) (ft ti) (fv ti) inb iek iep)]) hP hD hS hA [0] (by decide) rfl
      refine va_calli (va_runV (As := [.int 5]) (rest := []) ⟨hx, hb, hml, hown, hts⟩ (x_fail l D cA sa r0 r1 p0 (nI ti) (fk ti) (ft ti) inb iek iep (fv ti) 5 s.heap.size) (cwV 1 hts gX4_readFact_X4_fail rfl rfl rfl (by decide +kernel) ⟨by show (0) + 1 ≤ 20; omega, by show 8 + (2 + 11) + (0) ≤ 320; omega⟩) ⟨Wd.blind, va_recv hK hPc (ci := 8) (q0 := 0) rfl rfl, fun U hU hW => ⟨rfl, Wd.call hPc hDc hK hC hZ hS hFc U hU hW⟩⟩ rfl rfl hl.1 rfl (lv_room (Nat.le_of_ble_eq_true rfl)) dX4_readFact_24 ⟨(Nat.le_of_ble_eq_true rfl), (Nat.le_of_ble_eq_true rfl)⟩) hS (fun q _ h => hFc q h) hFc (fun rn128 u t H1 locs ht hvm hw hB hz1 hk1 hS => ?_)
      obtain ⟨zn129, hn130, hP1, hD1⟩ := hB
      rw [ht] at hP1
      obtain ⟨hP, hD⟩ := PDq.join (w := [(oX5 r1 k1 k2 k3 (nI ct)), (k1, .inl (cA 0, 701, .inl fk)), (k2, .inl (cA 0, 701, .inl ft)), (k3, .inl (cA 1, 701, .inr (.inl fv))), (oX3 p0 pr pb pe pg p1 (nI nd) p2 p3 p4 p5 (nI cn) p6 (nI pq) p7 p8 p9 (nI sc)), (p2, .inl (cA 1, 10, .inr (.inl fna))), (p6, .inl (cA 1, 8, .inr (.inl fpn))), (p7, .inl (cA 0, 350, .inl fst)), (p8, .inl (cA 0, 350, .inl fop)), (oX4 r0 r1 p0 (nI ti) (fk ti) (ft ti) (fv ti) inb zn129 (ft ti))]) 9 hP hD [0] [1, 2, 3, 4, 5, 6, 7, 8, 9] rfl rfl (by decide +kernel) (by decide +kernel) hk1 hFc hP1 hD1 rfl
      generalize H1 = H at hP hS ⊢
      obtain rfl : rn128 = 0 := hw
      obtain ⟨hP9, hD9⟩ := PDq.sub (ws' := [(oX4 r0 r1 p0 (nI ti) (fk ti) (ft ti) (fv ti) inb zn129 (ft ti)), (oX5 r1 k1 k2 k3 (nI ct)), (k1, .inl (cA 0, 701, .inl fk)), (k2, .inl (cA 0, 701, .inl ft)), (k3, .inl (cA 1, 701, .inr (.inl fv))), (oX3 p0 pr pb pe pg p1 (nI nd) p2 p3 p4 p5 (nI cn) p6 (nI pq) p7 p8 p9 (nI sc)), (p2, .inl (cA 1, 10, .inr (.inl fna))), (p6, .inl (cA 1, 8, .inr (.inl fpn))), (p7, .inl (cA 0, 350, .inl fst)), (p8, .inl (cA 0, 350, .inl fop))]) hP hD [9, 0, 1, 2, 3, 4, 5, 6, 7, 8] (by decide +kernel) rfl
      refine W.widen (k := 0) (n := 0) (Nat.le_of_ble_eq_true rfl) (Nat.le_of_ble_eq_true rfl) ?_
      exact (W.zret (v := 0) hx hb hr (by first | rfl | decide) (fun t ht hW => ⟨⟨0, 0, rfl, ⟨rfl, by decide⟩, ti, pq, sc, inb, zn129, (ft ti), fpn, fst, fop, pl, hti, (by omega), (by omega), hpq, hsc, hNP, (fun h9 => absurd h9 (by decide)), (fun h9 => absurd h9 (by decide)), (fun h9 => absurd h9 (by decide)), (fun h9 => absurd h9 (by decide)), (fun h9 => absurd h9 (by decide)), (fun _ => (P_manyx (Or.inr c6) (by omega) hn130 rfl)), by rw [ht]; exact hP9, hD9⟩, hS.F ht⟩) hS.2.2 dX4_readFact_27)

set_option maxHeartbeats 4000000 in
set_option maxRecDepth 100000 in
/-- readBoth -/
theorem x_readBoth_B_look (l : Launch) (D : va_G) (cA : Nat → ClassId) (sa : Nat → Nat) (r0 : Nat) (p0 : Nat) (ti : Nat) (ln : Nat) (inb : Int32) (iek : Int32) (iep : Int32) (r1 : Nat) (k1 : Nat) (k2 : Nat) (k3 : Nat) (ct : Nat) (fk : Nat → Int32) (ft : Nat → Int32) (fv : Nat → Int64) (fb : Nat → Int32) (gP : Nat → Nat) (gR : Nat → Nat) (p1 : Nat) (p2 : Nat) (p3 : Nat) (p4 : Nat) (p5 : Nat) (p6 : Nat) (p7 : Nat) (p8 : Nat) (p9 : Nat) (cn : Nat) (pq : Nat) (nd : Nat) (sc : Nat) (pr : Int32) (pb : Int32) (pe : Int32) (pg : Int32) (fna : Nat → Int64) (fpn : Nat → Int64) (fst : Nat → Int32) (fop : Nat → Int32) (ml : List Int64) (pl : List Int64) (sl : Nat) (o9 : Nat) (sz : Nat) (hct : ct ≤ 701) (hln : ln ≤ 700) (hti : ti < ct) (hTX : TX fb ln ct gP gR ft fv fk) (hcn : cn ≤ 10) (hpq : pq ≤ 8) (hnd : nd ≤ 6) (hsc : sc ≤ 350) (hNM : NL ml cn fna) (hNP : NL pl pq fpn) (hsl : 2 * sc + sl ≤ gP ti) (ho : o9 = 8) : Met l yX4_readBoth wsX4_readBoth ({ frames := 21, cells := 0, slots := 0, locals := 344 }) (va_Pc [.ref r0, .int (nI o9)] (Wd D cA sa [(oX4 r0 r1 p0 (nI ti) (fk ti) (ft ti) (fv ti) inb iek iep), (oX5 r1 k1 k2 k3 (nI ct)), (k1, .inl (cA 0, 701, .inl fk)), (k2, .inl (cA 0, 701, .inl ft)), (k3, .inl (cA 1, 701, .inr (.inl fv))), (oX3 p0 pr pb pe pg p1 (nI nd) p2 p3 p4 p5 (nI cn) p6 (nI pq) p7 p8 p9 (nI sc)), (p2, .inl (cA 1, 10, .inr (.inl fna))), (p6, .inl (cA 1, 8, .inr (.inl fpn))), (p7, .inl (cA 0, 350, .inl fst)), (p8, .inl (cA 0, 350, .inl fop))] sz)) (va_Qi (fun (r : Int32) (u9 : Int32) => u9 = r ∧ (r = 0 ∨ r = 1)) (fun (u9 : Int32) t => ∃ tj : Nat, ∃ qm : Nat, ∃ sm : Nat, ∃ znr : Int32, ∃ zek : Int32, ∃ zep : Int32, ∃ zpn : Nat → Int64, ∃ zst : Nat → Int32, ∃ zop : Nat → Int32, ∃ zpl : List Int64, tj < ct ∧ gP tj ≤ ln ∧ ti ≤ tj ∧ qm ≤ 8 ∧ sm ≤ 350 ∧ NL zpl qm zpn ∧ (u9 = 1 → zek = iek) ∧ (u9 = 1 → zep = iep) ∧ (u9 = 1 → 2 * sm + sl ≤ gP tj) ∧ (u9 = 1 → ti + 1 ≤ tj) ∧ (u9 = 1 → PRx fk ft fv ml 1 o9 ti pl (.inr (tj, zpl))) ∧ (u9 = 0 → PRx fk ft fv ml 1 o9 ti pl (.inl (zek, zep))) ∧ Wq D (va_A [(oX4 r0 r1 p0 (nI ti) (fk ti) (ft ti) (fv ti) inb iek iep), (oX5 r1 k1 k2 k3 (nI ct)), (k1, .inl (cA 0, 701, .inl fk)), (k2, .inl (cA 0, 701, .inl ft)), (k3, .inl (cA 1, 701, .inr (.inl fv))), (oX3 p0 pr pb pe pg p1 (nI nd) p2 p3 p4 p5 (nI cn) p6 (nI pq) p7 p8 p9 (nI sc)), (p2, .inl (cA 1, 10, .inr (.inl fna))), (p6, .inl (cA 1, 8, .inr (.inl fpn))), (p7, .inl (cA 0, 350, .inl fst)), (p8, .inl (cA 0, 350, .inl fop))] sz) [(oX4 r0 r1 p0 (nI tj) (fk tj) (ft tj) (fv tj) znr zek zep), (oX5 r1 k1 k2 k3 (nI ct)), (k1, .inl (cA 0, 701, .inl fk)), (k2, .inl (cA 0, 701, .inl ft)), (k3, .inl (cA 1, 701, .inr (.inl fv))), (oX3 p0 pr pb pe pg p1 (nI nd) p2 p3 p4 p5 (nI cn) p6 (nI qm) p7 p8 p9 (nI sm)), (p2, .inl (cA 1, 10, .inr (.inl fna))), (p6, .inl (cA 1, 8, .inr (.inl zpn))), (p7, .inl (cA 0, 350, .inl zst)), (p8, .inl (cA 0, 350, .inl zop))] t) (va_A [(oX4 r0 r1 p0 (nI ti) (fk ti) (ft ti) (fv ti) inb iek iep), (oX5 r1 k1 k2 k3 (nI ct)), (k1, .inl (cA 0, 701, .inl fk)), (k2, .inl (cA 0, 701, .inl ft)), (k3, .inl (cA 1, 701, .inr (.inl fv))), (oX3 p0 pr pb pe pg p1 (nI nd) p2 p3 p4 p5 (nI cn) p6 (nI pq) p7 p8 p9 (nI sc)), (p2, .inl (cA 1, 10, .inr (.inl fna))), (p6, .inl (cA 1, 8, .inr (.inl fpn))), (p7, .inl (cA 0, 350, .inl fst)), (p8, .inl (cA 0, 350, .inl fop))] sz)) 0 0 (va_A [(oX4 r0 r1 p0 (nI ti) (fk ti) (ft ti) (fv ti) inb iek iep), (oX5 r1 k1 k2 k3 (nI ct)), (k1, .inl (cA 0, 701, .inl fk)), (k2, .inl (cA 0, 701, .inl ft)), (k3, .inl (cA 1, 701, .inr (.inl fv))), (oX3 p0 pr pb pe pg p1 (nI nd) p2 p3 p4 p5 (nI cn) p6 (nI pq) p7 p8 p9 (nI sc)), (p2, .inl (cA 1, 10, .inr (.inl fna))), (p6, .inl (cA 1, 8, .inr (.inl fpn))), (p7, .inl (cA 0, 350, .inl fst)), (p8, .inl (cA 0, 350, .inl fop))] sz) := by
  refine Met.ofW (cc := cX4_readBoth) (maxL := 4) (ret := (some .boolean)) (by decide) rfl ?_
  intro p e s m args below meth c s₁ B hml hv
  obtain ⟨rfl, hsz, hP, hK, hD0, hC, hZ⟩ := hv
  have hx := B.exec
  have hb := B.bytes
  have hr := B.returns
  have hts := atoms_spec (ws := wsX4_readBoth) B.pre
  have hown : s.vm.findClass RX4 = some m.cls := findClass_of_methodNamed B.named
  have hlocks := B.notSynchronized
  subst hsz
  have hD := hD0.self (sz := s.heap.size)
  generalize hAe : va_A [(oX4 r0 r1 p0 (nI ti) (fk ti) (ft ti) (fv ti) inb iek iep), (oX5 r1 k1 k2 k3 (nI ct)), (k1, .inl (cA 0, 701, .inl fk)), (k2, .inl (cA 0, 701, .inl ft)), (k3, .inl (cA 1, 701, .inr (.inl fv))), (oX3 p0 pr pb pe pg p1 (nI nd) p2 p3 p4 p5 (nI cn) p6 (nI pq) p7 p8 p9 (nI sc)), (p2, .inl (cA 1, 10, .inr (.inl fna))), (p6, .inl (cA 1, 8, .inr (.inl fpn))), (p7, .inl (cA 0, 350, .inl fst)), (p8, .inl (cA 0, 350, .inl fop))] s.heap.size = A at hD hZ ⊢
  have hA : ∀ q : Nat, s.heap.size ≤ q → A q := fun q h => by rw [← hAe]; exact Or.inr h
  have hS : va_S A s.heap s.heap [] := va_S.rf
  have hP : va_P D vwCl [(oX4 r0 r1 p0 (nI ti) (fk ti) (ft ti) (fv ti) inb iek iep), (oX5 r1 k1 k2 k3 (nI ct)), (k1, .inl (cA 0, 701, .inl fk)), (k2, .inl (cA 0, 701, .inl ft)), (k3, .inl (cA 1, 701, .inr (.inl fv))), (oX3 p0 pr pb pe pg p1 (nI nd) p2 p3 p4 p5 (nI cn) p6 (nI pq) p7 p8 p9 (nI sc)), (p2, .inl (cA 1, 10, .inr (.inl fna))), (p6, .inl (cA 1, 8, .inr (.inl fpn))), (p7, .inl (cA 0, 350, .inl fst)), (p8, .inl (cA 0, 350, .inl fop))] s.heap := hP
  have hl := lv_entry ([.ref r0, .int (nI o9)]) (n := 4) (Nat.le_of_ble_eq_true rfl)
  rw [lg_entry_eq]
  generalize (lg_sl ([.ref r0, .int (nI o9)]) ++ List.replicate (4 - (lg_sl ([.ref r0, .int (nI o9)])).length) Slot.unset).toArray = ls at hl ⊢
  have hl : lv_has ls 4 [(0, .ref r0), (1, .int (nI o9))] := hl
  have inX4 : ∀ w ∈ u_ws RX4 TX4 9, w ∈ wsX4_readBoth := by decide +kernel
  have hle9 := TX.le hTX hti
  refine lv_aload_n hx hb dX4_readBoth_0 rfl (lv_at hl 0 rfl) ?_
  refine lv_iload_n hx hb dX4_readBoth_1 rfl (lv_at hl 1 rfl) ?_
  obtain ⟨hPc, hDc, hFc⟩ := PDq.cut (wc := [(oX4 r0 r1 p0 (nI ti) (fk ti) (ft ti) (fv ti) inb iek iep), (oX5 r1 k1 k2 k3 (nI ct)), (k1, .inl (cA 0, 701, .inl fk)), (k2, .inl (cA 0, 701, .inl ft)), (k3, .inl (cA 1, 701, .inr (.inl fv))), (oX3 p0 pr pb pe pg p1 (nI nd) p2 p3 p4 p5 (nI cn) p6 (nI pq) p7 p8 p9 (nI sc)), (p2, .inl (cA 1, 10, .inr (.inl fna))), (p6, .inl (cA 1, 8, .inr (.inl fpn))), (p7, .inl (cA 0, 350, .inl fst)), (p8, .inl (cA 0, 350, .inl fop))]) hP hD hS hA [0, 1, 2, 3, 4, 5, 6, 7, 8, 9] (by decide +kernel) rfl
  refine va_calli (va_runV (As := [.int (nI o9)]) (rest := []) ⟨hx, hb, hml, hown, hts⟩ (x_readFact_B l D cA sa r0 p0 ti ln inb iek iep r1 k1 k2 k3 ct fk ft fv fb gP gR p1 p2 p3 p4 p5 p6 p7 p8 p9 cn pq nd sc pr pb pe pg fna fpn fst fop ml pl sl o9 s.heap.size hct hln hti hTX hcn hpq hnd hsc hNM hNP hsl ho) (cwV 1 hts gX4_readBoth_X4_readFact rfl rfl rfl (by decide +kernel) ⟨by show (20) + 1 ≤ 21; omega, by show 8 + (3 + 11) + (320) ≤ 344; omega⟩) ⟨Wd.blind, va_recv hK hPc (ci := 8) (q0 := 0) rfl rfl, fun U hU hW => ⟨rfl, Wd.call hPc hDc hK hC hZ hS hFc U hU hW⟩⟩ rfl rfl hl.1 rfl (lv_room (Nat.le_of_ble_eq_true rfl)) dX4_readBoth_2 ⟨(Nat.le_of_ble_eq_true rfl), (Nat.le_of_ble_eq_true rfl)⟩) hS (fun q _ h => hFc q h) hFc (fun rn1 u t H1 locs ht hvm hw hB hz1 hk1 hS => ?_)
  obtain ⟨qn2, qn3, qn4, zn5, zn6, zn7, fn8, fn9, fn10, zn11, hn12, hn13, hn14, hn15, hn16, hn17, hn18, hn19, hn20, hn21, hn22, hn23, hP1, hD1⟩ := hB
  rw [ht] at hP1
  obtain ⟨hP, hD⟩ := PDq.join (w := [(oX4 r0 r1 p0 (nI qn2) (fk qn2) (ft qn2) (fv qn2) zn5 zn6 zn7), (oX5 r1 k1 k2 k3 (nI ct)), (k1, .inl (cA 0, 701, .inl fk)), (k2, .inl (cA 0, 701, .inl ft)), (k3, .inl (cA 1, 701, .inr (.inl fv))), (oX3 p0 pr pb pe pg p1 (nI nd) p2 p3 p4 p5 (nI cn) p6 (nI qn3) p7 p8 p9 (nI qn4)), (p2, .inl (cA 1, 10, .inr (.inl fna))), (p6, .inl (cA 1, 8, .inr (.inl fn8))), (p7, .inl (cA 0, 350, .inl fn9)), (p8, .inl (cA 0, 350, .inl fn10))]) 0 hP hD [0, 1, 2, 3, 4, 5, 6, 7, 8, 9] [] rfl rfl (by decide) (by decide +kernel) hk1 hFc hP1 hD1 rfl
  generalize H1 = H at hP hS ⊢
  rcases hw.2 with hr9 | hr9
  · skip
    have hn23 := hn23 (hw.1.trans hr9)
    subst hr9
    refine lv_istore_n (lv' := [(2, .int 0), (0, .ref r0), (1, .int (nI o9))]) hx hb dX4_readBoth_5 rfl hl (by decide) rfl (fun ls hl => ?_)
    refine lv_iconst (v := 0) hx hb dX4_readBoth_6 (by decide) ?_
    refine lv_istore_n (lv' := [(3, .int 0), (2, .int 0), (0, .ref r0), (1, .int (nI o9))]) hx hb dX4_readBoth_7 rfl hl (by decide) rfl (fun ls hl => ?_)
    refine lv_iload_n hx hb dX4_readBoth_8 rfl (lv_at hl 1 rfl) ?_
    refine lv_if_eq (tgt := 71) hx hb dX4_readBoth_9 (by decide) (fun c24 => ?_) (fun c9 => absurd c9 (by decide))
    refine lv_iload_n hx hb dX4_readBoth_71 rfl (lv_at hl 1 rfl) ?_
    obtain ⟨hP9, hD9⟩ := PDq.sub (ws' := [(oX4 r0 r1 p0 (nI qn2) (fk qn2) (ft qn2) (fv qn2) zn5 zn6 zn7), (oX5 r1 k1 k2 k3 (nI ct)), (k1, .inl (cA 0, 701, .inl fk)), (k2, .inl (cA 0, 701, .inl ft)), (k3, .inl (cA 1, 701, .inr (.inl fv))), (oX3 p0 pr pb pe pg p1 (nI nd) p2 p3 p4 p5 (nI cn) p6 (nI qn3) p7 p8 p9 (nI qn4)), (p2, .inl (cA 1, 10, .inr (.inl fna))), (p6, .inl (cA 1, 8, .inr (.inl fn8))), (p7, .inl (cA 0, 350, .inl fn9)), (p8, .inl (cA 0, 350, .inl fn10))]) hP hD [0, 1, 2, 3, 4, 5, 6, 7, 8, 9] (by decide +kernel) rfl
    refine W.widen (k := 0) (n := 0) (Nat.le_of_ble_eq_true rfl) (Nat.le_of_ble_eq_true rfl) ?_
    exact (W.zret (v := 0) hx hb hr (by first | rfl | decide) (fun t ht hW => ⟨⟨0, 0, rfl, ⟨rfl, by decide⟩, qn2, qn3, qn4, zn5, zn6, zn7, fn8, fn9, fn10, zn11, hn12, hn13, hn14, hn15, hn16, hn17, (fun h9 => absurd h9 (by decide)), (fun h9 => absurd h9 (by decide)), (fun h9 => absurd h9 (by decide)), (fun h9 => absurd h9 (by decide)), (fun h9 => absurd h9 (by decide)), (fun _ => (P_bothE hn23)), by rw [ht]; exact hP9, hD9⟩, hS.F ht⟩) hS.2.2 dX4_readBoth_72)
  · skip
    have hn18 := hn18 (hw.1.trans hr9)
    obtain rfl : iek = zn6 := hn18.symm
    obtain ⟨hP, hD⟩ : PDq D A [(oX4 r0 r1 p0 (nI qn2) (fk qn2) (ft qn2) (fv qn2) zn5 iek zn7), (oX5 r1 k1 k2 k3 (nI ct)), (k1, .inl (cA 0, 701, .inl fk)), (k2, .inl (cA 0, 701, .inl ft)), (k3, .inl (cA 1, 701, .inr (.inl fv))), (oX3 p0 pr pb pe pg p1 (nI nd) p2 p3 p4 p5 (nI cn) p6 (nI qn3) p7 p8 p9 (nI qn4)), (p2, .inl (cA 1, 10, .inr (.inl fna))), (p6, .inl (cA 1, 8, .inr (.inl fn8))), (p7, .inl (cA 0, 350, .inl fn9)), (p8, .inl (cA 0, 350, .inl fn10))] H := ⟨hP, hD⟩
    have hn19 := hn19 (hw.1.trans hr9)
    obtain rfl : iep = zn7 := hn19.symm
    obtain ⟨hP, hD⟩ : PDq D A [(oX4 r0 r1 p0 (nI qn2) (fk qn2) (ft qn2) (fv qn2) zn5 iek iep), (oX5 r1 k1 k2 k3 (nI ct)), (k1, .inl (cA 0, 701, .inl fk)), (k2, .inl (cA 0, 701, .inl ft)), (k3, .inl (cA 1, 701, .inr (.inl fv))), (oX3 p0 pr pb pe pg p1 (nI nd) p2 p3 p4 p5 (nI cn) p6 (nI qn3) p7 p8 p9 (nI qn4)), (p2, .inl (cA 1, 10, .inr (.inl fna))), (p6, .inl (cA 1, 8, .inr (.inl fn8))), (p7, .inl (cA 0, 350, .inl fn9)), (p8, .inl (cA 0, 350, .inl fn10))] H := ⟨hP, hD⟩
    have hn20 := hn20 (hw.1.trans hr9)
    have hn21 := hn21 (hw.1.trans hr9)
    have hn22 := hn22 (hw.1.trans hr9)
    subst hr9
    refine lv_istore_n (lv' := [(2, .int 1), (0, .ref r0), (1, .int (nI o9))]) hx hb dX4_readBoth_5 rfl hl (by decide) rfl (fun ls hl => ?_)
    refine lv_iconst (v := 0) hx hb dX4_readBoth_6 (by decide) ?_
    refine lv_istore_n (lv' := [(3, .int 0), (2, .int 1), (0, .ref r0), (1, .int (nI o9))]) hx hb dX4_readBoth_7 rfl hl (by decide) rfl (fun ls hl => ?_)
    have loop1 : ∀ (n1 i1 : Nat) (pli : List Int64) (tii : Nat) (u0_6_1 : Int32) (qmi : Nat) (smi : Nat) (f7_1 : Nat → Int64) (f8_1 : Nat → Int32) (f9_1 : Nat → Int32) (H : Heap) (locs : List Loc) (ls : Array Slot), i1 + n1 = 700 → ti + 1 + i1 ≤ tii → tii < ct → qmi ≤ 8 → smi ≤ 350 → 2 * smi + sl ≤ gP tii → gP tii ≤ ln → NL pli qmi f7_1 → Cn fk ft fv ml 1 o9 ti pl 2 tii pli → va_P D vwCl [(oX4 r0 r1 p0 (nI tii) (fk tii) (ft tii) (fv tii) u0_6_1 iek iep), (oX5 r1 k1 k2 k3 (nI ct)), (k1, .inl (cA 0, 701, .inl fk)), (k2, .inl (cA 0, 701, .inl ft)), (k3, .inl (cA 1, 701, .inr (.inl fv))), (oX3 p0 pr pb pe pg p1 (nI nd) p2 p3 p4 p5 (nI cn) p6 (nI qmi) p7 p8 p9 (nI smi)), (p2, .inl (cA 1, 10, .inr (.inl fna))), (p6, .inl (cA 1, 8, .inr (.inl f7_1))), (p7, .inl (cA 0, 350, .inl f8_1)), (p8, .inl (cA 0, 350, .inl f9_1))] H → va_D A [(oX4 r0 r1 p0 (nI tii) (fk tii) (ft tii) (fv tii) u0_6_1 iek iep), (oX5 r1 k1 k2 k3 (nI ct)), (k1, .inl (cA 0, 701, .inl fk)), (k2, .inl (cA 0, 701, .inl ft)), (k3, .inl (cA 1, 701, .inr (.inl fv))), (oX3 p0 pr pb pe pg p1 (nI nd) p2 p3 p4 p5 (nI cn) p6 (nI qmi) p7 p8 p9 (nI smi)), (p2, .inl (cA 1, 10, .inr (.inl fna))), (p6, .inl (cA 1, 8, .inr (.inl f7_1))), (p7, .inl (cA 0, 350, .inl f8_1)), (p8, .inl (cA 0, 350, .inl f9_1))] → va_S A s.heap H locs → lv_has ls 4 [(3, .int (nI i1)), (2, .int 1), (0, .ref r0), (1, .int (nI o9))] → W p l e (headSpec wsX4_readBoth ({ frames := 21, cells := 0, slots := 0, locals := 344 } : Room)).room s m ([.ref r0, .int (nI o9)] : List Value).toArray below meth c H locs 0 0 (MQ below (va_Qi (fun (r : Int32) (u9 : Int32) => u9 = r ∧ (r = 0 ∨ r = 1)) (fun (u9 : Int32) t => ∃ tj : Nat, ∃ qm : Nat, ∃ sm : Nat, ∃ znr : Int32, ∃ zek : Int32, ∃ zep : Int32, ∃ zpn : Nat → Int64, ∃ zst : Nat → Int32, ∃ zop : Nat → Int32, ∃ zpl : List Int64, tj < ct ∧ gP tj ≤ ln ∧ ti ≤ tj ∧ qm ≤ 8 ∧ sm ≤ 350 ∧ NL zpl qm zpn ∧ (u9 = 1 → zek = iek) ∧ (u9 = 1 → zep = iep) ∧ (u9 = 1 → 2 * sm + sl ≤ gP tj) ∧ (u9 = 1 → ti + 1 ≤ tj) ∧ (u9 = 1 → PRx fk ft fv ml 1 o9 ti pl (.inr (tj, zpl))) ∧ (u9 = 0 → PRx fk ft fv ml 1 o9 ti pl (.inl (zek, zep))) ∧ Wq D A [(oX4 r0 r1 p0 (nI tj) (fk tj) (ft tj) (fv tj) znr zek zep), (oX5 r1 k1 k2 k3 (nI ct)), (k1, .inl (cA 0, 701, .inl fk)), (k2, .inl (cA 0, 701, .inl ft)), (k3, .inl (cA 1, 701, .inr (.inl fv))), (oX3 p0 pr pb pe pg p1 (nI nd) p2 p3 p4 p5 (nI cn) p6 (nI qm) p7 p8 p9 (nI sm)), (p2, .inl (cA 1, 10, .inr (.inl fna))), (p6, .inl (cA 1, 8, .inr (.inl zpn))), (p7, .inl (cA 0, 350, .inl zst)), (p8, .inl (cA 0, 350, .inl zop))] t) A) ([.ref r0, .int (nI o9)] : List Value).toArray s 0 0 A) (F0 m 8 ls []) := by
      intro n1
      induction n1 with
      | zero =>
        intro i1 pli tii u0_6_1 qmi smi f7_1 f8_1 f9_1 H locs ls hi1 hv0_1 hv1_1 hv2_1 hv3_1 hv4_1 hv5_1 hv6_1 hv7_1 hP hD hS hl
        obtain rfl : 700 = i1 := by omega
        exact absurd hv0_1 (by omega)
      | succ n1 ih1 =>
        intro i1 pli tii u0_6_1 qmi smi f7_1 f8_1 f9_1 H locs ls hi1 hv0_1 hv1_1 hv2_1 hv3_1 hv4_1 hv5_1 hv6_1 hv7_1 hP hD hS hl
        refine lv_iload_n hx hb dX4_readBoth_8 rfl (lv_at hl 1 rfl) ?_
        refine lv_if_eq (tgt := 71) hx hb dX4_readBoth_9 (by decide) (fun c9 => absurd c9 (by decide)) (fun c25 => ?_)
        refine lv_iload_n hx hb dX4_readBoth_12 rfl (lv_at hl 0 rfl) ?_
        refine lv_sipush (v := 700) hx hb dX4_readBoth_13 (by decide) ?_
        refine lv_icmp_ge (tgt := 71) hx hb dX4_readBoth_16 (by decide) (fun c9 => absurd c9 (nI_ge (a := i1) (b := 700) (show i1 < 700 by omega) (by omega))) (fun c26 => ?_)
        refine lv_aload_n hx hb dX4_readBoth_19 rfl (lv_at hl 2 rfl) ?_
        refine va_get (D := D) (ci := 8) (v := .int (fk tii)) (C := RX4) (T := TX4) (N := 9) hx hb hts inX4 hown hK hP 0 rfl rfl 3 (by decide) (hts (.fieldLink RX4 42 "EscrowDesk$Reader" "kind" "I") (by decide +kernel)) (fun _ h9 => h9) rfl dX4_readBoth_20 ?_
        refine lv_bipush (v := 15) hx hb dX4_readBoth_23 (by decide) ?_
        refine lv_icmp_ne (tgt := 71) hx hb dX4_readBoth_25 (by decide) (fun c27 => ?_) (fun c27 => ?_)
        · skip
          refine lv_iload_n hx hb dX4_readBoth_71 rfl (lv_at hl 1 rfl) ?_
          obtain ⟨hP9, hD9⟩ := PDq.sub (ws' := [(oX4 r0 r1 p0 (nI tii) (fk tii) (ft tii) (fv tii) u0_6_1 iek iep), (oX5 r1 k1 k2 k3 (nI ct)), (k1, .inl (cA 0, 701, .inl fk)), (k2, .inl (cA 0, 701, .inl ft)), (k3, .inl (cA 1, 701, .inr (.inl fv))), (oX3 p0 pr pb pe pg p1 (nI nd) p2 p3 p4 p5 (nI cn) p6 (nI qmi) p7 p8 p9 (nI smi)), (p2, .inl (cA 1, 10, .inr (.inl fna))), (p6, .inl (cA 1, 8, .inr (.inl f7_1))), (p7, .inl (cA 0, 350, .inl f8_1)), (p8, .inl (cA 0, 350, .inl f9_1))]) hP hD [0, 1, 2, 3, 4, 5, 6, 7, 8, 9] (by decide +kernel) rfl
          refine W.widen (k := 0) (n := 0) (Nat.le_of_ble_eq_true rfl) (Nat.le_of_ble_eq_true rfl) ?_
          exact (W.zret (v := 1) hx hb hr (by first | rfl | decide) (fun t ht hW => ⟨⟨1, 1, rfl, ⟨rfl, by decide⟩, tii, qmi, smi, u0_6_1, iek, iep, f7_1, f8_1, f9_1, pli, hv1_1, hv5_1, (by omega), hv2_1, hv3_1, hv6_1, (fun _ => rfl), (fun _ => rfl), (fun _ => hv4_1), (fun _ => (by omega)), (fun _ => (hv7_1 _ (P_end2 c27))), (fun h9 => absurd h9 (by decide)), by rw [ht]; exact hP9, hD9⟩, hS.F ht⟩) hS.2.2 dX4_readBoth_72)
        · skip
          have hn28 := TX.go2 hTX (show tii < ct by omega) (by rw [c27]; decide)
          have hn28a := hn28.2.1
          have hn28b := hn28.2.2
          have hn28c := hn28.1
          refine lv_aload_n hx hb dX4_readBoth_28 rfl (lv_at hl 2 rfl) ?_
          refine lv_aload_n hx hb dX4_readBoth_29 rfl (lv_at hl 2 rfl) ?_
          refine va_get (D := D) (ci := 8) (v := .int (nI tii)) (C := RX4) (T := TX4) (N := 9) hx hb hts inX4 hown hK hP 0 rfl rfl 2 (by decide) (hts (.fieldLink RX4 70 "EscrowDesk$Reader" "token" "I") (by decide +kernel)) (fun _ h9 => h9) rfl dX4_readBoth_30 ?_
          refine lv_iconst (v := 1) hx hb dX4_readBoth_33 (by decide) ?_
          refine lv_iadd hx hb dX4_readBoth_34 ?_
          refine lv_topi (fun yn29 eyn29 => ?_)
          obtain rfl : yn29 = (nI (tii + 1)) := eyn29.trans (nI_add tii 1)
          obtain ⟨hPc, hDc, hFc⟩ := PDq.cut (wc := [(oX4 r0 r1 p0 (nI tii) (fk tii) (ft tii) (fv tii) u0_6_1 iek iep), (oX5 r1 k1 k2 k3 (nI ct)), (k1, .inl (cA 0, 701, .inl fk)), (k2, .inl (cA 0, 701, .inl ft)), (k3, .inl (cA 1, 701, .inr (.inl fv)))]) hP hD hS hA [0, 1, 2, 3, 4] (by decide) rfl
          refine va_callv (va_runV (As := [.int (nI (tii + 1))]) (rest := []) ⟨hx, hb, hml, hown, hts⟩ (x_lookAt l D cA sa r0 p0 (tii + 1) (nI tii) (fk tii) (ft tii) u0_6_1 iek iep (fv tii) r1 k1 k2 k3 ct fk ft fv H.size hct hn28.1) (cwV 1 hts gX4_readBoth_X4_lookAt rfl rfl rfl (by decide +kernel) ⟨by show (0) + 1 ≤ 21; omega, by show 8 + (2 + 11) + (0) ≤ 344; omega⟩) ⟨Wd.blind, va_recv hK hPc (ci := 8) (q0 := 0) rfl rfl, fun U hU hW => ⟨rfl, Wd.call hPc hDc hK hC hZ hS hFc U hU hW⟩⟩ rfl rfl hl.1 rfl (lv_room (Nat.le_of_ble_eq_true rfl)) dX4_readBoth_35 ⟨(Nat.le_of_ble_eq_true rfl), (Nat.le_of_ble_eq_true rfl)⟩) hS (fun q _ h => hFc q h) hFc (fun u t H1 locs ht hvm hw hB hz1 hk1 hS => ?_)
          obtain ⟨hP1, hD1⟩ := hB
          rw [ht] at hP1
          obtain ⟨hP, hD⟩ := PDq.join (w := [(oX3 p0 pr pb pe pg p1 (nI nd) p2 p3 p4 p5 (nI cn) p6 (nI qmi) p7 p8 p9 (nI smi)), (p2, .inl (cA 1, 10, .inr (.inl fna))), (p6, .inl (cA 1, 8, .inr (.inl f7_1))), (p7, .inl (cA 0, 350, .inl f8_1)), (p8, .inl (cA 0, 350, .inl f9_1)), (oX4 r0 r1 p0 (nI (tii + 1)) (fk (tii + 1)) (ft (tii + 1)) (fv (tii + 1)) u0_6_1 iek iep), (oX5 r1 k1 k2 k3 (nI ct)), (k1, .inl (cA 0, 701, .inl fk)), (k2, .inl (cA 0, 701, .inl ft)), (k3, .inl (cA 1, 701, .inr (.inl fv)))]) 5 hP hD [0, 1, 2, 3, 4] [5, 6, 7, 8, 9] rfl rfl (by decide) (by decide +kernel) hk1 hFc hP1 hD1 rfl
          generalize H1 = H at hP hS ⊢
          refine lv_aload_n hx hb dX4_readBoth_38 rfl (lv_at hl 2 rfl) ?_
          refine lv_iload_n hx hb dX4_readBoth_39 rfl (lv_at hl 3 rfl) ?_
          obtain ⟨hPc, hDc, hFc⟩ := PDq.cut (wc := [(oX4 r0 r1 p0 (nI (tii + 1)) (fk (tii + 1)) (ft (tii + 1)) (fv (tii + 1)) u0_6_1 iek iep), (oX5 r1 k1 k2 k3 (nI ct)), (k1, .inl (cA 0, 701, .inl fk)), (k2, .inl (cA 0, 701, .inl ft)), (k3, .inl (cA 1, 701, .inr (.inl fv))), (oX3 p0 pr pb pe pg p1 (nI nd) p2 p3 p4 p5 (nI cn) p6 (nI qmi) p7 p8 p9 (nI smi)), (p2, .inl (cA 1, 10, .inr (.inl fna))), (p6, .inl (cA 1, 8, .inr (.inl f7_1))), (p7, .inl (cA 0, 350, .inl f8_1)), (p8, .inl (cA 0, 350, .inl f9_1))]) hP hD hS hA [5, 6, 7, 8, 9, 0, 1, 2, 3, 4] (by decide +kernel) rfl
          refine va_calli (va_runV (As := [.int (nI o9)]) (rest := []) ⟨hx, hb, hml, hown, hts⟩ (x_readFact_B l D cA sa r0 p0 (tii + 1) ln u0_6_1 iek iep r1 k1 k2 k3 ct fk ft fv fb gP gR p1 p2 p3 p4 p5 p6 p7 p8 p9 cn qmi nd smi pr pb pe pg fna f7_1 f8_1 f9_1 ml pli (sl + 2) o9 H.size hct hln hn28.1 hTX hcn hv2_1 hnd hv3_1 hNM hv6_1 (by omega) ho) (cwV 1 hts gX4_readBoth_X4_readFact rfl rfl rfl (by decide +kernel) ⟨by show (20) + 1 ≤ 21; omega, by show 8 + (3 + 11) + (320) ≤ 344; omega⟩) ⟨Wd.blind, va_recv hK hPc (ci := 8) (q0 := 0) rfl rfl, fun U hU hW => ⟨rfl, Wd.call hPc hDc hK hC hZ hS hFc U hU hW⟩⟩ rfl rfl hl.1 rfl (lv_room (Nat.le_of_ble_eq_true rfl)) dX4_readBoth_40 ⟨(Nat.le_of_ble_eq_true rfl), (Nat.le_of_ble_eq_true rfl)⟩) hS (fun q _ h => hFc q h) hFc (fun rn30 u t H1 locs ht hvm hw hB hz1 hk1 hS => ?_)
          obtain ⟨qn31, qn32, qn33, zn34, zn35, zn36, fn37, fn38, fn39, zn40, hn41, hn42, hn43, hn44, hn45, hn46, hn47, hn48, hn49, hn50, hn51, hn52, hP1, hD1⟩ := hB
          rw [ht] at hP1
          obtain ⟨hP, hD⟩ := PDq.join (w := [(oX4 r0 r1 p0 (nI qn31) (fk qn31) (ft qn31) (fv qn31) zn34 zn35 zn36), (oX5 r1 k1 k2 k3 (nI ct)), (k1, .inl (cA 0, 701, .inl fk)), (k2, .inl (cA 0, 701, .inl ft)), (k3, .inl (cA 1, 701, .inr (.inl fv))), (oX3 p0 pr pb pe pg p1 (nI nd) p2 p3 p4 p5 (nI cn) p6 (nI qn32) p7 p8 p9 (nI qn33)), (p2, .inl (cA 1, 10, .inr (.inl fna))), (p6, .inl (cA 1, 8, .inr (.inl fn37))), (p7, .inl (cA 0, 350, .inl fn38)), (p8, .inl (cA 0, 350, .inl fn39))]) 0 hP hD [5, 6, 7, 8, 9, 0, 1, 2, 3, 4] [] rfl rfl (by decide) (by decide +kernel) hk1 hFc hP1 hD1 rfl
          generalize H1 = H at hP hS ⊢
          rcases hw.2 with hr9 | hr9
          · skip
            have hn52 := hn52 (hw.1.trans hr9)
            subst hr9
            refine lv_if_eq (tgt := 63) hx hb dX4_readBoth_43 (by decide) (fun c53 => ?_) (fun c9 => absurd c9 (by decide))
            refine lv_iconst (v := 0) hx hb dX4_readBoth_63 (by decide) ?_
            refine lv_istore_n (lv' := [(2, .int 0), (3, .int (nI i1)), (0, .ref r0), (1, .int (nI o9))]) hx hb dX4_readBoth_64 rfl hl (by decide) rfl (fun ls hl => ?_)
            refine lv_iinc (v := (nI (i1 + 1))) (lv' := [(3, .int (nI (i1 + 1))), (2, .int 0), (0, .ref r0), (1, .int (nI o9))]) hx hb dX4_readBoth_65 hl (k := 1) rfl (nI_1 _) (by decide) rfl (fun ls hl => ?_)
            refine lv_goto (tgt := 8) hx hb dX4_readBoth_68 (by decide) ?_
            refine lv_iload_n hx hb dX4_readBoth_8 rfl (lv_at hl 1 rfl) ?_
            refine lv_if_eq (tgt := 71) hx hb dX4_readBoth_9 (by decide) (fun c54 => ?_) (fun c9 => absurd c9 (by decide))
            refine lv_iload_n hx hb dX4_readBoth_71 rfl (lv_at hl 1 rfl) ?_
            obtain ⟨hP9, hD9⟩ := PDq.sub (ws' := [(oX4 r0 r1 p0 (nI qn31) (fk qn31) (ft qn31) (fv qn31) zn34 zn35 zn36), (oX5 r1 k1 k2 k3 (nI ct)), (k1, .inl (cA 0, 701, .inl fk)), (k2, .inl (cA 0, 701, .inl ft)), (k3, .inl (cA 1, 701, .inr (.inl fv))), (oX3 p0 pr pb pe pg p1 (nI nd) p2 p3 p4 p5 (nI cn) p6 (nI qn32) p7 p8 p9 (nI qn33)), (p2, .inl (cA 1, 10, .inr (.inl fna))), (p6, .inl (cA 1, 8, .inr (.inl fn37))), (p7, .inl (cA 0, 350, .inl fn38)), (p8, .inl (cA 0, 350, .inl fn39))]) hP hD [0, 1, 2, 3, 4, 5, 6, 7, 8, 9] (by decide +kernel) rfl
            refine W.widen (k := 0) (n := 0) (Nat.le_of_ble_eq_true rfl) (Nat.le_of_ble_eq_true rfl) ?_
            exact (W.zret (v := 0) hx hb hr (by first | rfl | decide) (fun t ht hW => ⟨⟨0, 0, rfl, ⟨rfl, by decide⟩, qn31, qn32, qn33, zn34, zn35, zn36, fn37, fn38, fn39, zn40, hn41, hn42, (by omega), hn44, hn45, hn46, (fun h9 => absurd h9 (by decide)), (fun h9 => absurd h9 (by decide)), (fun h9 => absurd h9 (by decide)), (fun h9 => absurd h9 (by decide)), (fun h9 => absurd h9 (by decide)), (fun _ => (hv7_1 _ (P_andE c27 hn52))), by rw [ht]; exact hP9, hD9⟩, hS.F ht⟩) hS.2.2 dX4_readBoth_72)
          · skip
            have hn47 := hn47 (hw.1.trans hr9)
            obtain rfl : iek = zn35 := hn47.symm
            obtain ⟨hP, hD⟩ : PDq D A [(oX4 r0 r1 p0 (nI qn31) (fk qn31) (ft qn31) (fv qn31) zn34 iek zn36), (oX5 r1 k1 k2 k3 (nI ct)), (k1, .inl (cA 0, 701, .inl fk)), (k2, .inl (cA 0, 701, .inl ft)), (k3, .inl (cA 1, 701, .inr (.inl fv))), (oX3 p0 pr pb pe pg p1 (nI nd) p2 p3 p4 p5 (nI cn) p6 (nI qn32) p7 p8 p9 (nI qn33)), (p2, .inl (cA 1, 10, .inr (.inl fna))), (p6, .inl (cA 1, 8, .inr (.inl fn37))), (p7, .inl (cA 0, 350, .inl fn38)), (p8, .inl (cA 0, 350, .inl fn39))] H := ⟨hP, hD⟩
            have hn48 := hn48 (hw.1.trans hr9)
            obtain rfl : iep = zn36 := hn48.symm
            obtain ⟨hP, hD⟩ : PDq D A [(oX4 r0 r1 p0 (nI qn31) (fk qn31) (ft qn31) (fv qn31) zn34 iek iep), (oX5 r1 k1 k2 k3 (nI ct)), (k1, .inl (cA 0, 701, .inl fk)), (k2, .inl (cA 0, 701, .inl ft)), (k3, .inl (cA 1, 701, .inr (.inl fv))), (oX3 p0 pr pb pe pg p1 (nI nd) p2 p3 p4 p5 (nI cn) p6 (nI qn32) p7 p8 p9 (nI qn33)), (p2, .inl (cA 1, 10, .inr (.inl fna))), (p6, .inl (cA 1, 8, .inr (.inl fn37))), (p7, .inl (cA 0, 350, .inl fn38)), (p8, .inl (cA 0, 350, .inl fn39))] H := ⟨hP, hD⟩
            have hn49 := hn49 (hw.1.trans hr9)
            have hn50 := hn50 (hw.1.trans hr9)
            have hn51 := hn51 (hw.1.trans hr9)
            subst hr9
            refine lv_if_eq (tgt := 63) hx hb dX4_readBoth_43 (by decide) (fun c9 => absurd c9 (by decide)) (fun c55 => ?_)
            refine lv_aload_n hx hb dX4_readBoth_46 rfl (lv_at hl 2 rfl) ?_
            refine va_get (D := D) (ci := 8) (v := .ref p0) (C := RX4) (T := TX4) (N := 9) hx hb hts inX4 hown hK hP 0 rfl rfl 1 (by decide) (hts (.fieldLink RX4 25 "EscrowDesk$Reader" "plan" "LEscrowDesk$Plan;") (by decide +kernel)) (fun _ h9 => h9) rfl dX4_readBoth_47 ?_
            refine lv_bipush (v := 15) hx hb dX4_readBoth_50 (by decide) ?_
            refine lv_iconst (v := 0) hx hb dX4_readBoth_52 (by decide) ?_
            obtain ⟨hPc, hDc, hFc⟩ := PDq.cut (wc := [(oX3 p0 pr pb pe pg p1 (nI nd) p2 p3 p4 p5 (nI cn) p6 (nI qn32) p7 p8 p9 (nI qn33)), (p7, .inl (cA 0, 350, .inl fn38)), (p8, .inl (cA 0, 350, .inl fn39))]) hP hD hS hA [5, 8, 9] (by decide) rfl
            refine va_calli (va_runV (As := [.int 15, .int 0]) (rest := []) ⟨hx, hb, hml, hown, hts⟩ (x_addStep l D cA sa p0 p1 p2 p3 p4 p5 p6 p7 p8 p9 cn qn32 nd qn33 pr pb pe pg 15 0 fn38 fn39 H.size (by omega)) (cwV 2 hts gX4_readBoth_X3_addStep rfl rfl rfl (by decide +kernel) ⟨by show (0) + 1 ≤ 21; omega, by show 8 + (3 + 11) + (0) ≤ 344; omega⟩) ⟨Wd.blind, va_recv hK hPc (ci := 7) (q0 := 0) rfl rfl, fun U hU hW => ⟨rfl, Wd.call hPc hDc hK hC hZ hS hFc U hU hW⟩⟩ rfl rfl hl.1 rfl (lv_room (Nat.le_of_ble_eq_true rfl)) dX4_readBoth_53 ⟨(Nat.le_of_ble_eq_true rfl), (Nat.le_of_ble_eq_true rfl)⟩) hS (fun q _ h => hFc q h) hFc (fun rn56 u t H1 locs ht hvm hw hB hz1 hk1 hS => ?_)
            obtain ⟨fn57, fn58, hP1, hD1⟩ := hB
            rw [ht] at hP1
            obtain ⟨hP, hD⟩ := PDq.join (w := [(oX4 r0 r1 p0 (nI qn31) (fk qn31) (ft qn31) (fv qn31) zn34 iek iep), (oX5 r1 k1 k2 k3 (nI ct)), (k1, .inl (cA 0, 701, .inl fk)), (k2, .inl (cA 0, 701, .inl ft)), (k3, .inl (cA 1, 701, .inr (.inl fv))), (p2, .inl (cA 1, 10, .inr (.inl fna))), (p6, .inl (cA 1, 8, .inr (.inl fn37))), (oX3 p0 pr pb pe pg p1 (nI nd) p2 p3 p4 p5 (nI cn) p6 (nI qn32) p7 p8 p9 (nI (qn33 + 1))), (p7, .inl (cA 0, 350, .inl fn57)), (p8, .inl (cA 0, 350, .inl fn58))]) 7 hP hD [5, 8, 9] [0, 1, 2, 3, 4, 6, 7] rfl rfl (by decide) (by decide +kernel) hk1 hFc hP1 hD1 rfl
            generalize H1 = H at hP hS ⊢
            obtain rfl : rn56 = 1 := hw
            refine lv_if_eq (tgt := 63) hx hb dX4_readBoth_56 (by decide) (fun c9 => absurd c9 (by decide)) (fun c59 => ?_)
            refine lv_iconst (v := 1) hx hb dX4_readBoth_59 (by decide) ?_
            refine lv_goto (tgt := 64) hx hb dX4_readBoth_60 (by decide) ?_
            refine lv_istore_n (lv' := [(2, .int 1), (3, .int (nI i1)), (0, .ref r0), (1, .int (nI o9))]) hx hb dX4_readBoth_64 rfl hl (by decide) rfl (fun ls hl => ?_)
            refine lv_iinc (v := (nI (i1 + 1))) (lv' := [(3, .int (nI (i1 + 1))), (2, .int 1), (0, .ref r0), (1, .int (nI o9))]) hx hb dX4_readBoth_65 hl (k := 1) rfl (nI_1 _) (by decide) rfl (fun ls hl => ?_)
            refine lv_goto (tgt := 8) hx hb dX4_readBoth_68 (by decide) ?_
            obtain ⟨hP9, hD9⟩ := PDq.sub (ws' := [(oX4 r0 r1 p0 (nI qn31) (fk qn31) (ft qn31) (fv qn31) zn34 iek iep), (oX5 r1 k1 k2 k3 (nI ct)), (k1, .inl (cA 0, 701, .inl fk)), (k2, .inl (cA 0, 701, .inl ft)), (k3, .inl (cA 1, 701, .inr (.inl fv))), (oX3 p0 pr pb pe pg p1 (nI nd) p2 p3 p4 p5 (nI cn) p6 (nI qn32) p7 p8 p9 (nI (qn33 + 1))), (p2, .inl (cA 1, 10, .inr (.inl fna))), (p6, .inl (cA 1, 8, .inr (.inl fn37))), (p7, .inl (cA 0, 350, .inl fn57)), (p8, .inl (cA 0, 350, .inl fn58))]) hP hD [0, 1, 2, 3, 4, 7, 5, 6, 8, 9] (by decide +kernel) rfl
            exact ih1 (i1 + 1) zn40 qn31 zn34 qn32 (qn33 + 1) fn37 fn57 fn58 H _ ls (by omega) (by omega) hn41 hn44 (by omega) (by omega) hn42 hn46 (fun r9 h9 => hv7_1 r9 (P_and c27 hn51 h9)) hP9 hD9 hS (lv_sub hl [0, 1, 2, 3] rfl)
    obtain ⟨hP9, hD9⟩ := PDq.sub (ws' := [(oX4 r0 r1 p0 (nI qn2) (fk qn2) (ft qn2) (fv qn2) zn5 iek iep), (oX5 r1 k1 k2 k3 (nI ct)), (k1, .inl (cA 0, 701, .inl fk)), (k2, .inl (cA 0, 701, .inl ft)), (k3, .inl (cA 1, 701, .inr (.inl fv))), (oX3 p0 pr pb pe pg p1 (nI nd) p2 p3 p4 p5 (nI cn) p6 (nI qn3) p7 p8 p9 (nI qn4)), (p2, .inl (cA 1, 10, .inr (.inl fna))), (p6, .inl (cA 1, 8, .inr (.inl fn8))), (p7, .inl (cA 0, 350, .inl fn9)), (p8, .inl (cA 0, 350, .inl fn10))]) hP hD [0, 1, 2, 3, 4, 5, 6, 7, 8, 9] (by decide +kernel) rfl
    exact loop1 (700 - 0) 0 zn11 qn2 zn5 qn3 qn4 fn8 fn9 fn10 _ _ ls (by omega) (by omega) hn12 hn15 hn16 hn20 hn13 hn17 (fun r9 h9 => P_both hn22 h9) hP9 hD9 hS (lv_sub hl [0, 1, 2, 3] rfl)

set_option maxHeartbeats 4000000 in
set_option maxRecDepth 100000 in
/-- readCondition -/
theorem x_readCondition_B_look (l : Launch) (D : va_G) (cA : Nat → ClassId) (sa : Nat → Nat) (r0 : Nat) (p0 : Nat) (ti : Nat) (ln : Nat) (inb : Int32) (iek : Int32) (iep : Int32) (r1 : Nat) (k1 : Nat) (k2 : Nat) (k3 : Nat) (ct : Nat) (fk : Nat → Int32) (ft : Nat → Int32) (fv : Nat → Int64) (fb : Nat → Int32) (gP : Nat → Nat) (gR : Nat → Nat) (p1 : Nat) (p2 : Nat) (p3 : Nat) (p4 : Nat) (p5 : Nat) (p6 : Nat) (p7 : Nat) (p8 : Nat) (p9 : Nat) (cn : Nat) (pq : Nat) (nd : Nat) (sc : Nat) (pr : Int32) (pb : Int32) (pe : Int32) (pg : Int32) (fna : Nat → Int64) (fpn : Nat → Int64) (fst : Nat → Int32) (fop : Nat → Int32) (ml : List Int64) (pl : List Int64) (sl : Nat) (o9 : Nat) (sz : Nat) (hct : ct ≤ 701) (hln : ln ≤ 700) (hti : ti < ct) (hTX : TX fb ln ct gP gR ft fv fk) (hcn : cn ≤ 10) (hpq : pq ≤ 8) (hnd : nd ≤ 6) (hsc : sc ≤ 350) (hNM : NL ml cn fna) (hNP : NL pl pq fpn) (hsl : 2 * sc + sl ≤ gP ti) (ho : o9 = 8) : Met l yX4_readCondition wsX4_readCondition ({ frames := 22, cells := 0, slots := 0, locals := 368 }) (va_Pc [.ref r0, .int (nI o9)] (Wd D cA sa [(oX4 r0 r1 p0 (nI ti) (fk ti) (ft ti) (fv ti) inb iek iep), (oX5 r1 k1 k2 k3 (nI ct)), (k1, .inl (cA 0, 701, .inl fk)), (k2, .inl (cA 0, 701, .inl ft)), (k3, .inl (cA 1, 701, .inr (.inl fv))), (oX3 p0 pr pb pe pg p1 (nI nd) p2 p3 p4 p5 (nI cn) p6 (nI pq) p7 p8 p9 (nI sc)), (p2, .inl (cA 1, 10, .inr (.inl fna))), (p6, .inl (cA 1, 8, .inr (.inl fpn))), (p7, .inl (cA 0, 350, .inl fst)), (p8, .inl (cA 0, 350, .inl fop))] sz)) (va_Qi (fun (r : Int32) (u9 : Int32) => u9 = r ∧ (r = 0 ∨ r = 1)) (fun (u9 : Int32) t => ∃ tj : Nat, ∃ qm : Nat, ∃ sm : Nat, ∃ znr : Int32, ∃ zek : Int32, ∃ zep : Int32, ∃ zpn : Nat → Int64, ∃ zst : Nat → Int32, ∃ zop : Nat → Int32, ∃ zpl : List Int64, tj < ct ∧ gP tj ≤ ln ∧ ti ≤ tj ∧ qm ≤ 8 ∧ sm ≤ 350 ∧ NL zpl qm zpn ∧ (u9 = 1 → zek = iek) ∧ (u9 = 1 → zep = iep) ∧ (u9 = 1 → 2 * sm + sl ≤ gP tj) ∧ (u9 = 1 → ti + 1 ≤ tj) ∧ (u9 = 1 → PRx fk ft fv ml 3 o9 ti pl (.inr (tj, zpl))) ∧ (u9 = 0 → PRx fk ft fv ml 3 o9 ti pl (.inl (zek, zep))) ∧ Wq D (va_A [(oX4 r0 r1 p0 (nI ti) (fk ti) (ft ti) (fv ti) inb iek iep), (oX5 r1 k1 k2 k3 (nI ct)), (k1, .inl (cA 0, 701, .inl fk)), (k2, .inl (cA 0, 701, .inl ft)), (k3, .inl (cA 1, 701, .inr (.inl fv))), (oX3 p0 pr pb pe pg p1 (nI nd) p2 p3 p4 p5 (nI cn) p6 (nI pq) p7 p8 p9 (nI sc)), (p2, .inl (cA 1, 10, .inr (.inl fna))), (p6, .inl (cA 1, 8, .inr (.inl fpn))), (p7, .inl (cA 0, 350, .inl fst)), (p8, .inl (cA 0, 350, .inl fop))] sz) [(oX4 r0 r1 p0 (nI tj) (fk tj) (ft tj) (fv tj) znr zek zep), (oX5 r1 k1 k2 k3 (nI ct)), (k1, .inl (cA 0, 701, .inl fk)), (k2, .inl (cA 0, 701, .inl ft)), (k3, .inl (cA 1, 701, .inr (.inl fv))), (oX3 p0 pr pb pe pg p1 (nI nd) p2 p3 p4 p5 (nI cn) p6 (nI qm) p7 p8 p9 (nI sm)), (p2, .inl (cA 1, 10, .inr (.inl fna))), (p6, .inl (cA 1, 8, .inr (.inl zpn))), (p7, .inl (cA 0, 350, .inl zst)), (p8, .inl (cA 0, 350, .inl zop))] t) (va_A [(oX4 r0 r1 p0 (nI ti) (fk ti) (ft ti) (fv ti) inb iek iep), (oX5 r1 k1 k2 k3 (nI ct)), (k1, .inl (cA 0, 701, .inl fk)), (k2, .inl (cA 0, 701, .inl ft)), (k3, .inl (cA 1, 701, .inr (.inl fv))), (oX3 p0 pr pb pe pg p1 (nI nd) p2 p3 p4 p5 (nI cn) p6 (nI pq) p7 p8 p9 (nI sc)), (p2, .inl (cA 1, 10, .inr (.inl fna))), (p6, .inl (cA 1, 8, .inr (.inl fpn))), (p7, .inl (cA 0, 350, .inl fst)), (p8, .inl (cA 0, 350, .inl fop))] sz)) 0 0 (va_A [(oX4 r0 r1 p0 (nI ti) (fk ti) (ft ti) (fv ti) inb iek iep), (oX5 r1 k1 k2 k3 (nI ct)), (k1, .inl (cA 0, 701, .inl fk)), (k2, .inl (cA 0, 701, .inl ft)), (k3, .inl (cA 1, 701, .inr (.inl fv))), (oX3 p0 pr pb pe pg p1 (nI nd) p2 p3 p4 p5 (nI cn) p6 (nI pq) p7 p8 p9 (nI sc)), (p2, .inl (cA 1, 10, .inr (.inl fna))), (p6, .inl (cA 1, 8, .inr (.inl fpn))), (p7, .inl (cA 0, 350, .inl fst)), (p8, .inl (cA 0, 350, .inl fop))] sz) := by
  refine Met.ofW (cc := cX4_readCondition) (maxL := 4) (ret := (some .boolean)) (by decide) rfl ?_
  intro p e s m args below meth c s₁ B hml hv
  obtain ⟨rfl, hsz, hP, hK, hD0, hC, hZ⟩ := hv
  have hx := B.exec
  have hb := B.bytes
  have hr := B.returns
  have hts := atoms_spec (ws := wsX4_readCondition) B.pre
  have hown : s.vm.findClass RX4 = some m.cls := findClass_of_methodNamed B.named
  have hlocks := B.notSynchronized
  subst hsz
  have hD := hD0.self (sz := s.heap.size)
  generalize hAe : va_A [(oX4 r0 r1 p0 (nI ti) (fk ti) (ft ti) (fv ti) inb iek iep), (oX5 r1 k1 k2 k3 (nI ct)), (k1, .inl (cA 0, 701, .inl fk)), (k2, .inl (cA 0, 701, .inl ft)), (k3, .inl (cA 1, 701, .inr (.inl fv))), (oX3 p0 pr pb pe pg p1 (nI nd) p2 p3 p4 p5 (nI cn) p6 (nI pq) p7 p8 p9 (nI sc)), (p2, .inl (cA 1, 10, .inr (.inl fna))), (p6, .inl (cA 1, 8, .inr (.inl fpn))), (p7, .inl (cA 0, 350, .inl fst)), (p8, .inl (cA 0, 350, .inl fop))] s.heap.size = A at hD hZ ⊢
  have hA : ∀ q : Nat, s.heap.size ≤ q → A q := fun q h => by rw [← hAe]; exact Or.inr h
  have hS : va_S A s.heap s.heap [] := va_S.rf
  have hP : va_P D vwCl [(oX4 r0 r1 p0 (nI ti) (fk ti) (ft ti) (fv ti) inb iek iep), (oX5 r1 k1 k2 k3 (nI ct)), (k1, .inl (cA 0, 701, .inl fk)), (k2, .inl (cA 0, 701, .inl ft)), (k3, .inl (cA 1, 701, .inr (.inl fv))), (oX3 p0 pr pb pe pg p1 (nI nd) p2 p3 p4 p5 (nI cn) p6 (nI pq) p7 p8 p9 (nI sc)), (p2, .inl (cA 1, 10, .inr (.inl fna))), (p6, .inl (cA 1, 8, .inr (.inl fpn))), (p7, .inl (cA 0, 350, .inl fst)), (p8, .inl (cA 0, 350, .inl fop))] s.heap := hP
  have hl := lv_entry ([.ref r0, .int (nI o9)]) (n := 4) (Nat.le_of_ble_eq_true rfl)
  rw [lg_entry_eq]
  generalize (lg_sl ([.ref r0, .int (nI o9)]) ++ List.replicate (4 - (lg_sl ([.ref r0, .int (nI o9)])).length) Slot.unset).toArray = ls at hl ⊢
  have hl : lv_has ls 4 [(0, .ref r0), (1, .int (nI o9))] := hl
  have inX4 : ∀ w ∈ u_ws RX4 TX4 9, w ∈ wsX4_readCondition := by decide +kernel
  have hle9 := TX.le hTX hti
  refine lv_aload_n hx hb dX4_readCondition_0 rfl (lv_at hl 0 rfl) ?_
  refine lv_iload_n hx hb dX4_readCondition_1 rfl (lv_at hl 1 rfl) ?_
  obtain ⟨hPc, hDc, hFc⟩ := PDq.cut (wc := [(oX4 r0 r1 p0 (nI ti) (fk ti) (ft ti) (fv ti) inb iek iep), (oX5 r1 k1 k2 k3 (nI ct)), (k1, .inl (cA 0, 701, .inl fk)), (k2, .inl (cA 0, 701, .inl ft)), (k3, .inl (cA 1, 701, .inr (.inl fv))), (oX3 p0 pr pb pe pg p1 (nI nd) p2 p3 p4 p5 (nI cn) p6 (nI pq) p7 p8 p9 (nI sc)), (p2, .inl (cA 1, 10, .inr (.inl fna))), (p6, .inl (cA 1, 8, .inr (.inl fpn))), (p7, .inl (cA 0, 350, .inl fst)), (p8, .inl (cA 0, 350, .inl fop))]) hP hD hS hA [0, 1, 2, 3, 4, 5, 6, 7, 8, 9] (by decide +kernel) rfl
  refine va_calli (va_runV (As := [.int (nI o9)]) (rest := []) ⟨hx, hb, hml, hown, hts⟩ (x_readBoth_B l D cA sa r0 p0 ti ln inb iek iep r1 k1 k2 k3 ct fk ft fv fb gP gR p1 p2 p3 p4 p5 p6 p7 p8 p9 cn pq nd sc pr pb pe pg fna fpn fst fop ml pl sl o9 s.heap.size hct hln hti hTX hcn hpq hnd hsc hNM hNP hsl ho) (cwV 1 hts gX4_readCondition_X4_readBoth rfl rfl rfl (by decide +kernel) ⟨by show (21) + 1 ≤ 22; omega, by show 8 + (4 + 11) + (344) ≤ 368; omega⟩) ⟨Wd.blind, va_recv hK hPc (ci := 8) (q0 := 0) rfl rfl, fun U hU hW => ⟨rfl, Wd.call hPc hDc hK hC hZ hS hFc U hU hW⟩⟩ rfl rfl hl.1 rfl (lv_room (Nat.le_of_ble_eq_true rfl)) dX4_readCondition_2 ⟨(Nat.le_of_ble_eq_true rfl), (Nat.le_of_ble_eq_true rfl)⟩) hS (fun q _ h => hFc q h) hFc (fun rn1 u t H1 locs ht hvm hw hB hz1 hk1 hS => ?_)
  obtain ⟨qn2, qn3, qn4, zn5, zn6, zn7, fn8, fn9, fn10, zn11, hn12, hn13, hn14, hn15, hn16, hn17, hn18, hn19, hn20, hn21, hn22, hn23, hP1, hD1⟩ := hB
  rw [ht] at hP1
  obtain ⟨hP, hD⟩ := PDq.join (w := [(oX4 r0 r1 p0 (nI qn2) (fk qn2) (ft qn2) (fv qn2) zn5 zn6 zn7), (oX5 r1 k1 k2 k3 (nI ct)), (k1, .inl (cA 0, 701, .inl fk)), (k2, .inl (cA 0, 701, .inl ft)), (k3, .inl (cA 1, 701, .inr (.inl fv))), (oX3 p0 pr pb pe pg p1 (nI nd) p2 p3 p4 p5 (nI cn) p6 (nI qn3) p7 p8 p9 (nI qn4)), (p2, .inl (cA 1, 10, .inr (.inl fna))), (p6, .inl (cA 1, 8, .inr (.inl fn8))), (p7, .inl (cA 0, 350, .inl fn9)), (p8, .inl (cA 0, 350, .inl fn10))]) 0 hP hD [0, 1, 2, 3, 4, 5, 6, 7, 8, 9] [] rfl rfl (by decide) (by decide +kernel) hk1 hFc hP1 hD1 rfl
  generalize H1 = H at hP hS ⊢
  rcases hw.2 with hr9 | hr9
  · skip
    have hn23 := hn23 (hw.1.trans hr9)
    subst hr9
    refine lv_istore_n (lv' := [(2, .int 0), (0, .ref r0), (1, .int (nI o9))]) hx hb dX4_readCondition_5 rfl hl (by decide) rfl (fun ls hl => ?_)
    refine lv_iconst (v := 0) hx hb dX4_readCondition_6 (by decide) ?_
    refine lv_istore_n (lv' := [(3, .int 0), (2, .int 0), (0, .ref r0), (1, .int (nI o9))]) hx hb dX4_readCondition_7 rfl hl (by decide) rfl (fun ls hl => ?_)
    refine lv_iload_n hx hb dX4_readCondition_8 rfl (lv_at hl 1 rfl) ?_
    refine lv_if_eq (tgt := 71) hx hb dX4_readCondition_9 (by decide) (fun c24 => ?_) (fun c9 => absurd c9 (by decide))
    refine lv_iload_n hx hb dX4_readCondition_71 rfl (lv_at hl 1 rfl) ?_
    obtain ⟨hP9, hD9⟩ := PDq.sub (ws' := [(oX4 r0 r1 p0 (nI qn2) (fk qn2) (ft qn2) (fv qn2) zn5 zn6 zn7), (oX5 r1 k1 k2 k3 (nI ct)), (k1, .inl (cA 0, 701, .inl fk)), (k2, .inl (cA 0, 701, .inl ft)), (k3, .inl (cA 1, 701, .inr (.inl fv))), (oX3 p0 pr pb pe pg p1 (nI nd) p2 p3 p4 p5 (nI cn) p6 (nI qn3) p7 p8 p9 (nI qn4)), (p2, .inl (cA 1, 10, .inr (.inl fna))), (p6, .inl (cA 1, 8, .inr (.inl fn8))), (p7, .inl (cA 0, 350, .inl fn9)), (p8, .inl (cA 0, 350, .inl fn10))]) hP hD [0, 1, 2, 3, 4, 5, 6, 7, 8, 9] (by decide +kernel) rfl
    refine W.widen (k := 0) (n := 0) (Nat.le_of_ble_eq_true rfl) (Nat.le_of_ble_eq_true rfl) ?_
    exact (W.zret (v := 0) hx hb hr (by first | rfl | decide) (fun t ht hW => ⟨⟨0, 0, rfl, ⟨rfl, by decide⟩, qn2, qn3, qn4, zn5, zn6, zn7, fn8, fn9, fn10, zn11, hn12, hn13, hn14, hn15, hn16, hn17, (fun h9 => absurd h9 (by decide)), (fun h9 => absurd h9 (by decide)), (fun h9 => absurd h9 (by decide)), (fun h9 => absurd h9 (by decide)), (fun h9 => absurd h9 (by decide)), (fun _ => (P_condE hn23)), by rw [ht]; exact hP9, hD9⟩, hS.F ht⟩) hS.2.2 dX4_readCondition_72)
  · skip
    have hn18 := hn18 (hw.1.trans hr9)
    obtain rfl : iek = zn6 := hn18.symm
    obtain ⟨hP, hD⟩ : PDq D A [(oX4 r0 r1 p0 (nI qn2) (fk qn2) (ft qn2) (fv qn2) zn5 iek zn7), (oX5 r1 k1 k2 k3 (nI ct)), (k1, .inl (cA 0, 701, .inl fk)), (k2, .inl (cA 0, 701, .inl ft)), (k3, .inl (cA 1, 701, .inr (.inl fv))), (oX3 p0 pr pb pe pg p1 (nI nd) p2 p3 p4 p5 (nI cn) p6 (nI qn3) p7 p8 p9 (nI qn4)), (p2, .inl (cA 1, 10, .inr (.inl fna))), (p6, .inl (cA 1, 8, .inr (.inl fn8))), (p7, .inl (cA 0, 350, .inl fn9)), (p8, .inl (cA 0, 350, .inl fn10))] H := ⟨hP, hD⟩
    have hn19 := hn19 (hw.1.trans hr9)
    obtain rfl : iep = zn7 := hn19.symm
    obtain ⟨hP, hD⟩ : PDq D A [(oX4 r0 r1 p0 (nI qn2) (fk qn2) (ft qn2) (fv qn2) zn5 iek iep), (oX5 r1 k1 k2 k3 (nI ct)), (k1, .inl (cA 0, 701, .inl fk)), (k2, .inl (cA 0, 701, .inl ft)), (k3, .inl (cA 1, 701, .inr (.inl fv))), (oX3 p0 pr pb pe pg p1 (nI nd) p2 p3 p4 p5 (nI cn) p6 (nI qn3) p7 p8 p9 (nI qn4)), (p2, .inl (cA 1, 10, .inr (.inl fna))), (p6, .inl (cA 1, 8, .inr (.inl fn8))), (p7, .inl (cA 0, 350, .inl fn9)), (p8, .inl (cA 0, 350, .inl fn10))] H := ⟨hP, hD⟩
    have hn20 := hn20 (hw.1.trans hr9)
    have hn21 := hn21 (hw.1.trans hr9)
    have hn22 := hn22 (hw.1.trans hr9)
    subst hr9
    refine lv_istore_n (lv' := [(2, .int 1), (0, .ref r0), (1, .int (nI o9))]) hx hb dX4_readCondition_5 rfl hl (by decide) rfl (fun ls hl => ?_)
    refine lv_iconst (v := 0) hx hb dX4_readCondition_6 (by decide) ?_
    refine lv_istore_n (lv' := [(3, .int 0), (2, .int 1), (0, .ref r0), (1, .int (nI o9))]) hx hb dX4_readCondition_7 rfl hl (by decide) rfl (fun ls hl => ?_)
    have loop1 : ∀ (n1 i1 : Nat) (pli : List Int64) (tii : Nat) (u0_6_1 : Int32) (qmi : Nat) (smi : Nat) (f7_1 : Nat → Int64) (f8_1 : Nat → Int32) (f9_1 : Nat → Int32) (H : Heap) (locs : List Loc) (ls : Array Slot), i1 + n1 = 700 → ti + 1 + i1 ≤ tii → tii < ct → qmi ≤ 8 → smi ≤ 350 → 2 * smi + sl ≤ gP tii → gP tii ≤ ln → NL pli qmi f7_1 → Cn fk ft fv ml 3 o9 ti pl 4 tii pli → va_P D vwCl [(oX4 r0 r1 p0 (nI tii) (fk tii) (ft tii) (fv tii) u0_6_1 iek iep), (oX5 r1 k1 k2 k3 (nI ct)), (k1, .inl (cA 0, 701, .inl fk)), (k2, .inl (cA 0, 701, .inl ft)), (k3, .inl (cA 1, 701, .inr (.inl fv))), (oX3 p0 pr pb pe pg p1 (nI nd) p2 p3 p4 p5 (nI cn) p6 (nI qmi) p7 p8 p9 (nI smi)), (p2, .inl (cA 1, 10, .inr (.inl fna))), (p6, .inl (cA 1, 8, .inr (.inl f7_1))), (p7, .inl (cA 0, 350, .inl f8_1)), (p8, .inl (cA 0, 350, .inl f9_1))] H → va_D A [(oX4 r0 r1 p0 (nI tii) (fk tii) (ft tii) (fv tii) u0_6_1 iek iep), (oX5 r1 k1 k2 k3 (nI ct)), (k1, .inl (cA 0, 701, .inl fk)), (k2, .inl (cA 0, 701, .inl ft)), (k3, .inl (cA 1, 701, .inr (.inl fv))), (oX3 p0 pr pb pe pg p1 (nI nd) p2 p3 p4 p5 (nI cn) p6 (nI qmi) p7 p8 p9 (nI smi)), (p2, .inl (cA 1, 10, .inr (.inl fna))), (p6, .inl (cA 1, 8, .inr (.inl f7_1))), (p7, .inl (cA 0, 350, .inl f8_1)), (p8, .inl (cA 0, 350, .inl f9_1))] → va_S A s.heap H locs → lv_has ls 4 [(3, .int (nI i1)), (2, .int 1), (0, .ref r0), (1, .int (nI o9))] → W p l e (headSpec wsX4_readCondition ({ frames := 22, cells := 0, slots := 0, locals := 368 } : Room)).room s m ([.ref r0, .int (nI o9)] : List Value).toArray below meth c H locs 0 0 (MQ below (va_Qi (fun (r : Int32) (u9 : Int32) => u9 = r ∧ (r = 0 ∨ r = 1)) (fun (u9 : Int32) t => ∃ tj : Nat, ∃ qm : Nat, ∃ sm : Nat, ∃ znr : Int32, ∃ zek : Int32, ∃ zep : Int32, ∃ zpn : Nat → Int64, ∃ zst : Nat → Int32, ∃ zop : Nat → Int32, ∃ zpl : List Int64, tj < ct ∧ gP tj ≤ ln ∧ ti ≤ tj ∧ qm ≤ 8 ∧ sm ≤ 350 ∧ NL zpl qm zpn ∧ (u9 = 1 → zek = iek) ∧ (u9 = 1 → zep = iep) ∧ (u9 = 1 → 2 * sm + sl ≤ gP tj) ∧ (u9 = 1 → ti + 1 ≤ tj) ∧ (u9 = 1 → PRx fk ft fv ml 3 o9 ti pl (.inr (tj, zpl))) ∧ (u9 = 0 → PRx fk ft fv ml 3 o9 ti pl (.inl (zek, zep))) ∧ Wq D A [(oX4 r0 r1 p0 (nI tj) (fk tj) (ft tj) (fv tj) znr zek zep), (oX5 r1 k1 k2 k3 (nI ct)), (k1, .inl (cA 0, 701, .inl fk)), (k2, .inl (cA 0, 701, .inl ft)), (k3, .inl (cA 1, 701, .inr (.inl fv))), (oX3 p0 pr pb pe pg p1 (nI nd) p2 p3 p4 p5 (nI cn) p6 (nI qm) p7 p8 p9 (nI sm)), (p2, .inl (cA 1, 10, .inr (.inl fna))), (p6, .inl (cA 1, 8, .inr (.inl zpn))), (p7, .inl (cA 0, 350, .inl zst)), (p8, .inl (cA 0, 350, .inl zop))] t) A) ([.ref r0, .int (nI o9)] : List Value).toArray s 0 0 A) (F0 m 8 ls []) := by
      intro n1
      induction n1 with
      | zero =>
        intro i1 pli tii u0_6_1 qmi smi f7_1 f8_1 f9_1 H locs ls hi1 hv0_1 hv1_1 hv2_1 hv3_1 hv4_1 hv5_1 hv6_1 hv7_1 hP hD hS hl
        obtain rfl : 700 = i1 := by omega
        exact absurd hv0_1 (by omega)
      | succ n1 ih1 =>
        intro i1 pli tii u0_6_1 qmi smi f7_1 f8_1 f9_1 H locs ls hi1 hv0_1 hv1_1 hv2_1 hv3_1 hv4_1 hv5_1 hv6_1 hv7_1 hP hD hS hl
        refine lv_iload_n hx hb dX4_readCondition_8 rfl (lv_at hl 1 rfl) ?_
        refine lv_if_eq (tgt := 71) hx hb dX4_readCondition_9 (by decide) (fun c9 => absurd c9 (by decide)) (fun c25 => ?_)
        refine lv_iload_n hx hb dX4_readCondition_12 rfl (lv_at hl 0 rfl) ?_
        refine lv_sipush (v := 700) hx hb dX4_readCondition_13 (by decide) ?_
        refine lv_icmp_ge (tgt := 71) hx hb dX4_readCondition_16 (by decide) (fun c9 => absurd c9 (nI_ge (a := i1) (b := 700) (show i1 < 700 by omega) (by omega))) (fun c26 => ?_)
        refine lv_aload_n hx hb dX4_readCondition_19 rfl (lv_at hl 2 rfl) ?_
        refine va_get (D := D) (ci := 8) (v := .int (fk tii)) (C := RX4) (T := TX4) (N := 9) hx hb hts inX4 hown hK hP 0 rfl rfl 3 (by decide) (hts (.fieldLink RX4 42 "EscrowDesk$Reader" "kind" "I") (by decide +kernel)) (fun _ h9 => h9) rfl dX4_readCondition_20 ?_
        refine lv_bipush (v := 14) hx hb dX4_readCondition_23 (by decide) ?_
        refine lv_icmp_ne (tgt := 71) hx hb dX4_readCondition_25 (by decide) (fun c27 => ?_) (fun c27 => ?_)
        · skip
          refine lv_iload_n hx hb dX4_readCondition_71 rfl (lv_at hl 1 rfl) ?_
          obtain ⟨hP9, hD9⟩ := PDq.sub (ws' := [(oX4 r0 r1 p0 (nI tii) (fk tii) (ft tii) (fv tii) u0_6_1 iek iep), (oX5 r1 k1 k2 k3 (nI ct)), (k1, .inl (cA 0, 701, .inl fk)), (k2, .inl (cA 0, 701, .inl ft)), (k3, .inl (cA 1, 701, .inr (.inl fv))), (oX3 p0 pr pb pe pg p1 (nI nd) p2 p3 p4 p5 (nI cn) p6 (nI qmi) p7 p8 p9 (nI smi)), (p2, .inl (cA 1, 10, .inr (.inl fna))), (p6, .inl (cA 1, 8, .inr (.inl f7_1))), (p7, .inl (cA 0, 350, .inl f8_1)), (p8, .inl (cA 0, 350, .inl f9_1))]) hP hD [0, 1, 2, 3, 4, 5, 6, 7, 8, 9] (by decide +kernel) rfl
          refine W.widen (k := 0) (n := 0) (Nat.le_of_ble_eq_true rfl) (Nat.le_of_ble_eq_true rfl) ?_
          exact (W.zret (v := 1) hx hb hr (by first | rfl | decide) (fun t ht hW => ⟨⟨1, 1, rfl, ⟨rfl, by decide⟩, tii, qmi, smi, u0_6_1, iek, iep, f7_1, f8_1, f9_1, pli, hv1_1, hv5_1, (by omega), hv2_1, hv3_1, hv6_1, (fun _ => rfl), (fun _ => rfl), (fun _ => hv4_1), (fun _ => (by omega)), (fun _ => (hv7_1 _ (P_end4 c27))), (fun h9 => absurd h9 (by decide)), by rw [ht]; exact hP9, hD9⟩, hS.F ht⟩) hS.2.2 dX4_readCondition_72)
        · skip
          have hn28 := TX.go2 hTX (show tii < ct by omega) (by rw [c27]; decide)
          have hn28a := hn28.2.1
          have hn28b := hn28.2.2
          have hn28c := hn28.1
          refine lv_aload_n hx hb dX4_readCondition_28 rfl (lv_at hl 2 rfl) ?_
          refine lv_aload_n hx hb dX4_readCondition_29 rfl (lv_at hl 2 rfl) ?_
          refine va_get (D := D) (ci := 8) (v := .int (nI tii)) (C := RX4) (T := TX4) (N := 9) hx hb hts inX4 hown hK hP 0 rfl rfl 2 (by decide) (hts (.fieldLink RX4 70 "EscrowDesk$Reader" "token" "I") (by decide +kernel)) (fun _ h9 => h9) rfl dX4_readCondition_30 ?_
          refine lv_iconst (v := 1) hx hb dX4_readCondition_33 (by decide) ?_
          refine lv_iadd hx hb dX4_readCondition_34 ?_
          refine lv_topi (fun yn29 eyn29 => ?_)
          obtain rfl : yn29 = (nI (tii + 1)) := eyn29.trans (nI_add tii 1)
          obtain ⟨hPc, hDc, hFc⟩ := PDq.cut (wc := [(oX4 r0 r1 p0 (nI tii) (fk tii) (ft tii) (fv tii) u0_6_1 iek iep), (oX5 r1 k1 k2 k3 (nI ct)), (k1, .inl (cA 0, 701, .inl fk)), (k2, .inl (cA 0, 701, .inl ft)), (k3, .inl (cA 1, 701, .inr (.inl fv)))]) hP hD hS hA [0, 1, 2, 3, 4] (by decide) rfl
          refine va_callv (va_runV (As := [.int (nI (tii + 1))]) (rest := []) ⟨hx, hb, hml, hown, hts⟩ (x_lookAt l D cA sa r0 p0 (tii + 1) (nI tii) (fk tii) (ft tii) u0_6_1 iek iep (fv tii) r1 k1 k2 k3 ct fk ft fv H.size hct hn28.1) (cwV 1 hts gX4_readCondition_X4_lookAt rfl rfl rfl (by decide +kernel) ⟨by show (0) + 1 ≤ 22; omega, by show 8 + (2 + 11) + (0) ≤ 368; omega⟩) ⟨Wd.blind, va_recv hK hPc (ci := 8) (q0 := 0) rfl rfl, fun U hU hW => ⟨rfl, Wd.call hPc hDc hK hC hZ hS hFc U hU hW⟩⟩ rfl rfl hl.1 rfl (lv_room (Nat.le_of_ble_eq_true rfl)) dX4_readCondition_35 ⟨(Nat.le_of_ble_eq_true rfl), (Nat.le_of_ble_eq_true rfl)⟩) hS (fun q _ h => hFc q h) hFc (fun u t H1 locs ht hvm hw hB hz1 hk1 hS => ?_)
          obtain ⟨hP1, hD1⟩ := hB
          rw [ht] at hP1
          obtain ⟨hP, hD⟩ := PDq.join (w := [(oX3 p0 pr pb pe pg p1 (nI nd) p2 p3 p4 p5 (nI cn) p6 (nI qmi) p7 p8 p9 (nI smi)), (p2, .inl (cA 1, 10, .inr (.inl fna))), (p6, .inl (cA 1, 8, .inr (.inl f7_1))), (p7, .inl (cA 0, 350, .inl f8_1)), (p8, .inl (cA 0, 350, .inl f9_1)), (oX4 r0 r1 p0 (nI (tii + 1)) (fk (tii + 1)) (ft (tii + 1)) (fv (tii + 1)) u0_6_1 iek iep), (oX5 r1 k1 k2 k3 (nI ct)), (k1, .inl (cA 0, 701, .inl fk)), (k2, .inl (cA 0, 701, .inl ft)), (k3, .inl (cA 1, 701, .inr (.inl fv)))]) 5 hP hD [0, 1, 2, 3, 4] [5, 6, 7, 8, 9] rfl rfl (by decide) (by decide +kernel) hk1 hFc hP1 hD1 rfl
          generalize H1 = H at hP hS ⊢
          refine lv_aload_n hx hb dX4_readCondition_38 rfl (lv_at hl 2 rfl) ?_
          refine lv_iload_n hx hb dX4_readCondition_39 rfl (lv_at hl 3 rfl) ?_
          obtain ⟨hPc, hDc, hFc⟩ := PDq.cut (wc := [(oX4 r0 r1 p0 (nI (tii + 1)) (fk (tii + 1)) (ft (tii + 1)) (fv (tii + 1)) u0_6_1 iek iep), (oX5 r1 k1 k2 k3 (nI ct)), (k1, .inl (cA 0, 701, .inl fk)), (k2, .inl (cA 0, 701, .inl ft)), (k3, .inl (cA 1, 701, .inr (.inl fv))), (oX3 p0 pr pb pe pg p1 (nI nd) p2 p3 p4 p5 (nI cn) p6 (nI qmi) p7 p8 p9 (nI smi)), (p2, .inl (cA 1, 10, .inr (.inl fna))), (p6, .inl (cA 1, 8, .inr (.inl f7_1))), (p7, .inl (cA 0, 350, .inl f8_1)), (p8, .inl (cA 0, 350, .inl f9_1))]) hP hD hS hA [5, 6, 7, 8, 9, 0, 1, 2, 3, 4] (by decide +kernel) rfl
          refine va_calli (va_runV (As := [.int (nI o9)]) (rest := []) ⟨hx, hb, hml, hown, hts⟩ (x_readBoth_B l D cA sa r0 p0 (tii + 1) ln u0_6_1 iek iep r1 k1 k2 k3 ct fk ft fv fb gP gR p1 p2 p3 p4 p5 p6 p7 p8 p9 cn qmi nd smi pr pb pe pg fna f7_1 f8_1 f9_1 ml pli (sl + 2) o9 H.size hct hln hn28.1 hTX hcn hv2_1 hnd hv3_1 hNM hv6_1 (by omega) ho) (cwV 1 hts gX4_readCondition_X4_readBoth rfl rfl rfl (by decide +kernel) ⟨by show (21) + 1 ≤ 22; omega, by show 8 + (4 + 11) + (344) ≤ 368; omega⟩) ⟨Wd.blind, va_recv hK hPc (ci := 8) (q0 := 0) rfl rfl, fun U hU hW => ⟨rfl, Wd.call hPc hDc hK hC hZ hS hFc U hU hW⟩⟩ rfl rfl hl.1 rfl (lv_room (Nat.le_of_ble_eq_true rfl)) dX4_readCondition_40 ⟨(Nat.le_of_ble_eq_true rfl), (Nat.le_of_ble_eq_true rfl)⟩) hS (fun q _ h => hFc q h) hFc (fun rn30 u t H1 locs ht hvm hw hB hz1 hk1 hS => ?_)
          obtain ⟨qn31, qn32, qn33, zn34, zn35, zn36, fn37, fn38, fn39, zn40, hn41, hn42, hn43, hn44, hn45, hn46, hn47, hn48, hn49, hn50, hn51, hn52, hP1, hD1⟩ := hB
          rw [ht] at hP1
          obtain ⟨hP, hD⟩ := PDq.join (w := [(oX4 r0 r1 p0 (nI qn31) (fk qn31) (ft qn31) (fv qn31) zn34 zn35 zn36), (oX5 r1 k1 k2 k3 (nI ct)), (k1, .inl (cA 0, 701, .inl fk)), (k2, .inl (cA 0, 701, .inl ft)), (k3, .inl (cA 1, 701, .inr (.inl fv))), (oX3 p0 pr pb pe pg p1 (nI nd) p2 p3 p4 p5 (nI cn) p6 (nI qn32) p7 p8 p9 (nI qn33)), (p2, .inl (cA 1, 10, .inr (.inl fna))), (p6, .inl (cA 1, 8, .inr (.inl fn37))), (p7, .inl (cA 0, 350, .inl fn38)), (p8, .inl (cA 0, 350, .inl fn39))]) 0 hP hD [5, 6, 7, 8, 9, 0, 1, 2, 3, 4] [] rfl rfl (by decide) (by decide +kernel) hk1 hFc hP1 hD1 rfl
          generalize H1 = H at hP hS ⊢
          rcases hw.2 with hr9 | hr9
          · skip
            have hn52 := hn52 (hw.1.trans hr9)
            subst hr9
            refine lv_if_eq (tgt := 63) hx hb dX4_readCondition_43 (by decide) (fun c53 => ?_) (fun c9 => absurd c9 (by decide))
            refine lv_iconst (v := 0) hx hb dX4_readCondition_63 (by decide) ?_
            refine lv_istore_n (lv' := [(2, .int 0), (3, .int (nI i1)), (0, .ref r0), (1, .int (nI o9))]) hx hb dX4_readCondition_64 rfl hl (by decide) rfl (fun ls hl => ?_)
            refine lv_iinc (v := (nI (i1 + 1))) (lv' := [(3, .int (nI (i1 + 1))), (2, .int 0), (0, .ref r0), (1, .int (nI o9))]) hx hb dX4_readCondition_65 hl (k := 1) rfl (nI_1 _) (by decide) rfl (fun ls hl => ?_)
            refine lv_goto (tgt := 8) hx hb dX4_readCondition_68 (by decide) ?_
            refine lv_iload_n hx hb dX4_readCondition_8 rfl (lv_at hl 1 rfl) ?_
            refine lv_if_eq (tgt := 71) hx hb dX4_readCondition_9 (by decide) (fun c54 => ?_) (fun c9 => absurd c9 (by decide))
            refine lv_iload_n hx hb dX4_readCondition_71 rfl (lv_at hl 1 rfl) ?_
            obtain ⟨hP9, hD9⟩ := PDq.sub (ws' := [(oX4 r0 r1 p0 (nI qn31) (fk qn31) (ft qn31) (fv qn31) zn34 zn35 zn36), (oX5 r1 k1 k2 k3 (nI ct)), (k1, .inl (cA 0, 701, .inl fk)), (k2, .inl (cA 0, 701, .inl ft)), (k3, .inl (cA 1, 701, .inr (.inl fv))), (oX3 p0 pr pb pe pg p1 (nI nd) p2 p3 p4 p5 (nI cn) p6 (nI qn32) p7 p8 p9 (nI qn33)), (p2, .inl (cA 1, 10, .inr (.inl fna))), (p6, .inl (cA 1, 8, .inr (.inl fn37))), (p7, .inl (cA 0, 350, .inl fn38)), (p8, .inl (cA 0, 350, .inl fn39))]) hP hD [0, 1, 2, 3, 4, 5, 6, 7, 8, 9] (by decide +kernel) rfl
            refine W.widen (k := 0) (n := 0) (Nat.le_of_ble_eq_true rfl) (Nat.le_of_ble_eq_true rfl) ?_
            exact (W.zret (v := 0) hx hb hr (by first | rfl | decide) (fun t ht hW => ⟨⟨0, 0, rfl, ⟨rfl, by decide⟩, qn31, qn32, qn33, zn34, zn35, zn36, fn37, fn38, fn39, zn40, hn41, hn42, (by omega), hn44, hn45, hn46, (fun h9 => absurd h9 (by decide)), (fun h9 => absurd h9 (by decide)), (fun h9 => absurd h9 (by decide)), (fun h9 => absurd h9 (by decide)), (fun h9 => absurd h9 (by decide)), (fun _ => (hv7_1 _ (P_orE c27 hn52))), by rw [ht]; exact hP9, hD9⟩, hS.F ht⟩) hS.2.2 dX4_readCondition_72)
          · skip
            have hn47 := hn47 (hw.1.trans hr9)
            obtain rfl : iek = zn35 := hn47.symm
            obtain ⟨hP, hD⟩ : PDq D A [(oX4 r0 r1 p0 (nI qn31) (fk qn31) (ft qn31) (fv qn31) zn34 iek zn36), (oX5 r1 k1 k2 k3 (nI ct)), (k1, .inl (cA 0, 701, .inl fk)), (k2, .inl (cA 0, 701, .inl ft)), (k3, .inl (cA 1, 701, .inr (.inl fv))), (oX3 p0 pr pb pe pg p1 (nI nd) p2 p3 p4 p5 (nI cn) p6 (nI qn32) p7 p8 p9 (nI qn33)), (p2, .inl (cA 1, 10, .inr (.inl fna))), (p6, .inl (cA 1, 8, .inr (.inl fn37))), (p7, .inl (cA 0, 350, .inl fn38)), (p8, .inl (cA 0, 350, .inl fn39))] H := ⟨hP, hD⟩
            have hn48 := hn48 (hw.1.trans hr9)
            obtain rfl : iep = zn36 := hn48.symm
            obtain ⟨hP, hD⟩ : PDq D A [(oX4 r0 r1 p0 (nI qn31) (fk qn31) (ft qn31) (fv qn31) zn34 iek iep), (oX5 r1 k1 k2 k3 (nI ct)), (k1, .inl (cA 0, 701, .inl fk)), (k2, .inl (cA 0, 701, .inl ft)), (k3, .inl (cA 1, 701, .inr (.inl fv))), (oX3 p0 pr pb pe pg p1 (nI nd) p2 p3 p4 p5 (nI cn) p6 (nI qn32) p7 p8 p9 (nI qn33)), (p2, .inl (cA 1, 10, .inr (.inl fna))), (p6, .inl (cA 1, 8, .inr (.inl fn37))), (p7, .inl (cA 0, 350, .inl fn38)), (p8, .inl (cA 0, 350, .inl fn39))] H := ⟨hP, hD⟩
            have hn49 := hn49 (hw.1.trans hr9)
            have hn50 := hn50 (hw.1.trans hr9)
            have hn51 := hn51 (hw.1.trans hr9)
            subst hr9
            refine lv_if_eq (tgt := 63) hx hb dX4_readCondition_43 (by decide) (fun c9 => absurd c9 (by decide)) (fun c55 => ?_)
            refine lv_aload_n hx hb dX4_readCondition_46 rfl (lv_at hl 2 rfl) ?_
            refine va_get (D := D) (ci := 8) (v := .ref p0) (C := RX4) (T := TX4) (N := 9) hx hb hts inX4 hown hK hP 0 rfl rfl 1 (by decide) (hts (.fieldLink RX4 25 "EscrowDesk$Reader" "plan" "LEscrowDesk$Plan;") (by decide +kernel)) (fun _ h9 => h9) rfl dX4_readCondition_47 ?_
            refine lv_bipush (v := 14) hx hb dX4_readCondition_50 (by decide) ?_
            refine lv_iconst (v := 0) hx hb dX4_readCondition_52 (by decide) ?_
            obtain ⟨hPc, hDc, hFc⟩ := PDq.cut (wc := [(oX3 p0 pr pb pe pg p1 (nI nd) p2 p3 p4 p5 (nI cn) p6 (nI qn32) p7 p8 p9 (nI qn33)), (p7, .inl (cA 0, 350, .inl fn38)), (p8, .inl (cA 0, 350, .inl fn39))]) hP hD hS hA [5, 8, 9] (by decide) rfl
            refine va_calli (va_runV (As := [.int 14, .int 0]) (rest := []) ⟨hx, hb, hml, hown, hts⟩ (x_addStep l D cA sa p0 p1 p2 p3 p4 p5 p6 p7 p8 p9 cn qn32 nd qn33 pr pb pe pg 14 0 fn38 fn39 H.size (by omega)) (cwV 2 hts gX4_readCondition_X3_addStep rfl rfl rfl (by decide +kernel) ⟨by show (0) + 1 ≤ 22; omega, by show 8 + (3 + 11) + (0) ≤ 368; omega⟩) ⟨Wd.blind, va_recv hK hPc (ci := 7) (q0 := 0) rfl rfl, fun U hU hW => ⟨rfl, Wd.call hPc hDc hK hC hZ hS hFc U hU hW⟩⟩ rfl rfl hl.1 rfl (lv_room (Nat.le_of_ble_eq_true rfl)) dX4_readCondition_53 ⟨(Nat.le_of_ble_eq_true rfl), (Nat.le_of_ble_eq_true rfl)⟩) hS (fun q _ h => hFc q h) hFc (fun rn56 u t H1 locs ht hvm hw hB hz1 hk1 hS => ?_)
            obtain ⟨fn57, fn58, hP1, hD1⟩ := hB
            rw [ht] at hP1
            obtain ⟨hP, hD⟩ := PDq.join (w := [(oX4 r0 r1 p0 (nI qn31) (fk qn31) (ft qn31) (fv qn31) zn34 iek iep), (oX5 r1 k1 k2 k3 (nI ct)), (k1, .inl (cA 0, 701, .inl fk)), (k2, .inl (cA 0, 701, .inl ft)), (k3, .inl (cA 1, 701, .inr (.inl fv))), (p2, .inl (cA 1, 10, .inr (.inl fna))), (p6, .inl (cA 1, 8, .inr (.inl fn37))), (oX3 p0 pr pb pe pg p1 (nI nd) p2 p3 p4 p5 (nI cn) p6 (nI qn32) p7 p8 p9 (nI (qn33 + 1))), (p7, .inl (cA 0, 350, .inl fn57)), (p8, .inl (cA 0, 350, .inl fn58))]) 7 hP hD [5, 8, 9] [0, 1, 2, 3, 4, 6, 7] rfl rfl (by decide) (by decide +kernel) hk1 hFc hP1 hD1 rfl
            generalize H1 = H at hP hS ⊢
            obtain rfl : rn56 = 1 := hw
            refine lv_if_eq (tgt := 63) hx hb dX4_readCondition_56 (by decide) (fun c9 => absurd c9 (by decide)) (fun c59 => ?_)
            refine lv_iconst (v := 1) hx hb dX4_readCondition_59 (by decide) ?_
            refine lv_goto (tgt := 64) hx hb dX4_readCondition_60 (by decide) ?_
            refine lv_istore_n (lv' := [(2, .int 1), (3, .int (nI i1)), (0, .ref r0), (1, .int (nI o9))]) hx hb dX4_readCondition_64 rfl hl (by decide) rfl (fun ls hl => ?_)
            refine lv_iinc (v := (nI (i1 + 1))) (lv' := [(3, .int (nI (i1 + 1))), (2, .int 1), (0, .ref r0), (1, .int (nI o9))]) hx hb dX4_readCondition_65 hl (k := 1) rfl (nI_1 _) (by decide) rfl (fun ls hl => ?_)
            refine lv_goto (tgt := 8) hx hb dX4_readCondition_68 (by decide) ?_
            obtain ⟨hP9, hD9⟩ := PDq.sub (ws' := [(oX4 r0 r1 p0 (nI qn31) (fk qn31) (ft qn31) (fv qn31) zn34 iek iep), (oX5 r1 k1 k2 k3 (nI ct)), (k1, .inl (cA 0, 701, .inl fk)), (k2, .inl (cA 0, 701, .inl ft)), (k3, .inl (cA 1, 701, .inr (.inl fv))), (oX3 p0 pr pb pe pg p1 (nI nd) p2 p3 p4 p5 (nI cn) p6 (nI qn32) p7 p8 p9 (nI (qn33 + 1))), (p2, .inl (cA 1, 10, .inr (.inl fna))), (p6, .inl (cA 1, 8, .inr (.inl fn37))), (p7, .inl (cA 0, 350, .inl fn57)), (p8, .inl (cA 0, 350, .inl fn58))]) hP hD [0, 1, 2, 3, 4, 7, 5, 6, 8, 9] (by decide +kernel) rfl
            exact ih1 (i1 + 1) zn40 qn31 zn34 qn32 (qn33 + 1) fn37 fn57 fn58 H _ ls (by omega) (by omega) hn41 hn44 (by omega) (by omega) hn42 hn46 (fun r9 h9 => hv7_1 r9 (P_or c27 hn51 h9)) hP9 hD9 hS (lv_sub hl [0, 1, 2, 3] rfl)
    obtain ⟨hP9, hD9⟩ := PDq.sub (ws' := [(oX4 r0 r1 p0 (nI qn2) (fk qn2) (ft qn2) (fv qn2) zn5 iek iep), (oX5 r1 k1 k2 k3 (nI ct)), (k1, .inl (cA 0, 701, .inl fk)), (k2, .inl (cA 0, 701, .inl ft)), (k3, .inl (cA 1, 701, .inr (.inl fv))), (oX3 p0 pr pb pe pg p1 (nI nd) p2 p3 p4 p5 (nI cn) p6 (nI qn3) p7 p8 p9 (nI qn4)), (p2, .inl (cA 1, 10, .inr (.inl fna))), (p6, .inl (cA 1, 8, .inr (.inl fn8))), (p7, .inl (cA 0, 350, .inl fn9)), (p8, .inl (cA 0, 350, .inl fn10))]) hP hD [0, 1, 2, 3, 4, 5, 6, 7, 8, 9] (by decide +kernel) rfl
    exact loop1 (700 - 0) 0 zn11 qn2 zn5 qn3 qn4 fn8 fn9 fn10 _ _ ls (by omega) (by omega) hn12 hn15 hn16 hn20 hn13 hn17 (fun r9 h9 => P_cond hn22 h9) hP9 hD9 hS (lv_sub hl [0, 1, 2, 3] rfl)

set_option maxHeartbeats 4000000 in
set_option maxRecDepth 100000 in
/-- readFact -/
theorem x_readFact_S_look (l : Launch) (D : va_G) (cA : Nat → ClassId) (sa : Nat → Nat) (k9 : Nat) (IHf : XFactC l D cA sa k9) (IHc : XCondC l D cA sa k9) (r0 : Nat) (p0 : Nat) (ti : Nat) (ln : Nat) (inb : Int32) (iek : Int32) (iep : Int32) (r1 : Nat) (k1 : Nat) (k2 : Nat) (k3 : Nat) (ct : Nat) (fk : Nat → Int32) (ft : Nat → Int32) (fv : Nat → Int64) (fb : Nat → Int32) (gP : Nat → Nat) (gR : Nat → Nat) (p1 : Nat) (p2 : Nat) (p3 : Nat) (p4 : Nat) (p5 : Nat) (p6 : Nat) (p7 : Nat) (p8 : Nat) (p9 : Nat) (cn : Nat) (pq : Nat) (nd : Nat) (sc : Nat) (pr : Int32) (pb : Int32) (pe : Int32) (pg : Int32) (fna : Nat → Int64) (fpn : Nat → Int64) (fst : Nat → Int32) (fop : Nat → Int32) (ml : List Int64) (pl : List Int64) (sl : Nat) (o9 : Nat) (sz : Nat) (hct : ct ≤ 701) (hln : ln ≤ 700) (hti : ti < ct) (hTX : TX fb ln ct gP gR ft fv fk) (hcn : cn ≤ 10) (hpq : pq ≤ 8) (hnd : nd ≤ 6) (hsc : sc ≤ 350) (hNM : NL ml cn fna) (hNP : NL pl pq fpn) (hsl : 2 * sc + sl ≤ gP ti) (ho : o9 + (k9 + 1) = 8) : Met l yX4_readFact wsX4_readFact ({ frames := 3 * (k9 + 1) + 20, cells := 0, slots := 0, locals := 72 * (k9 + 1) + 320 }) (va_Pc [.ref r0, .int (nI o9)] (Wd D cA sa [(oX4 r0 r1 p0 (nI ti) (fk ti) (ft ti) (fv ti) inb iek iep), (oX5 r1 k1 k2 k3 (nI ct)), (k1, .inl (cA 0, 701, .inl fk)), (k2, .inl (cA 0, 701, .inl ft)), (k3, .inl (cA 1, 701, .inr (.inl fv))), (oX3 p0 pr pb pe pg p1 (nI nd) p2 p3 p4 p5 (nI cn) p6 (nI pq) p7 p8 p9 (nI sc)), (p2, .inl (cA 1, 10, .inr (.inl fna))), (p6, .inl (cA 1, 8, .inr (.inl fpn))), (p7, .inl (cA 0, 350, .inl fst)), (p8, .inl (cA 0, 350, .inl fop))] sz)) (va_Qi (fun (r : Int32) (u9 : Int32) => u9 = r ∧ (r = 0 ∨ r = 1)) (fun (u9 : Int32) t => ∃ tj : Nat, ∃ qm : Nat, ∃ sm : Nat, ∃ znr : Int32, ∃ zek : Int32, ∃ zep : Int32, ∃ zpn : Nat → Int64, ∃ zst : Nat → Int32, ∃ zop : Nat → Int32, ∃ zpl : List Int64, tj < ct ∧ gP tj ≤ ln ∧ ti ≤ tj ∧ qm ≤ 8 ∧ sm ≤ 350 ∧ NL zpl qm zpn ∧ (u9 = 1 → zek = iek) ∧ (u9 = 1 → zep = iep) ∧ (u9 = 1 → 2 * sm + sl ≤ gP tj) ∧ (u9 = 1 → ti + 1 ≤ tj) ∧ (u9 = 1 → PRx fk ft fv ml 0 o9 ti pl (.inr (tj, zpl))) ∧ (u9 = 0 → PRx fk ft fv ml 0 o9 ti pl (.inl (zek, zep))) ∧ Wq D (va_A [(oX4 r0 r1 p0 (nI ti) (fk ti) (ft ti) (fv ti) inb iek iep), (oX5 r1 k1 k2 k3 (nI ct)), (k1, .inl (cA 0, 701, .inl fk)), (k2, .inl (cA 0, 701, .inl ft)), (k3, .inl (cA 1, 701, .inr (.inl fv))), (oX3 p0 pr pb pe pg p1 (nI nd) p2 p3 p4 p5 (nI cn) p6 (nI pq) p7 p8 p9 (nI sc)), (p2, .inl (cA 1, 10, .inr (.inl fna))), (p6, .inl (cA 1, 8, .inr (.inl fpn))), (p7, .inl (cA 0, 350, .inl fst)), (p8, .inl (cA 0, 350, .inl fop))] sz) [(oX4 r0 r1 p0 (nI tj) (fk tj) (ft tj) (fv tj) znr zek zep), (oX5 r1 k1 k2 k3 (nI ct)), (k1, .inl (cA 0, 701, .inl fk)), (k2, .inl (cA 0, 701, .inl ft)), (k3, .inl (cA 1, 701, .inr (.inl fv))), (oX3 p0 pr pb pe pg p1 (nI nd) p2 p3 p4 p5 (nI cn) p6 (nI qm) p7 p8 p9 (nI sm)), (p2, .inl (cA 1, 10, .inr (.inl fna))), (p6, .inl (cA 1, 8, .inr (.inl zpn))), (p7, .inl (cA 0, 350, .inl zst)), (p8, .inl (cA 0, 350, .inl zop))] t) (va_A [(oX4 r0 r1 p0 (nI ti) (fk ti) (ft ti) (fv ti) inb iek iep), (oX5 r1 k1 k2 k3 (nI ct)), (k1, .inl (cA 0, 701, .inl fk)), (k2, .inl (cA 0, 701, .inl ft)), (k3, .inl (cA 1, 701, .inr (.inl fv))), (oX3 p0 pr pb pe pg p1 (nI nd) p2 p3 p4 p5 (nI cn) p6 (nI pq) p7 p8 p9 (nI sc)), (p2, .inl (cA 1, 10, .inr (.inl fna))), (p6, .inl (cA 1, 8, .inr (.inl fpn))), (p7, .inl (cA 0, 350, .inl fst)), (p8, .inl (cA 0, 350, .inl fop))] sz)) 0 0 (va_A [(oX4 r0 r1 p0 (nI ti) (fk ti) (ft ti) (fv ti) inb iek iep), (oX5 r1 k1 k2 k3 (nI ct)), (k1, .inl (cA 0, 701, .inl fk)), (k2, .inl (cA 0, 701, .inl ft)), (k3, .inl (cA 1, 701, .inr (.inl fv))), (oX3 p0 pr pb pe pg p1 (nI nd) p2 p3 p4 p5 (nI cn) p6 (nI pq) p7 p8 p9 (nI sc)), (p2, .inl (cA 1, 10, .inr (.inl fna))), (p6, .inl (cA 1, 8, .inr (.inl fpn))), (p7, .inl (cA 0, 350, .inl fst)), (p8, .inl (cA 0, 350, .inl fop))] sz) := by
  refine Met.ofW (cc := cX4_readFact) (maxL := 3) (ret := (some .boolean)) (by decide) rfl ?_
  intro p e s m args below meth c s₁ B hml hv
  obtain ⟨rfl, hsz, hP, hK, hD0, hC, hZ⟩ := hv
  have hx := B.exec
  have hb := B.bytes
  have hr := B.returns
  have hts := atoms_spec (ws := wsX4_readFact) B.pre
  have hown : s.vm.findClass RX4 = some m.cls := findClass_of_methodNamed B.named
  have hlocks := B.notSynchronized
  subst hsz
  have hD := hD0.self (sz := s.heap.size)
  generalize hAe : va_A [(oX4 r0 r1 p0 (nI ti) (fk ti) (ft ti) (fv ti) inb iek iep), (oX5 r1 k1 k2 k3 (nI ct)), (k1, .inl (cA 0, 701, .inl fk)), (k2, .inl (cA 0, 701, .inl ft)), (k3, .inl (cA 1, 701, .inr (.inl fv))), (oX3 p0 pr pb pe pg p1 (nI nd) p2 p3 p4 p5 (nI cn) p6 (nI pq) p7 p8 p9 (nI sc)), (p2, .inl (cA 1, 10, .inr (.inl fna))), (p6, .inl (cA 1, 8, .inr (.inl fpn))), (p7, .inl (cA 0, 350, .inl fst)), (p8, .inl (cA 0, 350, .inl fop))] s.heap.size = A at hD hZ ⊢
  have hA : ∀ q : Nat, s.heap.size ≤ q → A q := fun q h => by rw [← hAe]; exact Or.inr h
  have hS : va_S A s.heap s.heap [] := va_S.rf
  have hP : va_P D vwCl [(oX4 r0 r1 p0 (nI ti) (fk ti) (ft ti) (fv ti) inb iek iep), (oX5 r1 k1 k2 k3 (nI ct)), (k1, .inl (cA 0, 701, .inl fk)), (k2, .inl (cA 0, 701, .inl ft)), (k3, .inl (cA 1, 701, .inr (.inl fv))), (oX3 p0 pr pb pe pg p1 (nI nd) p2 p3 p4 p5 (nI cn) p6 (nI pq) p7 p8 p9 (nI sc)), (p2, .inl (cA 1, 10, .inr (.inl fna))), (p6, .inl (cA 1, 8, .inr (.inl fpn))), (p7, .inl (cA 0, 350, .inl fst)), (p8, .inl (cA 0, 350, .inl fop))] s.heap := hP
  have hl := lv_entry ([.ref r0, .int (nI o9)]) (n := 3) (Nat.le_of_ble_eq_true rfl)
  rw [lg_entry_eq]
  generalize (lg_sl ([.ref r0, .int (nI o9)]) ++ List.replicate (3 - (lg_sl ([.ref r0, .int (nI o9)])).length) Slot.unset).toArray = ls at hl ⊢
  have hl : lv_has ls 3 [(0, .ref r0), (1, .int (nI o9))] := hl
  have inX4 : ∀ w ∈ u_ws RX4 TX4 9, w ∈ wsX4_readFact := by decide +kernel
  have hle9 := TX.le hTX hti
  refine lv_aload_n hx hb dX4_readFact_0 rfl (lv_at hl 0 rfl) ?_
  refine va_get (D := D) (ci := 8) (v := .int (fk ti)) (C := RX4) (T := TX4) (N := 9) hx hb hts inX4 hown hK hP 0 rfl rfl 3 (by decide) (hts (.fieldLink RX4 42 "EscrowDesk$Reader" "kind" "I") (by decide +kernel)) (fun _ h9 => h9) rfl dX4_readFact_1 ?_
  refine lv_istore_n (lv' := [(2, .int (fk ti)), (0, .ref r0), (1, .int (nI o9))]) hx hb dX4_readFact_4 rfl hl (by decide) rfl (fun ls hl => ?_)
  refine lv_iload_n hx hb dX4_readFact_5 rfl (lv_at hl 0 rfl) ?_
  refine lv_bipush (v := 16) hx hb dX4_readFact_6 (by decide) ?_
  refine lv_icmp_eq (tgt := 16) hx hb dX4_readFact_8 (by decide) (fun c1 => ?_) (fun c1 => ?_)
  · skip
    rw [c1] at hl
    have hl : lv_has ls 3 [(2, .int 16), (0, .ref r0), (1, .int (nI o9))] := hl
    refine lv_iload_n hx hb dX4_readFact_16 rfl (lv_at hl 2 rfl) ?_
    refine lv_bipush (v := 8) hx hb dX4_readFact_17 (by decide) ?_
    refine lv_icmp_lt (tgt := 28) hx hb dX4_readFact_19 (by decide) (fun c2 => ?_) (fun c9 => absurd (nI_lt (a := o9) (b := 8) (show o9 < 8 by omega) (by omega)) c9)
    refine lv_iload_n hx hb dX4_readFact_28 rfl (lv_at hl 0 rfl) ?_
    obtain ⟨hPc, hDc, hFc⟩ := PDq.cut (wc := []) hP hD hS hA [] (by decide) rfl
    refine va_calli (va_runS (As := [.int 16]) (rest := []) ⟨hx, hb, hml, hown, hts⟩ (x_beginsFact l D cA sa 16 s.heap.size) (va_cwS 1 hts gX4_readFact_X7_beginsFact rfl rfl rfl (by decide +kernel) ⟨by show (0) + 1 ≤ 3 * (k9 + 1) + 20; omega, by show 8 + (1 + 11) + (0) ≤ 72 * (k9 + 1) + 320; omega⟩) ⟨Wd.blind, fun U hU hW => ⟨rfl, Wd.call hPc hDc hK hC hZ hS hFc U hU hW⟩⟩ rfl rfl hl.1 rfl (lv_room (Nat.le_of_ble_eq_true rfl)) dX4_readFact_29 ⟨(Nat.le_of_ble_eq_true rfl), (Nat.le_of_ble_eq_true rfl)⟩) hS (fun q _ h => hFc q h) hFc (fun rn3 u t H1 locs ht hvm hw hB hz1 hk1 hS => ?_)
    obtain ⟨hP1, hD1⟩ := hB
    rw [ht] at hP1
    obtain ⟨hP, hD⟩ := PDq.join (w := [(oX4 r0 r1 p0 (nI ti) (fk ti) (ft ti) (fv ti) inb iek iep), (oX5 r1 k1 k2 k3 (nI ct)), (k1, .inl (cA 0, 701, .inl fk)), (k2, .inl (cA 0, 701, .inl ft)), (k3, .inl (cA 1, 701, .inr (.inl fv))), (oX3 p0 pr pb pe pg p1 (nI nd) p2 p3 p4 p5 (nI cn) p6 (nI pq) p7 p8 p9 (nI sc)), (p2, .inl (cA 1, 10, .inr (.inl fna))), (p6, .inl (cA 1, 8, .inr (.inl fpn))), (p7, .inl (cA 0, 350, .inl fst)), (p8, .inl (cA 0, 350, .inl fop))]) 10 hP hD [] [0, 1, 2, 3, 4, 5, 6, 7, 8, 9] rfl rfl (by decide +kernel) (by decide +kernel) hk1 hFc hP1 hD1 rfl
    generalize H1 = H at hP hS ⊢
    rcases hw with ⟨hr9, hn4⟩ | ⟨hr9, hn4⟩
    · skip
      subst hr9
      refine lv_if_ne (tgt := 41) hx hb dX4_readFact_32 (by decide) (fun c5 => ?_) (fun c9 => absurd c9 (by decide))
      have hn6 := TX.go2 hTX hti (by rw [c1]; decide)
      have hn6a := hn6.2.1
      have hn6b := hn6.2.2
      have hn6c := hn6.1
      refine lv_aload_n hx hb dX4_readFact_41 rfl (lv_at hl 1 rfl) ?_
      refine lv_aload_n hx hb dX4_readFact_42 rfl (lv_at hl 1 rfl) ?_
      refine va_get (D := D) (ci := 8) (v := .int (nI ti)) (C := RX4) (T := TX4) (N := 9) hx hb hts inX4 hown hK hP 0 rfl rfl 2 (by decide) (hts (.fieldLink RX4 70 "EscrowDesk$Reader" "token" "I") (by decide +kernel)) (fun _ h9 => h9) rfl dX4_readFact_43 ?_
      refine lv_iconst (v := 1) hx hb dX4_readFact_46 (by decide) ?_
      refine lv_iadd hx hb dX4_readFact_47 ?_
      refine lv_topi (fun yn7 eyn7 => ?_)
      obtain rfl : yn7 = (nI (ti + 1)) := eyn7.trans (nI_add ti 1)
      obtain ⟨hPc, hDc, hFc⟩ := PDq.cut (wc := [(oX4 r0 r1 p0 (nI ti) (fk ti) (ft ti) (fv ti) inb iek iep), (oX5 r1 k1 k2 k3 (nI ct)), (k1, .inl (cA 0, 701, .inl fk)), (k2, .inl (cA 0, 701, .inl ft)), (k3, .inl (cA 1, 701, .inr (.inl fv)))]) hP hD hS hA [0, 1, 2, 3, 4] (by decide) rfl
      refine va_callv (va_runV (As := [.int (nI (ti + 1))]) (rest := []) ⟨hx, hb, hml, hown, hts⟩ (x_lookAt l D cA sa r0 p0 (ti + 1) (nI ti) (fk ti) (ft ti) inb iek iep (fv ti) r1 k1 k2 k3 ct fk ft fv H.size hct hn6.1) (cwV 1 hts gX4_readFact_X4_lookAt rfl rfl rfl (by decide +kernel) ⟨by show (0) + 1 ≤ 3 * (k9 + 1) + 20; omega, by show 8 + (2 + 11) + (0) ≤ 72 * (k9 + 1) + 320; omega⟩) ⟨Wd.blind, va_recv hK hPc (ci := 8) (q0 := 0) rfl rfl, fun U hU hW => ⟨rfl, Wd.call hPc hDc hK hC hZ hS hFc U hU hW⟩⟩ rfl rfl hl.1 rfl (lv_room (Nat.le_of_ble_eq_true rfl)) dX4_readFact_48 ⟨(Nat.le_of_ble_eq_true rfl), (Nat.le_of_ble_eq_true rfl)⟩) hS (fun q _ h => hFc q h) hFc (fun u t H1 locs ht hvm hw hB hz1 hk1 hS => ?_)
      obtain ⟨hP1, hD1⟩ := hB
      rw [ht] at hP1
      obtain ⟨hP, hD⟩ := PDq.join (w := [(oX3 p0 pr pb pe pg p1 (nI nd) p2 p3 p4 p5 (nI cn) p6 (nI pq) p7 p8 p9 (nI sc)), (p2, .inl (cA 1, 10, .inr (.inl fna))), (p6, .inl (cA 1, 8, .inr (.inl fpn))), (p7, .inl (cA 0, 350, .inl fst)), (p8, .inl (cA 0, 350, .inl fop)), (oX4 r0 r1 p0 (nI (ti + 1)) (fk (ti + 1)) (ft (ti + 1)) (fv (ti + 1)) inb iek iep), (oX5 r1 k1 k2 k3 (nI ct)), (k1, .inl (cA 0, 701, .inl fk)), (k2, .inl (cA 0, 701, .inl ft)), (k3, .inl (cA 1, 701, .inr (.inl fv)))]) 5 hP hD [0, 1, 2, 3, 4] [5, 6, 7, 8, 9] rfl rfl (by decide) (by decide +kernel) hk1 hFc hP1 hD1 rfl
      generalize H1 = H at hP hS ⊢
      refine lv_iload_n hx hb dX4_readFact_51 rfl (lv_at hl 0 rfl) ?_
      refine lv_tableIn (off := 105) (tgt := 157) hx hb dX4_readFact_52 (by decide) (by decide) (by decide) (by decide) ?_
      refine lv_aload_n hx hb dX4_readFact_157 rfl (lv_at hl 1 rfl) ?_
      refine lv_iload_n hx hb dX4_readFact_158 rfl (lv_at hl 2 rfl) ?_
      refine lv_iconst (v := 1) hx hb dX4_readFact_159 (by decide) ?_
      refine lv_iadd hx hb dX4_readFact_160 ?_
      refine lv_topi (fun yn8 eyn8 => ?_)
      obtain rfl : yn8 = (nI (o9 + 1)) := eyn8.trans (nI_add o9 1)
      obtain ⟨hPc, hDc, hFc⟩ := PDq.cut (wc := [(oX4 r0 r1 p0 (nI (ti + 1)) (fk (ti + 1)) (ft (ti + 1)) (fv (ti + 1)) inb iek iep), (oX5 r1 k1 k2 k3 (nI ct)), (k1, .inl (cA 0, 701, .inl fk)), (k2, .inl (cA 0, 701, .inl ft)), (k3, .inl (cA 1, 701, .inr (.inl fv))), (oX3 p0 pr pb pe pg p1 (nI nd) p2 p3 p4 p5 (nI cn) p6 (nI pq) p7 p8 p9 (nI sc)), (p2, .inl (cA 1, 10, .inr (.inl fna))), (p6, .inl (cA 1, 8, .inr (.inl fpn))), (p7, .inl (cA 0, 350, .inl fst)), (p8, .inl (cA 0, 350, .inl fop))]) hP hD hS hA [5, 6, 7, 8, 9, 0, 1, 2, 3, 4] (by decide +kernel) rfl
      refine va_calli (va_runV (As := [.int (nI (o9 + 1))]) (rest := []) ⟨hx, hb, hml, hown, hts⟩ (IHf r0 p0 (ti + 1) ln inb iek iep r1 k1 k2 k3 ct fk ft fv fb gP gR p1 p2 p3 p4 p5 p6 p7 p8 p9 cn pq nd sc pr pb pe pg fna fpn fst fop ml pl (sl + 2) (o9 + 1) H.size hct hln hn6.1 hTX hcn hpq hnd hsc hNM hNP (by omega) (by omega)) (cwV 1 hts gX4_readFact_X4_readFact rfl rfl rfl (by decide +kernel) ⟨by show (3 * k9 + 20) + 1 ≤ 3 * (k9 + 1) + 20; omega, by show 8 + (3 + 11) + (72 * k9 + 320) ≤ 72 * (k9 + 1) + 320; omega⟩) ⟨Wd.blind, va_recv hK hPc (ci := 8) (q0 := 0) rfl rfl, fun U hU hW => ⟨rfl, Wd.call hPc hDc hK hC hZ hS hFc U hU hW⟩⟩ rfl rfl hl.1 rfl (lv_room (Nat.le_of_ble_eq_true rfl)) dX4_readFact_161 ⟨(Nat.le_of_ble_eq_true rfl), (Nat.le_of_ble_eq_true rfl)⟩) hS (fun q _ h => hFc q h) hFc (fun rn9 u t H1 locs ht hvm hw hB hz1 hk1 hS => ?_)
      obtain ⟨qn10, qn11, qn12, zn13, zn14, zn15, fn16, fn17, fn18, zn19, hn20, hn21, hn22, hn23, hn24, hn25, hn26, hn27, hn28, hn29, hn30, hn31, hP1, hD1⟩ := hB
      rw [ht] at hP1
      obtain ⟨hP, hD⟩ := PDq.join (w := [(oX4 r0 r1 p0 (nI qn10) (fk qn10) (ft qn10) (fv qn10) zn13 zn14 zn15), (oX5 r1 k1 k2 k3 (nI ct)), (k1, .inl (cA 0, 701, .inl fk)), (k2, .inl (cA 0, 701, .inl ft)), (k3, .inl (cA 1, 701, .inr (.inl fv))), (oX3 p0 pr pb pe pg p1 (nI nd) p2 p3 p4 p5 (nI cn) p6 (nI qn11) p7 p8 p9 (nI qn12)), (p2, .inl (cA 1, 10, .inr (.inl fna))), (p6, .inl (cA 1, 8, .inr (.inl fn16))), (p7, .inl (cA 0, 350, .inl fn17)), (p8, .inl (cA 0, 350, .inl fn18))]) 0 hP hD [5, 6, 7, 8, 9, 0, 1, 2, 3, 4] [] rfl rfl (by decide) (by decide +kernel) hk1 hFc hP1 hD1 rfl
      generalize H1 = H at hP hS ⊢
      rcases hw.2 with hr9 | hr9
      · skip
        have hn31 := hn31 (hw.1.trans hr9)
        subst hr9
        refine lv_if_eq (tgt := 183) hx hb dX4_readFact_164 (by decide) (fun c32 => ?_) (fun c9 => absurd c9 (by decide))
        refine lv_iconst (v := 0) hx hb dX4_readFact_183 (by decide) ?_
        obtain ⟨hP9, hD9⟩ := PDq.sub (ws' := [(oX4 r0 r1 p0 (nI qn10) (fk qn10) (ft qn10) (fv qn10) zn13 zn14 zn15), (oX5 r1 k1 k2 k3 (nI ct)), (k1, .inl (cA 0, 701, .inl fk)), (k2, .inl (cA 0, 701, .inl ft)), (k3, .inl (cA 1, 701, .inr (.inl fv))), (oX3 p0 pr pb pe pg p1 (nI nd) p2 p3 p4 p5 (nI cn) p6 (nI qn11) p7 p8 p9 (nI qn12)), (p2, .inl (cA 1, 10, .inr (.inl fna))), (p6, .inl (cA 1, 8, .inr (.inl fn16))), (p7, .inl (cA 0, 350, .inl fn17)), (p8, .inl (cA 0, 350, .inl fn18))]) hP hD [0, 1, 2, 3, 4, 5, 6, 7, 8, 9] (by decide +kernel) rfl
        refine W.widen (k := 0) (n := 0) (Nat.le_of_ble_eq_true rfl) (Nat.le_of_ble_eq_true rfl) ?_
        exact (W.zret (v := 0) hx hb hr (by first | rfl | decide) (fun t ht hW => ⟨⟨0, 0, rfl, ⟨rfl, by decide⟩, qn10, qn11, qn12, zn13, zn14, zn15, fn16, fn17, fn18, zn19, hn20, hn21, (by omega), hn23, hn24, hn25, (fun h9 => absurd h9 (by decide)), (fun h9 => absurd h9 (by decide)), (fun h9 => absurd h9 (by decide)), (fun h9 => absurd h9 (by decide)), (fun h9 => absurd h9 (by decide)), (fun _ => (P_not c1 (by omega) hn31)), by rw [ht]; exact hP9, hD9⟩, hS.F ht⟩) hS.2.2 dX4_readFact_184)
      · skip
        have hn26 := hn26 (hw.1.trans hr9)
        obtain rfl : iek = zn14 := hn26.symm
        obtain ⟨hP, hD⟩ : PDq D A [(oX4 r0 r1 p0 (nI qn10) (fk qn10) (ft qn10) (fv qn10) zn13 iek zn15), (oX5 r1 k1 k2 k3 (nI ct)), (k1, .inl (cA 0, 701, .inl fk)), (k2, .inl (cA 0, 701, .inl ft)), (k3, .inl (cA 1, 701, .inr (.inl fv))), (oX3 p0 pr pb pe pg p1 (nI nd) p2 p3 p4 p5 (nI cn) p6 (nI qn11) p7 p8 p9 (nI qn12)), (p2, .inl (cA 1, 10, .inr (.inl fna))), (p6, .inl (cA 1, 8, .inr (.inl fn16))), (p7, .inl (cA 0, 350, .inl fn17)), (p8, .inl (cA 0, 350, .inl fn18))] H := ⟨hP, hD⟩
        have hn27 := hn27 (hw.1.trans hr9)
        obtain rfl : iep = zn15 := hn27.symm
        obtain ⟨hP, hD⟩ : PDq D A [(oX4 r0 r1 p0 (nI qn10) (fk qn10) (ft qn10) (fv qn10) zn13 iek iep), (oX5 r1 k1 k2 k3 (nI ct)), (k1, .inl (cA 0, 701, .inl fk)), (k2, .inl (cA 0, 701, .inl ft)), (k3, .inl (cA 1, 701, .inr (.inl fv))), (oX3 p0 pr pb pe pg p1 (nI nd) p2 p3 p4 p5 (nI cn) p6 (nI qn11) p7 p8 p9 (nI qn12)), (p2, .inl (cA 1, 10, .inr (.inl fna))), (p6, .inl (cA 1, 8, .inr (.inl fn16))), (p7, .inl (cA 0, 350, .inl fn17)), (p8, .inl (cA 0, 350, .inl fn18))] H := ⟨hP, hD⟩
        have hn28 := hn28 (hw.1.trans hr9)
        have hn29 := hn29 (hw.1.trans hr9)
        have hn30 := hn30 (hw.1.trans hr9)
        subst hr9
        refine lv_if_eq (tgt := 183) hx hb dX4_readFact_164 (by decide) (fun c9 => absurd c9 (by decide)) (fun c33 => ?_)
        refine lv_aload_n hx hb dX4_readFact_167 rfl (lv_at hl 1 rfl) ?_
        refine va_get (D := D) (ci := 8) (v := .ref p0) (C := RX4) (T := TX4) (N := 9) hx hb hts inX4 hown hK hP 0 rfl rfl 1 (by decide) (hts (.fieldLink RX4 25 "EscrowDesk$Reader" "plan" "LEscrowDesk$Plan;") (by decide +kernel)) (fun _ h9 => h9) rfl dX4_readFact_168 ?_
        refine lv_iload_n hx hb dX4_readFact_171 rfl (lv_at hl 0 rfl) ?_
        refine lv_iconst (v := 0) hx hb dX4_readFact_172 (by decide) ?_
        obtain ⟨hPc, hDc, hFc⟩ := PDq.cut (wc := [(oX3 p0 pr pb pe pg p1 (nI nd) p2 p3 p4 p5 (nI cn) p6 (nI qn11) p7 p8 p9 (nI qn12)), (p7, .inl (cA 0, 350, .inl fn17)), (p8, .inl (cA 0, 350, .inl fn18))]) hP hD hS hA [5, 8, 9] (by decide) rfl
        refine va_calli (va_runV (As := [.int 16, .int 0]) (rest := []) ⟨hx, hb, hml, hown, hts⟩ (x_addStep l D cA sa p0 p1 p2 p3 p4 p5 p6 p7 p8 p9 cn qn11 nd qn12 pr pb pe pg 16 0 fn17 fn18 H.size (by omega)) (cwV 2 hts gX4_readFact_X3_addStep rfl rfl rfl (by decide +kernel) ⟨by show (0) + 1 ≤ 3 * (k9 + 1) + 20; omega, by show 8 + (3 + 11) + (0) ≤ 72 * (k9 + 1) + 320; omega⟩) ⟨Wd.blind, va_recv hK hPc (ci := 7) (q0 := 0) rfl rfl, fun U hU hW => ⟨rfl, Wd.call hPc hDc hK hC hZ hS hFc U hU hW⟩⟩ rfl rfl hl.1 rfl (lv_room (Nat.le_of_ble_eq_true rfl)) dX4_readFact_173 ⟨(Nat.le_of_ble_eq_true rfl), (Nat.le_of_ble_eq_true rfl)⟩) hS (fun q _ h => hFc q h) hFc (fun rn34 u t H1 locs ht hvm hw hB hz1 hk1 hS => ?_)
        obtain ⟨fn35, fn36, hP1, hD1⟩ := hB
        rw [ht] at hP1
        obtain ⟨hP, hD⟩ := PDq.join (w := [(oX4 r0 r1 p0 (nI qn10) (fk qn10) (ft qn10) (fv qn10) zn13 iek iep), (oX5 r1 k1 k2 k3 (nI ct)), (k1, .inl (cA 0, 701, .inl fk)), (k2, .inl (cA 0, 701, .inl ft)), (k3, .inl (cA 1, 701, .inr (.inl fv))), (p2, .inl (cA 1, 10, .inr (.inl fna))), (p6, .inl (cA 1, 8, .inr (.inl fn16))), (oX3 p0 pr pb pe pg p1 (nI nd) p2 p3 p4 p5 (nI cn) p6 (nI qn11) p7 p8 p9 (nI (qn12 + 1))), (p7, .inl (cA 0, 350, .inl fn35)), (p8, .inl (cA 0, 350, .inl fn36))]) 7 hP hD [5, 8, 9] [0, 1, 2, 3, 4, 6, 7] rfl rfl (by decide) (by decide +kernel) hk1 hFc hP1 hD1 rfl
        generalize H1 = H at hP hS ⊢
        obtain rfl : rn34 = 1 := hw
        refine lv_if_eq (tgt := 183) hx hb dX4_readFact_176 (by decide) (fun c9 => absurd c9 (by decide)) (fun c37 => ?_)
        refine lv_iconst (v := 1) hx hb dX4_readFact_179 (by decide) ?_
        refine lv_goto (tgt := 184) hx hb dX4_readFact_180 (by decide) ?_
        obtain ⟨hP9, hD9⟩ := PDq.sub (ws' := [(oX4 r0 r1 p0 (nI qn10) (fk qn10) (ft qn10) (fv qn10) zn13 iek iep), (oX5 r1 k1 k2 k3 (nI ct)), (k1, .inl (cA 0, 701, .inl fk)), (k2, .inl (cA 0, 701, .inl ft)), (k3, .inl (cA 1, 701, .inr (.inl fv))), (oX3 p0 pr pb pe pg p1 (nI nd) p2 p3 p4 p5 (nI cn) p6 (nI qn11) p7 p8 p9 (nI (qn12 + 1))), (p2, .inl (cA 1, 10, .inr (.inl fna))), (p6, .inl (cA 1, 8, .inr (.inl fn16))), (p7, .inl (cA 0, 350, .inl fn35)), (p8, .inl (cA 0, 350, .inl fn36))]) hP hD [0, 1, 2, 3, 4, 7, 5, 6, 8, 9] (by decide +kernel) rfl
        refine W.widen (k := 0) (n := 0) (Nat.le_of_ble_eq_true rfl) (Nat.le_of_ble_eq_true rfl) ?_
        exact (W.zret (v := 1) hx hb hr (by first | rfl | decide) (fun t ht hW => ⟨⟨1, 1, rfl, ⟨rfl, by decide⟩, qn10, qn11, (qn12 + 1), zn13, iek, iep, fn16, fn35, fn36, zn19, hn20, hn21, (by omega), hn23, (by omega), hn25, (fun _ => rfl), (fun _ => rfl), (fun _ => (by omega)), (fun _ => (by omega)), (fun _ => (P_not c1 (by omega) hn30)), (fun h9 => absurd h9 (by decide)), by rw [ht]; exact hP9, hD9⟩, hS.F ht⟩) hS.2.2 dX4_readFact_184)
    · skip
      subst hr9
      exact absurd (by decide) hn4
  · skip
    refine lv_iload_n hx hb dX4_readFact_11 rfl (lv_at hl 0 rfl) ?_
    refine lv_iconst (v := 5) hx hb dX4_readFact_12 (by decide) ?_
    refine lv_icmp_ne (tgt := 28) hx hb dX4_readFact_13 (by decide) (fun c38 => ?_) (fun c38 => ?_)
    · skip
      refine lv_iload_n hx hb dX4_readFact_28 rfl (lv_at hl 0 rfl) ?_
      obtain ⟨hPc, hDc, hFc⟩ := PDq.cut (wc := []) hP hD hS hA [] (by decide) rfl
      refine va_calli (va_runS (As := [.int (fk ti)]) (rest := []) ⟨hx, hb, hml, hown, hts⟩ (x_beginsFact l D cA sa (fk ti) s.heap.size) (va_cwS 1 hts gX4_readFact_X7_beginsFact rfl rfl rfl (by decide +kernel) ⟨by show (0) + 1 ≤ 3 * (k9 + 1) + 20; omega, by show 8 + (1 + 11) + (0) ≤ 72 * (k9 + 1) + 320; omega⟩) ⟨Wd.blind, fun U hU hW => ⟨rfl, Wd.call hPc hDc hK hC hZ hS hFc U hU hW⟩⟩ rfl rfl hl.1 rfl (lv_room (Nat.le_of_ble_eq_true rfl)) dX4_readFact_29 ⟨(Nat.le_of_ble_eq_true rfl), (Nat.le_of_ble_eq_true rfl)⟩) hS (fun q _ h => hFc q h) hFc (fun rn39 u t H1 locs ht hvm hw hB hz1 hk1 hS => ?_)
      obtain ⟨hP1, hD1⟩ := hB
      rw [ht] at hP1
      obtain ⟨hP, hD⟩ := PDq.join (w := [(oX4 r0 r1 p0 (nI ti) (fk ti) (ft ti) (fv ti) inb iek iep), (oX5 r1 k1 k2 k3 (nI ct)), (k1, .inl (cA 0, 701, .inl fk)), (k2, .inl (cA 0, 701, .inl ft)), (k3, .inl (cA 1, 701, .inr (.inl fv))), (oX3 p0 pr pb pe pg p1 (nI nd) p2 p3 p4 p5 (nI cn) p6 (nI pq) p7 p8 p9 (nI sc)), (p2, .inl (cA 1, 10, .inr (.inl fna))), (p6, .inl (cA 1, 8, .inr (.inl fpn))), (p7, .inl (cA 0, 350, .inl fst)), (p8, .inl (cA 0, 350, .inl fop))]) 10 hP hD [] [0, 1, 2, 3, 4, 5, 6, 7, 8, 9] rfl rfl (by decide +kernel) (by decide +kernel) hk1 hFc hP1 hD1 rfl
      generalize H1 = H at hP hS ⊢
      rcases hw with ⟨hr9, hn40⟩ | ⟨hr9, hn40⟩
      · skip
        subst hr9
        refine lv_if_ne (tgt := 41) hx hb dX4_readFact_32 (by decide) (fun c41 => ?_) (fun c9 => absurd c9 (by decide))
        have hn42 := TX.go2 hTX hti (bf8 hn40 c38)
        have hn42a := hn42.2.1
        have hn42b := hn42.2.2
        have hn42c := hn42.1
        refine lv_aload_n hx hb dX4_readFact_41 rfl (lv_at hl 1 rfl) ?_
        refine lv_aload_n hx hb dX4_readFact_42 rfl (lv_at hl 1 rfl) ?_
        refine va_get (D := D) (ci := 8) (v := .int (nI ti)) (C := RX4) (T := TX4) (N := 9) hx hb hts inX4 hown hK hP 0 rfl rfl 2 (by decide) (hts (.fieldLink RX4 70 "EscrowDesk$Reader" "token" "I") (by decide +kernel)) (fun _ h9 => h9) rfl dX4_readFact_43 ?_
        refine lv_iconst (v := 1) hx hb dX4_readFact_46 (by decide) ?_
        refine lv_iadd hx hb dX4_readFact_47 ?_
        refine lv_topi (fun yn43 eyn43 => ?_)
        obtain rfl : yn43 = (nI (ti + 1)) := eyn43.trans (nI_add ti 1)
        obtain ⟨hPc, hDc, hFc⟩ := PDq.cut (wc := [(oX4 r0 r1 p0 (nI ti) (fk ti) (ft ti) (fv ti) inb iek iep), (oX5 r1 k1 k2 k3 (nI ct)), (k1, .inl (cA 0, 701, .inl fk)), (k2, .inl (cA 0, 701, .inl ft)), (k3, .inl (cA 1, 701, .inr (.inl fv)))]) hP hD hS hA [0, 1, 2, 3, 4] (by decide) rfl
        refine va_callv (va_runV (As := [.int (nI (ti + 1))]) (rest := []) ⟨hx, hb, hml, hown, hts⟩ (x_lookAt l D cA sa r0 p0 (ti + 1) (nI ti) (fk ti) (ft ti) inb iek iep (fv ti) r1 k1 k2 k3 ct fk ft fv H.size hct hn42.1) (cwV 1 hts gX4_readFact_X4_lookAt rfl rfl rfl (by decide +kernel) ⟨by show (0) + 1 ≤ 3 * (k9 + 1) + 20; omega, by show 8 + (2 + 11) + (0) ≤ 72 * (k9 + 1) + 320; omega⟩) ⟨Wd.blind, va_recv hK hPc (ci := 8) (q0 := 0) rfl rfl, fun U hU hW => ⟨rfl, Wd.call hPc hDc hK hC hZ hS hFc U hU hW⟩⟩ rfl rfl hl.1 rfl (lv_room (Nat.le_of_ble_eq_true rfl)) dX4_readFact_48 ⟨(Nat.le_of_ble_eq_true rfl), (Nat.le_of_ble_eq_true rfl)⟩) hS (fun q _ h => hFc q h) hFc (fun u t H1 locs ht hvm hw hB hz1 hk1 hS => ?_)
        obtain ⟨hP1, hD1⟩ := hB
        rw [ht] at hP1
        obtain ⟨hP, hD⟩ := PDq.join (w := [(oX3 p0 pr pb pe pg p1 (nI nd) p2 p3 p4 p5 (nI cn) p6 (nI pq) p7 p8 p9 (nI sc)), (p2, .inl (cA 1, 10, .inr (.inl fna))), (p6, .inl (cA 1, 8, .inr (.inl fpn))), (p7, .inl (cA 0, 350, .inl fst)), (p8, .inl (cA 0, 350, .inl fop)), (oX4 r0 r1 p0 (nI (ti + 1)) (fk (ti + 1)) (ft (ti + 1)) (fv (ti + 1)) inb iek iep), (oX5 r1 k1 k2 k3 (nI ct)), (k1, .inl (cA 0, 701, .inl fk)), (k2, .inl (cA 0, 701, .inl ft)), (k3, .inl (cA 1, 701, .inr (.inl fv)))]) 5 hP hD [0, 1, 2, 3, 4] [5, 6, 7, 8, 9] rfl rfl (by decide) (by decide +kernel) hk1 hFc hP1 hD1 rfl
        generalize H1 = H at hP hS ⊢
        refine lv_iload_n hx hb dX4_readFact_51 rfl (lv_at hl 0 rfl) ?_
        by_cases hn44 : (fk ti) = 5
        · skip
          exact absurd hn44 c38
        · skip
          by_cases hn45 : (fk ti) = 6
          · skip
            exact absurd hn45 (fun z9 => absurd hn40 (by rw [z9]; decide))
          · skip
            by_cases hn46 : (fk ti) = 7
            · skip
              exact absurd hn46 (fun z9 => absurd hn40 (by rw [z9]; decide))
            · skip
              by_cases hn47 : (fk ti) = 8
              · skip
                exact absurd hn47 (fun z9 => absurd hn40 (by rw [z9]; decide))
              · skip
                by_cases hn48 : (fk ti) = 9
                · skip
                  exact absurd hn48 (fun z9 => absurd hn40 (by rw [z9]; decide))
                · skip
                  by_cases hn49 : (fk ti) = 10
                  · skip
                    exact absurd hn49 (fun z9 => absurd hn40 (by rw [z9]; decide))
                  · skip
                    by_cases hn50 : (fk ti) = 11
                    · skip
                      exact absurd hn50 (fun z9 => absurd hn40 (by rw [z9]; decide))
                    · skip
                      by_cases hn51 : (fk ti) = 12
                      · skip
                        exact absurd hn51 (fun z9 => absurd hn40 (by rw [z9]; decide))
                      · skip
                        by_cases hn52 : (fk ti) = 13
                        · skip
                          exact absurd hn52 (fun z9 => absurd hn40 (by rw [z9]; decide))
                        · skip
                          by_cases hn53 : (fk ti) = 14
                          · skip
                            exact absurd hn53 (fun z9 => absurd hn40 (by rw [z9]; decide))
                          · skip
                            by_cases hn54 : (fk ti) = 15
                            · skip
                              exact absurd hn54 (fun z9 => absurd hn40 (by rw [z9]; decide))
                            · skip
                              by_cases hn55 : (fk ti) = 16
                              · skip
                                exact absurd hn55 c1
                              · skip
                                by_cases hn56 : (fk ti) = 17
                                · skip
                                  refine W.eq (g2 := F0 m 52 ls [.int 17]) (by rw [hn56]) ?_
                                  refine lv_tableIn (off := 133) (tgt := 185) hx hb dX4_readFact_52 (by decide) (by decide) (by decide) (by decide) ?_
                                  refine lv_aload_n hx hb dX4_readFact_185 rfl (lv_at hl 1 rfl) ?_
                                  refine lv_iconst (v := 0) hx hb dX4_readFact_186 (by decide) ?_
                                  refine lv_sipush (v := 999) hx hb dX4_readFact_187 (by decide) ?_
                                  obtain ⟨hPc, hDc, hFc⟩ := PDq.cut (wc := [(oX4 r0 r1 p0 (nI (ti + 1)) (fk (ti + 1)) (ft (ti + 1)) (fv (ti + 1)) inb iek iep), (oX5 r1 k1 k2 k3 (nI ct)), (k1, .inl (cA 0, 701, .inl fk)), (k2, .inl (cA 0, 701, .inl ft)), (k3, .inl (cA 1, 701, .inr (.inl fv)))]) hP hD hS hA [5, 6, 7, 8, 9] (by decide) rfl
                                  refine va_calli (va_runV (As := [.int 0, .int 999]) (rest := []) ⟨hx, hb, hml, hown, hts⟩ (x_takeNumber l D cA sa r0 p0 (ti + 1) ln inb iek iep r1 k1 k2 k3 ct fk ft fv fb gP gR 0 999 H.size hct hln hn42.1 hTX (by omega) (by omega)) (cwV 2 hts gX4_readFact_X4_takeNumber rfl rfl rfl (by decide +kernel) ⟨by show (1) + 1 ≤ 3 * (k9 + 1) + 20; omega, by show 8 + (3 + 11) + (21) ≤ 72 * (k9 + 1) + 320; omega⟩) ⟨Wd.blind, va_recv hK hPc (ci := 8) (q0 := 0) rfl rfl, fun U hU hW => ⟨rfl, Wd.call hPc hDc hK hC hZ hS hFc U hU hW⟩⟩ rfl rfl hl.1 rfl (lv_room (Nat.le_of_ble_eq_true rfl)) dX4_readFact_190 ⟨(Nat.le_of_ble_eq_true rfl), (Nat.le_of_ble_eq_true rfl)⟩) hS (fun q _ h => hFc q h) hFc (fun rn57 u t H1 locs ht hvm hw hB hz1 hk1 hS => ?_)
                                  obtain ⟨qn58, zn59, zn60, zn61, hn62, hn63, hn64, hn65, hn66, hn67, hn68, hn69, hn70, hn71, hP1, hD1⟩ := hB
                                  rw [ht] at hP1
                                  obtain ⟨hP, hD⟩ := PDq.join (w := [(oX3 p0 pr pb pe pg p1 (nI nd) p2 p3 p4 p5 (nI cn) p6 (nI pq) p7 p8 p9 (nI sc)), (p2, .inl (cA 1, 10, .inr (.inl fna))), (p6, .inl (cA 1, 8, .inr (.inl fpn))), (p7, .inl (cA 0, 350, .inl fst)), (p8, .inl (cA 0, 350, .inl fop)), (oX4 r0 r1 p0 (nI qn58) (fk qn58) (ft qn58) (fv qn58) zn59 zn60 zn61), (oX5 r1 k1 k2 k3 (nI ct)), (k1, .inl (cA 0, 701, .inl fk)), (k2, .inl (cA 0, 701, .inl ft)), (k3, .inl (cA 1, 701, .inr (.inl fv)))]) 5 hP hD [5, 6, 7, 8, 9] [0, 1, 2, 3, 4] rfl rfl (by decide) (by decide +kernel) hk1 hFc hP1 hD1 rfl
                                  generalize H1 = H at hP hS ⊢
                                  rcases hw.2 with hr9 | hr9
                                  · skip
                                    have hn70 := hn70 (hw.1.trans hr9)
                                    have hn71 := hn71 (hw.1.trans hr9)
                                    subst hr9
                                    refine lv_if_eq (tgt := 215) hx hb dX4_readFact_193 (by decide) (fun c72 => ?_) (fun c9 => absurd c9 (by decide))
                                    refine lv_iconst (v := 0) hx hb dX4_readFact_215 (by decide) ?_
                                    obtain ⟨hP9, hD9⟩ := PDq.sub (ws' := [(oX4 r0 r1 p0 (nI qn58) (fk qn58) (ft qn58) (fv qn58) zn59 zn60 zn61), (oX5 r1 k1 k2 k3 (nI ct)), (k1, .inl (cA 0, 701, .inl fk)), (k2, .inl (cA 0, 701, .inl ft)), (k3, .inl (cA 1, 701, .inr (.inl fv))), (oX3 p0 pr pb pe pg p1 (nI nd) p2 p3 p4 p5 (nI cn) p6 (nI pq) p7 p8 p9 (nI sc)), (p2, .inl (cA 1, 10, .inr (.inl fna))), (p6, .inl (cA 1, 8, .inr (.inl fpn))), (p7, .inl (cA 0, 350, .inl fst)), (p8, .inl (cA 0, 350, .inl fop))]) hP hD [5, 6, 7, 8, 9, 0, 1, 2, 3, 4] (by decide +kernel) rfl
                                    refine W.widen (k := 0) (n := 0) (Nat.le_of_ble_eq_true rfl) (Nat.le_of_ble_eq_true rfl) ?_
                                    exact (W.zret (v := 0) hx hb hr (by first | rfl | decide) (fun t ht hW => ⟨⟨0, 0, rfl, ⟨rfl, by decide⟩, qn58, pq, sc, zn59, zn60, zn61, fpn, fst, fop, pl, hn62, hn63, (by omega), hpq, hsc, hNP, (fun h9 => absurd h9 (by decide)), (fun h9 => absurd h9 (by decide)), (fun h9 => absurd h9 (by decide)), (fun h9 => absurd h9 (by decide)), (fun h9 => absurd h9 (by decide)), (fun _ => (P_dayEx hn56 hn70 hn71)), by rw [ht]; exact hP9, hD9⟩, hS.F ht⟩) hS.2.2 dX4_readFact_216)
                                  · skip
                                    have hn65 := hn65 (hw.1.trans hr9)
                                    subst hn65
                                    obtain ⟨hP, hD⟩ : PDq D A [(oX3 p0 pr pb pe pg p1 (nI nd) p2 p3 p4 p5 (nI cn) p6 (nI pq) p7 p8 p9 (nI sc)), (p2, .inl (cA 1, 10, .inr (.inl fna))), (p6, .inl (cA 1, 8, .inr (.inl fpn))), (p7, .inl (cA 0, 350, .inl fst)), (p8, .inl (cA 0, 350, .inl fop)), (oX4 r0 r1 p0 (nI ((ti + 1) + 1)) (fk ((ti + 1) + 1)) (ft ((ti + 1) + 1)) (fv ((ti + 1) + 1)) zn59 zn60 zn61), (oX5 r1 k1 k2 k3 (nI ct)), (k1, .inl (cA 0, 701, .inl fk)), (k2, .inl (cA 0, 701, .inl ft)), (k3, .inl (cA 1, 701, .inr (.inl fv)))] H := ⟨hP, hD⟩
                                    have hn66 := hn66 (hw.1.trans hr9)
                                    obtain rfl : iek = zn60 := hn66.symm
                                    obtain ⟨hP, hD⟩ : PDq D A [(oX3 p0 pr pb pe pg p1 (nI nd) p2 p3 p4 p5 (nI cn) p6 (nI pq) p7 p8 p9 (nI sc)), (p2, .inl (cA 1, 10, .inr (.inl fna))), (p6, .inl (cA 1, 8, .inr (.inl fpn))), (p7, .inl (cA 0, 350, .inl fst)), (p8, .inl (cA 0, 350, .inl fop)), (oX4 r0 r1 p0 (nI ((ti + 1) + 1)) (fk ((ti + 1) + 1)) (ft ((ti + 1) + 1)) (fv ((ti + 1) + 1)) zn59 iek zn61), (oX5 r1 k1 k2 k3 (nI ct)), (k1, .inl (cA 0, 701, .inl fk)), (k2, .inl (cA 0, 701, .inl ft)), (k3, .inl (cA 1, 701, .inr (.inl fv)))] H := ⟨hP, hD⟩
                                    have hn67 := hn67 (hw.1.trans hr9)
                                    obtain rfl : iep = zn61 := hn67.symm
                                    obtain ⟨hP, hD⟩ : PDq D A [(oX3 p0 pr pb pe pg p1 (nI nd) p2 p3 p4 p5 (nI cn) p6 (nI pq) p7 p8 p9 (nI sc)), (p2, .inl (cA 1, 10, .inr (.inl fna))), (p6, .inl (cA 1, 8, .inr (.inl fpn))), (p7, .inl (cA 0, 350, .inl fst)), (p8, .inl (cA 0, 350, .inl fop)), (oX4 r0 r1 p0 (nI ((ti + 1) + 1)) (fk ((ti + 1) + 1)) (ft ((ti + 1) + 1)) (fv ((ti + 1) + 1)) zn59 iek iep), (oX5 r1 k1 k2 k3 (nI ct)), (k1, .inl (cA 0, 701, .inl fk)), (k2, .inl (cA 0, 701, .inl ft)), (k3, .inl (cA 1, 701, .inr (.inl fv)))] H := ⟨hP, hD⟩
                                    have hn68 := hn68 (hw.1.trans hr9)
                                    have hn69 := hn69 (hw.1.trans hr9)
                                    subst hr9
                                    refine lv_if_eq (tgt := 215) hx hb dX4_readFact_193 (by decide) (fun c9 => absurd c9 (by decide)) (fun c73 => ?_)
                                    refine lv_aload_n hx hb dX4_readFact_196 rfl (lv_at hl 1 rfl) ?_
                                    refine va_get (D := D) (ci := 8) (v := .ref p0) (C := RX4) (T := TX4) (N := 9) hx hb hts inX4 hown hK hP 5 rfl rfl 1 (by decide) (hts (.fieldLink RX4 25 "EscrowDesk$Reader" "plan" "LEscrowDesk$Plan;") (by decide +kernel)) (fun _ h9 => h9) rfl dX4_readFact_197 ?_
                                    refine lv_iload_n hx hb dX4_readFact_200 rfl (lv_at hl 0 rfl) ?_
                                    refine lv_aload_n hx hb dX4_readFact_201 rfl (lv_at hl 1 rfl) ?_
                                    refine va_get (D := D) (ci := 8) (v := .int zn59) (C := RX4) (T := TX4) (N := 9) hx hb hts inX4 hown hK hP 5 rfl rfl 6 (by decide) (hts (.fieldLink RX4 91 "EscrowDesk$Reader" "number" "I") (by decide +kernel)) (fun _ h9 => h9) rfl dX4_readFact_202 ?_
                                    obtain ⟨hPc, hDc, hFc⟩ := PDq.cut (wc := [(oX3 p0 pr pb pe pg p1 (nI nd) p2 p3 p4 p5 (nI cn) p6 (nI pq) p7 p8 p9 (nI sc)), (p7, .inl (cA 0, 350, .inl fst)), (p8, .inl (cA 0, 350, .inl fop))]) hP hD hS hA [0, 3, 4] (by decide) rfl
                                    refine va_calli (va_runV (As := [.int (fk ti), .int zn59]) (rest := []) ⟨hx, hb, hml, hown, hts⟩ (x_addStep l D cA sa p0 p1 p2 p3 p4 p5 p6 p7 p8 p9 cn pq nd sc pr pb pe pg (fk ti) zn59 fst fop H.size (by omega)) (cwV 2 hts gX4_readFact_X3_addStep rfl rfl rfl (by decide +kernel) ⟨by show (0) + 1 ≤ 3 * (k9 + 1) + 20; omega, by show 8 + (3 + 11) + (0) ≤ 72 * (k9 + 1) + 320; omega⟩) ⟨Wd.blind, va_recv hK hPc (ci := 7) (q0 := 0) rfl rfl, fun U hU hW => ⟨rfl, Wd.call hPc hDc hK hC hZ hS hFc U hU hW⟩⟩ rfl rfl hl.1 rfl (lv_room (Nat.le_of_ble_eq_true rfl)) dX4_readFact_205 ⟨(Nat.le_of_ble_eq_true rfl), (Nat.le_of_ble_eq_true rfl)⟩) hS (fun q _ h => hFc q h) hFc (fun rn74 u t H1 locs ht hvm hw hB hz1 hk1 hS => ?_)
                                    obtain ⟨fn75, fn76, hP1, hD1⟩ := hB
                                    rw [ht] at hP1
                                    obtain ⟨hP, hD⟩ := PDq.join (w := [(p2, .inl (cA 1, 10, .inr (.inl fna))), (p6, .inl (cA 1, 8, .inr (.inl fpn))), (oX4 r0 r1 p0 (nI ((ti + 1) + 1)) (fk ((ti + 1) + 1)) (ft ((ti + 1) + 1)) (fv ((ti + 1) + 1)) zn59 iek iep), (oX5 r1 k1 k2 k3 (nI ct)), (k1, .inl (cA 0, 701, .inl fk)), (k2, .inl (cA 0, 701, .inl ft)), (k3, .inl (cA 1, 701, .inr (.inl fv))), (oX3 p0 pr pb pe pg p1 (nI nd) p2 p3 p4 p5 (nI cn) p6 (nI pq) p7 p8 p9 (nI (sc + 1))), (p7, .inl (cA 0, 350, .inl fn75)), (p8, .inl (cA 0, 350, .inl fn76))]) 7 hP hD [0, 3, 4] [1, 2, 5, 6, 7, 8, 9] rfl rfl (by decide) (by decide +kernel) hk1 hFc hP1 hD1 rfl
                                    generalize H1 = H at hP hS ⊢
                                    obtain rfl : rn74 = 1 := hw
                                    refine lv_if_eq (tgt := 215) hx hb dX4_readFact_208 (by decide) (fun c9 => absurd c9 (by decide)) (fun c77 => ?_)
                                    refine lv_iconst (v := 1) hx hb dX4_readFact_211 (by decide) ?_
                                    refine lv_goto (tgt := 216) hx hb dX4_readFact_212 (by decide) ?_
                                    obtain ⟨hP9, hD9⟩ := PDq.sub (ws' := [(oX4 r0 r1 p0 (nI ((ti + 1) + 1)) (fk ((ti + 1) + 1)) (ft ((ti + 1) + 1)) (fv ((ti + 1) + 1)) zn59 iek iep), (oX5 r1 k1 k2 k3 (nI ct)), (k1, .inl (cA 0, 701, .inl fk)), (k2, .inl (cA 0, 701, .inl ft)), (k3, .inl (cA 1, 701, .inr (.inl fv))), (oX3 p0 pr pb pe pg p1 (nI nd) p2 p3 p4 p5 (nI cn) p6 (nI pq) p7 p8 p9 (nI (sc + 1))), (p2, .inl (cA 1, 10, .inr (.inl fna))), (p6, .inl (cA 1, 8, .inr (.inl fpn))), (p7, .inl (cA 0, 350, .inl fn75)), (p8, .inl (cA 0, 350, .inl fn76))]) hP hD [2, 3, 4, 5, 6, 7, 0, 1, 8, 9] (by decide +kernel) rfl
                                    refine W.widen (k := 0) (n := 0) (Nat.le_of_ble_eq_true rfl) (Nat.le_of_ble_eq_true rfl) ?_
                                    exact (W.zret (v := 1) hx hb hr (by first | rfl | decide) (fun t ht hW => ⟨⟨1, 1, rfl, ⟨rfl, by decide⟩, ((ti + 1) + 1), pq, (sc + 1), zn59, iek, iep, fpn, fn75, fn76, pl, hn62, hn63, (by omega), hpq, (by omega), hNP, (fun _ => rfl), (fun _ => rfl), (fun _ => (by omega)), (fun _ => (by omega)), (fun _ => (P_day hn56 hn69)), (fun h9 => absurd h9 (by decide)), by rw [ht]; exact hP9, hD9⟩, hS.F ht⟩) hS.2.2 dX4_readFact_216)
                                · skip
                                  by_cases hn78 : (fk ti) = 18
                                  · skip
                                    refine W.eq (g2 := F0 m 52 ls [.int 18]) (by rw [hn78]) ?_
                                    refine lv_tableIn (off := 196) (tgt := 248) hx hb dX4_readFact_52 (by decide) (by decide) (by decide) (by decide) ?_
                                    refine lv_aload_n hx hb dX4_readFact_248 rfl (lv_at hl 1 rfl) ?_
                                    obtain ⟨hPc, hDc, hFc⟩ := PDq.cut (wc := [(oX4 r0 r1 p0 (nI (ti + 1)) (fk (ti + 1)) (ft (ti + 1)) (fv (ti + 1)) inb iek iep), (oX5 r1 k1 k2 k3 (nI ct)), (k1, .inl (cA 0, 701, .inl fk)), (k2, .inl (cA 0, 701, .inl ft)), (k3, .inl (cA 1, 701, .inr (.inl fv))), (oX3 p0 pr pb pe pg p1 (nI nd) p2 p3 p4 p5 (nI cn) p6 (nI pq) p7 p8 p9 (nI sc)), (p2, .inl (cA 1, 10, .inr (.inl fna))), (p6, .inl (cA 1, 8, .inr (.inl fpn))), (p7, .inl (cA 0, 350, .inl fst)), (p8, .inl (cA 0, 350, .inl fop))]) hP hD hS hA [5, 6, 7, 8, 9, 0, 1, 2, 3, 4] (by decide +kernel) rfl
                                    refine va_calli (va_runV (As := []) (rest := []) ⟨hx, hb, hml, hown, hts⟩ (x_readProofName l D cA sa r0 p0 (ti + 1) ln inb iek iep r1 k1 k2 k3 ct fk ft fv fb gP gR p1 p2 p3 p4 p5 p6 p7 p8 p9 cn pq nd sc pr pb pe pg fna fpn fst fop ml pl sl H.size hct hln hn42.1 hTX hcn hpq hnd hsc hNM hNP (by omega)) (cwV 0 hts gX4_readFact_X4_readProofName rfl rfl rfl (by decide +kernel) ⟨by show (1) + 1 ≤ 3 * (k9 + 1) + 20; omega, by show 8 + (2 + 11) + (23) ≤ 72 * (k9 + 1) + 320; omega⟩) ⟨Wd.blind, va_recv hK hPc (ci := 8) (q0 := 0) rfl rfl, fun U hU hW => ⟨rfl, Wd.call hPc hDc hK hC hZ hS hFc U hU hW⟩⟩ rfl rfl hl.1 rfl (lv_room (Nat.le_of_ble_eq_true rfl)) dX4_readFact_249 ⟨(Nat.le_of_ble_eq_true rfl), (Nat.le_of_ble_eq_true rfl)⟩) hS (fun q _ h => hFc q h) hFc (fun rn79 u t H1 locs ht hvm hw hB hz1 hk1 hS => ?_)
                                    obtain ⟨qn80, qn81, qn82, zn83, zn84, zn85, fn86, fn87, fn88, zn89, hn90, hn91, hn92, hn93, hn94, hn95, hn96, hn97, hn98, hn99, hn100, hn101, hn102, hP1, hD1⟩ := hB
                                    rw [ht] at hP1
                                    obtain ⟨hP, hD⟩ := PDq.join (w := [(oX4 r0 r1 p0 (nI qn80) (fk qn80) (ft qn80) (fv qn80) zn83 zn84 zn85), (oX5 r1 k1 k2 k3 (nI ct)), (k1, .inl (cA 0, 701, .inl fk)), (k2, .inl (cA 0, 701, .inl ft)), (k3, .inl (cA 1, 701, .inr (.inl fv))), (oX3 p0 pr pb pe pg p1 (nI nd) p2 p3 p4 p5 (nI cn) p6 (nI qn81) p7 p8 p9 (nI qn82)), (p2, .inl (cA 1, 10, .inr (.inl fna))), (p6, .inl (cA 1, 8, .inr (.inl fn86))), (p7, .inl (cA 0, 350, .inl fn87)), (p8, .inl (cA 0, 350, .inl fn88))]) 0 hP hD [5, 6, 7, 8, 9, 0, 1, 2, 3, 4] [] rfl rfl (by decide) (by decide +kernel) hk1 hFc hP1 hD1 rfl
                                    generalize H1 = H at hP hS ⊢
                                    rcases hw.2 with hr9 | hr9
                                    · skip
                                      have hn101 := hn101 (hw.1.trans hr9)
                                      have hn102 := hn102 (hw.1.trans hr9)
                                      subst hr9
                                      obtain ⟨hP9, hD9⟩ := PDq.sub (ws' := [(oX4 r0 r1 p0 (nI qn80) (fk qn80) (ft qn80) (fv qn80) zn83 zn84 zn85), (oX5 r1 k1 k2 k3 (nI ct)), (k1, .inl (cA 0, 701, .inl fk)), (k2, .inl (cA 0, 701, .inl ft)), (k3, .inl (cA 1, 701, .inr (.inl fv))), (oX3 p0 pr pb pe pg p1 (nI nd) p2 p3 p4 p5 (nI cn) p6 (nI qn81) p7 p8 p9 (nI qn82)), (p2, .inl (cA 1, 10, .inr (.inl fna))), (p6, .inl (cA 1, 8, .inr (.inl fn86))), (p7, .inl (cA 0, 350, .inl fn87)), (p8, .inl (cA 0, 350, .inl fn88))]) hP hD [0, 1, 2, 3, 4, 5, 6, 7, 8, 9] (by decide +kernel) rfl
                                      refine W.widen (k := 0) (n := 0) (Nat.le_of_ble_eq_true rfl) (Nat.le_of_ble_eq_true rfl) ?_
                                      exact (W.zret (v := 0) hx hb hr (by first | rfl | decide) (fun t ht hW => ⟨⟨0, 0, rfl, ⟨rfl, by decide⟩, qn80, qn81, qn82, zn83, zn84, zn85, fn86, fn87, fn88, zn89, hn90, hn91, (by omega), hn93, hn94, hn95, (fun h9 => absurd h9 (by decide)), (fun h9 => absurd h9 (by decide)), (fun h9 => absurd h9 (by decide)), (fun h9 => absurd h9 (by decide)), (fun h9 => absurd h9 (by decide)), (fun _ => (P_pnE hn78 hn101 hn102)), by rw [ht]; exact hP9, hD9⟩, hS.F ht⟩) hS.2.2 dX4_readFact_252)
                                    · skip
                                      have hn96 := hn96 (hw.1.trans hr9)
                                      obtain rfl : iek = zn84 := hn96.symm
                                      obtain ⟨hP, hD⟩ : PDq D A [(oX4 r0 r1 p0 (nI qn80) (fk qn80) (ft qn80) (fv qn80) zn83 iek zn85), (oX5 r1 k1 k2 k3 (nI ct)), (k1, .inl (cA 0, 701, .inl fk)), (k2, .inl (cA 0, 701, .inl ft)), (k3, .inl (cA 1, 701, .inr (.inl fv))), (oX3 p0 pr pb pe pg p1 (nI nd) p2 p3 p4 p5 (nI cn) p6 (nI qn81) p7 p8 p9 (nI qn82)), (p2, .inl (cA 1, 10, .inr (.inl fna))), (p6, .inl (cA 1, 8, .inr (.inl fn86))), (p7, .inl (cA 0, 350, .inl fn87)), (p8, .inl (cA 0, 350, .inl fn88))] H := ⟨hP, hD⟩
                                      have hn97 := hn97 (hw.1.trans hr9)
                                      obtain rfl : iep = zn85 := hn97.symm
                                      obtain ⟨hP, hD⟩ : PDq D A [(oX4 r0 r1 p0 (nI qn80) (fk qn80) (ft qn80) (fv qn80) zn83 iek iep), (oX5 r1 k1 k2 k3 (nI ct)), (k1, .inl (cA 0, 701, .inl fk)), (k2, .inl (cA 0, 701, .inl ft)), (k3, .inl (cA 1, 701, .inr (.inl fv))), (oX3 p0 pr pb pe pg p1 (nI nd) p2 p3 p4 p5 (nI cn) p6 (nI qn81) p7 p8 p9 (nI qn82)), (p2, .inl (cA 1, 10, .inr (.inl fna))), (p6, .inl (cA 1, 8, .inr (.inl fn86))), (p7, .inl (cA 0, 350, .inl fn87)), (p8, .inl (cA 0, 350, .inl fn88))] H := ⟨hP, hD⟩
                                      have hn98 := hn98 (hw.1.trans hr9)
                                      subst hn98
                                      obtain ⟨hP, hD⟩ : PDq D A [(oX4 r0 r1 p0 (nI ((ti + 1) + 1)) (fk ((ti + 1) + 1)) (ft ((ti + 1) + 1)) (fv ((ti + 1) + 1)) zn83 iek iep), (oX5 r1 k1 k2 k3 (nI ct)), (k1, .inl (cA 0, 701, .inl fk)), (k2, .inl (cA 0, 701, .inl ft)), (k3, .inl (cA 1, 701, .inr (.inl fv))), (oX3 p0 pr pb pe pg p1 (nI nd) p2 p3 p4 p5 (nI cn) p6 (nI qn81) p7 p8 p9 (nI qn82)), (p2, .inl (cA 1, 10, .inr (.inl fna))), (p6, .inl (cA 1, 8, .inr (.inl fn86))), (p7, .inl (cA 0, 350, .inl fn87)), (p8, .inl (cA 0, 350, .inl fn88))] H := ⟨hP, hD⟩
                                      have hn99 := hn99 (hw.1.trans hr9)
                                      have hn100 := hn100 (hw.1.trans hr9)
                                      subst hr9
                                      obtain ⟨hP9, hD9⟩ := PDq.sub (ws' := [(oX4 r0 r1 p0 (nI ((ti + 1) + 1)) (fk ((ti + 1) + 1)) (ft ((ti + 1) + 1)) (fv ((ti + 1) + 1)) zn83 iek iep), (oX5 r1 k1 k2 k3 (nI ct)), (k1, .inl (cA 0, 701, .inl fk)), (k2, .inl (cA 0, 701, .inl ft)), (k3, .inl (cA 1, 701, .inr (.inl fv))), (oX3 p0 pr pb pe pg p1 (nI nd) p2 p3 p4 p5 (nI cn) p6 (nI qn81) p7 p8 p9 (nI qn82)), (p2, .inl (cA 1, 10, .inr (.inl fna))), (p6, .inl (cA 1, 8, .inr (.inl fn86))), (p7, .inl (cA 0, 350, .inl fn87)), (p8, .inl (cA 0, 350, .inl fn88))]) hP hD [0, 1, 2, 3, 4, 5, 6, 7, 8, 9] (by decide +kernel) rfl
                                      refine W.widen (k := 0) (n := 0) (Nat.le_of_ble_eq_true rfl) (Nat.le_of_ble_eq_true rfl) ?_
                                      exact (W.zret (v := 1) hx hb hr (by first | rfl | decide) (fun t ht hW => ⟨⟨1, 1, rfl, ⟨rfl, by decide⟩, ((ti + 1) + 1), qn81, qn82, zn83, iek, iep, fn86, fn87, fn88, zn89, hn90, hn91, (by omega), hn93, hn94, hn95, (fun _ => rfl), (fun _ => rfl), (fun _ => hn99), (fun _ => (by omega)), (fun _ => (P_pn hn78 hn100)), (fun h9 => absurd h9 (by decide)), by rw [ht]; exact hP9, hD9⟩, hS.F ht⟩) hS.2.2 dX4_readFact_252)
                                  · skip
                                    by_cases hn103 : (fk ti) = 19
                                    · skip
                                      refine W.eq (g2 := F0 m 52 ls [.int 19]) (by rw [hn103]) ?_
                                      refine lv_tableIn (off := 201) (tgt := 253) hx hb dX4_readFact_52 (by decide) (by decide) (by decide) (by decide) ?_
                                      refine lv_aload_n hx hb dX4_readFact_253 rfl (lv_at hl 1 rfl) ?_
                                      obtain ⟨hPc, hDc, hFc⟩ := PDq.cut (wc := [(oX4 r0 r1 p0 (nI (ti + 1)) (fk (ti + 1)) (ft (ti + 1)) (fv (ti + 1)) inb iek iep), (oX5 r1 k1 k2 k3 (nI ct)), (k1, .inl (cA 0, 701, .inl fk)), (k2, .inl (cA 0, 701, .inl ft)), (k3, .inl (cA 1, 701, .inr (.inl fv))), (oX3 p0 pr pb pe pg p1 (nI nd) p2 p3 p4 p5 (nI cn) p6 (nI pq) p7 p8 p9 (nI sc)), (p2, .inl (cA 1, 10, .inr (.inl fna))), (p6, .inl (cA 1, 8, .inr (.inl fpn))), (p7, .inl (cA 0, 350, .inl fst)), (p8, .inl (cA 0, 350, .inl fop))]) hP hD hS hA [5, 6, 7, 8, 9, 0, 1, 2, 3, 4] (by decide +kernel) rfl
                                      refine va_calli (va_runV (As := []) (rest := []) ⟨hx, hb, hml, hown, hts⟩ (x_readDoneName l D cA sa r0 p0 (ti + 1) ln inb iek iep r1 k1 k2 k3 ct fk ft fv fb gP gR p1 p2 p3 p4 p5 p6 p7 p8 p9 cn pq nd sc pr pb pe pg fna fpn fst fop ml pl sl H.size hct hln hn42.1 hTX hcn hpq hnd hsc hNM hNP (by omega)) (cwV 0 hts gX4_readFact_X4_readDoneName rfl rfl rfl (by decide +kernel) ⟨by show (1) + 1 ≤ 3 * (k9 + 1) + 20; omega, by show 8 + (2 + 11) + (23) ≤ 72 * (k9 + 1) + 320; omega⟩) ⟨Wd.blind, va_recv hK hPc (ci := 8) (q0 := 0) rfl rfl, fun U hU hW => ⟨rfl, Wd.call hPc hDc hK hC hZ hS hFc U hU hW⟩⟩ rfl rfl hl.1 rfl (lv_room (Nat.le_of_ble_eq_true rfl)) dX4_readFact_254 ⟨(Nat.le_of_ble_eq_true rfl), (Nat.le_of_ble_eq_true rfl)⟩) hS (fun q _ h => hFc q h) hFc (fun rn104 u t H1 locs ht hvm hw hB hz1 hk1 hS => ?_)
                                      obtain ⟨qn105, qn106, qn107, zn108, zn109, zn110, fn111, fn112, fn113, zn114, hn115, hn116, hn117, hn118, hn119, hn120, hn121, hn122, hn123, hn124, hn125, hn126, hn127, hn128, hP1, hD1⟩ := hB
                                      rw [ht] at hP1
                                      obtain ⟨hP, hD⟩ := PDq.join (w := [(oX4 r0 r1 p0 (nI qn105) (fk qn105) (ft qn105) (fv qn105) zn108 zn109 zn110), (oX5 r1 k1 k2 k3 (nI ct)), (k1, .inl (cA 0, 701, .inl fk)), (k2, .inl (cA 0, 701, .inl ft)), (k3, .inl (cA 1, 701, .inr (.inl fv))), (oX3 p0 pr pb pe pg p1 (nI nd) p2 p3 p4 p5 (nI cn) p6 (nI qn106) p7 p8 p9 (nI qn107)), (p2, .inl (cA 1, 10, .inr (.inl fna))), (p6, .inl (cA 1, 8, .inr (.inl fn111))), (p7, .inl (cA 0, 350, .inl fn112)), (p8, .inl (cA 0, 350, .inl fn113))]) 0 hP hD [5, 6, 7, 8, 9, 0, 1, 2, 3, 4] [] rfl rfl (by decide) (by decide +kernel) hk1 hFc hP1 hD1 rfl
                                      generalize H1 = H at hP hS ⊢
                                      rcases hw.2 with hr9 | hr9
                                      · skip
                                        have hn127 := hn127 (hw.1.trans hr9)
                                        have hn128 := hn128 (hw.1.trans hr9)
                                        subst hr9
                                        obtain ⟨hP9, hD9⟩ := PDq.sub (ws' := [(oX4 r0 r1 p0 (nI qn105) (fk qn105) (ft qn105) (fv qn105) zn108 zn109 zn110), (oX5 r1 k1 k2 k3 (nI ct)), (k1, .inl (cA 0, 701, .inl fk)), (k2, .inl (cA 0, 701, .inl ft)), (k3, .inl (cA 1, 701, .inr (.inl fv))), (oX3 p0 pr pb pe pg p1 (nI nd) p2 p3 p4 p5 (nI cn) p6 (nI qn106) p7 p8 p9 (nI qn107)), (p2, .inl (cA 1, 10, .inr (.inl fna))), (p6, .inl (cA 1, 8, .inr (.inl fn111))), (p7, .inl (cA 0, 350, .inl fn112)), (p8, .inl (cA 0, 350, .inl fn113))]) hP hD [0, 1, 2, 3, 4, 5, 6, 7, 8, 9] (by decide +kernel) rfl
                                        refine W.widen (k := 0) (n := 0) (Nat.le_of_ble_eq_true rfl) (Nat.le_of_ble_eq_true rfl) ?_
                                        exact (W.zret (v := 0) hx hb hr (by first | rfl | decide) (fun t ht hW => ⟨⟨0, 0, rfl, ⟨rfl, by decide⟩, qn105, qn106, qn107, zn108, zn109, zn110, fn111, fn112, fn113, zn114, hn115, hn116, (by omega), hn118, hn119, hn120, (fun h9 => absurd h9 (by decide)), (fun h9 => absurd h9 (by decide)), (fun h9 => absurd h9 (by decide)), (fun h9 => absurd h9 (by decide)), (fun h9 => absurd h9 (by decide)), (fun _ => (P_dnE hn103 hn127 hn128)), by rw [ht]; exact hP9, hD9⟩, hS.F ht⟩) hS.2.2 dX4_readFact_257)
                                      · skip
                                        have hn121 := hn121 (hw.1.trans hr9)
                                        obtain rfl : iek = zn109 := hn121.symm
                                        obtain ⟨hP, hD⟩ : PDq D A [(oX4 r0 r1 p0 (nI qn105) (fk qn105) (ft qn105) (fv qn105) zn108 iek zn110), (oX5 r1 k1 k2 k3 (nI ct)), (k1, .inl (cA 0, 701, .inl fk)), (k2, .inl (cA 0, 701, .inl ft)), (k3, .inl (cA 1, 701, .inr (.inl fv))), (oX3 p0 pr pb pe pg p1 (nI nd) p2 p3 p4 p5 (nI cn) p6 (nI qn106) p7 p8 p9 (nI qn107)), (p2, .inl (cA 1, 10, .inr (.inl fna))), (p6, .inl (cA 1, 8, .inr (.inl fn111))), (p7, .inl (cA 0, 350, .inl fn112)), (p8, .inl (cA 0, 350, .inl fn113))] H := ⟨hP, hD⟩
                                        have hn122 := hn122 (hw.1.trans hr9)
                                        obtain rfl : iep = zn110 := hn122.symm
                                        obtain ⟨hP, hD⟩ : PDq D A [(oX4 r0 r1 p0 (nI qn105) (fk qn105) (ft qn105) (fv qn105) zn108 iek iep), (oX5 r1 k1 k2 k3 (nI ct)), (k1, .inl (cA 0, 701, .inl fk)), (k2, .inl (cA 0, 701, .inl ft)), (k3, .inl (cA 1, 701, .inr (.inl fv))), (oX3 p0 pr pb pe pg p1 (nI nd) p2 p3 p4 p5 (nI cn) p6 (nI qn106) p7 p8 p9 (nI qn107)), (p2, .inl (cA 1, 10, .inr (.inl fna))), (p6, .inl (cA 1, 8, .inr (.inl fn111))), (p7, .inl (cA 0, 350, .inl fn112)), (p8, .inl (cA 0, 350, .inl fn113))] H := ⟨hP, hD⟩
                                        have hn123 := hn123 (hw.1.trans hr9)
                                        subst hn123
                                        obtain ⟨hP, hD⟩ : PDq D A [(oX4 r0 r1 p0 (nI ((ti + 1) + 1)) (fk ((ti + 1) + 1)) (ft ((ti + 1) + 1)) (fv ((ti + 1) + 1)) zn108 iek iep), (oX5 r1 k1 k2 k3 (nI ct)), (k1, .inl (cA 0, 701, .inl fk)), (k2, .inl (cA 0, 701, .inl ft)), (k3, .inl (cA 1, 701, .inr (.inl fv))), (oX3 p0 pr pb pe pg p1 (nI nd) p2 p3 p4 p5 (nI cn) p6 (nI qn106) p7 p8 p9 (nI qn107)), (p2, .inl (cA 1, 10, .inr (.inl fna))), (p6, .inl (cA 1, 8, .inr (.inl fn111))), (p7, .inl (cA 0, 350, .inl fn112)), (p8, .inl (cA 0, 350, .inl fn113))] H := ⟨hP, hD⟩
                                        have hn124 := hn124 (hw.1.trans hr9)
                                        have hn125 := hn125 (hw.1.trans hr9)
                                        obtain rfl : pl = zn114 := hn125.symm
                                        obtain ⟨hP, hD⟩ : PDq D A [(oX4 r0 r1 p0 (nI ((ti + 1) + 1)) (fk ((ti + 1) + 1)) (ft ((ti + 1) + 1)) (fv ((ti + 1) + 1)) zn108 iek iep), (oX5 r1 k1 k2 k3 (nI ct)), (k1, .inl (cA 0, 701, .inl fk)), (k2, .inl (cA 0, 701, .inl ft)), (k3, .inl (cA 1, 701, .inr (.inl fv))), (oX3 p0 pr pb pe pg p1 (nI nd) p2 p3 p4 p5 (nI cn) p6 (nI qn106) p7 p8 p9 (nI qn107)), (p2, .inl (cA 1, 10, .inr (.inl fna))), (p6, .inl (cA 1, 8, .inr (.inl fn111))), (p7, .inl (cA 0, 350, .inl fn112)), (p8, .inl (cA 0, 350, .inl fn113))] H := ⟨hP, hD⟩
                                        have hn126 := hn126 (hw.1.trans hr9)
                                        subst hr9
                                        obtain ⟨hP9, hD9⟩ := PDq.sub (ws' := [(oX4 r0 r1 p0 (nI ((ti + 1) + 1)) (fk ((ti + 1) + 1)) (ft ((ti + 1) + 1)) (fv ((ti + 1) + 1)) zn108 iek iep), (oX5 r1 k1 k2 k3 (nI ct)), (k1, .inl (cA 0, 701, .inl fk)), (k2, .inl (cA 0, 701, .inl ft)), (k3, .inl (cA 1, 701, .inr (.inl fv))), (oX3 p0 pr pb pe pg p1 (nI nd) p2 p3 p4 p5 (nI cn) p6 (nI qn106) p7 p8 p9 (nI qn107)), (p2, .inl (cA 1, 10, .inr (.inl fna))), (p6, .inl (cA 1, 8, .inr (.inl fn111))), (p7, .inl (cA 0, 350, .inl fn112)), (p8, .inl (cA 0, 350, .inl fn113))]) hP hD [0, 1, 2, 3, 4, 5, 6, 7, 8, 9] (by decide +kernel) rfl
                                        refine W.widen (k := 0) (n := 0) (Nat.le_of_ble_eq_true rfl) (Nat.le_of_ble_eq_true rfl) ?_
                                        exact (W.zret (v := 1) hx hb hr (by first | rfl | decide) (fun t ht hW => ⟨⟨1, 1, rfl, ⟨rfl, by decide⟩, ((ti + 1) + 1), qn106, qn107, zn108, iek, iep, fn111, fn112, fn113, pl, hn115, hn116, (by omega), hn118, hn119, hn120, (fun _ => rfl), (fun _ => rfl), (fun _ => hn124), (fun _ => (by omega)), (fun _ => (P_dn hn103 hn126)), (fun h9 => absurd h9 (by decide)), by rw [ht]; exact hP9, hD9⟩, hS.F ht⟩) hS.2.2 dX4_readFact_257)
                                    · skip
                                      by_cases hn129 : (fk ti) = 20
                                      · skip
                                        refine W.eq (g2 := F0 m 52 ls [.int 20]) (by rw [hn129]) ?_
                                        refine lv_tableIn (off := 165) (tgt := 217) hx hb dX4_readFact_52 (by decide) (by decide) (by decide) (by decide) ?_
                                        refine lv_aload_n hx hb dX4_readFact_217 rfl (lv_at hl 1 rfl) ?_
                                        refine lv_iconst (v := 0) hx hb dX4_readFact_218 (by decide) ?_
                                        refine lv_ldc (v := 99999) hx hb hown (hts (.constant RX4 120 99999) (by decide +kernel)) dX4_readFact_219 ?_
                                        obtain ⟨hPc, hDc, hFc⟩ := PDq.cut (wc := [(oX4 r0 r1 p0 (nI (ti + 1)) (fk (ti + 1)) (ft (ti + 1)) (fv (ti + 1)) inb iek iep), (oX5 r1 k1 k2 k3 (nI ct)), (k1, .inl (cA 0, 701, .inl fk)), (k2, .inl (cA 0, 701, .inl ft)), (k3, .inl (cA 1, 701, .inr (.inl fv)))]) hP hD hS hA [5, 6, 7, 8, 9] (by decide) rfl
                                        refine va_calli (va_runV (As := [.int 0, .int 99999]) (rest := []) ⟨hx, hb, hml, hown, hts⟩ (x_takeNumber l D cA sa r0 p0 (ti + 1) ln inb iek iep r1 k1 k2 k3 ct fk ft fv fb gP gR 0 99999 H.size hct hln hn42.1 hTX (by omega) (by omega)) (cwV 2 hts gX4_readFact_X4_takeNumber rfl rfl rfl (by decide +kernel) ⟨by show (1) + 1 ≤ 3 * (k9 + 1) + 20; omega, by show 8 + (3 + 11) + (21) ≤ 72 * (k9 + 1) + 320; omega⟩) ⟨Wd.blind, va_recv hK hPc (ci := 8) (q0 := 0) rfl rfl, fun U hU hW => ⟨rfl, Wd.call hPc hDc hK hC hZ hS hFc U hU hW⟩⟩ rfl rfl hl.1 rfl (lv_room (Nat.le_of_ble_eq_true rfl)) dX4_readFact_221 ⟨(Nat.le_of_ble_eq_true rfl), (Nat.le_of_ble_eq_true rfl)⟩) hS (fun q _ h => hFc q h) hFc (fun rn130 u t H1 locs ht hvm hw hB hz1 hk1 hS => ?_)
                                        obtain ⟨qn131, zn132, zn133, zn134, hn135, hn136, hn137, hn138, hn139, hn140, hn141, hn142, hn143, hn144, hP1, hD1⟩ := hB
                                        rw [ht] at hP1
                                        obtain ⟨hP, hD⟩ := PDq.join (w := [(oX3 p0 pr pb pe pg p1 (nI nd) p2 p3 p4 p5 (nI cn) p6 (nI pq) p7 p8 p9 (nI sc)), (p2, .inl (cA 1, 10, .inr (.inl fna))), (p6, .inl (cA 1, 8, .inr (.inl fpn))), (p7, .inl (cA 0, 350, .inl fst)), (p8, .inl (cA 0, 350, .inl fop)), (oX4 r0 r1 p0 (nI qn131) (fk qn131) (ft qn131) (fv qn131) zn132 zn133 zn134), (oX5 r1 k1 k2 k3 (nI ct)), (k1, .inl (cA 0, 701, .inl fk)), (k2, .inl (cA 0, 701, .inl ft)), (k3, .inl (cA 1, 701, .inr (.inl fv)))]) 5 hP hD [5, 6, 7, 8, 9] [0, 1, 2, 3, 4] rfl rfl (by decide) (by decide +kernel) hk1 hFc hP1 hD1 rfl
                                        generalize H1 = H at hP hS ⊢
                                        rcases hw.2 with hr9 | hr9
                                        · skip
                                          have hn143 := hn143 (hw.1.trans hr9)
                                          have hn144 := hn144 (hw.1.trans hr9)
                                          subst hr9
                                          refine lv_if_eq (tgt := 246) hx hb dX4_readFact_224 (by decide) (fun c145 => ?_) (fun c9 => absurd c9 (by decide))
                                          refine lv_iconst (v := 0) hx hb dX4_readFact_246 (by decide) ?_
                                          obtain ⟨hP9, hD9⟩ := PDq.sub (ws' := [(oX4 r0 r1 p0 (nI qn131) (fk qn131) (ft qn131) (fv qn131) zn132 zn133 zn134), (oX5 r1 k1 k2 k3 (nI ct)), (k1, .inl (cA 0, 701, .inl fk)), (k2, .inl (cA 0, 701, .inl ft)), (k3, .inl (cA 1, 701, .inr (.inl fv))), (oX3 p0 pr pb pe pg p1 (nI nd) p2 p3 p4 p5 (nI cn) p6 (nI pq) p7 p8 p9 (nI sc)), (p2, .inl (cA 1, 10, .inr (.inl fna))), (p6, .inl (cA 1, 8, .inr (.inl fpn))), (p7, .inl (cA 0, 350, .inl fst)), (p8, .inl (cA 0, 350, .inl fop))]) hP hD [5, 6, 7, 8, 9, 0, 1, 2, 3, 4] (by decide +kernel) rfl
                                          refine W.widen (k := 0) (n := 0) (Nat.le_of_ble_eq_true rfl) (Nat.le_of_ble_eq_true rfl) ?_
                                          exact (W.zret (v := 0) hx hb hr (by first | rfl | decide) (fun t ht hW => ⟨⟨0, 0, rfl, ⟨rfl, by decide⟩, qn131, pq, sc, zn132, zn133, zn134, fpn, fst, fop, pl, hn135, hn136, (by omega), hpq, hsc, hNP, (fun h9 => absurd h9 (by decide)), (fun h9 => absurd h9 (by decide)), (fun h9 => absurd h9 (by decide)), (fun h9 => absurd h9 (by decide)), (fun h9 => absurd h9 (by decide)), (fun _ => (P_sumEx hn129 hn143 hn144)), by rw [ht]; exact hP9, hD9⟩, hS.F ht⟩) hS.2.2 dX4_readFact_247)
                                        · skip
                                          have hn138 := hn138 (hw.1.trans hr9)
                                          subst hn138
                                          obtain ⟨hP, hD⟩ : PDq D A [(oX3 p0 pr pb pe pg p1 (nI nd) p2 p3 p4 p5 (nI cn) p6 (nI pq) p7 p8 p9 (nI sc)), (p2, .inl (cA 1, 10, .inr (.inl fna))), (p6, .inl (cA 1, 8, .inr (.inl fpn))), (p7, .inl (cA 0, 350, .inl fst)), (p8, .inl (cA 0, 350, .inl fop)), (oX4 r0 r1 p0 (nI ((ti + 1) + 1)) (fk ((ti + 1) + 1)) (ft ((ti + 1) + 1)) (fv ((ti + 1) + 1)) zn132 zn133 zn134), (oX5 r1 k1 k2 k3 (nI ct)), (k1, .inl (cA 0, 701, .inl fk)), (k2, .inl (cA 0, 701, .inl ft)), (k3, .inl (cA 1, 701, .inr (.inl fv)))] H := ⟨hP, hD⟩
                                          have hn139 := hn139 (hw.1.trans hr9)
                                          obtain rfl : iek = zn133 := hn139.symm
                                          obtain ⟨hP, hD⟩ : PDq D A [(oX3 p0 pr pb pe pg p1 (nI nd) p2 p3 p4 p5 (nI cn) p6 (nI pq) p7 p8 p9 (nI sc)), (p2, .inl (cA 1, 10, .inr (.inl fna))), (p6, .inl (cA 1, 8, .inr (.inl fpn))), (p7, .inl (cA 0, 350, .inl fst)), (p8, .inl (cA 0, 350, .inl fop)), (oX4 r0 r1 p0 (nI ((ti + 1) + 1)) (fk ((ti + 1) + 1)) (ft ((ti + 1) + 1)) (fv ((ti + 1) + 1)) zn132 iek zn134), (oX5 r1 k1 k2 k3 (nI ct)), (k1, .inl (cA 0, 701, .inl fk)), (k2, .inl (cA 0, 701, .inl ft)), (k3, .inl (cA 1, 701, .inr (.inl fv)))] H := ⟨hP, hD⟩
                                          have hn140 := hn140 (hw.1.trans hr9)
                                          obtain rfl : iep = zn134 := hn140.symm
                                          obtain ⟨hP, hD⟩ : PDq D A [(oX3 p0 pr pb pe pg p1 (nI nd) p2 p3 p4 p5 (nI cn) p6 (nI pq) p7 p8 p9 (nI sc)), (p2, .inl (cA 1, 10, .inr (.inl fna))), (p6, .inl (cA 1, 8, .inr (.inl fpn))), (p7, .inl (cA 0, 350, .inl fst)), (p8, .inl (cA 0, 350, .inl fop)), (oX4 r0 r1 p0 (nI ((ti + 1) + 1)) (fk ((ti + 1) + 1)) (ft ((ti + 1) + 1)) (fv ((ti + 1) + 1)) zn132 iek iep), (oX5 r1 k1 k2 k3 (nI ct)), (k1, .inl (cA 0, 701, .inl fk)), (k2, .inl (cA 0, 701, .inl ft)), (k3, .inl (cA 1, 701, .inr (.inl fv)))] H := ⟨hP, hD⟩
                                          have hn141 := hn141 (hw.1.trans hr9)
                                          have hn142 := hn142 (hw.1.trans hr9)
                                          subst hr9
                                          refine lv_if_eq (tgt := 246) hx hb dX4_readFact_224 (by decide) (fun c9 => absurd c9 (by decide)) (fun c146 => ?_)
                                          refine lv_aload_n hx hb dX4_readFact_227 rfl (lv_at hl 1 rfl) ?_
                                          refine va_get (D := D) (ci := 8) (v := .ref p0) (C := RX4) (T := TX4) (N := 9) hx hb hts inX4 hown hK hP 5 rfl rfl 1 (by decide) (hts (.fieldLink RX4 25 "EscrowDesk$Reader" "plan" "LEscrowDesk$Plan;") (by decide +kernel)) (fun _ h9 => h9) rfl dX4_readFact_228 ?_
                                          refine lv_iload_n hx hb dX4_readFact_231 rfl (lv_at hl 0 rfl) ?_
                                          refine lv_aload_n hx hb dX4_readFact_232 rfl (lv_at hl 1 rfl) ?_
                                          refine va_get (D := D) (ci := 8) (v := .int zn132) (C := RX4) (T := TX4) (N := 9) hx hb hts inX4 hown hK hP 5 rfl rfl 6 (by decide) (hts (.fieldLink RX4 91 "EscrowDesk$Reader" "number" "I") (by decide +kernel)) (fun _ h9 => h9) rfl dX4_readFact_233 ?_
                                          obtain ⟨hPc, hDc, hFc⟩ := PDq.cut (wc := [(oX3 p0 pr pb pe pg p1 (nI nd) p2 p3 p4 p5 (nI cn) p6 (nI pq) p7 p8 p9 (nI sc)), (p7, .inl (cA 0, 350, .inl fst)), (p8, .inl (cA 0, 350, .inl fop))]) hP hD hS hA [0, 3, 4] (by decide) rfl
                                          refine va_calli (va_runV (As := [.int (fk ti), .int zn132]) (rest := []) ⟨hx, hb, hml, hown, hts⟩ (x_addStep l D cA sa p0 p1 p2 p3 p4 p5 p6 p7 p8 p9 cn pq nd sc pr pb pe pg (fk ti) zn132 fst fop H.size (by omega)) (cwV 2 hts gX4_readFact_X3_addStep rfl rfl rfl (by decide +kernel) ⟨by show (0) + 1 ≤ 3 * (k9 + 1) + 20; omega, by show 8 + (3 + 11) + (0) ≤ 72 * (k9 + 1) + 320; omega⟩) ⟨Wd.blind, va_recv hK hPc (ci := 7) (q0 := 0) rfl rfl, fun U hU hW => ⟨rfl, Wd.call hPc hDc hK hC hZ hS hFc U hU hW⟩⟩ rfl rfl hl.1 rfl (lv_room (Nat.le_of_ble_eq_true rfl)) dX4_readFact_236 ⟨(Nat.le_of_ble_eq_true rfl), (Nat.le_of_ble_eq_true rfl)⟩) hS (fun q _ h => hFc q h) hFc (fun rn147 u t H1 locs ht hvm hw hB hz1 hk1 hS => ?_)
                                          obtain ⟨fn148, fn149, hP1, hD1⟩ := hB
                                          rw [ht] at hP1
                                          obtain ⟨hP, hD⟩ := PDq.join (w := [(p2, .inl (cA 1, 10, .inr (.inl fna))), (p6, .inl (cA 1, 8, .inr (.inl fpn))), (oX4 r0 r1 p0 (nI ((ti + 1) + 1)) (fk ((ti + 1) + 1)) (ft ((ti + 1) + 1)) (fv ((ti + 1) + 1)) zn132 iek iep), (oX5 r1 k1 k2 k3 (nI ct)), (k1, .inl (cA 0, 701, .inl fk)), (k2, .inl (cA 0, 701, .inl ft)), (k3, .inl (cA 1, 701, .inr (.inl fv))), (oX3 p0 pr pb pe pg p1 (nI nd) p2 p3 p4 p5 (nI cn) p6 (nI pq) p7 p8 p9 (nI (sc + 1))), (p7, .inl (cA 0, 350, .inl fn148)), (p8, .inl (cA 0, 350, .inl fn149))]) 7 hP hD [0, 3, 4] [1, 2, 5, 6, 7, 8, 9] rfl rfl (by decide) (by decide +kernel) hk1 hFc hP1 hD1 rfl
                                          generalize H1 = H at hP hS ⊢
                                          obtain rfl : rn147 = 1 := hw
                                          refine lv_if_eq (tgt := 246) hx hb dX4_readFact_239 (by decide) (fun c9 => absurd c9 (by decide)) (fun c150 => ?_)
                                          refine lv_iconst (v := 1) hx hb dX4_readFact_242 (by decide) ?_
                                          refine lv_goto (tgt := 247) hx hb dX4_readFact_243 (by decide) ?_
                                          obtain ⟨hP9, hD9⟩ := PDq.sub (ws' := [(oX4 r0 r1 p0 (nI ((ti + 1) + 1)) (fk ((ti + 1) + 1)) (ft ((ti + 1) + 1)) (fv ((ti + 1) + 1)) zn132 iek iep), (oX5 r1 k1 k2 k3 (nI ct)), (k1, .inl (cA 0, 701, .inl fk)), (k2, .inl (cA 0, 701, .inl ft)), (k3, .inl (cA 1, 701, .inr (.inl fv))), (oX3 p0 pr pb pe pg p1 (nI nd) p2 p3 p4 p5 (nI cn) p6 (nI pq) p7 p8 p9 (nI (sc + 1))), (p2, .inl (cA 1, 10, .inr (.inl fna))), (p6, .inl (cA 1, 8, .inr (.inl fpn))), (p7, .inl (cA 0, 350, .inl fn148)), (p8, .inl (cA 0, 350, .inl fn149))]) hP hD [2, 3, 4, 5, 6, 7, 0, 1, 8, 9] (by decide +kernel) rfl
                                          refine W.widen (k := 0) (n := 0) (Nat.le_of_ble_eq_true rfl) (Nat.le_of_ble_eq_true rfl) ?_
                                          exact (W.zret (v := 1) hx hb hr (by first | rfl | decide) (fun t ht hW => ⟨⟨1, 1, rfl, ⟨rfl, by decide⟩, ((ti + 1) + 1), pq, (sc + 1), zn132, iek, iep, fpn, fn148, fn149, pl, hn135, hn136, (by omega), hpq, (by omega), hNP, (fun _ => rfl), (fun _ => rfl), (fun _ => (by omega)), (fun _ => (by omega)), (fun _ => (P_sum hn129 hn142)), (fun h9 => absurd h9 (by decide)), by rw [ht]; exact hP9, hD9⟩, hS.F ht⟩) hS.2.2 dX4_readFact_247)
                                      · skip
                                        refine lv_tableOut (tgt := 258) hx hb dX4_readFact_52 (by have q0 : ¬ ((fk ti)).toInt = 5 := fun e9 => hn44 (Int32.toInt_inj.mp (e9.trans (by decide))); have q1 : ¬ ((fk ti)).toInt = 6 := fun e9 => hn45 (Int32.toInt_inj.mp (e9.trans (by decide))); have q2 : ¬ ((fk ti)).toInt = 7 := fun e9 => hn46 (Int32.toInt_inj.mp (e9.trans (by decide))); have q3 : ¬ ((fk ti)).toInt = 8 := fun e9 => hn47 (Int32.toInt_inj.mp (e9.trans (by decide))); have q4 : ¬ ((fk ti)).toInt = 9 := fun e9 => hn48 (Int32.toInt_inj.mp (e9.trans (by decide))); have q5 : ¬ ((fk ti)).toInt = 10 := fun e9 => hn49 (Int32.toInt_inj.mp (e9.trans (by decide))); have q6 : ¬ ((fk ti)).toInt = 11 := fun e9 => hn50 (Int32.toInt_inj.mp (e9.trans (by decide))); have q7 : ¬ ((fk ti)).toInt = 12 := fun e9 => hn51 (Int32.toInt_inj.mp (e9.trans (by decide))); have q8 : ¬ ((fk ti)).toInt = 13 := fun e9 => hn52 (Int32.toInt_inj.mp (e9.trans (by decide))); have q9 : ¬ ((fk ti)).toInt = 14 := fun e9 => hn53 (Int32.toInt_inj.mp (e9.trans (by decide))); have q10 : ¬ ((fk ti)).toInt = 15 := fun e9 => hn54 (Int32.toInt_inj.mp (e9.trans (by decide))); have q11 : ¬ ((fk ti)).toInt = 16 := fun e9 => hn55 (Int32.toInt_inj.mp (e9.trans (by decide))); have q12 : ¬ ((fk ti)).toInt = 17 := fun e9 => hn56 (Int32.toInt_inj.mp (e9.trans (by decide))); have q13 : ¬ ((fk ti)).toInt = 18 := fun e9 => hn78 (Int32.toInt_inj.mp (e9.trans (by decide))); have q14 : ¬ ((fk ti)).toInt = 19 := fun e9 => hn103 (Int32.toInt_inj.mp (e9.trans (by decide))); have q15 : ¬ ((fk ti)).toInt = 20 := fun e9 => hn129 (Int32.toInt_inj.mp (e9.trans (by decide))); omega) (by decide) ?_
                                        have hn151 := k2122 hn40 hn44 hn55 hn56 hn78 hn103 hn129
                                        refine lv_aload_n hx hb dX4_readFact_258 rfl (lv_at hl 1 rfl) ?_
                                        refine va_get (D := D) (ci := 8) (v := .ref p0) (C := RX4) (T := TX4) (N := 9) hx hb hts inX4 hown hK hP 5 rfl rfl 1 (by decide) (hts (.fieldLink RX4 25 "EscrowDesk$Reader" "plan" "LEscrowDesk$Plan;") (by decide +kernel)) (fun _ h9 => h9) rfl dX4_readFact_259 ?_
                                        refine lv_iload_n hx hb dX4_readFact_262 rfl (lv_at hl 0 rfl) ?_
                                        refine lv_iconst (v := 0) hx hb dX4_readFact_263 (by decide) ?_
                                        obtain ⟨hPc, hDc, hFc⟩ := PDq.cut (wc := [(oX3 p0 pr pb pe pg p1 (nI nd) p2 p3 p4 p5 (nI cn) p6 (nI pq) p7 p8 p9 (nI sc)), (p7, .inl (cA 0, 350, .inl fst)), (p8, .inl (cA 0, 350, .inl fop))]) hP hD hS hA [0, 3, 4] (by decide) rfl
                                        refine va_calli (va_runV (As := [.int (fk ti), .int 0]) (rest := []) ⟨hx, hb, hml, hown, hts⟩ (x_addStep l D cA sa p0 p1 p2 p3 p4 p5 p6 p7 p8 p9 cn pq nd sc pr pb pe pg (fk ti) 0 fst fop H.size (by omega)) (cwV 2 hts gX4_readFact_X3_addStep rfl rfl rfl (by decide +kernel) ⟨by show (0) + 1 ≤ 3 * (k9 + 1) + 20; omega, by show 8 + (3 + 11) + (0) ≤ 72 * (k9 + 1) + 320; omega⟩) ⟨Wd.blind, va_recv hK hPc (ci := 7) (q0 := 0) rfl rfl, fun U hU hW => ⟨rfl, Wd.call hPc hDc hK hC hZ hS hFc U hU hW⟩⟩ rfl rfl hl.1 rfl (lv_room (Nat.le_of_ble_eq_true rfl)) dX4_readFact_264 ⟨(Nat.le_of_ble_eq_true rfl), (Nat.le_of_ble_eq_true rfl)⟩) hS (fun q _ h => hFc q h) hFc (fun rn152 u t H1 locs ht hvm hw hB hz1 hk1 hS => ?_)
                                        obtain ⟨fn153, fn154, hP1, hD1⟩ := hB
                                        rw [ht] at hP1
                                        obtain ⟨hP, hD⟩ := PDq.join (w := [(p2, .inl (cA 1, 10, .inr (.inl fna))), (p6, .inl (cA 1, 8, .inr (.inl fpn))), (oX4 r0 r1 p0 (nI (ti + 1)) (fk (ti + 1)) (ft (ti + 1)) (fv (ti + 1)) inb iek iep), (oX5 r1 k1 k2 k3 (nI ct)), (k1, .inl (cA 0, 701, .inl fk)), (k2, .inl (cA 0, 701, .inl ft)), (k3, .inl (cA 1, 701, .inr (.inl fv))), (oX3 p0 pr pb pe pg p1 (nI nd) p2 p3 p4 p5 (nI cn) p6 (nI pq) p7 p8 p9 (nI (sc + 1))), (p7, .inl (cA 0, 350, .inl fn153)), (p8, .inl (cA 0, 350, .inl fn154))]) 7 hP hD [0, 3, 4] [1, 2, 5, 6, 7, 8, 9] rfl rfl (by decide) (by decide +kernel) hk1 hFc hP1 hD1 rfl
                                        generalize H1 = H at hP hS ⊢
                                        obtain rfl : rn152 = 1 := hw
                                        obtain ⟨hP9, hD9⟩ := PDq.sub (ws' := [(oX4 r0 r1 p0 (nI (ti + 1)) (fk (ti + 1)) (ft (ti + 1)) (fv (ti + 1)) inb iek iep), (oX5 r1 k1 k2 k3 (nI ct)), (k1, .inl (cA 0, 701, .inl fk)), (k2, .inl (cA 0, 701, .inl ft)), (k3, .inl (cA 1, 701, .inr (.inl fv))), (oX3 p0 pr pb pe pg p1 (nI nd) p2 p3 p4 p5 (nI cn) p6 (nI pq) p7 p8 p9 (nI (sc + 1))), (p2, .inl (cA 1, 10, .inr (.inl fna))), (p6, .inl (cA 1, 8, .inr (.inl fpn))), (p7, .inl (cA 0, 350, .inl fn153)), (p8, .inl (cA 0, 350, .inl fn154))]) hP hD [2, 3, 4, 5, 6, 7, 0, 1, 8, 9] (by decide +kernel) rfl
                                        refine W.widen (k := 0) (n := 0) (Nat.le_of_ble_eq_true rfl) (Nat.le_of_ble_eq_true rfl) ?_
                                        exact (W.zret (v := 1) hx hb hr (by first | rfl | decide) (fun t ht hW => ⟨⟨1, 1, rfl, ⟨rfl, by decide⟩, (ti + 1), pq, (sc + 1), inb, iek, iep, fpn, fn153, fn154, pl, hn42.1, (by omega), (by omega), hpq, (by omega), hNP, (fun _ => rfl), (fun _ => rfl), (fun _ => (by omega)), (fun _ => (by omega)), (fun _ => (P_plain hn151)), (fun h9 => absurd h9 (by decide)), by rw [ht]; exact hP9, hD9⟩, hS.F ht⟩) hS.2.2 dX4_readFact_267)
      · skip
        subst hr9
        refine lv_if_ne (tgt := 41) hx hb dX4_readFact_32 (by decide) (fun c9 => absurd c9 (by decide)) (fun c155 => ?_)
        refine lv_aload_n hx hb dX4_readFact_35 rfl (lv_at hl 1 rfl) ?_
        refine lv_iconst (v := 2) hx hb dX4_readFact_36 (by decide) ?_
        obtain ⟨hPc, hDc, hFc⟩ := PDq.cut (wc := [(oX4 r0 r1 p0 (nI ti) (fk ti) (ft ti) (fv ti) inb iek iep)]) hP hD hS hA [0] (by decide) rfl
        refine va_calli (va_runV (As := [.int 2]) (rest := []) ⟨hx, hb, hml, hown, hts⟩ (x_fail l D cA sa r0 r1 p0 (nI ti) (fk ti) (ft ti) inb iek iep (fv ti) 2 H.size) (cwV 1 hts gX4_readFact_X4_fail rfl rfl rfl (by decide +kernel) ⟨by show (0) + 1 ≤ 3 * (k9 + 1) + 20; omega, by show 8 + (2 + 11) + (0) ≤ 72 * (k9 + 1) + 320; omega⟩) ⟨Wd.blind, va_recv hK hPc (ci := 8) (q0 := 0) rfl rfl, fun U hU hW => ⟨rfl, Wd.call hPc hDc hK hC hZ hS hFc U hU hW⟩⟩ rfl rfl hl.1 rfl (lv_room (Nat.le_of_ble_eq_true rfl)) dX4_readFact_37 ⟨(Nat.le_of_ble_eq_true rfl), (Nat.le_of_ble_eq_true rfl)⟩) hS (fun q _ h => hFc q h) hFc (fun rn156 u t H1 locs ht hvm hw hB hz1 hk1 hS => ?_)
        obtain ⟨zn157, hn158, hP1, hD1⟩ := hB
        rw [ht] at hP1
        obtain ⟨hP, hD⟩ := PDq.join (w := [(oX5 r1 k1 k2 k3 (nI ct)), (k1, .inl (cA 0, 701, .inl fk)), (k2, .inl (cA 0, 701, .inl ft)), (k3, .inl (cA 1, 701, .inr (.inl fv))), (oX3 p0 pr pb pe pg p1 (nI nd) p2 p3 p4 p5 (nI cn) p6 (nI pq) p7 p8 p9 (nI sc)), (p2, .inl (cA 1, 10, .inr (.inl fna))), (p6, .inl (cA 1, 8, .inr (.inl fpn))), (p7, .inl (cA 0, 350, .inl fst)), (p8, .inl (cA 0, 350, .inl fop)), (oX4 r0 r1 p0 (nI ti) (fk ti) (ft ti) (fv ti) inb zn157 (ft ti))]) 9 hP hD [0] [1, 2, 3, 4, 5, 6, 7, 8, 9] rfl rfl (by decide +kernel) (by decide +kernel) hk1 hFc hP1 hD1 rfl
        generalize H1 = H at hP hS ⊢
        obtain rfl : rn156 = 0 := hw
        obtain ⟨hP9, hD9⟩ := PDq.sub (ws' := [(oX4 r0 r1 p0 (nI ti) (fk ti) (ft ti) (fv ti) inb zn157 (ft ti)), (oX5 r1 k1 k2 k3 (nI ct)), (k1, .inl (cA 0, 701, .inl fk)), (k2, .inl (cA 0, 701, .inl ft)), (k3, .inl (cA 1, 701, .inr (.inl fv))), (oX3 p0 pr pb pe pg p1 (nI nd) p2 p3 p4 p5 (nI cn) p6 (nI pq) p7 p8 p9 (nI sc)), (p2, .inl (cA 1, 10, .inr (.inl fna))), (p6, .inl (cA 1, 8, .inr (.inl fpn))), (p7, .inl (cA 0, 350, .inl fst)), (p8, .inl (cA 0, 350, .inl fop))]) hP hD [9, 0, 1, 2, 3, 4, 5, 6, 7, 8] (by decide +kernel) rfl
        refine W.widen (k := 0) (n := 0) (Nat.le_of_ble_eq_true rfl) (Nat.le_of_ble_eq_true rfl) ?_
        exact (W.zret (v := 0) hx hb hr (by first | rfl | decide) (fun t ht hW => ⟨⟨0, 0, rfl, ⟨rfl, by decide⟩, ti, pq, sc, inb, zn157, (ft ti), fpn, fst, fop, pl, hti, (by omega), (by omega), hpq, hsc, hNP, (fun h9 => absurd h9 (by decide)), (fun h9 => absurd h9 (by decide)), (fun h9 => absurd h9 (by decide)), (fun h9 => absurd h9 (by decide)), (fun h9 => absurd h9 (by decide)), (fun _ => (P_nonex (fun z9 => hn40 (Or.inl z9)) (fun z9 => hn40 (Or.inr z9)) hn158 rfl)), by rw [ht]; exact hP9, hD9⟩, hS.F ht⟩) hS.2.2 dX4_readFact_40)
    · skip
      rw [c38] at hl
      have hl : lv_has ls 3 [(2, .int 5), (0, .ref r0), (1, .int (nI o9))] := hl
      refine lv_iload_n hx hb dX4_readFact_16 rfl (lv_at hl 2 rfl) ?_
      refine lv_bipush (v := 8) hx hb dX4_readFact_17 (by decide) ?_
      refine lv_icmp_lt (tgt := 28) hx hb dX4_readFact_19 (by decide) (fun c159 => ?_) (fun c9 => absurd (nI_lt (a := o9) (b := 8) (show o9 < 8 by omega) (by omega)) c9)
      refine lv_iload_n hx hb dX4_readFact_28 rfl (lv_at hl 0 rfl) ?_
      obtain ⟨hPc, hDc, hFc⟩ := PDq.cut (wc := []) hP hD hS hA [] (by decide) rfl
      refine va_calli (va_runS (As := [.int 5]) (rest := []) ⟨hx, hb, hml, hown, hts⟩ (x_beginsFact l D cA sa 5 s.heap.size) (va_cwS 1 hts gX4_readFact_X7_beginsFact rfl rfl rfl (by decide +kernel) ⟨by show (0) + 1 ≤ 3 * (k9 + 1) + 20; omega, by show 8 + (1 + 11) + (0) ≤ 72 * (k9 + 1) + 320; omega⟩) ⟨Wd.blind, fun U hU hW => ⟨rfl, Wd.call hPc hDc hK hC hZ hS hFc U hU hW⟩⟩ rfl rfl hl.1 rfl (lv_room (Nat.le_of_ble_eq_true rfl)) dX4_readFact_29 ⟨(Nat.le_of_ble_eq_true rfl), (Nat.le_of_ble_eq_true rfl)⟩) hS (fun q _ h => hFc q h) hFc (fun rn160 u t H1 locs ht hvm hw hB hz1 hk1 hS => ?_)
      obtain ⟨hP1, hD1⟩ := hB
      rw [ht] at hP1
      obtain ⟨hP, hD⟩ := PDq.join (w := [(oX4 r0 r1 p0 (nI ti) (fk ti) (ft ti) (fv ti) inb iek iep), (oX5 r1 k1 k2 k3 (nI ct)), (k1, .inl (cA 0, 701, .inl fk)), (k2, .inl (cA 0, 701, .inl ft)), (k3, .inl (cA 1, 701, .inr (.inl fv))), (oX3 p0 pr pb pe pg p1 (nI nd) p2 p3 p4 p5 (nI cn) p6 (nI pq) p7 p8 p9 (nI sc)), (p2, .inl (cA 1, 10, .inr (.inl fna))), (p6, .inl (cA 1, 8, .inr (.inl fpn))), (p7, .inl (cA 0, 350, .inl fst)), (p8, .inl (cA 0, 350, .inl fop))]) 10 hP hD [] [0, 1, 2, 3, 4, 5, 6, 7, 8, 9] rfl rfl (by decide +kernel) (by decide +kernel) hk1 hFc hP1 hD1 rfl
      generalize H1 = H at hP hS ⊢
      rcases hw with ⟨hr9, hn161⟩ | ⟨hr9, hn161⟩
      · skip
        subst hr9
        refine lv_if_ne (tgt := 41) hx hb dX4_readFact_32 (by decide) (fun c162 => ?_) (fun c9 => absurd c9 (by decide))
        have hn163 := TX.go hTX (show ti < ct by omega) (by rw [c38]; decide)
        have hn163a := hn163.2.1
        have hn163b := hn163.2.2
        have hn163c := hn163.1
        refine lv_aload_n hx hb dX4_readFact_41 rfl (lv_at hl 1 rfl) ?_
        refine lv_aload_n hx hb dX4_readFact_42 rfl (lv_at hl 1 rfl) ?_
        refine va_get (D := D) (ci := 8) (v := .int (nI ti)) (C := RX4) (T := TX4) (N := 9) hx hb hts inX4 hown hK hP 0 rfl rfl 2 (by decide) (hts (.fieldLink RX4 70 "EscrowDesk$Reader" "token" "I") (by decide +kernel)) (fun _ h9 => h9) rfl dX4_readFact_43 ?_
        refine lv_iconst (v := 1) hx hb dX4_readFact_46 (by decide) ?_
        refine lv_iadd hx hb dX4_readFact_47 ?_
        refine lv_topi (fun yn164 eyn164 => ?_)
        obtain rfl : yn164 = (nI (ti + 1)) := eyn164.trans (nI_add ti 1)
        obtain ⟨hPc, hDc, hFc⟩ := PDq.cut (wc := [(oX4 r0 r1 p0 (nI ti) (fk ti) (ft ti) (fv ti) inb iek iep), (oX5 r1 k1 k2 k3 (nI ct)), (k1, .inl (cA 0, 701, .inl fk)), (k2, .inl (cA 0, 701, .inl ft)), (k3, .inl (cA 1, 701, .inr (.inl fv)))]) hP hD hS hA [0, 1, 2, 3, 4] (by decide) rfl
        refine va_callv (va_runV (As := [.int (nI (ti + 1))]) (rest := []) ⟨hx, hb, hml, hown, hts⟩ (x_lookAt l D cA sa r0 p0 (ti + 1) (nI ti) (fk ti) (ft ti) inb iek iep (fv ti) r1 k1 k2 k3 ct fk ft fv H.size hct hn163.1) (cwV 1 hts gX4_readFact_X4_lookAt rfl rfl rfl (by decide +kernel) ⟨by show (0) + 1 ≤ 3 * (k9 + 1) + 20; omega, by show 8 + (2 + 11) + (0) ≤ 72 * (k9 + 1) + 320; omega⟩) ⟨Wd.blind, va_recv hK hPc (ci := 8) (q0 := 0) rfl rfl, fun U hU hW => ⟨rfl, Wd.call hPc hDc hK hC hZ hS hFc U hU hW⟩⟩ rfl rfl hl.1 rfl (lv_room (Nat.le_of_ble_eq_true rfl)) dX4_readFact_48 ⟨(Nat.le_of_ble_eq_true rfl), (Nat.le_of_ble_eq_true rfl)⟩) hS (fun q _ h => hFc q h) hFc (fun u t H1 locs ht hvm hw hB hz1 hk1 hS => ?_)
        obtain ⟨hP1, hD1⟩ := hB
        rw [ht] at hP1
        obtain ⟨hP, hD⟩ := PDq.join (w := [(oX3 p0 pr pb pe pg p1 (nI nd) p2 p3 p4 p5 (nI cn) p6 (nI pq) p7 p8 p9 (nI sc)), (p2, .inl (cA 1, 10, .inr (.inl fna))), (p6, .inl (cA 1, 8, .inr (.inl fpn))), (p7, .inl (cA 0, 350, .inl fst)), (p8, .inl (cA 0, 350, .inl fop)), (oX4 r0 r1 p0 (nI (ti + 1)) (fk (ti + 1)) (ft (ti + 1)) (fv (ti + 1)) inb iek iep), (oX5 r1 k1 k2 k3 (nI ct)), (k1, .inl (cA 0, 701, .inl fk)), (k2, .inl (cA 0, 701, .inl ft)), (k3, .inl (cA 1, 701, .inr (.inl fv)))]) 5 hP hD [0, 1, 2, 3, 4] [5, 6, 7, 8, 9] rfl rfl (by decide) (by decide +kernel) hk1 hFc hP1 hD1 rfl
        generalize H1 = H at hP hS ⊢
        refine lv_iload_n hx hb dX4_readFact_51 rfl (lv_at hl 0 rfl) ?_
        refine lv_tableIn (off := 80) (tgt := 132) hx hb dX4_readFact_52 (by decide) (by decide) (by decide) (by decide) ?_
        refine lv_aload_n hx hb dX4_readFact_132 rfl (lv_at hl 1 rfl) ?_
        refine lv_iload_n hx hb dX4_readFact_133 rfl (lv_at hl 2 rfl) ?_
        refine lv_iconst (v := 1) hx hb dX4_readFact_134 (by decide) ?_
        refine lv_iadd hx hb dX4_readFact_135 ?_
        refine lv_topi (fun yn165 eyn165 => ?_)
        obtain rfl : yn165 = (nI (o9 + 1)) := eyn165.trans (nI_add o9 1)
        obtain ⟨hPc, hDc, hFc⟩ := PDq.cut (wc := [(oX4 r0 r1 p0 (nI (ti + 1)) (fk (ti + 1)) (ft (ti + 1)) (fv (ti + 1)) inb iek iep), (oX5 r1 k1 k2 k3 (nI ct)), (k1, .inl (cA 0, 701, .inl fk)), (k2, .inl (cA 0, 701, .inl ft)), (k3, .inl (cA 1, 701, .inr (.inl fv))), (oX3 p0 pr pb pe pg p1 (nI nd) p2 p3 p4 p5 (nI cn) p6 (nI pq) p7 p8 p9 (nI sc)), (p2, .inl (cA 1, 10, .inr (.inl fna))), (p6, .inl (cA 1, 8, .inr (.inl fpn))), (p7, .inl (cA 0, 350, .inl fst)), (p8, .inl (cA 0, 350, .inl fop))]) hP hD hS hA [5, 6, 7, 8, 9, 0, 1, 2, 3, 4] (by decide +kernel) rfl
        refine va_calli (va_runV (As := [.int (nI (o9 + 1))]) (rest := []) ⟨hx, hb, hml, hown, hts⟩ (IHc r0 p0 (ti + 1) ln inb iek iep r1 k1 k2 k3 ct fk ft fv fb gP gR p1 p2 p3 p4 p5 p6 p7 p8 p9 cn pq nd sc pr pb pe pg fna fpn fst fop ml pl sl (o9 + 1) H.size hct hln hn163.1 hTX hcn hpq hnd hsc hNM hNP (by omega) (by omega)) (cwV 1 hts gX4_readFact_X4_readCondition rfl rfl rfl (by decide +kernel) ⟨by show (3 * k9 + 22) + 1 ≤ 3 * (k9 + 1) + 20; omega, by show 8 + (4 + 11) + (72 * k9 + 368) ≤ 72 * (k9 + 1) + 320; omega⟩) ⟨Wd.blind, va_recv hK hPc (ci := 8) (q0 := 0) rfl rfl, fun U hU hW => ⟨rfl, Wd.call hPc hDc hK hC hZ hS hFc U hU hW⟩⟩ rfl rfl hl.1 rfl (lv_room (Nat.le_of_ble_eq_true rfl)) dX4_readFact_136 ⟨(Nat.le_of_ble_eq_true rfl), (Nat.le_of_ble_eq_true rfl)⟩) hS (fun q _ h => hFc q h) hFc (fun rn166 u t H1 locs ht hvm hw hB hz1 hk1 hS => ?_)
        obtain ⟨qn167, qn168, qn169, zn170, zn171, zn172, fn173, fn174, fn175, zn176, hn177, hn178, hn179, hn180, hn181, hn182, hn183, hn184, hn185, hn186, hn187, hn188, hP1, hD1⟩ := hB
        rw [ht] at hP1
        obtain ⟨hP, hD⟩ := PDq.join (w := [(oX4 r0 r1 p0 (nI qn167) (fk qn167) (ft qn167) (fv qn167) zn170 zn171 zn172), (oX5 r1 k1 k2 k3 (nI ct)), (k1, .inl (cA 0, 701, .inl fk)), (k2, .inl (cA 0, 701, .inl ft)), (k3, .inl (cA 1, 701, .inr (.inl fv))), (oX3 p0 pr pb pe pg p1 (nI nd) p2 p3 p4 p5 (nI cn) p6 (nI qn168) p7 p8 p9 (nI qn169)), (p2, .inl (cA 1, 10, .inr (.inl fna))), (p6, .inl (cA 1, 8, .inr (.inl fn173))), (p7, .inl (cA 0, 350, .inl fn174)), (p8, .inl (cA 0, 350, .inl fn175))]) 0 hP hD [5, 6, 7, 8, 9, 0, 1, 2, 3, 4] [] rfl rfl (by decide) (by decide +kernel) hk1 hFc hP1 hD1 rfl
        generalize H1 = H at hP hS ⊢
        rcases hw.2 with hr9 | hr9
        · skip
          have hn188 := hn188 (hw.1.trans hr9)
          subst hr9
          refine lv_if_eq (tgt := 155) hx hb dX4_readFact_139 (by decide) (fun c189 => ?_) (fun c9 => absurd c9 (by decide))
          refine lv_iconst (v := 0) hx hb dX4_readFact_155 (by decide) ?_
          obtain ⟨hP9, hD9⟩ := PDq.sub (ws' := [(oX4 r0 r1 p0 (nI qn167) (fk qn167) (ft qn167) (fv qn167) zn170 zn171 zn172), (oX5 r1 k1 k2 k3 (nI ct)), (k1, .inl (cA 0, 701, .inl fk)), (k2, .inl (cA 0, 701, .inl ft)), (k3, .inl (cA 1, 701, .inr (.inl fv))), (oX3 p0 pr pb pe pg p1 (nI nd) p2 p3 p4 p5 (nI cn) p6 (nI qn168) p7 p8 p9 (nI qn169)), (p2, .inl (cA 1, 10, .inr (.inl fna))), (p6, .inl (cA 1, 8, .inr (.inl fn173))), (p7, .inl (cA 0, 350, .inl fn174)), (p8, .inl (cA 0, 350, .inl fn175))]) hP hD [0, 1, 2, 3, 4, 5, 6, 7, 8, 9] (by decide +kernel) rfl
          refine W.widen (k := 0) (n := 0) (Nat.le_of_ble_eq_true rfl) (Nat.le_of_ble_eq_true rfl) ?_
          exact (W.zret (v := 0) hx hb hr (by first | rfl | decide) (fun t ht hW => ⟨⟨0, 0, rfl, ⟨rfl, by decide⟩, qn167, qn168, qn169, zn170, zn171, zn172, fn173, fn174, fn175, zn176, hn177, hn178, (by omega), hn180, hn181, hn182, (fun h9 => absurd h9 (by decide)), (fun h9 => absurd h9 (by decide)), (fun h9 => absurd h9 (by decide)), (fun h9 => absurd h9 (by decide)), (fun h9 => absurd h9 (by decide)), (fun _ => (P_openE c38 (by omega) hn188)), by rw [ht]; exact hP9, hD9⟩, hS.F ht⟩) hS.2.2 dX4_readFact_156)
        · skip
          have hn183 := hn183 (hw.1.trans hr9)
          obtain rfl : iek = zn171 := hn183.symm
          obtain ⟨hP, hD⟩ : PDq D A [(oX4 r0 r1 p0 (nI qn167) (fk qn167) (ft qn167) (fv qn167) zn170 iek zn172), (oX5 r1 k1 k2 k3 (nI ct)), (k1, .inl (cA 0, 701, .inl fk)), (k2, .inl (cA 0, 701, .inl ft)), (k3, .inl (cA 1, 701, .inr (.inl fv))), (oX3 p0 pr pb pe pg p1 (nI nd) p2 p3 p4 p5 (nI cn) p6 (nI qn168) p7 p8 p9 (nI qn169)), (p2, .inl (cA 1, 10, .inr (.inl fna))), (p6, .inl (cA 1, 8, .inr (.inl fn173))), (p7, .inl (cA 0, 350, .inl fn174)), (p8, .inl (cA 0, 350, .inl fn175))] H := ⟨hP, hD⟩
          have hn184 := hn184 (hw.1.trans hr9)
          obtain rfl : iep = zn172 := hn184.symm
          obtain ⟨hP, hD⟩ : PDq D A [(oX4 r0 r1 p0 (nI qn167) (fk qn167) (ft qn167) (fv qn167) zn170 iek iep), (oX5 r1 k1 k2 k3 (nI ct)), (k1, .inl (cA 0, 701, .inl fk)), (k2, .inl (cA 0, 701, .inl ft)), (k3, .inl (cA 1, 701, .inr (.inl fv))), (oX3 p0 pr pb pe pg p1 (nI nd) p2 p3 p4 p5 (nI cn) p6 (nI qn168) p7 p8 p9 (nI qn169)), (p2, .inl (cA 1, 10, .inr (.inl fna))), (p6, .inl (cA 1, 8, .inr (.inl fn173))), (p7, .inl (cA 0, 350, .inl fn174)), (p8, .inl (cA 0, 350, .inl fn175))] H := ⟨hP, hD⟩
          have hn185 := hn185 (hw.1.trans hr9)
          have hn186 := hn186 (hw.1.trans hr9)
          have hn187 := hn187 (hw.1.trans hr9)
          subst hr9
          refine lv_if_eq (tgt := 155) hx hb dX4_readFact_139 (by decide) (fun c9 => absurd c9 (by decide)) (fun c190 => ?_)
          refine lv_aload_n hx hb dX4_readFact_142 rfl (lv_at hl 1 rfl) ?_
          refine lv_bipush (v := 6) hx hb dX4_readFact_143 (by decide) ?_
          obtain ⟨hPc, hDc, hFc⟩ := PDq.cut (wc := [(oX4 r0 r1 p0 (nI qn167) (fk qn167) (ft qn167) (fv qn167) zn170 iek iep), (oX5 r1 k1 k2 k3 (nI ct)), (k1, .inl (cA 0, 701, .inl fk)), (k2, .inl (cA 0, 701, .inl ft)), (k3, .inl (cA 1, 701, .inr (.inl fv)))]) hP hD hS hA [0, 1, 2, 3, 4] (by decide) rfl
          refine va_calli (va_runV (As := [.int 6]) (rest := []) ⟨hx, hb, hml, hown, hts⟩ (x_take l D cA sa r0 p0 qn167 ln zn170 iek iep r1 k1 k2 k3 ct fk ft fv fb gP gR 6 H.size hct hln hn177 hTX (by decide)) (cwV 1 hts gX4_readFact_X4_take rfl rfl rfl (by decide +kernel) ⟨by show (1) + 1 ≤ 3 * (k9 + 1) + 20; omega, by show 8 + (2 + 11) + (21) ≤ 72 * (k9 + 1) + 320; omega⟩) ⟨Wd.blind, va_recv hK hPc (ci := 8) (q0 := 0) rfl rfl, fun U hU hW => ⟨rfl, Wd.call hPc hDc hK hC hZ hS hFc U hU hW⟩⟩ rfl rfl hl.1 rfl (lv_room (Nat.le_of_ble_eq_true rfl)) dX4_readFact_145 ⟨(Nat.le_of_ble_eq_true rfl), (Nat.le_of_ble_eq_true rfl)⟩) hS (fun q _ h => hFc q h) hFc (fun rn191 u t H1 locs ht hvm hw hB hz1 hk1 hS => ?_)
          obtain ⟨qn192, zn193, zn194, hn195, hn196, hn197, hn198, hn199, hn200, hn201, hn202, hn203, hn204, hn205, hP1, hD1⟩ := hB
          rw [ht] at hP1
          obtain ⟨hP, hD⟩ := PDq.join (w := [(oX3 p0 pr pb pe pg p1 (nI nd) p2 p3 p4 p5 (nI cn) p6 (nI qn168) p7 p8 p9 (nI qn169)), (p2, .inl (cA 1, 10, .inr (.inl fna))), (p6, .inl (cA 1, 8, .inr (.inl fn173))), (p7, .inl (cA 0, 350, .inl fn174)), (p8, .inl (cA 0, 350, .inl fn175)), (oX4 r0 r1 p0 (nI qn192) (fk qn192) (ft qn192) (fv qn192) zn170 zn193 zn194), (oX5 r1 k1 k2 k3 (nI ct)), (k1, .inl (cA 0, 701, .inl fk)), (k2, .inl (cA 0, 701, .inl ft)), (k3, .inl (cA 1, 701, .inr (.inl fv)))]) 5 hP hD [0, 1, 2, 3, 4] [5, 6, 7, 8, 9] rfl rfl (by decide) (by decide +kernel) hk1 hFc hP1 hD1 rfl
          generalize H1 = H at hP hS ⊢
          rcases hw.2 with hr9 | hr9
          · skip
            have hn203 := hn203 (hw.1.trans hr9)
            have hn204 := hn204 (hw.1.trans hr9)
            have hn205 := hn205 (hw.1.trans hr9)
            subst hr9
            refine lv_if_eq (tgt := 155) hx hb dX4_readFact_148 (by decide) (fun c206 => ?_) (fun c9 => absurd c9 (by decide))
            refine lv_iconst (v := 0) hx hb dX4_readFact_155 (by decide) ?_
            obtain ⟨hP9, hD9⟩ := PDq.sub (ws' := [(oX4 r0 r1 p0 (nI qn192) (fk qn192) (ft qn192) (fv qn192) zn170 zn193 zn194), (oX5 r1 k1 k2 k3 (nI ct)), (k1, .inl (cA 0, 701, .inl fk)), (k2, .inl (cA 0, 701, .inl ft)), (k3, .inl (cA 1, 701, .inr (.inl fv))), (oX3 p0 pr pb pe pg p1 (nI nd) p2 p3 p4 p5 (nI cn) p6 (nI qn168) p7 p8 p9 (nI qn169)), (p2, .inl (cA 1, 10, .inr (.inl fna))), (p6, .inl (cA 1, 8, .inr (.inl fn173))), (p7, .inl (cA 0, 350, .inl fn174)), (p8, .inl (cA 0, 350, .inl fn175))]) hP hD [5, 6, 7, 8, 9, 0, 1, 2, 3, 4] (by decide +kernel) rfl
            refine W.widen (k := 0) (n := 0) (Nat.le_of_ble_eq_true rfl) (Nat.le_of_ble_eq_true rfl) ?_
            exact (W.zret (v := 0) hx hb hr (by first | rfl | decide) (fun t ht hW => ⟨⟨0, 0, rfl, ⟨rfl, by decide⟩, qn192, qn168, qn169, zn170, zn193, zn194, fn173, fn174, fn175, zn176, hn195, hn196, (by omega), hn180, hn181, hn182, (fun h9 => absurd h9 (by decide)), (fun h9 => absurd h9 (by decide)), (fun h9 => absurd h9 (by decide)), (fun h9 => absurd h9 (by decide)), (fun h9 => absurd h9 (by decide)), (fun _ => (P_openCx c38 (by omega) hn187 hn205 hn203 hn204)), by rw [ht]; exact hP9, hD9⟩, hS.F ht⟩) hS.2.2 dX4_readFact_156)
          · skip
            have hn198 := hn198 (hw.1.trans hr9)
            subst hn198
            obtain ⟨hP, hD⟩ : PDq D A [(oX3 p0 pr pb pe pg p1 (nI nd) p2 p3 p4 p5 (nI cn) p6 (nI qn168) p7 p8 p9 (nI qn169)), (p2, .inl (cA 1, 10, .inr (.inl fna))), (p6, .inl (cA 1, 8, .inr (.inl fn173))), (p7, .inl (cA 0, 350, .inl fn174)), (p8, .inl (cA 0, 350, .inl fn175)), (oX4 r0 r1 p0 (nI (qn167 + 1)) (fk (qn167 + 1)) (ft (qn167 + 1)) (fv (qn167 + 1)) zn170 zn193 zn194), (oX5 r1 k1 k2 k3 (nI ct)), (k1, .inl (cA 0, 701, .inl fk)), (k2, .inl (cA 0, 701, .inl ft)), (k3, .inl (cA 1, 701, .inr (.inl fv)))] H := ⟨hP, hD⟩
            have hn199 := hn199 (hw.1.trans hr9)
            obtain rfl : iek = zn193 := hn199.symm
            obtain ⟨hP, hD⟩ : PDq D A [(oX3 p0 pr pb pe pg p1 (nI nd) p2 p3 p4 p5 (nI cn) p6 (nI qn168) p7 p8 p9 (nI qn169)), (p2, .inl (cA 1, 10, .inr (.inl fna))), (p6, .inl (cA 1, 8, .inr (.inl fn173))), (p7, .inl (cA 0, 350, .inl fn174)), (p8, .inl (cA 0, 350, .inl fn175)), (oX4 r0 r1 p0 (nI (qn167 + 1)) (fk (qn167 + 1)) (ft (qn167 + 1)) (fv (qn167 + 1)) zn170 iek zn194), (oX5 r1 k1 k2 k3 (nI ct)), (k1, .inl (cA 0, 701, .inl fk)), (k2, .inl (cA 0, 701, .inl ft)), (k3, .inl (cA 1, 701, .inr (.inl fv)))] H := ⟨hP, hD⟩
            have hn200 := hn200 (hw.1.trans hr9)
            obtain rfl : iep = zn194 := hn200.symm
            obtain ⟨hP, hD⟩ : PDq D A [(oX3 p0 pr pb pe pg p1 (nI nd) p2 p3 p4 p5 (nI cn) p6 (nI qn168) p7 p8 p9 (nI qn169)), (p2, .inl (cA 1, 10, .inr (.inl fna))), (p6, .inl (cA 1, 8, .inr (.inl fn173))), (p7, .inl (cA 0, 350, .inl fn174)), (p8, .inl (cA 0, 350, .inl fn175)), (oX4 r0 r1 p0 (nI (qn167 + 1)) (fk (qn167 + 1)) (ft (qn167 + 1)) (fv (qn167 + 1)) zn170 iek iep), (oX5 r1 k1 k2 k3 (nI ct)), (k1, .inl (cA 0, 701, .inl fk)), (k2, .inl (cA 0, 701, .inl ft)), (k3, .inl (cA 1, 701, .inr (.inl fv)))] H := ⟨hP, hD⟩
            have hn201 := hn201 (hw.1.trans hr9)
            have hn202 := hn202 (hw.1.trans hr9)
            subst hr9
            refine lv_if_eq (tgt := 155) hx hb dX4_readFact_148 (by decide) (fun c9 => absurd c9 (by decide)) (fun c207 => ?_)
            refine lv_iconst (v := 1) hx hb dX4_readFact_151 (by decide) ?_
            refine lv_goto (tgt := 156) hx hb dX4_readFact_152 (by decide) ?_
            obtain ⟨hP9, hD9⟩ := PDq.sub (ws' := [(oX4 r0 r1 p0 (nI (qn167 + 1)) (fk (qn167 + 1)) (ft (qn167 + 1)) (fv (qn167 + 1)) zn170 iek iep), (oX5 r1 k1 k2 k3 (nI ct)), (k1, .inl (cA 0, 701, .inl fk)), (k2, .inl (cA 0, 701, .inl ft)), (k3, .inl (cA 1, 701, .inr (.inl fv))), (oX3 p0 pr pb pe pg p1 (nI nd) p2 p3 p4 p5 (nI cn) p6 (nI qn168) p7 p8 p9 (nI qn169)), (p2, .inl (cA 1, 10, .inr (.inl fna))), (p6, .inl (cA 1, 8, .inr (.inl fn173))), (p7, .inl (cA 0, 350, .inl fn174)), (p8, .inl (cA 0, 350, .inl fn175))]) hP hD [5, 6, 7, 8, 9, 0, 1, 2, 3, 4] (by decide +kernel) rfl
            refine W.widen (k := 0) (n := 0) (Nat.le_of_ble_eq_true rfl) (Nat.le_of_ble_eq_true rfl) ?_
            exact (W.zret (v := 1) hx hb hr (by first | rfl | decide) (fun t ht hW => ⟨⟨1, 1, rfl, ⟨rfl, by decide⟩, (qn167 + 1), qn168, qn169, zn170, iek, iep, fn173, fn174, fn175, zn176, hn195, hn196, (by omega), hn180, hn181, hn182, (fun _ => rfl), (fun _ => rfl), (fun _ => (by omega)), (fun _ => (by omega)), (fun _ => (P_open c38 (by omega) hn187 hn202)), (fun h9 => absurd h9 (by decide)), by rw [ht]; exact hP9, hD9⟩, hS.F ht⟩) hS.2.2 dX4_readFact_156)
      · skip
        subst hr9
        exact absurd (by decide) hn161

set_option maxHeartbeats 4000000 in
set_option maxRecDepth 100000 in
/-- readBoth -/
theorem x_readBoth_S_look (l : Launch) (D : va_G) (cA : Nat → ClassId) (sa : Nat → Nat) (k9 : Nat) (IHf : XFactC l D cA sa k9) (IHc : XCondC l D cA sa k9) (r0 : Nat) (p0 : Nat) (ti : Nat) (ln : Nat) (inb : Int32) (iek : Int32) (iep : Int32) (r1 : Nat) (k1 : Nat) (k2 : Nat) (k3 : Nat) (ct : Nat) (fk : Nat → Int32) (ft : Nat → Int32) (fv : Nat → Int64) (fb : Nat → Int32) (gP : Nat → Nat) (gR : Nat → Nat) (p1 : Nat) (p2 : Nat) (p3 : Nat) (p4 : Nat) (p5 : Nat) (p6 : Nat) (p7 : Nat) (p8 : Nat) (p9 : Nat) (cn : Nat) (pq : Nat) (nd : Nat) (sc : Nat) (pr : Int32) (pb : Int32) (pe : Int32) (pg : Int32) (fna : Nat → Int64) (fpn : Nat → Int64) (fst : Nat → Int32) (fop : Nat → Int32) (ml : List Int64) (pl : List Int64) (sl : Nat) (o9 : Nat) (sz : Nat) (hct : ct ≤ 701) (hln : ln ≤ 700) (hti : ti < ct) (hTX : TX fb ln ct gP gR ft fv fk) (hcn : cn ≤ 10) (hpq : pq ≤ 8) (hnd : nd ≤ 6) (hsc : sc ≤ 350) (hNM : NL ml cn fna) (hNP : NL pl pq fpn) (hsl : 2 * sc + sl ≤ gP ti) (ho : o9 + (k9 + 1) = 8) : Met l yX4_readBoth wsX4_readBoth ({ frames := 3 * (k9 + 1) + 21, cells := 0, slots := 0, locals := 72 * (k9 + 1) + 344 }) (va_Pc [.ref r0, .int (nI o9)] (Wd D cA sa [(oX4 r0 r1 p0 (nI ti) (fk ti) (ft ti) (fv ti) inb iek iep), (oX5 r1 k1 k2 k3 (nI ct)), (k1, .inl (cA 0, 701, .inl fk)), (k2, .inl (cA 0, 701, .inl ft)), (k3, .inl (cA 1, 701, .inr (.inl fv))), (oX3 p0 pr pb pe pg p1 (nI nd) p2 p3 p4 p5 (nI cn) p6 (nI pq) p7 p8 p9 (nI sc)), (p2, .inl (cA 1, 10, .inr (.inl fna))), (p6, .inl (cA 1, 8, .inr (.inl fpn))), (p7, .inl (cA 0, 350, .inl fst)), (p8, .inl (cA 0, 350, .inl fop))] sz)) (va_Qi (fun (r : Int32) (u9 : Int32) => u9 = r ∧ (r = 0 ∨ r = 1)) (fun (u9 : Int32) t => ∃ tj : Nat, ∃ qm : Nat, ∃ sm : Nat, ∃ znr : Int32, ∃ zek : Int32, ∃ zep : Int32, ∃ zpn : Nat → Int64, ∃ zst : Nat → Int32, ∃ zop : Nat → Int32, ∃ zpl : List Int64, tj < ct ∧ gP tj ≤ ln ∧ ti ≤ tj ∧ qm ≤ 8 ∧ sm ≤ 350 ∧ NL zpl qm zpn ∧ (u9 = 1 → zek = iek) ∧ (u9 = 1 → zep = iep) ∧ (u9 = 1 → 2 * sm + sl ≤ gP tj) ∧ (u9 = 1 → ti + 1 ≤ tj) ∧ (u9 = 1 → PRx fk ft fv ml 1 o9 ti pl (.inr (tj, zpl))) ∧ (u9 = 0 → PRx fk ft fv ml 1 o9 ti pl (.inl (zek, zep))) ∧ Wq D (va_A [(oX4 r0 r1 p0 (nI ti) (fk ti) (ft ti) (fv ti) inb iek iep), (oX5 r1 k1 k2 k3 (nI ct)), (k1, .inl (cA 0, 701, .inl fk)), (k2, .inl (cA 0, 701, .inl ft)), (k3, .inl (cA 1, 701, .inr (.inl fv))), (oX3 p0 pr pb pe pg p1 (nI nd) p2 p3 p4 p5 (nI cn) p6 (nI pq) p7 p8 p9 (nI sc)), (p2, .inl (cA 1, 10, .inr (.inl fna))), (p6, .inl (cA 1, 8, .inr (.inl fpn))), (p7, .inl (cA 0, 350, .inl fst)), (p8, .inl (cA 0, 350, .inl fop))] sz) [(oX4 r0 r1 p0 (nI tj) (fk tj) (ft tj) (fv tj) znr zek zep), (oX5 r1 k1 k2 k3 (nI ct)), (k1, .inl (cA 0, 701, .inl fk)), (k2, .inl (cA 0, 701, .inl ft)), (k3, .inl (cA 1, 701, .inr (.inl fv))), (oX3 p0 pr pb pe pg p1 (nI nd) p2 p3 p4 p5 (nI cn) p6 (nI qm) p7 p8 p9 (nI sm)), (p2, .inl (cA 1, 10, .inr (.inl fna))), (p6, .inl (cA 1, 8, .inr (.inl zpn))), (p7, .inl (cA 0, 350, .inl zst)), (p8, .inl (cA 0, 350, .inl zop))] t) (va_A [(oX4 r0 r1 p0 (nI ti) (fk ti) (ft ti) (fv ti) inb iek iep), (oX5 r1 k1 k2 k3 (nI ct)), (k1, .inl (cA 0, 701, .inl fk)), (k2, .inl (cA 0, 701, .inl ft)), (k3, .inl (cA 1, 701, .inr (.inl fv))), (oX3 p0 pr pb pe pg p1 (nI nd) p2 p3 p4 p5 (nI cn) p6 (nI pq) p7 p8 p9 (nI sc)), (p2, .inl (cA 1, 10, .inr (.inl fna))), (p6, .inl (cA 1, 8, .inr (.inl fpn))), (p7, .inl (cA 0, 350, .inl fst)), (p8, .inl (cA 0, 350, .inl fop))] sz)) 0 0 (va_A [(oX4 r0 r1 p0 (nI ti) (fk ti) (ft ti) (fv ti) inb iek iep), (oX5 r1 k1 k2 k3 (nI ct)), (k1, .inl (cA 0, 701, .inl fk)), (k2, .inl (cA 0, 701, .inl ft)), (k3, .inl (cA 1, 701, .inr (.inl fv))), (oX3 p0 pr pb pe pg p1 (nI nd) p2 p3 p4 p5 (nI cn) p6 (nI pq) p7 p8 p9 (nI sc)), (p2, .inl (cA 1, 10, .inr (.inl fna))), (p6, .inl (cA 1, 8, .inr (.inl fpn))), (p7, .inl (cA 0, 350, .inl fst)), (p8, .inl (cA 0, 350, .inl fop))] sz) := by
  refine Met.ofW (cc := cX4_readBoth) (maxL := 4) (ret := (some .boolean)) (by decide) rfl ?_
  intro p e s m args below meth c s₁ B hml hv
  obtain ⟨rfl, hsz, hP, hK, hD0, hC, hZ⟩ := hv
  have hx := B.exec
  have hb := B.bytes
  have hr := B.returns
  have hts := atoms_spec (ws := wsX4_readBoth) B.pre
  have hown : s.vm.findClass RX4 = some m.cls := findClass_of_methodNamed B.named
  have hlocks := B.notSynchronized
  subst hsz
  have hD := hD0.self (sz := s.heap.size)
  generalize hAe : va_A [(oX4 r0 r1 p0 (nI ti) (fk ti) (ft ti) (fv ti) inb iek iep), (oX5 r1 k1 k2 k3 (nI ct)), (k1, .inl (cA 0, 701, .inl fk)), (k2, .inl (cA 0, 701, .inl ft)), (k3, .inl (cA 1, 701, .inr (.inl fv))), (oX3 p0 pr pb pe pg p1 (nI nd) p2 p3 p4 p5 (nI cn) p6 (nI pq) p7 p8 p9 (nI sc)), (p2, .inl (cA 1, 10, .inr (.inl fna))), (p6, .inl (cA 1, 8, .inr (.inl fpn))), (p7, .inl (cA 0, 350, .inl fst)), (p8, .inl (cA 0, 350, .inl fop))] s.heap.size = A at hD hZ ⊢
  have hA : ∀ q : Nat, s.heap.size ≤ q → A q := fun q h => by rw [← hAe]; exact Or.inr h
  have hS : va_S A s.heap s.heap [] := va_S.rf
  have hP : va_P D vwCl [(oX4 r0 r1 p0 (nI ti) (fk ti) (ft ti) (fv ti) inb iek iep), (oX5 r1 k1 k2 k3 (nI ct)), (k1, .inl (cA 0, 701, .inl fk)), (k2, .inl (cA 0, 701, .inl ft)), (k3, .inl (cA 1, 701, .inr (.inl fv))), (oX3 p0 pr pb pe pg p1 (nI nd) p2 p3 p4 p5 (nI cn) p6 (nI pq) p7 p8 p9 (nI sc)), (p2, .inl (cA 1, 10, .inr (.inl fna))), (p6, .inl (cA 1, 8, .inr (.inl fpn))), (p7, .inl (cA 0, 350, .inl fst)), (p8, .inl (cA 0, 350, .inl fop))] s.heap := hP
  have hl := lv_entry ([.ref r0, .int (nI o9)]) (n := 4) (Nat.le_of_ble_eq_true rfl)
  rw [lg_entry_eq]
  generalize (lg_sl ([.ref r0, .int (nI o9)]) ++ List.replicate (4 - (lg_sl ([.ref r0, .int (nI o9)])).length) Slot.unset).toArray = ls at hl ⊢
  have hl : lv_has ls 4 [(0, .ref r0), (1, .int (nI o9))] := hl
  have inX4 : ∀ w ∈ u_ws RX4 TX4 9, w ∈ wsX4_readBoth := by decide +kernel
  have hle9 := TX.le hTX hti
  refine lv_aload_n hx hb dX4_readBoth_0 rfl (lv_at hl 0 rfl) ?_
  refine lv_iload_n hx hb dX4_readBoth_1 rfl (lv_at hl 1 rfl) ?_
  obtain ⟨hPc, hDc, hFc⟩ := PDq.cut (wc := [(oX4 r0 r1 p0 (nI ti) (fk ti) (ft ti) (fv ti) inb iek iep), (oX5 r1 k1 k2 k3 (nI ct)), (k1, .inl (cA 0, 701, .inl fk)), (k2, .inl (cA 0, 701, .inl ft)), (k3, .inl (cA 1, 701, .inr (.inl fv))), (oX3 p0 pr pb pe pg p1 (nI nd) p2 p3 p4 p5 (nI cn) p6 (nI pq) p7 p8 p9 (nI sc)), (p2, .inl (cA 1, 10, .inr (.inl fna))), (p6, .inl (cA 1, 8, .inr (.inl fpn))), (p7, .inl (cA 0, 350, .inl fst)), (p8, .inl (cA 0, 350, .inl fop))]) hP hD hS hA [0, 1, 2, 3, 4, 5, 6, 7, 8, 9] (by decide +kernel) rfl
  refine va_calli (va_runV (As := [.int (nI o9)]) (rest := []) ⟨hx, hb, hml, hown, hts⟩ (x_readFact_S l D cA sa k9 IHf IHc r0 p0 ti ln inb iek iep r1 k1 k2 k3 ct fk ft fv fb gP gR p1 p2 p3 p4 p5 p6 p7 p8 p9 cn pq nd sc pr pb pe pg fna fpn fst fop ml pl sl o9 s.heap.size hct hln hti hTX hcn hpq hnd hsc hNM hNP hsl ho) (cwV 1 hts gX4_readBoth_X4_readFact rfl rfl rfl (by decide +kernel) ⟨by show (3 * (k9 + 1) + 20) + 1 ≤ 3 * (k9 + 1) + 21; omega, by show 8 + (3 + 11) + (72 * (k9 + 1) + 320) ≤ 72 * (k9 + 1) + 344; omega⟩) ⟨Wd.blind, va_recv hK hPc (ci := 8) (q0 := 0) rfl rfl, fun U hU hW => ⟨rfl, Wd.call hPc hDc hK hC hZ hS hFc U hU hW⟩⟩ rfl rfl hl.1 rfl (lv_room (Nat.le_of_ble_eq_true rfl)) dX4_readBoth_2 ⟨(Nat.le_of_ble_eq_true rfl), (Nat.le_of_ble_eq_true rfl)⟩) hS (fun q _ h => hFc q h) hFc (fun rn1 u t H1 locs ht hvm hw hB hz1 hk1 hS => ?_)
  obtain ⟨qn2, qn3, qn4, zn5, zn6, zn7, fn8, fn9, fn10, zn11, hn12, hn13, hn14, hn15, hn16, hn17, hn18, hn19, hn20, hn21, hn22, hn23, hP1, hD1⟩ := hB
  rw [ht] at hP1
  obtain ⟨hP, hD⟩ := PDq.join (w := [(oX4 r0 r1 p0 (nI qn2) (fk qn2) (ft qn2) (fv qn2) zn5 zn6 zn7), (oX5 r1 k1 k2 k3 (nI ct)), (k1, .inl (cA 0, 701, .inl fk)), (k2, .inl (cA 0, 701, .inl ft)), (k3, .inl (cA 1, 701, .inr (.inl fv))), (oX3 p0 pr pb pe pg p1 (nI nd) p2 p3 p4 p5 (nI cn) p6 (nI qn3) p7 p8 p9 (nI qn4)), (p2, .inl (cA 1, 10, .inr (.inl fna))), (p6, .inl (cA 1, 8, .inr (.inl fn8))), (p7, .inl (cA 0, 350, .inl fn9)), (p8, .inl (cA 0, 350, .inl fn10))]) 0 hP hD [0, 1, 2, 3, 4, 5, 6, 7, 8, 9] [] rfl rfl (by decide) (by decide +kernel) hk1 hFc hP1 hD1 rfl
  generalize H1 = H at hP hS ⊢
  rcases hw.2 with hr9 | hr9
  · skip
    have hn23 := hn23 (hw.1.trans hr9)
    subst hr9
    refine lv_istore_n (lv' := [(2, .int 0), (0, .ref r0), (1, .int (nI o9))]) hx hb dX4_readBoth_5 rfl hl (by decide) rfl (fun ls hl => ?_)
    refine lv_iconst (v := 0) hx hb dX4_readBoth_6 (by decide) ?_
    refine lv_istore_n (lv' := [(3, .int 0), (2, .int 0), (0, .ref r0), (1, .int (nI o9))]) hx hb dX4_readBoth_7 rfl hl (by decide) rfl (fun ls hl => ?_)
    refine lv_iload_n hx hb dX4_readBoth_8 rfl (lv_at hl 1 rfl) ?_
    refine lv_if_eq (tgt := 71) hx hb dX4_readBoth_9 (by decide) (fun c24 => ?_) (fun c9 => absurd c9 (by decide))
    refine lv_iload_n hx hb dX4_readBoth_71 rfl (lv_at hl 1 rfl) ?_
    obtain ⟨hP9, hD9⟩ := PDq.sub (ws' := [(oX4 r0 r1 p0 (nI qn2) (fk qn2) (ft qn2) (fv qn2) zn5 zn6 zn7), (oX5 r1 k1 k2 k3 (nI ct)), (k1, .inl (cA 0, 701, .inl fk)), (k2, .inl (cA 0, 701, .inl ft)), (k3, .inl (cA 1, 701, .inr (.inl fv))), (oX3 p0 pr pb pe pg p1 (nI nd) p2 p3 p4 p5 (nI cn) p6 (nI qn3) p7 p8 p9 (nI qn4)), (p2, .inl (cA 1, 10, .inr (.inl fna))), (p6, .inl (cA 1, 8, .inr (.inl fn8))), (p7, .inl (cA 0, 350, .inl fn9)), (p8, .inl (cA 0, 350, .inl fn10))]) hP hD [0, 1, 2, 3, 4, 5, 6, 7, 8, 9] (by decide +kernel) rfl
    refine W.widen (k := 0) (n := 0) (Nat.le_of_ble_eq_true rfl) (Nat.le_of_ble_eq_true rfl) ?_
    exact (W.zret (v := 0) hx hb hr (by first | rfl | decide) (fun t ht hW => ⟨⟨0, 0, rfl, ⟨rfl, by decide⟩, qn2, qn3, qn4, zn5, zn6, zn7, fn8, fn9, fn10, zn11, hn12, hn13, hn14, hn15, hn16, hn17, (fun h9 => absurd h9 (by decide)), (fun h9 => absurd h9 (by decide)), (fun h9 => absurd h9 (by decide)), (fun h9 => absurd h9 (by decide)), (fun h9 => absurd h9 (by decide)), (fun _ => (P_bothE hn23)), by rw [ht]; exact hP9, hD9⟩, hS.F ht⟩) hS.2.2 dX4_readBoth_72)
  · skip
    have hn18 := hn18 (hw.1.trans hr9)
    obtain rfl : iek = zn6 := hn18.symm
    obtain ⟨hP, hD⟩ : PDq D A [(oX4 r0 r1 p0 (nI qn2) (fk qn2) (ft qn2) (fv qn2) zn5 iek zn7), (oX5 r1 k1 k2 k3 (nI ct)), (k1, .inl (cA 0, 701, .inl fk)), (k2, .inl (cA 0, 701, .inl ft)), (k3, .inl (cA 1, 701, .inr (.inl fv))), (oX3 p0 pr pb pe pg p1 (nI nd) p2 p3 p4 p5 (nI cn) p6 (nI qn3) p7 p8 p9 (nI qn4)), (p2, .inl (cA 1, 10, .inr (.inl fna))), (p6, .inl (cA 1, 8, .inr (.inl fn8))), (p7, .inl (cA 0, 350, .inl fn9)), (p8, .inl (cA 0, 350, .inl fn10))] H := ⟨hP, hD⟩
    have hn19 := hn19 (hw.1.trans hr9)
    obtain rfl : iep = zn7 := hn19.symm
    obtain ⟨hP, hD⟩ : PDq D A [(oX4 r0 r1 p0 (nI qn2) (fk qn2) (ft qn2) (fv qn2) zn5 iek iep), (oX5 r1 k1 k2 k3 (nI ct)), (k1, .inl (cA 0, 701, .inl fk)), (k2, .inl (cA 0, 701, .inl ft)), (k3, .inl (cA 1, 701, .inr (.inl fv))), (oX3 p0 pr pb pe pg p1 (nI nd) p2 p3 p4 p5 (nI cn) p6 (nI qn3) p7 p8 p9 (nI qn4)), (p2, .inl (cA 1, 10, .inr (.inl fna))), (p6, .inl (cA 1, 8, .inr (.inl fn8))), (p7, .inl (cA 0, 350, .inl fn9)), (p8, .inl (cA 0, 350, .inl fn10))] H := ⟨hP, hD⟩
    have hn20 := hn20 (hw.1.trans hr9)
    have hn21 := hn21 (hw.1.trans hr9)
    have hn22 := hn22 (hw.1.trans hr9)
    subst hr9
    refine lv_istore_n (lv' := [(2, .int 1), (0, .ref r0), (1, .int (nI o9))]) hx hb dX4_readBoth_5 rfl hl (by decide) rfl (fun ls hl => ?_)
    refine lv_iconst (v := 0) hx hb dX4_readBoth_6 (by decide) ?_
    refine lv_istore_n (lv' := [(3, .int 0), (2, .int 1), (0, .ref r0), (1, .int (nI o9))]) hx hb dX4_readBoth_7 rfl hl (by decide) rfl (fun ls hl => ?_)
    have loop1 : ∀ (n1 i1 : Nat) (pli : List Int64) (tii : Nat) (u0_6_1 : Int32) (qmi : Nat) (smi : Nat) (f7_1 : Nat → Int64) (f8_1 : Nat → Int32) (f9_1 : Nat → Int32) (H : Heap) (locs : List Loc) (ls : Array Slot), i1 + n1 = 700 → ti + 1 + i1 ≤ tii → tii < ct → qmi ≤ 8 → smi ≤ 350 → 2 * smi + sl ≤ gP tii → gP tii ≤ ln → NL pli qmi f7_1 → Cn fk ft fv ml 1 o9 ti pl 2 tii pli → va_P D vwCl [(oX4 r0 r1 p0 (nI tii) (fk tii) (ft tii) (fv tii) u0_6_1 iek iep), (oX5 r1 k1 k2 k3 (nI ct)), (k1, .inl (cA 0, 701, .inl fk)), (k2, .inl (cA 0, 701, .inl ft)), (k3, .inl (cA 1, 701, .inr (.inl fv))), (oX3 p0 pr pb pe pg p1 (nI nd) p2 p3 p4 p5 (nI cn) p6 (nI qmi) p7 p8 p9 (nI smi)), (p2, .inl (cA 1, 10, .inr (.inl fna))), (p6, .inl (cA 1, 8, .inr (.inl f7_1))), (p7, .inl (cA 0, 350, .inl f8_1)), (p8, .inl (cA 0, 350, .inl f9_1))] H → va_D A [(oX4 r0 r1 p0 (nI tii) (fk tii) (ft tii) (fv tii) u0_6_1 iek iep), (oX5 r1 k1 k2 k3 (nI ct)), (k1, .inl (cA 0, 701, .inl fk)), (k2, .inl (cA 0, 701, .inl ft)), (k3, .inl (cA 1, 701, .inr (.inl fv))), (oX3 p0 pr pb pe pg p1 (nI nd) p2 p3 p4 p5 (nI cn) p6 (nI qmi) p7 p8 p9 (nI smi)), (p2, .inl (cA 1, 10, .inr (.inl fna))), (p6, .inl (cA 1, 8, .inr (.inl f7_1))), (p7, .inl (cA 0, 350, .inl f8_1)), (p8, .inl (cA 0, 350, .inl f9_1))] → va_S A s.heap H locs → lv_has ls 4 [(3, .int (nI i1)), (2, .int 1), (0, .ref r0), (1, .int (nI o9))] → W p l e (headSpec wsX4_readBoth ({ frames := 3 * (k9 + 1) + 21, cells := 0, slots := 0, locals := 72 * (k9 + 1) + 344 } : Room)).room s m ([.ref r0, .int (nI o9)] : List Value).toArray below meth c H locs 0 0 (MQ below (va_Qi (fun (r : Int32) (u9 : Int32) => u9 = r ∧ (r = 0 ∨ r = 1)) (fun (u9 : Int32) t => ∃ tj : Nat, ∃ qm : Nat, ∃ sm : Nat, ∃ znr : Int32, ∃ zek : Int32, ∃ zep : Int32, ∃ zpn : Nat → Int64, ∃ zst : Nat → Int32, ∃ zop : Nat → Int32, ∃ zpl : List Int64, tj < ct ∧ gP tj ≤ ln ∧ ti ≤ tj ∧ qm ≤ 8 ∧ sm ≤ 350 ∧ NL zpl qm zpn ∧ (u9 = 1 → zek = iek) ∧ (u9 = 1 → zep = iep) ∧ (u9 = 1 → 2 * sm + sl ≤ gP tj) ∧ (u9 = 1 → ti + 1 ≤ tj) ∧ (u9 = 1 → PRx fk ft fv ml 1 o9 ti pl (.inr (tj, zpl))) ∧ (u9 = 0 → PRx fk ft fv ml 1 o9 ti pl (.inl (zek, zep))) ∧ Wq D A [(oX4 r0 r1 p0 (nI tj) (fk tj) (ft tj) (fv tj) znr zek zep), (oX5 r1 k1 k2 k3 (nI ct)), (k1, .inl (cA 0, 701, .inl fk)), (k2, .inl (cA 0, 701, .inl ft)), (k3, .inl (cA 1, 701, .inr (.inl fv))), (oX3 p0 pr pb pe pg p1 (nI nd) p2 p3 p4 p5 (nI cn) p6 (nI qm) p7 p8 p9 (nI sm)), (p2, .inl (cA 1, 10, .inr (.inl fna))), (p6, .inl (cA 1, 8, .inr (.inl zpn))), (p7, .inl (cA 0, 350, .inl zst)), (p8, .inl (cA 0, 350, .inl zop))] t) A) ([.ref r0, .int (nI o9)] : List Value).toArray s 0 0 A) (F0 m 8 ls []) := by
      intro n1
      induction n1 with
      | zero =>
        intro i1 pli tii u0_6_1 qmi smi f7_1 f8_1 f9_1 H locs ls hi1 hv0_1 hv1_1 hv2_1 hv3_1 hv4_1 hv5_1 hv6_1 hv7_1 hP hD hS hl
        obtain rfl : 700 = i1 := by omega
        exact absurd hv0_1 (by omega)
      | succ n1 ih1 =>
        intro i1 pli tii u0_6_1 qmi smi f7_1 f8_1 f9_1 H locs ls hi1 hv0_1 hv1_1 hv2_1 hv3_1 hv4_1 hv5_1 hv6_1 hv7_1 hP hD hS hl
        refine lv_iload_n hx hb dX4_readBoth_8 rfl (lv_at hl 1 rfl) ?_
        refine lv_if_eq (tgt := 71) hx hb dX4_readBoth_9 (by decide) (fun c9 => absurd c9 (by decide)) (fun c25 => ?_)
        refine lv_iload_n hx hb dX4_readBoth_12 rfl (lv_at hl 0 rfl) ?_
        refine lv_sipush (v := 700) hx hb dX4_readBoth_13 (by decide) ?_
        refine lv_icmp_ge (tgt := 71) hx hb dX4_readBoth_16 (by decide) (fun c9 => absurd c9 (nI_ge (a := i1) (b := 700) (show i1 < 700 by omega) (by omega))) (fun c26 => ?_)
        refine lv_aload_n hx hb dX4_readBoth_19 rfl (lv_at hl 2 rfl) ?_
        refine va_get (D := D) (ci := 8) (v := .int (fk tii)) (C := RX4) (T := TX4) (N := 9) hx hb hts inX4 hown hK hP 0 rfl rfl 3 (by decide) (hts (.fieldLink RX4 42 "EscrowDesk$Reader" "kind" "I") (by decide +kernel)) (fun _ h9 => h9) rfl dX4_readBoth_20 ?_
        refine lv_bipush (v := 15) hx hb dX4_readBoth_23 (by decide) ?_
        refine lv_icmp_ne (tgt := 71) hx hb dX4_readBoth_25 (by decide) (fun c27 => ?_) (fun c27 => ?_)
        · skip
          refine lv_iload_n hx hb dX4_readBoth_71 rfl (lv_at hl 1 rfl) ?_
          obtain ⟨hP9, hD9⟩ := PDq.sub (ws' := [(oX4 r0 r1 p0 (nI tii) (fk tii) (ft tii) (fv tii) u0_6_1 iek iep), (oX5 r1 k1 k2 k3 (nI ct)), (k1, .inl (cA 0, 701, .inl fk)), (k2, .inl (cA 0, 701, .inl ft)), (k3, .inl (cA 1, 701, .inr (.inl fv))), (oX3 p0 pr pb pe pg p1 (nI nd) p2 p3 p4 p5 (nI cn) p6 (nI qmi) p7 p8 p9 (nI smi)), (p2, .inl (cA 1, 10, .inr (.inl fna))), (p6, .inl (cA 1, 8, .inr (.inl f7_1))), (p7, .inl (cA 0, 350, .inl f8_1)), (p8, .inl (cA 0, 350, .inl f9_1))]) hP hD [0, 1, 2, 3, 4, 5, 6, 7, 8, 9] (by decide +kernel) rfl
          refine W.widen (k := 0) (n := 0) (Nat.le_of_ble_eq_true rfl) (Nat.le_of_ble_eq_true rfl) ?_
          exact (W.zret (v := 1) hx hb hr (by first | rfl | decide) (fun t ht hW => ⟨⟨1, 1, rfl, ⟨rfl, by decide⟩, tii, qmi, smi, u0_6_1, iek, iep, f7_1, f8_1, f9_1, pli, hv1_1, hv5_1, (by omega), hv2_1, hv3_1, hv6_1, (fun _ => rfl), (fun _ => rfl), (fun _ => hv4_1), (fun _ => (by omega)), (fun _ => (hv7_1 _ (P_end2 c27))), (fun h9 => absurd h9 (by decide)), by rw [ht]; exact hP9, hD9⟩, hS.F ht⟩) hS.2.2 dX4_readBoth_72)
        · skip
          have hn28 := TX.go2 hTX (show tii < ct by omega) (by rw [c27]; decide)
          have hn28a := hn28.2.1
          have hn28b := hn28.2.2
          have hn28c := hn28.1
          refine lv_aload_n hx hb dX4_readBoth_28 rfl (lv_at hl 2 rfl) ?_
          refine lv_aload_n hx hb dX4_readBoth_29 rfl (lv_at hl 2 rfl) ?_
          refine va_get (D := D) (ci := 8) (v := .int (nI tii)) (C := RX4) (T := TX4) (N := 9) hx hb hts inX4 hown hK hP 0 rfl rfl 2 (by decide) (hts (.fieldLink RX4 70 "EscrowDesk$Reader" "token" "I") (by decide +kernel)) (fun _ h9 => h9) rfl dX4_readBoth_30 ?_
          refine lv_iconst (v := 1) hx hb dX4_readBoth_33 (by decide) ?_
          refine lv_iadd hx hb dX4_readBoth_34 ?_
          refine lv_topi (fun yn29 eyn29 => ?_)
          obtain rfl : yn29 = (nI (tii + 1)) := eyn29.trans (nI_add tii 1)
          obtain ⟨hPc, hDc, hFc⟩ := PDq.cut (wc := [(oX4 r0 r1 p0 (nI tii) (fk tii) (ft tii) (fv tii) u0_6_1 iek iep), (oX5 r1 k1 k2 k3 (nI ct)), (k1, .inl (cA 0, 701, .inl fk)), (k2, .inl (cA 0, 701, .inl ft)), (k3, .inl (cA 1, 701, .inr (.inl fv)))]) hP hD hS hA [0, 1, 2, 3, 4] (by decide) rfl
          refine va_callv (va_runV (As := [.int (nI (tii + 1))]) (rest := []) ⟨hx, hb, hml, hown, hts⟩ (x_lookAt l D cA sa r0 p0 (tii + 1) (nI tii) (fk tii) (ft tii) u0_6_1 iek iep (fv tii) r1 k1 k2 k3 ct fk ft fv H.size hct hn28.1) (cwV 1 hts gX4_readBoth_X4_lookAt rfl rfl rfl (by decide +kernel) ⟨by show (0) + 1 ≤ 3 * (k9 + 1) + 21; omega, by show 8 + (2 + 11) + (0) ≤ 72 * (k9 + 1) + 344; omega⟩) ⟨Wd.blind, va_recv hK hPc (ci := 8) (q0 := 0) rfl rfl, fun U hU hW => ⟨rfl, Wd.call hPc hDc hK hC hZ hS hFc U hU hW⟩⟩ rfl rfl hl.1 rfl (lv_room (Nat.le_of_ble_eq_true rfl)) dX4_readBoth_35 ⟨(Nat.le_of_ble_eq_true rfl), (Nat.le_of_ble_eq_true rfl)⟩) hS (fun q _ h => hFc q h) hFc (fun u t H1 locs ht hvm hw hB hz1 hk1 hS => ?_)
          obtain ⟨hP1, hD1⟩ := hB
          rw [ht] at hP1
          obtain ⟨hP, hD⟩ := PDq.join (w := [(oX3 p0 pr pb pe pg p1 (nI nd) p2 p3 p4 p5 (nI cn) p6 (nI qmi) p7 p8 p9 (nI smi)), (p2, .inl (cA 1, 10, .inr (.inl fna))), (p6, .inl (cA 1, 8, .inr (.inl f7_1))), (p7, .inl (cA 0, 350, .inl f8_1)), (p8, .inl (cA 0, 350, .inl f9_1)), (oX4 r0 r1 p0 (nI (tii + 1)) (fk (tii + 1)) (ft (tii + 1)) (fv (tii + 1)) u0_6_1 iek iep), (oX5 r1 k1 k2 k3 (nI ct)), (k1, .inl (cA 0, 701, .inl fk)), (k2, .inl (cA 0, 701, .inl ft)), (k3, .inl (cA 1, 701, .inr (.inl fv)))]) 5 hP hD [0, 1, 2, 3, 4] [5, 6, 7, 8, 9] rfl rfl (by decide) (by decide +kernel) hk1 hFc hP1 hD1 rfl
          generalize H1 = H at hP hS ⊢
          refine lv_aload_n hx hb dX4_readBoth_38 rfl (lv_at hl 2 rfl) ?_
          refine lv_iload_n hx hb dX4_readBoth_39 rfl (lv_at hl 3 rfl) ?_
          obtain ⟨hPc, hDc, hFc⟩ := PDq.cut (wc := [(oX4 r0 r1 p0 (nI (tii + 1)) (fk (tii + 1)) (ft (tii + 1)) (fv (tii + 1)) u0_6_1 iek iep), (oX5 r1 k1 k2 k3 (nI ct)), (k1, .inl (cA 0, 701, .inl fk)), (k2, .inl (cA 0, 701, .inl ft)), (k3, .inl (cA 1, 701, .inr (.inl fv))), (oX3 p0 pr pb pe pg p1 (nI nd) p2 p3 p4 p5 (nI cn) p6 (nI qmi) p7 p8 p9 (nI smi)), (p2, .inl (cA 1, 10, .inr (.inl fna))), (p6, .inl (cA 1, 8, .inr (.inl f7_1))), (p7, .inl (cA 0, 350, .inl f8_1)), (p8, .inl (cA 0, 350, .inl f9_1))]) hP hD hS hA [5, 6, 7, 8, 9, 0, 1, 2, 3, 4] (by decide +kernel) rfl
          refine va_calli (va_runV (As := [.int (nI o9)]) (rest := []) ⟨hx, hb, hml, hown, hts⟩ (x_readFact_S l D cA sa k9 IHf IHc r0 p0 (tii + 1) ln u0_6_1 iek iep r1 k1 k2 k3 ct fk ft fv fb gP gR p1 p2 p3 p4 p5 p6 p7 p8 p9 cn qmi nd smi pr pb pe pg fna f7_1 f8_1 f9_1 ml pli (sl + 2) o9 H.size hct hln hn28.1 hTX hcn hv2_1 hnd hv3_1 hNM hv6_1 (by omega) ho) (cwV 1 hts gX4_readBoth_X4_readFact rfl rfl rfl (by decide +kernel) ⟨by show (3 * (k9 + 1) + 20) + 1 ≤ 3 * (k9 + 1) + 21; omega, by show 8 + (3 + 11) + (72 * (k9 + 1) + 320) ≤ 72 * (k9 + 1) + 344; omega⟩) ⟨Wd.blind, va_recv hK hPc (ci := 8) (q0 := 0) rfl rfl, fun U hU hW => ⟨rfl, Wd.call hPc hDc hK hC hZ hS hFc U hU hW⟩⟩ rfl rfl hl.1 rfl (lv_room (Nat.le_of_ble_eq_true rfl)) dX4_readBoth_40 ⟨(Nat.le_of_ble_eq_true rfl), (Nat.le_of_ble_eq_true rfl)⟩) hS (fun q _ h => hFc q h) hFc (fun rn30 u t H1 locs ht hvm hw hB hz1 hk1 hS => ?_)
          obtain ⟨qn31, qn32, qn33, zn34, zn35, zn36, fn37, fn38, fn39, zn40, hn41, hn42, hn43, hn44, hn45, hn46, hn47, hn48, hn49, hn50, hn51, hn52, hP1, hD1⟩ := hB
          rw [ht] at hP1
          obtain ⟨hP, hD⟩ := PDq.join (w := [(oX4 r0 r1 p0 (nI qn31) (fk qn31) (ft qn31) (fv qn31) zn34 zn35 zn36), (oX5 r1 k1 k2 k3 (nI ct)), (k1, .inl (cA 0, 701, .inl fk)), (k2, .inl (cA 0, 701, .inl ft)), (k3, .inl (cA 1, 701, .inr (.inl fv))), (oX3 p0 pr pb pe pg p1 (nI nd) p2 p3 p4 p5 (nI cn) p6 (nI qn32) p7 p8 p9 (nI qn33)), (p2, .inl (cA 1, 10, .inr (.inl fna))), (p6, .inl (cA 1, 8, .inr (.inl fn37))), (p7, .inl (cA 0, 350, .inl fn38)), (p8, .inl (cA 0, 350, .inl fn39))]) 0 hP hD [5, 6, 7, 8, 9, 0, 1, 2, 3, 4] [] rfl rfl (by decide) (by decide +kernel) hk1 hFc hP1 hD1 rfl
          generalize H1 = H at hP hS ⊢
          rcases hw.2 with hr9 | hr9
          · skip
            have hn52 := hn52 (hw.1.trans hr9)
            subst hr9
            refine lv_if_eq (tgt := 63) hx hb dX4_readBoth_43 (by decide) (fun c53 => ?_) (fun c9 => absurd c9 (by decide))
            refine lv_iconst (v := 0) hx hb dX4_readBoth_63 (by decide) ?_
            refine lv_istore_n (lv' := [(2, .int 0), (3, .int (nI i1)), (0, .ref r0), (1, .int (nI o9))]) hx hb dX4_readBoth_64 rfl hl (by decide) rfl (fun ls hl => ?_)
            refine lv_iinc (v := (nI (i1 + 1))) (lv' := [(3, .int (nI (i1 + 1))), (2, .int 0), (0, .ref r0), (1, .int (nI o9))]) hx hb dX4_readBoth_65 hl (k := 1) rfl (nI_1 _) (by decide) rfl (fun ls hl => ?_)
            refine lv_goto (tgt := 8) hx hb dX4_readBoth_68 (by decide) ?_
            refine lv_iload_n hx hb dX4_readBoth_8 rfl (lv_at hl 1 rfl) ?_
            refine lv_if_eq (tgt := 71) hx hb dX4_readBoth_9 (by decide) (fun c54 => ?_) (fun c9 => absurd c9 (by decide))
            refine lv_iload_n hx hb dX4_readBoth_71 rfl (lv_at hl 1 rfl) ?_
            obtain ⟨hP9, hD9⟩ := PDq.sub (ws' := [(oX4 r0 r1 p0 (nI qn31) (fk qn31) (ft qn31) (fv qn31) zn34 zn35 zn36), (oX5 r1 k1 k2 k3 (nI ct)), (k1, .inl (cA 0, 701, .inl fk)), (k2, .inl (cA 0, 701, .inl ft)), (k3, .inl (cA 1, 701, .inr (.inl fv))), (oX3 p0 pr pb pe pg p1 (nI nd) p2 p3 p4 p5 (nI cn) p6 (nI qn32) p7 p8 p9 (nI qn33)), (p2, .inl (cA 1, 10, .inr (.inl fna))), (p6, .inl (cA 1, 8, .inr (.inl fn37))), (p7, .inl (cA 0, 350, .inl fn38)), (p8, .inl (cA 0, 350, .inl fn39))]) hP hD [0, 1, 2, 3, 4, 5, 6, 7, 8, 9] (by decide +kernel) rfl
            refine W.widen (k := 0) (n := 0) (Nat.le_of_ble_eq_true rfl) (Nat.le_of_ble_eq_true rfl) ?_
            exact (W.zret (v := 0) hx hb hr (by first | rfl | decide) (fun t ht hW => ⟨⟨0, 0, rfl, ⟨rfl, by decide⟩, qn31, qn32, qn33, zn34, zn35, zn36, fn37, fn38, fn39, zn40, hn41, hn42, (by omega), hn44, hn45, hn46, (fun h9 => absurd h9 (by decide)), (fun h9 => absurd h9 (by decide)), (fun h9 => absurd h9 (by decide)), (fun h9 => absurd h9 (by decide)), (fun h9 => absurd h9 (by decide)), (fun _ => (hv7_1 _ (P_andE c27 hn52))), by rw [ht]; exact hP9, hD9⟩, hS.F ht⟩) hS.2.2 dX4_readBoth_72)
          · skip
            have hn47 := hn47 (hw.1.trans hr9)
            obtain rfl : iek = zn35 := hn47.symm
            obtain ⟨hP, hD⟩ : PDq D A [(oX4 r0 r1 p0 (nI qn31) (fk qn31) (ft qn31) (fv qn31) zn34 iek zn36), (oX5 r1 k1 k2 k3 (nI ct)), (k1, .inl (cA 0, 701, .inl fk)), (k2, .inl (cA 0, 701, .inl ft)), (k3, .inl (cA 1, 701, .inr (.inl fv))), (oX3 p0 pr pb pe pg p1 (nI nd) p2 p3 p4 p5 (nI cn) p6 (nI qn32) p7 p8 p9 (nI qn33)), (p2, .inl (cA 1, 10, .inr (.inl fna))), (p6, .inl (cA 1, 8, .inr (.inl fn37))), (p7, .inl (cA 0, 350, .inl fn38)), (p8, .inl (cA 0, 350, .inl fn39))] H := ⟨hP, hD⟩
            have hn48 := hn48 (hw.1.trans hr9)
            obtain rfl : iep = zn36 := hn48.symm
            obtain ⟨hP, hD⟩ : PDq D A [(oX4 r0 r1 p0 (nI qn31) (fk qn31) (ft qn31) (fv qn31) zn34 iek iep), (oX5 r1 k1 k2 k3 (nI ct)), (k1, .inl (cA 0, 701, .inl fk)), (k2, .inl (cA 0, 701, .inl ft)), (k3, .inl (cA 1, 701, .inr (.inl fv))), (oX3 p0 pr pb pe pg p1 (nI nd) p2 p3 p4 p5 (nI cn) p6 (nI qn32) p7 p8 p9 (nI qn33)), (p2, .inl (cA 1, 10, .inr (.inl fna))), (p6, .inl (cA 1, 8, .inr (.inl fn37))), (p7, .inl (cA 0, 350, .inl fn38)), (p8, .inl (cA 0, 350, .inl fn39))] H := ⟨hP, hD⟩
            have hn49 := hn49 (hw.1.trans hr9)
            have hn50 := hn50 (hw.1.trans hr9)
            have hn51 := hn51 (hw.1.trans hr9)
            subst hr9
            refine lv_if_eq (tgt := 63) hx hb dX4_readBoth_43 (by decide) (fun c9 => absurd c9 (by decide)) (fun c55 => ?_)
            refine lv_aload_n hx hb dX4_readBoth_46 rfl (lv_at hl 2 rfl) ?_
            refine va_get (D := D) (ci := 8) (v := .ref p0) (C := RX4) (T := TX4) (N := 9) hx hb hts inX4 hown hK hP 0 rfl rfl 1 (by decide) (hts (.fieldLink RX4 25 "EscrowDesk$Reader" "plan" "LEscrowDesk$Plan;") (by decide +kernel)) (fun _ h9 => h9) rfl dX4_readBoth_47 ?_
            refine lv_bipush (v := 15) hx hb dX4_readBoth_50 (by decide) ?_
            refine lv_iconst (v := 0) hx hb dX4_readBoth_52 (by decide) ?_
            obtain ⟨hPc, hDc, hFc⟩ := PDq.cut (wc := [(oX3 p0 pr pb pe pg p1 (nI nd) p2 p3 p4 p5 (nI cn) p6 (nI qn32) p7 p8 p9 (nI qn33)), (p7, .inl (cA 0, 350, .inl fn38)), (p8, .inl (cA 0, 350, .inl fn39))]) hP hD hS hA [5, 8, 9] (by decide) rfl
            refine va_calli (va_runV (As := [.int 15, .int 0]) (rest := []) ⟨hx, hb, hml, hown, hts⟩ (x_addStep l D cA sa p0 p1 p2 p3 p4 p5 p6 p7 p8 p9 cn qn32 nd qn33 pr pb pe pg 15 0 fn38 fn39 H.size (by omega)) (cwV 2 hts gX4_readBoth_X3_addStep rfl rfl rfl (by decide +kernel) ⟨by show (0) + 1 ≤ 3 * (k9 + 1) + 21; omega, by show 8 + (3 + 11) + (0) ≤ 72 * (k9 + 1) + 344; omega⟩) ⟨Wd.blind, va_recv hK hPc (ci := 7) (q0 := 0) rfl rfl, fun U hU hW => ⟨rfl, Wd.call hPc hDc hK hC hZ hS hFc U hU hW⟩⟩ rfl rfl hl.1 rfl (lv_room (Nat.le_of_ble_eq_true rfl)) dX4_readBoth_53 ⟨(Nat.le_of_ble_eq_true rfl), (Nat.le_of_ble_eq_true rfl)⟩) hS (fun q _ h => hFc q h) hFc (fun rn56 u t H1 locs ht hvm hw hB hz1 hk1 hS => ?_)
            obtain ⟨fn57, fn58, hP1, hD1⟩ := hB
            rw [ht] at hP1
            obtain ⟨hP, hD⟩ := PDq.join (w := [(oX4 r0 r1 p0 (nI qn31) (fk qn31) (ft qn31) (fv qn31) zn34 iek iep), (oX5 r1 k1 k2 k3 (nI ct)), (k1, .inl (cA 0, 701, .inl fk)), (k2, .inl (cA 0, 701, .inl ft)), (k3, .inl (cA 1, 701, .inr (.inl fv))), (p2, .inl (cA 1, 10, .inr (.inl fna))), (p6, .inl (cA 1, 8, .inr (.inl fn37))), (oX3 p0 pr pb pe pg p1 (nI nd) p2 p3 p4 p5 (nI cn) p6 (nI qn32) p7 p8 p9 (nI (qn33 + 1))), (p7, .inl (cA 0, 350, .inl fn57)), (p8, .inl (cA 0, 350, .inl fn58))]) 7 hP hD [5, 8, 9] [0, 1, 2, 3, 4, 6, 7] rfl rfl (by decide) (by decide +kernel) hk1 hFc hP1 hD1 rfl
            generalize H1 = H at hP hS ⊢
            obtain rfl : rn56 = 1 := hw
            refine lv_if_eq (tgt := 63) hx hb dX4_readBoth_56 (by decide) (fun c9 => absurd c9 (by decide)) (fun c59 => ?_)
            refine lv_iconst (v := 1) hx hb dX4_readBoth_59 (by decide) ?_
            refine lv_goto (tgt := 64) hx hb dX4_readBoth_60 (by decide) ?_
            refine lv_istore_n (lv' := [(2, .int 1), (3, .int (nI i1)), (0, .ref r0), (1, .int (nI o9))]) hx hb dX4_readBoth_64 rfl hl (by decide) rfl (fun ls hl => ?_)
            refine lv_iinc (v := (nI (i1 + 1))) (lv' := [(3, .int (nI (i1 + 1))), (2, .int 1), (0, .ref r0), (1, .int (nI o9))]) hx hb dX4_readBoth_65 hl (k := 1) rfl (nI_1 _) (by decide) rfl (fun ls hl => ?_)
            refine lv_goto (tgt := 8) hx hb dX4_readBoth_68 (by decide) ?_
            obtain ⟨hP9, hD9⟩ := PDq.sub (ws' := [(oX4 r0 r1 p0 (nI qn31) (fk qn31) (ft qn31) (fv qn31) zn34 iek iep), (oX5 r1 k1 k2 k3 (nI ct)), (k1, .inl (cA 0, 701, .inl fk)), (k2, .inl (cA 0, 701, .inl ft)), (k3, .inl (cA 1, 701, .inr (.inl fv))), (oX3 p0 pr pb pe pg p1 (nI nd) p2 p3 p4 p5 (nI cn) p6 (nI qn32) p7 p8 p9 (nI (qn33 + 1))), (p2, .inl (cA 1, 10, .inr (.inl fna))), (p6, .inl (cA 1, 8, .inr (.inl fn37))), (p7, .inl (cA 0, 350, .inl fn57)), (p8, .inl (cA 0, 350, .inl fn58))]) hP hD [0, 1, 2, 3, 4, 7, 5, 6, 8, 9] (by decide +kernel) rfl
            exact ih1 (i1 + 1) zn40 qn31 zn34 qn32 (qn33 + 1) fn37 fn57 fn58 H _ ls (by omega) (by omega) hn41 hn44 (by omega) (by omega) hn42 hn46 (fun r9 h9 => hv7_1 r9 (P_and c27 hn51 h9)) hP9 hD9 hS (lv_sub hl [0, 1, 2, 3] rfl)
    obtain ⟨hP9, hD9⟩ := PDq.sub (ws' := [(oX4 r0 r1 p0 (nI qn2) (fk qn2) (ft qn2) (fv qn2) zn5 iek iep), (oX5 r1 k1 k2 k3 (nI ct)), (k1, .inl (cA 0, 701, .inl fk)), (k2, .inl (cA 0, 701, .inl ft)), (k3, .inl (cA 1, 701, .inr (.inl fv))), (oX3 p0 pr pb pe pg p1 (nI nd) p2 p3 p4 p5 (nI cn) p6 (nI qn3) p7 p8 p9 (nI qn4)), (p2, .inl (cA 1, 10, .inr (.inl fna))), (p6, .inl (cA 1, 8, .inr (.inl fn8))), (p7, .inl (cA 0, 350, .inl fn9)), (p8, .inl (cA 0, 350, .inl fn10))]) hP hD [0, 1, 2, 3, 4, 5, 6, 7, 8, 9] (by decide +kernel) rfl
    exact loop1 (700 - 0) 0 zn11 qn2 zn5 qn3 qn4 fn8 fn9 fn10 _ _ ls (by omega) (by omega) hn12 hn15 hn16 hn20 hn13 hn17 (fun r9 h9 => P_both hn22 h9) hP9 hD9 hS (lv_sub hl [0, 1, 2, 3] rfl)
