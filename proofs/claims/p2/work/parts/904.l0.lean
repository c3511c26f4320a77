set_option maxHeartbeats 4000000 in
set_option maxRecDepth 100000 in
/-- stringSize -/
theorem j_stringSize_look (l : Launch) (D : va_G) (cA : Nat → ClassId) (sa : Nat → Nat) (a : Int32) (sz : Nat) : Met l yJ6_stringSize_0f7a4 wsJ6_stringSize_0f7a4 ({ frames := 0, cells := 0, slots := 0, locals := 0 }) (va_Pc [.int a] (Wd D cA sa [] sz)) (va_Qi (fun (r : Int32) (_ : Unit) => ∃ n, n ≤ 11 ∧ r = nI n ∧ SZ a n) (fun (_ : Unit) t => Wq D (va_A [] sz) [] t) (va_A [] sz)) 0 0 (va_A [] sz) := by
  refine Met.ofW (cc := cJ6_stringSize_0f7a4) (maxL := 4) (ret := (some .int)) (by decide) rfl ?_
  intro p e s m args below meth c s₁ B hml hv
  obtain ⟨rfl, hsz, hP, hK, hD0, hC, hZ⟩ := hv
  have hx := B.exec
  have hb := B.bytes
  have hr := B.returns
  have hts := atoms_spec (ws := wsJ6_stringSize_0f7a4) B.pre
  have hown : s.vm.findClass RJ6 = some m.cls := findClass_of_methodNamed B.named
  have hlocks := B.notSynchronized
  subst hsz
  have hD := hD0.self (sz := s.heap.size)
  generalize hAe : va_A [] s.heap.size = A at hD hZ ⊢
  have hA : ∀ q : Nat, s.heap.size ≤ q → A q := fun q h => by rw [← hAe]; exact Or.inr h
  have hS : va_S A s.heap s.heap [] := va_S.rf
  have hP : va_P D vwCl [] s.heap := hP
  have hl := lv_entry ([.int a]) (n := 4) (Nat.le_of_ble_eq_true rfl)
  rw [lg_entry_eq]
  generalize (lg_sl ([.int a]) ++ List.replicate (4 - (lg_sl ([.int a])).length) Slot.unset).toArray = ls at hl ⊢
  have hl : lv_has ls 4 [(0, .int a)] := hl
  refine lv_iconst (v := 1) hx hb dJ6_stringSize_0f7a4_0 (by decide) ?_
  refine lv_istore_n (lv' := [(1, .int 1), (0, .int a)]) hx hb dJ6_stringSize_0f7a4_1 rfl hl (by decide) rfl (fun ls hl => ?_)
  refine lv_iload_n hx hb dJ6_stringSize_0f7a4_2 rfl (lv_at hl 1 rfl) ?_
  refine lv_if_lt (tgt := 11) hx hb dJ6_stringSize_0f7a4_3 (by decide) (fun c1 => ?_) (fun c1 => ?_)
  · skip
    obtain ⟨w9, hw9, ew9⟩ := ng_of (Int32.le_of_lt c1)
    refine lv_bipush (v := (-10)) hx hb dJ6_stringSize_0f7a4_11 (by decide) ?_
    refine lv_istore_n (lv' := [(2, .int (-10)), (1, .int 1), (0, .int a)]) hx hb dJ6_stringSize_0f7a4_13 rfl hl (by decide) rfl (fun ls hl => ?_)
    refine lv_iconst (v := 1) hx hb dJ6_stringSize_0f7a4_14 (by decide) ?_
    refine lv_istore_n (lv' := [(3, .int 1), (2, .int (-10)), (1, .int 1), (0, .int a)]) hx hb dJ6_stringSize_0f7a4_15 rfl hl (by decide) rfl (fun ls hl => ?_)
    refine lv_iload_n hx hb dJ6_stringSize_0f7a4_16 rfl (lv_at hl 0 rfl) ?_
    refine lv_bipush (v := 10) hx hb dJ6_stringSize_0f7a4_17 (by decide) ?_
    refine lv_icmp_ge (tgt := 42) hx hb dJ6_stringSize_0f7a4_19 (by decide) (fun c9 => absurd c9 (by decide)) (fun c2 => ?_)
    refine lv_iload_n hx hb dJ6_stringSize_0f7a4_22 rfl (lv_at hl 3 rfl) ?_
    refine lv_iload_n hx hb dJ6_stringSize_0f7a4_23 rfl (lv_at hl 1 rfl) ?_
    refine lv_icmp_le (tgt := 31) hx hb dJ6_stringSize_0f7a4_24 (by decide) (fun c3 => ?_) (fun c3 => ?_)
    · skip
      refine lv_bipush (v := 10) hx hb dJ6_stringSize_0f7a4_31 (by decide) ?_
      refine lv_iload_n hx hb dJ6_stringSize_0f7a4_33 rfl (lv_at hl 1 rfl) ?_
      refine lv_imul hx hb dJ6_stringSize_0f7a4_34 ?_
      refine lv_topi (fun yn4 eyn4 => ?_)
      obtain rfl : yn4 = (-100) := eyn4.trans (by first | rfl | decide +kernel)
      refine lv_istore_n (lv' := [(2, .int (-100)), (3, .int 1), (1, .int 1), (0, .int a)]) hx hb dJ6_stringSize_0f7a4_35 rfl hl (by decide) rfl (fun ls hl => ?_)
      refine lv_iinc (v := 2) (lv' := [(3, .int 2), (2, .int (-100)), (1, .int 1), (0, .int a)]) hx hb dJ6_stringSize_0f7a4_36 hl (k := 1) rfl (by first | rfl | decide +kernel) (by decide) rfl (fun ls hl => ?_)
      refine lv_goto (tgt := 16) hx hb dJ6_stringSize_0f7a4_39 (by decide) ?_
      refine lv_iload_n hx hb dJ6_stringSize_0f7a4_16 rfl (lv_at hl 0 rfl) ?_
      refine lv_bipush (v := 10) hx hb dJ6_stringSize_0f7a4_17 (by decide) ?_
      refine lv_icmp_ge (tgt := 42) hx hb dJ6_stringSize_0f7a4_19 (by decide) (fun c9 => absurd c9 (by decide)) (fun c5 => ?_)
      refine lv_iload_n hx hb dJ6_stringSize_0f7a4_22 rfl (lv_at hl 3 rfl) ?_
      refine lv_iload_n hx hb dJ6_stringSize_0f7a4_23 rfl (lv_at hl 1 rfl) ?_
      refine lv_icmp_le (tgt := 31) hx hb dJ6_stringSize_0f7a4_24 (by decide) (fun c6 => ?_) (fun c6 => ?_)
      · skip
        refine lv_bipush (v := 10) hx hb dJ6_stringSize_0f7a4_31 (by decide) ?_
        refine lv_iload_n hx hb dJ6_stringSize_0f7a4_33 rfl (lv_at hl 1 rfl) ?_
        refine lv_imul hx hb dJ6_stringSize_0f7a4_34 ?_
        refine lv_topi (fun yn7 eyn7 => ?_)
        obtain rfl : yn7 = (-1000) := eyn7.trans (by first | rfl | decide +kernel)
        refine lv_istore_n (lv' := [(2, .int (-1000)), (3, .int 2), (1, .int 1), (0, .int a)]) hx hb dJ6_stringSize_0f7a4_35 rfl hl (by decide) rfl (fun ls hl => ?_)
        refine lv_iinc (v := 3) (lv' := [(3, .int 3), (2, .int (-1000)), (1, .int 1), (0, .int a)]) hx hb dJ6_stringSize_0f7a4_36 hl (k := 1) rfl (by first | rfl | decide +kernel) (by decide) rfl (fun ls hl => ?_)
        refine lv_goto (tgt := 16) hx hb dJ6_stringSize_0f7a4_39 (by decide) ?_
        refine lv_iload_n hx hb dJ6_stringSize_0f7a4_16 rfl (lv_at hl 0 rfl) ?_
        refine lv_bipush (v := 10) hx hb dJ6_stringSize_0f7a4_17 (by decide) ?_
        refine lv_icmp_ge (tgt := 42) hx hb dJ6_stringSize_0f7a4_19 (by decide) (fun c9 => absurd c9 (by decide)) (fun c8 => ?_)
        refine lv_iload_n hx hb dJ6_stringSize_0f7a4_22 rfl (lv_at hl 3 rfl) ?_
        refine lv_iload_n hx hb dJ6_stringSize_0f7a4_23 rfl (lv_at hl 1 rfl) ?_
        refine lv_icmp_le (tgt := 31) hx hb dJ6_stringSize_0f7a4_24 (by decide) (fun c9 => ?_) (fun c9 => ?_)
        · skip
          refine lv_bipush (v := 10) hx hb dJ6_stringSize_0f7a4_31 (by decide) ?_
          refine lv_iload_n hx hb dJ6_stringSize_0f7a4_33 rfl (lv_at hl 1 rfl) ?_
          refine lv_imul hx hb dJ6_stringSize_0f7a4_34 ?_
          refine lv_topi (fun yn10 eyn10 => ?_)
          obtain rfl : yn10 = (-10000) := eyn10.trans (by first | rfl | decide +kernel)
          refine lv_istore_n (lv' := [(2, .int (-10000)), (3, .int 3), (1, .int 1), (0, .int a)]) hx hb dJ6_stringSize_0f7a4_35 rfl hl (by decide) rfl (fun ls hl => ?_)
          refine lv_iinc (v := 4) (lv' := [(3, .int 4), (2, .int (-10000)), (1, .int 1), (0, .int a)]) hx hb dJ6_stringSize_0f7a4_36 hl (k := 1) rfl (by first | rfl | decide +kernel) (by decide) rfl (fun ls hl => ?_)
          refine lv_goto (tgt := 16) hx hb dJ6_stringSize_0f7a4_39 (by decide) ?_
          refine lv_iload_n hx hb dJ6_stringSize_0f7a4_16 rfl (lv_at hl 0 rfl) ?_
          refine lv_bipush (v := 10) hx hb dJ6_stringSize_0f7a4_17 (by decide) ?_
          refine lv_icmp_ge (tgt := 42) hx hb dJ6_stringSize_0f7a4_19 (by decide) (fun c9 => absurd c9 (by decide)) (fun c11 => ?_)
          refine lv_iload_n hx hb dJ6_stringSize_0f7a4_22 rfl (lv_at hl 3 rfl) ?_
          refine lv_iload_n hx hb dJ6_stringSize_0f7a4_23 rfl (lv_at hl 1 rfl) ?_
          refine lv_icmp_le (tgt := 31) hx hb dJ6_stringSize_0f7a4_24 (by decide) (fun c12 => ?_) (fun c12 => ?_)
          · skip
            refine lv_bipush (v := 10) hx hb dJ6_stringSize_0f7a4_31 (by decide) ?_
            refine lv_iload_n hx hb dJ6_stringSize_0f7a4_33 rfl (lv_at hl 1 rfl) ?_
            refine lv_imul hx hb dJ6_stringSize_0f7a4_34 ?_
            refine lv_topi (fun yn13 eyn13 => ?_)
            obtain rfl : yn13 = (-100000) := eyn13.trans (by first | rfl | decide +kernel)
            refine lv_istore_n (lv' := [(2, .int (-100000)), (3, .int 4), (1, .int 1), (0, .int a)]) hx hb dJ6_stringSize_0f7a4_35 rfl hl (by decide) rfl (fun ls hl => ?_)
            refine lv_iinc (v := 5) (lv' := [(3, .int 5), (2, .int (-100000)), (1, .int 1), (0, .int a)]) hx hb dJ6_stringSize_0f7a4_36 hl (k := 1) rfl (by first | rfl | decide +kernel) (by decide) rfl (fun ls hl => ?_)
            refine lv_goto (tgt := 16) hx hb dJ6_stringSize_0f7a4_39 (by decide) ?_
            refine lv_iload_n hx hb dJ6_stringSize_0f7a4_16 rfl (lv_at hl 0 rfl) ?_
            refine lv_bipush (v := 10) hx hb dJ6_stringSize_0f7a4_17 (by decide) ?_
            refine lv_icmp_ge (tgt := 42) hx hb dJ6_stringSize_0f7a4_19 (by decide) (fun c9 => absurd c9 (by decide)) (fun c14 => ?_)
            refine lv_iload_n hx hb dJ6_stringSize_0f7a4_22 rfl (lv_at hl 3 rfl) ?_
            refine lv_iload_n hx hb dJ6_stringSize_0f7a4_23 rfl (lv_at hl 1 rfl) ?_
            refine lv_icmp_le (tgt := 31) hx hb dJ6_stringSize_0f7a4_24 (by decide) (fun c15 => ?_) (fun c15 => ?_)
            · skip
              refine lv_bipush (v := 10) hx hb dJ6_stringSize_0f7a4_31 (by decide) ?_
              refine lv_iload_n hx hb dJ6_stringSize_0f7a4_33 rfl (lv_at hl 1 rfl) ?_
              refine lv_imul hx hb dJ6_stringSize_0f7a4_34 ?_
              refine lv_topi (fun yn16 eyn16 => ?_)
              obtain rfl : yn16 = (-1000000) := eyn16.trans (by first | rfl | decide +kernel)
              refine lv_istore_n (lv' := [(2, .int (-1000000)), (3, .int 5), (1, .int 1), (0, .int a)]) hx hb dJ6_stringSize_0f7a4_35 rfl hl (by decide) rfl (fun ls hl => ?_)
              refine lv_iinc (v := 6) (lv' := [(3, .int 6), (2, .int (-1000000)), (1, .int 1), (0, .int a)]) hx hb dJ6_stringSize_0f7a4_36 hl (k := 1) rfl (by first | rfl | decide +kernel) (by decide) rfl (fun ls hl => ?_)
              refine lv_goto (tgt := 16) hx hb dJ6_stringSize_0f7a4_39 (by decide) ?_
              refine lv_iload_n hx hb dJ6_stringSize_0f7a4_16 rfl (lv_at hl 0 rfl) ?_
              refine lv_bipush (v := 10) hx hb dJ6_stringSize_0f7a4_17 (by decide) ?_
              refine lv_icmp_ge (tgt := 42) hx hb dJ6_stringSize_0f7a4_19 (by decide) (fun c9 => absurd c9 (by decide)) (fun c17 => ?_)
              refine lv_iload_n hx hb dJ6_stringSize_0f7a4_22 rfl (lv_at hl 3 rfl) ?_
              refine lv_iload_n hx hb dJ6_stringSize_0f7a4_23 rfl (lv_at hl 1 rfl) ?_
              refine lv_icmp_le (tgt := 31) hx hb dJ6_stringSize_0f7a4_24 (by decide) (fun c18 => ?_) (fun c18 => ?_)
              · skip
                refine lv_bipush (v := 10) hx hb dJ6_stringSize_0f7a4_31 (by decide) ?_
                refine lv_iload_n hx hb dJ6_stringSize_0f7a4_33 rfl (lv_at hl 1 rfl) ?_
                refine lv_imul hx hb dJ6_stringSize_0f7a4_34 ?_
                refine lv_topi (fun yn19 eyn19 => ?_)
                obtain rfl : yn19 = (-10000000) := eyn19.trans (by first | rfl | decide +kernel)
                refine lv_istore_n (lv' := [(2, .int (-10000000)), (3, .int 6), (1, .int 1), (0, .int a)]) hx hb dJ6_stringSize_0f7a4_35 rfl hl (by decide) rfl (fun ls hl => ?_)
                refine lv_iinc (v := 7) (lv' := [(3, .int 7), (2, .int (-10000000)), (1, .int 1), (0, .int a)]) hx hb dJ6_stringSize_0f7a4_36 hl (k := 1) rfl (by first | rfl | decide +kernel) (by decide) rfl (fun ls hl => ?_)
                refine lv_goto (tgt := 16) hx hb dJ6_stringSize_0f7a4_39 (by decide) ?_
                refine lv_iload_n hx hb dJ6_stringSize_0f7a4_16 rfl (lv_at hl 0 rfl) ?_
                refine lv_bipush (v := 10) hx hb dJ6_stringSize_0f7a4_17 (by decide) ?_
                refine lv_icmp_ge (tgt := 42) hx hb dJ6_stringSize_0f7a4_19 (by decide) (fun c9 => absurd c9 (by decide)) (fun c20 => ?_)
                refine lv_iload_n hx hb dJ6_stringSize_0f7a4_22 rfl (lv_at hl 3 rfl) ?_
                refine lv_iload_n hx hb dJ6_stringSize_0f7a4_23 rfl (lv_at hl 1 rfl) ?_
                refine lv_icmp_le (tgt := 31) hx hb dJ6_stringSize_0f7a4_24 (by decide) (fun c21 => ?_) (fun c21 => ?_)
                · skip
                  refine lv_bipush (v := 10) hx hb dJ6_stringSize_0f7a4_31 (by decide) ?_
                  refine lv_iload_n hx hb dJ6_stringSize_0f7a4_33 rfl (lv_at hl 1 rfl) ?_
                  refine lv_imul hx hb dJ6_stringSize_0f7a4_34 ?_
                  refine lv_topi (fun yn22 eyn22 => ?_)
                  obtain rfl : yn22 = (-100000000) := eyn22.trans (by first | rfl | decide +kernel)
                  refine lv_istore_n (lv' := [(2, .int (-100000000)), (3, .int 7), (1, .int 1), (0, .int a)]) hx hb dJ6_stringSize_0f7a4_35 rfl hl (by decide) rfl (fun ls hl => ?_)
                  refine lv_iinc (v := 8) (lv' := [(3, .int 8), (2, .int (-100000000)), (1, .int 1), (0, .int a)]) hx hb dJ6_stringSize_0f7a4_36 hl (k := 1) rfl (by first | rfl | decide +kernel) (by decide) rfl (fun ls hl => ?_)
                  refine lv_goto (tgt := 16) hx hb dJ6_stringSize_0f7a4_39 (by decide) ?_
                  refine lv_iload_n hx hb dJ6_stringSize_0f7a4_16 rfl (lv_at hl 0 rfl) ?_
                  refine lv_bipush (v := 10) hx hb dJ6_stringSize_0f7a4_17 (by decide) ?_
                  refine lv_icmp_ge (tgt := 42) hx hb dJ6_stringSize_0f7a4_19 (by decide) (fun c9 => absurd c9 (by decide)) (fun c23 => ?_)
                  refine lv_iload_n hx hb dJ6_stringSize_0f7a4_22 rfl (lv_at hl 3 rfl) ?_
                  refine lv_iload_n hx hb dJ6_stringSize_0f7a4_23 rfl (lv_at hl 1 rfl) ?_
                  refine lv_icmp_le (tgt := 31) hx hb dJ6_stringSize_0f7a4_24 (by decide) (fun c24 => ?_) (fun c24 => ?_)
                  · skip
                    refine lv_bipush (v := 10) hx hb dJ6_stringSize_0f7a4_31 (by decide) ?_
                    refine lv_iload_n hx hb dJ6_stringSize_0f7a4_33 rfl (lv_at hl 1 rfl) ?_
                    refine lv_imul hx hb dJ6_stringSize_0f7a4_34 ?_
                    refine lv_topi (fun yn25 eyn25 => ?_)
                    obtain rfl : yn25 = (-1000000000) := eyn25.trans (by first | rfl | decide +kernel)
                    refine lv_istore_n (lv' := [(2, .int (-1000000000)), (3, .int 8), (1, .int 1), (0, .int a)]) hx hb dJ6_stringSize_0f7a4_35 rfl hl (by decide) rfl (fun ls hl => ?_)
                    refine lv_iinc (v := 9) (lv' := [(3, .int 9), (2, .int (-1000000000)), (1, .int 1), (0, .int a)]) hx hb dJ6_stringSize_0f7a4_36 hl (k := 1) rfl (by first | rfl | decide +kernel) (by decide) rfl (fun ls hl => ?_)
                    refine lv_goto (tgt := 16) hx hb dJ6_stringSize_0f7a4_39 (by decide) ?_
                    refine lv_iload_n hx hb dJ6_stringSize_0f7a4_16 rfl (lv_at hl 0 rfl) ?_
                    refine lv_bipush (v := 10) hx hb dJ6_stringSize_0f7a4_17 (by decide) ?_
                    refine lv_icmp_ge (tgt := 42) hx hb dJ6_stringSize_0f7a4_19 (by decide) (fun c9 => absurd c9 (by decide)) (fun c26 => ?_)
                    refine lv_iload_n hx hb dJ6_stringSize_0f7a4_22 rfl (lv_at hl 3 rfl) ?_
                    refine lv_iload_n hx hb dJ6_stringSize_0f7a4_23 rfl (lv_at hl 1 rfl) ?_
                    refine lv_icmp_le (tgt := 31) hx hb dJ6_stringSize_0f7a4_24 (by decide) (fun c27 => ?_) (fun c27 => ?_)
                    · skip
                      refine lv_bipush (v := 10) hx hb dJ6_stringSize_0f7a4_31 (by decide) ?_
                      refine lv_iload_n hx hb dJ6_stringSize_0f7a4_33 rfl (lv_at hl 1 rfl) ?_
                      refine lv_imul hx hb dJ6_stringSize_0f7a4_34 ?_
                      refine lv_topi (fun yn28 eyn28 => ?_)
                      obtain rfl : yn28 = (-1410065408) := eyn28.trans (by first | rfl | decide +kernel)
                      refine lv_istore_n (lv' := [(2, .int (-1410065408)), (3, .int 9), (1, .int 1), (0, .int a)]) hx hb dJ6_stringSize_0f7a4_35 rfl hl (by decide) rfl (fun ls hl => ?_)
                      refine lv_iinc (v := 10) (lv' := [(3, .int 10), (2, .int (-1410065408)), (1, .int 1), (0, .int a)]) hx hb dJ6_stringSize_0f7a4_36 hl (k := 1) rfl (by first | rfl | decide +kernel) (by decide) rfl (fun ls hl => ?_)
                      refine lv_goto (tgt := 16) hx hb dJ6_stringSize_0f7a4_39 (by decide) ?_
                      refine lv_iload_n hx hb dJ6_stringSize_0f7a4_16 rfl (lv_at hl 0 rfl) ?_
                      refine lv_bipush (v := 10) hx hb dJ6_stringSize_0f7a4_17 (by decide) ?_
                      refine lv_icmp_ge (tgt := 42) hx hb dJ6_stringSize_0f7a4_19 (by decide) (fun c29 => ?_) (fun c9 => absurd c9 (by decide))
                      refine lv_bipush (v := 10) hx hb dJ6_stringSize_0f7a4_42 (by decide) ?_
                      refine lv_iload_n hx hb dJ6_stringSize_0f7a4_44 rfl (lv_at hl 2 rfl) ?_
                      refine lv_iadd hx hb dJ6_stringSize_0f7a4_45 ?_
                      refine lv_topi (fun yn30 eyn30 => ?_)
                      obtain rfl : yn30 = 11 := eyn30.trans (by first | rfl | decide +kernel)
                      have hP9 := hP.sub (ws' := []) [] rfl
                      have hD9 := hD.sub (ws' := []) [] (by decide) rfl
                      refine W.widen (k := 0) (n := 0) (Nat.le_of_ble_eq_true rfl) (Nat.le_of_ble_eq_true rfl) ?_
                      exact (W.iret (v := 11) hx hb hr (fun t ht hW => ⟨⟨11, (), rfl, ⟨11, by omega, rfl, w9, hw9, Or.inl ⟨c1, ew9, by rw [sz_end hw9 ew9 c27 (by decide)]⟩⟩, by rw [ht]; exact hP9, hD9⟩, hS.F ht⟩) hS.2.2 dJ6_stringSize_0f7a4_46)
                    · skip
                      refine lv_iload_n hx hb dJ6_stringSize_0f7a4_27 rfl (lv_at hl 0 rfl) ?_
                      refine lv_iload_n hx hb dJ6_stringSize_0f7a4_28 rfl (lv_at hl 2 rfl) ?_
                      refine lv_iadd hx hb dJ6_stringSize_0f7a4_29 ?_
                      refine lv_topi (fun yn31 eyn31 => ?_)
                      obtain rfl : yn31 = 10 := eyn31.trans (by first | rfl | decide +kernel)
                      have hP9 := hP.sub (ws' := []) [] rfl
                      have hD9 := hD.sub (ws' := []) [] (by decide) rfl
                      refine W.widen (k := 0) (n := 0) (Nat.le_of_ble_eq_true rfl) (Nat.le_of_ble_eq_true rfl) ?_
                      exact (W.iret (v := 10) hx hb hr (fun t ht hW => ⟨⟨10, (), rfl, ⟨10, by omega, rfl, w9, hw9, Or.inl ⟨c1, ew9, by rw [sz_mid hw9 ew9 (i := 9) (by decide) (by decide) (Or.inr ⟨c24, by decide⟩) c27 (by decide)]⟩⟩, by rw [ht]; exact hP9, hD9⟩, hS.F ht⟩) hS.2.2 dJ6_stringSize_0f7a4_30)
                  · skip
                    refine lv_iload_n hx hb dJ6_stringSize_0f7a4_27 rfl (lv_at hl 0 rfl) ?_
                    refine lv_iload_n hx hb dJ6_stringSize_0f7a4_28 rfl (lv_at hl 2 rfl) ?_
                    refine lv_iadd hx hb dJ6_stringSize_0f7a4_29 ?_
                    refine lv_topi (fun yn32 eyn32 => ?_)
                    obtain rfl : yn32 = 9 := eyn32.trans (by first | rfl | decide +kernel)
                    have hP9 := hP.sub (ws' := []) [] rfl
                    have hD9 := hD.sub (ws' := []) [] (by decide) rfl
                    refine W.widen (k := 0) (n := 0) (Nat.le_of_ble_eq_true rfl) (Nat.le_of_ble_eq_true rfl) ?_
                    exact (W.iret (v := 9) hx hb hr (fun t ht hW => ⟨⟨9, (), rfl, ⟨9, by omega, rfl, w9, hw9, Or.inl ⟨c1, ew9, by rw [sz_mid hw9 ew9 (i := 8) (by decide) (by decide) (Or.inr ⟨c21, by decide⟩) c24 (by decide)]⟩⟩, by rw [ht]; exact hP9, hD9⟩, hS.F ht⟩) hS.2.2 dJ6_stringSize_0f7a4_30)
                · skip
                  refine lv_iload_n hx hb dJ6_stringSize_0f7a4_27 rfl (lv_at hl 0 rfl) ?_
                  refine lv_iload_n hx hb dJ6_stringSize_0f7a4_28 rfl (lv_at hl 2 rfl) ?_
                  refine lv_iadd hx hb dJ6_stringSize_0f7a4_29 ?_
                  refine lv_topi (fun yn33 eyn33 => ?_)
                  obtain rfl : yn33 = 8 := eyn33.trans (by first | rfl | decide +kernel)
                  have hP9 := hP.sub (ws' := []) [] rfl
                  have hD9 := hD.sub (ws' := []) [] (by decide) rfl
                  refine W.widen (k := 0) (n := 0) (Nat.le_of_ble_eq_true rfl) (Nat.le_of_ble_eq_true rfl) ?_
                  exact (W.iret (v := 8) hx hb hr (fun t ht hW => ⟨⟨8, (), rfl, ⟨8, by omega, rfl, w9, hw9, Or.inl ⟨c1, ew9, by rw [sz_mid hw9 ew9 (i := 7) (by decide) (by decide) (Or.inr ⟨c18, by decide⟩) c21 (by decide)]⟩⟩, by rw [ht]; exact hP9, hD9⟩, hS.F ht⟩) hS.2.2 dJ6_stringSize_0f7a4_30)
              · skip
                refine lv_iload_n hx hb dJ6_stringSize_0f7a4_27 rfl (lv_at hl 0 rfl) ?_
                refine lv_iload_n hx hb dJ6_stringSize_0f7a4_28 rfl (lv_at hl 2 rfl) ?_
                refine lv_iadd hx hb dJ6_stringSize_0f7a4_29 ?_
                refine lv_topi (fun yn34 eyn34 => ?_)
                obtain rfl : yn34 = 7 := eyn34.trans (by first | rfl | decide +kernel)
                have hP9 := hP.sub (ws' := []) [] rfl
                have hD9 := hD.sub (ws' := []) [] (by decide) rfl
                refine W.widen (k := 0) (n := 0) (Nat.le_of_ble_eq_true rfl) (Nat.le_of_ble_eq_true rfl) ?_
                exact (W.iret (v := 7) hx hb hr (fun t ht hW => ⟨⟨7, (), rfl, ⟨7, by omega, rfl, w9, hw9, Or.inl ⟨c1, ew9, by rw [sz_mid hw9 ew9 (i := 6) (by decide) (by decide) (Or.inr ⟨c15, by decide⟩) c18 (by decide)]⟩⟩, by rw [ht]; exact hP9, hD9⟩, hS.F ht⟩) hS.2.2 dJ6_stringSize_0f7a4_30)
            · skip
              refine lv_iload_n hx hb dJ6_stringSize_0f7a4_27 rfl (lv_at hl 0 rfl) ?_
              refine lv_iload_n hx hb dJ6_stringSize_0f7a4_28 rfl (lv_at hl 2 rfl) ?_
              refine lv_iadd hx hb dJ6_stringSize_0f7a4_29 ?_
              refine lv_topi (fun yn35 eyn35 => ?_)
              obtain rfl : yn35 = 6 := eyn35.trans (by first | rfl | decide +kernel)
              have hP9 := hP.sub (ws' := []) [] rfl
              have hD9 := hD.sub (ws' := []) [] (by decide) rfl
              refine W.widen (k := 0) (n := 0) (Nat.le_of_ble_eq_true rfl) (Nat.le_of_ble_eq_true rfl) ?_
              exact (W.iret (v := 6) hx hb hr (fun t ht hW => ⟨⟨6, (), rfl, ⟨6, by omega, rfl, w9, hw9, Or.inl ⟨c1, ew9, by rw [sz_mid hw9 ew9 (i := 5) (by decide) (by decide) (Or.inr ⟨c12, by decide⟩) c15 (by decide)]⟩⟩, by rw [ht]; exact hP9, hD9⟩, hS.F ht⟩) hS.2.2 dJ6_stringSize_0f7a4_30)
          · skip
            refine lv_iload_n hx hb dJ6_stringSize_0f7a4_27 rfl (lv_at hl 0 rfl) ?_
            refine lv_iload_n hx hb dJ6_stringSize_0f7a4_28 rfl (lv_at hl 2 rfl) ?_
            refine lv_iadd hx hb dJ6_stringSize_0f7a4_29 ?_
            refine lv_topi (fun yn36 eyn36 => ?_)
            obtain rfl : yn36 = 5 := eyn36.trans (by first | rfl | decide +kernel)
            have hP9 := hP.sub (ws' := []) [] rfl
            have hD9 := hD.sub (ws' := []) [] (by decide) rfl
            refine W.widen (k := 0) (n := 0) (Nat.le_of_ble_eq_true rfl) (Nat.le_of_ble_eq_true rfl) ?_
            exact (W.iret (v := 5) hx hb hr (fun t ht hW => ⟨⟨5, (), rfl, ⟨5, by omega, rfl, w9, hw9, Or.inl ⟨c1, ew9, by rw [sz_mid hw9 ew9 (i := 4) (by decide) (by decide) (Or.inr ⟨c9, by decide⟩) c12 (by decide)]⟩⟩, by rw [ht]; exact hP9, hD9⟩, hS.F ht⟩) hS.2.2 dJ6_stringSize_0f7a4_30)
        · skip
          refine lv_iload_n hx hb dJ6_stringSize_0f7a4_27 rfl (lv_at hl 0 rfl) ?_
          refine lv_iload_n hx hb dJ6_stringSize_0f7a4_28 rfl (lv_at hl 2 rfl) ?_
          refine lv_iadd hx hb dJ6_stringSize_0f7a4_29 ?_
          refine lv_topi (fun yn37 eyn37 => ?_)
          obtain rfl : yn37 = 4 := eyn37.trans (by first | rfl | decide +kernel)
          have hP9 := hP.sub (ws' := []) [] rfl
          have hD9 := hD.sub (ws' := []) [] (by decide) rfl
          refine W.widen (k := 0) (n := 0) (Nat.le_of_ble_eq_true rfl) (Nat.le_of_ble_eq_true rfl) ?_
          exact (W.iret (v := 4) hx hb hr (fun t ht hW => ⟨⟨4, (), rfl, ⟨4, by omega, rfl, w9, hw9, Or.inl ⟨c1, ew9, by rw [sz_mid hw9 ew9 (i := 3) (by decide) (by decide) (Or.inr ⟨c6, by decide⟩) c9 (by decide)]⟩⟩, by rw [ht]; exact hP9, hD9⟩, hS.F ht⟩) hS.2.2 dJ6_stringSize_0f7a4_30)
      · skip
        refine lv_iload_n hx hb dJ6_stringSize_0f7a4_27 rfl (lv_at hl 0 rfl) ?_
        refine lv_iload_n hx hb dJ6_stringSize_0f7a4_28 rfl (lv_at hl 2 rfl) ?_
        refine lv_iadd hx hb dJ6_stringSize_0f7a4_29 ?_
        refine lv_topi (fun yn38 eyn38 => ?_)
        obtain rfl : yn38 = 3 := eyn38.trans (by first | rfl | decide +kernel)
        have hP9 := hP.sub (ws' := []) [] rfl
        have hD9 := hD.sub (ws' := []) [] (by decide) rfl
        refine W.widen (k := 0) (n := 0) (Nat.le_of_ble_eq_true rfl) (Nat.le_of_ble_eq_true rfl) ?_
        exact (W.iret (v := 3) hx hb hr (fun t ht hW => ⟨⟨3, (), rfl, ⟨3, by omega, rfl, w9, hw9, Or.inl ⟨c1, ew9, by rw [sz_mid hw9 ew9 (i := 2) (by decide) (by decide) (Or.inr ⟨c3, by decide⟩) c6 (by decide)]⟩⟩, by rw [ht]; exact hP9, hD9⟩, hS.F ht⟩) hS.2.2 dJ6_stringSize_0f7a4_30)
    · skip
      refine lv_iload_n hx hb dJ6_stringSize_0f7a4_27 rfl (lv_at hl 0 rfl) ?_
      refine lv_iload_n hx hb dJ6_stringSize_0f7a4_28 rfl (lv_at hl 2 rfl) ?_
      refine lv_iadd hx hb dJ6_stringSize_0f7a4_29 ?_
      refine lv_topi (fun yn39 eyn39 => ?_)
      obtain rfl : yn39 = 2 := eyn39.trans (by first | rfl | decide +kernel)
      have hP9 := hP.sub (ws' := []) [] rfl
      have hD9 := hD.sub (ws' := []) [] (by decide) rfl
      refine W.widen (k := 0) (n := 0) (Nat.le_of_ble_eq_true rfl) (Nat.le_of_ble_eq_true rfl) ?_
      exact (W.iret (v := 2) hx hb hr (fun t ht hW => ⟨⟨2, (), rfl, ⟨2, by omega, rfl, w9, hw9, Or.inl ⟨c1, ew9, by rw [sz_mid hw9 ew9 (i := 1) (by decide) (by decide) (Or.inl rfl) c3 (by decide)]⟩⟩, by rw [ht]; exact hP9, hD9⟩, hS.F ht⟩) hS.2.2 dJ6_stringSize_0f7a4_30)
  · skip
    obtain ⟨w9, hw9, ew9⟩ := ng_of (ng_neg c1)
    refine lv_iconst (v := 0) hx hb dJ6_stringSize_0f7a4_6 (by decide) ?_
    refine lv_istore_n (lv' := [(1, .int 0), (0, .int a)]) hx hb dJ6_stringSize_0f7a4_7 rfl hl (by decide) rfl (fun ls hl => ?_)
    refine lv_iload_n hx hb dJ6_stringSize_0f7a4_8 rfl (lv_at hl 1 rfl) ?_
    refine lv_ineg hx hb dJ6_stringSize_0f7a4_9 ?_
    refine lv_topi (fun yn40 eyn40 => ?_)
    have ew8 : yn40 = ngI w9 := eyn40.trans ew9
    refine lv_istore_n (lv' := [(0, .int yn40), (1, .int 0)]) hx hb dJ6_stringSize_0f7a4_10 rfl hl (by decide) rfl (fun ls hl => ?_)
    refine lv_bipush (v := (-10)) hx hb dJ6_stringSize_0f7a4_11 (by decide) ?_
    refine lv_istore_n (lv' := [(2, .int (-10)), (0, .int yn40), (1, .int 0)]) hx hb dJ6_stringSize_0f7a4_13 rfl hl (by decide) rfl (fun ls hl => ?_)
    refine lv_iconst (v := 1) hx hb dJ6_stringSize_0f7a4_14 (by decide) ?_
    refine lv_istore_n (lv' := [(3, .int 1), (2, .int (-10)), (0, .int yn40), (1, .int 0)]) hx hb dJ6_stringSize_0f7a4_15 rfl hl (by decide) rfl (fun ls hl => ?_)
    refine lv_iload_n hx hb dJ6_stringSize_0f7a4_16 rfl (lv_at hl 0 rfl) ?_
    refine lv_bipush (v := 10) hx hb dJ6_stringSize_0f7a4_17 (by decide) ?_
    refine lv_icmp_ge (tgt := 42) hx hb dJ6_stringSize_0f7a4_19 (by decide) (fun c9 => absurd c9 (by decide)) (fun c41 => ?_)
    refine lv_iload_n hx hb dJ6_stringSize_0f7a4_22 rfl (lv_at hl 2 rfl) ?_
    refine lv_iload_n hx hb dJ6_stringSize_0f7a4_23 rfl (lv_at hl 1 rfl) ?_
    refine lv_icmp_le (tgt := 31) hx hb dJ6_stringSize_0f7a4_24 (by decide) (fun c42 => ?_) (fun c42 => ?_)
    · skip
      refine lv_bipush (v := 10) hx hb dJ6_stringSize_0f7a4_31 (by decide) ?_
      refine lv_iload_n hx hb dJ6_stringSize_0f7a4_33 rfl (lv_at hl 1 rfl) ?_
      refine lv_imul hx hb dJ6_stringSize_0f7a4_34 ?_
      refine lv_topi (fun yn43 eyn43 => ?_)
      obtain rfl : yn43 = (-100) := eyn43.trans (by first | rfl | decide +kernel)
      refine lv_istore_n (lv' := [(2, .int (-100)), (3, .int 1), (0, .int yn40), (1, .int 0)]) hx hb dJ6_stringSize_0f7a4_35 rfl hl (by decide) rfl (fun ls hl => ?_)
      refine lv_iinc (v := 2) (lv' := [(3, .int 2), (2, .int (-100)), (0, .int yn40), (1, .int 0)]) hx hb dJ6_stringSize_0f7a4_36 hl (k := 1) rfl (by first | rfl | decide +kernel) (by decide) rfl (fun ls hl => ?_)
      refine lv_goto (tgt := 16) hx hb dJ6_stringSize_0f7a4_39 (by decide) ?_
      refine lv_iload_n hx hb dJ6_stringSize_0f7a4_16 rfl (lv_at hl 0 rfl) ?_
      refine lv_bipush (v := 10) hx hb dJ6_stringSize_0f7a4_17 (by decide) ?_
      refine lv_icmp_ge (tgt := 42) hx hb dJ6_stringSize_0f7a4_19 (by decide) (fun c9 => absurd c9 (by decide)) (fun c44 => ?_)
      refine lv_iload_n hx hb dJ6_stringSize_0f7a4_22 rfl (lv_at hl 2 rfl) ?_
      refine lv_iload_n hx hb dJ6_stringSize_0f7a4_23 rfl (lv_at hl 1 rfl) ?_
      refine lv_icmp_le (tgt := 31) hx hb dJ6_stringSize_0f7a4_24 (by decide) (fun c45 => ?_) (fun c45 => ?_)
      · skip
        refine lv_bipush (v := 10) hx hb dJ6_stringSize_0f7a4_31 (by decide) ?_
        refine lv_iload_n hx hb dJ6_stringSize_0f7a4_33 rfl (lv_at hl 1 rfl) ?_
        refine lv_imul hx hb dJ6_stringSize_0f7a4_34 ?_
        refine lv_topi (fun yn46 eyn46 => ?_)
        obtain rfl : yn46 = (-1000) := eyn46.trans (by first | rfl | decide +kernel)
        refine lv_istore_n (lv' := [(2, .int (-1000)), (3, .int 2), (0, .int yn40), (1, .int 0)]) hx hb dJ6_stringSize_0f7a4_35 rfl hl (by decide) rfl (fun ls hl => ?_)
        refine lv_iinc (v := 3) (lv' := [(3, .int 3), (2, .int (-1000)), (0, .int yn40), (1, .int 0)]) hx hb dJ6_stringSize_0f7a4_36 hl (k := 1) rfl (by first | rfl | decide +kernel) (by decide) rfl (fun ls hl => ?_)
        refine lv_goto (tgt := 16) hx hb dJ6_stringSize_0f7a4_39 (by decide) ?_
        refine lv_iload_n hx hb dJ6_stringSize_0f7a4_16 rfl (lv_at hl 0 rfl) ?_
        refine lv_bipush (v := 10) hx hb dJ6_stringSize_0f7a4_17 (by decide) ?_
        refine lv_icmp_ge (tgt := 42) hx hb dJ6_stringSize_0f7a4_19 (by decide) (fun c9 => absurd c9 (by decide)) (fun c47 => ?_)
        refine lv_iload_n hx hb dJ6_stringSize_0f7a4_22 rfl (lv_at hl 2 rfl) ?_
        refine lv_iload_n hx hb dJ6_stringSize_0f7a4_23 rfl (lv_at hl 1 rfl) ?_
        refine lv_icmp_le (tgt := 31) hx hb dJ6_stringSize_0f7a4_24 (by decide) (fun c48 => ?_) (fun c48 => ?_)
        · skip
          refine lv_bipush (v := 10) hx hb dJ6_stringSize_0f7a4_31 (by decide) ?_
          refine lv_iload_n hx hb dJ6_stringSize_0f7a4_33 rfl (lv_at hl 1 rfl) ?_
          refine lv_imul hx hb dJ6_stringSize_0f7a4_34 ?_
          refine lv_topi (fun yn49 eyn49 => ?_)
          obtain rfl : yn49 = (-10000) := eyn49.trans (by first | rfl | decide +kernel)
          refine lv_istore_n (lv' := [(2, .int (-10000)), (3, .int 3), (0, .int yn40), (1, .int 0)]) hx hb dJ6_stringSize_0f7a4_35 rfl hl (by decide) rfl (fun ls hl => ?_)
          refine lv_iinc (v := 4) (lv' := [(3, .int 4), (2, .int (-10000)), (0, .int yn40), (1, .int 0)]) hx hb dJ6_stringSize_0f7a4_36 hl (k := 1) rfl (by first | rfl | decide +kernel) (by decide) rfl (fun ls hl => ?_)
          refine lv_goto (tgt := 16) hx hb dJ6_stringSize_0f7a4_39 (by decide) ?_
          refine lv_iload_n hx hb dJ6_stringSize_0f7a4_16 rfl (lv_at hl 0 rfl) ?_
          refine lv_bipush (v := 10) hx hb dJ6_stringSize_0f7a4_17 (by decide) ?_
          refine lv_icmp_ge (tgt := 42) hx hb dJ6_stringSize_0f7a4_19 (by decide) (fun c9 => absurd c9 (by decide)) (fun c50 => ?_)
          refine lv_iload_n hx hb dJ6_stringSize_0f7a4_22 rfl (lv_at hl 2 rfl) ?_
          refine lv_iload_n hx hb dJ6_stringSize_0f7a4_23 rfl (lv_at hl 1 rfl) ?_
          refine lv_icmp_le (tgt := 31) hx hb dJ6_stringSize_0f7a4_24 (by decide) (fun c51 => ?_) (fun c51 => ?_)
          · skip
            refine lv_bipush (v := 10) hx hb dJ6_stringSize_0f7a4_31 (by decide) ?_
            refine lv_iload_n hx hb dJ6_stringSize_0f7a4_33 rfl (lv_at hl 1 rfl) ?_
            refine lv_imul hx hb dJ6_stringSize_0f7a4_34 ?_
            refine lv_topi (fun yn52 eyn52 => ?_)
            obtain rfl : yn52 = (-100000) := eyn52.trans (by first | rfl | decide +kernel)
            refine lv_istore_n (lv' := [(2, .int (-100000)), (3, .int 4), (0, .int yn40), (1, .int 0)]) hx hb dJ6_stringSize_0f7a4_35 rfl hl (by decide) rfl (fun ls hl => ?_)
            refine lv_iinc (v := 5) (lv' := [(3, .int 5), (2, .int (-100000)), (0, .int yn40), (1, .int 0)]) hx hb dJ6_stringSize_0f7a4_36 hl (k := 1) rfl (by first | rfl | decide +kernel) (by decide) rfl (fun ls hl => ?_)
            refine lv_goto (tgt := 16) hx hb dJ6_stringSize_0f7a4_39 (by decide) ?_
            refine lv_iload_n hx hb dJ6_stringSize_0f7a4_16 rfl (lv_at hl 0 rfl) ?_
            refine lv_bipush (v := 10) hx hb dJ6_stringSize_0f7a4_17 (by decide) ?_
            refine lv_icmp_ge (tgt := 42) hx hb dJ6_stringSize_0f7a4_19 (by decide) (fun c9 => absurd c9 (by decide)) (fun c53 => ?_)
            refine lv_iload_n hx hb dJ6_stringSize_0f7a4_22 rfl (lv_at hl 2 rfl) ?_
            refine lv_iload_n hx hb dJ6_stringSize_0f7a4_23 rfl (lv_at hl 1 rfl) ?_
            refine lv_icmp_le (tgt := 31) hx hb dJ6_stringSize_0f7a4_24 (by decide) (fun c54 => ?_) (fun c54 => ?_)
            · skip
              refine lv_bipush (v := 10) hx hb dJ6_stringSize_0f7a4_31 (by decide) ?_
              refine lv_iload_n hx hb dJ6_stringSize_0f7a4_33 rfl (lv_at hl 1 rfl) ?_
              refine lv_imul hx hb dJ6_stringSize_0f7a4_34 ?_
              refine lv_topi (fun yn55 eyn55 => ?_)
              obtain rfl : yn55 = (-1000000) := eyn55.trans (by first | rfl | decide +kernel)
              refine lv_istore_n (lv' := [(2, .int (-1000000)), (3, .int 5), (0, .int yn40), (1, .int 0)]) hx hb dJ6_stringSize_0f7a4_35 rfl hl (by decide) rfl (fun ls hl => ?_)
              refine lv_iinc (v := 6) (lv' := [(3, .int 6), (2, .int (-1000000)), (0, .int yn40), (1, .int 0)]) hx hb dJ6_stringSize_0f7a4_36 hl (k := 1) rfl (by first | rfl | decide +kernel) (by decide) rfl (fun ls hl => ?_)
              refine lv_goto (tgt := 16) hx hb dJ6_stringSize_0f7a4_39 (by decide) ?_
              refine lv_iload_n hx hb dJ6_stringSize_0f7a4_16 rfl (lv_at hl 0 rfl) ?_
              refine lv_bipush (v := 10) hx hb dJ6_stringSize_0f7a4_17 (by decide) ?_
              refine lv_icmp_ge (tgt := 42) hx hb dJ6_stringSize_0f7a4_19 (by decide) (fun c9 => absurd c9 (by decide)) (fun c56 => ?_)
              refine lv_iload_n hx hb dJ6_stringSize_0f7a4_22 rfl (lv_at hl 2 rfl) ?_
              refine lv_iload_n hx hb dJ6_stringSize_0f7a4_23 rfl (lv_at hl 1 rfl) ?_
              refine lv_icmp_le (tgt := 31) hx hb dJ6_stringSize_0f7a4_24 (by decide) (fun c57 => ?_) (fun c57 => ?_)
              · skip
                refine lv_bipush (v := 10) hx hb dJ6_stringSize_0f7a4_31 (by decide) ?_
                refine lv_iload_n hx hb dJ6_stringSize_0f7a4_33 rfl (lv_at hl 1 rfl) ?_
                refine lv_imul hx hb dJ6_stringSize_0f7a4_34 ?_
                refine lv_topi (fun yn58 eyn58 => ?_)
                obtain rfl : yn58 = (-10000000) := eyn58.trans (by first | rfl | decide +kernel)
                refine lv_istore_n (lv' := [(2, .int (-10000000)), (3, .int 6), (0, .int yn40), (1, .int 0)]) hx hb dJ6_stringSize_0f7a4_35 rfl hl (by decide) rfl (fun ls hl => ?_)
                refine lv_iinc (v := 7) (lv' := [(3, .int 7), (2, .int (-10000000)), (0, .int yn40), (1, .int 0)]) hx hb dJ6_stringSize_0f7a4_36 hl (k := 1) rfl (by first | rfl | decide +kernel) (by decide) rfl (fun ls hl => ?_)
                refine lv_goto (tgt := 16) hx hb dJ6_stringSize_0f7a4_39 (by decide) ?_
                refine lv_iload_n hx hb dJ6_stringSize_0f7a4_16 rfl (lv_at hl 0 rfl) ?_
                refine lv_bipush (v := 10) hx hb dJ6_stringSize_0f7a4_17 (by decide) ?_
                refine lv_icmp_ge (tgt := 42) hx hb dJ6_stringSize_0f7a4_19 (by decide) (fun c9 => absurd c9 (by decide)) (fun c59 => ?_)
                refine lv_iload_n hx hb dJ6_stringSize_0f7a4_22 rfl (lv_at hl 2 rfl) ?_
                refine lv_iload_n hx hb dJ6_stringSize_0f7a4_23 rfl (lv_at hl 1 rfl) ?_
                refine lv_icmp_le (tgt := 31) hx hb dJ6_stringSize_0f7a4_24 (by decide) (fun c60 => ?_) (fun c60 => ?_)
                · skip
                  refine lv_bipush (v := 10) hx hb dJ6_stringSize_0f7a4_31 (by decide) ?_
                  refine lv_iload_n hx hb dJ6_stringSize_0f7a4_33 rfl (lv_at hl 1 rfl) ?_
                  refine lv_imul hx hb dJ6_stringSize_0f7a4_34 ?_
                  refine lv_topi (fun yn61 eyn61 => ?_)
                  obtain rfl : yn61 = (-100000000) := eyn61.trans (by first | rfl | decide +kernel)
                  refine lv_istore_n (lv' := [(2, .int (-100000000)), (3, .int 7), (0, .int yn40), (1, .int 0)]) hx hb dJ6_stringSize_0f7a4_35 rfl hl (by decide) rfl (fun ls hl => ?_)
                  refine lv_iinc (v := 8) (lv' := [(3, .int 8), (2, .int (-100000000)), (0, .int yn40), (1, .int 0)]) hx hb dJ6_stringSize_0f7a4_36 hl (k := 1) rfl (by first | rfl | decide +kernel) (by decide) rfl (fun ls hl => ?_)
                  refine lv_goto (tgt := 16) hx hb dJ6_stringSize_0f7a4_39 (by decide) ?_
                  refine lv_iload_n hx hb dJ6_stringSize_0f7a4_16 rfl (lv_at hl 0 rfl) ?_
                  refine lv_bipush (v := 10) hx hb dJ6_stringSize_0f7a4_17 (by decide) ?_
                  refine lv_icmp_ge (tgt := 42) hx hb dJ6_stringSize_0f7a4_19 (by decide) (fun c9 => absurd c9 (by decide)) (fun c62 => ?_)
                  refine lv_iload_n hx hb dJ6_stringSize_0f7a4_22 rfl (lv_at hl 2 rfl) ?_
                  refine lv_iload_n hx hb dJ6_stringSize_0f7a4_23 rfl (lv_at hl 1 rfl) ?_
                  refine lv_icmp_le (tgt := 31) hx hb dJ6_stringSize_0f7a4_24 (by decide) (fun c63 => ?_) (fun c63 => ?_)
                  · skip
                    refine lv_bipush (v := 10) hx hb dJ6_stringSize_0f7a4_31 (by decide) ?_
                    refine lv_iload_n hx hb dJ6_stringSize_0f7a4_33 rfl (lv_at hl 1 rfl) ?_
                    refine lv_imul hx hb dJ6_stringSize_0f7a4_34 ?_
                    refine lv_topi (fun yn64 eyn64 => ?_)
                    obtain rfl : yn64 = (-1000000000) := eyn64.trans (by first | rfl | decide +kernel)
                    refine lv_istore_n (lv' := [(2, .int (-1000000000)), (3, .int 8), (0, .int yn40), (1, .int 0)]) hx hb dJ6_stringSize_0f7a4_35 rfl hl (by decide) rfl (fun ls hl => ?_)
                    refine lv_iinc (v := 9) (lv' := [(3, .int 9), (2, .int (-1000000000)), (0, .int yn40), (1, .int 0)]) hx hb dJ6_stringSize_0f7a4_36 hl (k := 1) rfl (by first | rfl | decide +kernel) (by decide) rfl (fun ls hl => ?_)
                    refine lv_goto (tgt := 16) hx hb dJ6_stringSize_0f7a4_39 (by decide) ?_
                    refine lv_iload_n hx hb dJ6_stringSize_0f7a4_16 rfl (lv_at hl 0 rfl) ?_
                    refine lv_bipush (v := 10) hx hb dJ6_stringSize_0f7a4_17 (by decide) ?_
                    refine lv_icmp_ge (tgt := 42) hx hb dJ6_stringSize_0f7a4_19 (by decide) (fun c9 => absurd c9 (by decide)) (fun c65 => ?_)
                    refine lv_iload_n hx hb dJ6_stringSize_0f7a4_22 rfl (lv_at hl 2 rfl) ?_
                    refine lv_iload_n hx hb dJ6_stringSize_0f7a4_23 rfl (lv_at hl 1 rfl) ?_
                    refine lv_icmp_le (tgt := 31) hx hb dJ6_stringSize_0f7a4_24 (by decide) (fun c66 => ?_) (fun c66 => ?_)
                    · skip
                      refine lv_bipush (v := 10) hx hb dJ6_stringSize_0f7a4_31 (by decide) ?_
                      refine lv_iload_n hx hb dJ6_stringSize_0f7a4_33 rfl (lv_at hl 1 rfl) ?_
                      refine lv_imul hx hb dJ6_stringSize_0f7a4_34 ?_
                      refine lv_topi (fun yn67 eyn67 => ?_)
                      obtain rfl : yn67 = (-1410065408) := eyn67.trans (by first | rfl | decide +kernel)
                      refine lv_istore_n (lv' := [(2, .int (-1410065408)), (3, .int 9), (0, .int yn40), (1, .int 0)]) hx hb dJ6_stringSize_0f7a4_35 rfl hl (by decide) rfl (fun ls hl => ?_)
                      refine lv_iinc (v := 10) (lv' := [(3, .int 10), (2, .int (-1410065408)), (0, .int yn40), (1, .int 0)]) hx hb dJ6_stringSize_0f7a4_36 hl (k := 1) rfl (by first | rfl | decide +kernel) (by decide) rfl (fun ls hl => ?_)
                      refine lv_goto (tgt := 16) hx hb dJ6_stringSize_0f7a4_39 (by decide) ?_
                      refine lv_iload_n hx hb dJ6_stringSize_0f7a4_16 rfl (lv_at hl 0 rfl) ?_
                      refine lv_bipush (v := 10) hx hb dJ6_stringSize_0f7a4_17 (by decide) ?_
                      refine lv_icmp_ge (tgt := 42) hx hb dJ6_stringSize_0f7a4_19 (by decide) (fun c68 => ?_) (fun c9 => absurd c9 (by decide))
                      refine lv_bipush (v := 10) hx hb dJ6_stringSize_0f7a4_42 (by decide) ?_
                      refine lv_iload_n hx hb dJ6_stringSize_0f7a4_44 rfl (lv_at hl 3 rfl) ?_
                      refine lv_iadd hx hb dJ6_stringSize_0f7a4_45 ?_
                      refine lv_topi (fun yn69 eyn69 => ?_)
                      obtain rfl : yn69 = 10 := eyn69.trans (by first | rfl | decide +kernel)
                      have hP9 := hP.sub (ws' := []) [] rfl
                      have hD9 := hD.sub (ws' := []) [] (by decide) rfl
                      refine W.widen (k := 0) (n := 0) (Nat.le_of_ble_eq_true rfl) (Nat.le_of_ble_eq_true rfl) ?_
                      exact (W.iret (v := 10) hx hb hr (fun t ht hW => ⟨⟨10, (), rfl, ⟨10, by omega, rfl, w9, hw9, Or.inr ⟨c1, ew9, (sz_end hw9 ew8 c66 (by decide)).symm⟩⟩, by rw [ht]; exact hP9, hD9⟩, hS.F ht⟩) hS.2.2 dJ6_stringSize_0f7a4_46)
                    · skip
                      refine lv_iload_n hx hb dJ6_stringSize_0f7a4_27 rfl (lv_at hl 0 rfl) ?_
                      refine lv_iload_n hx hb dJ6_stringSize_0f7a4_28 rfl (lv_at hl 3 rfl) ?_
                      refine lv_iadd hx hb dJ6_stringSize_0f7a4_29 ?_
                      refine lv_topi (fun yn70 eyn70 => ?_)
                      obtain rfl : yn70 = 9 := eyn70.trans (by first | rfl | decide +kernel)
                      have hP9 := hP.sub (ws' := []) [] rfl
                      have hD9 := hD.sub (ws' := []) [] (by decide) rfl
                      refine W.widen (k := 0) (n := 0) (Nat.le_of_ble_eq_true rfl) (Nat.le_of_ble_eq_true rfl) ?_
                      exact (W.iret (v := 9) hx hb hr (fun t ht hW => ⟨⟨9, (), rfl, ⟨9, by omega, rfl, w9, hw9, Or.inr ⟨c1, ew9, (sz_mid hw9 ew8 (i := 9) (by decide) (by decide) (Or.inr ⟨c63, by decide⟩) c66 (by decide)).symm⟩⟩, by rw [ht]; exact hP9, hD9⟩, hS.F ht⟩) hS.2.2 dJ6_stringSize_0f7a4_30)
                  · skip
                    refine lv_iload_n hx hb dJ6_stringSize_0f7a4_27 rfl (lv_at hl 0 rfl) ?_
                    refine lv_iload_n hx hb dJ6_stringSize_0f7a4_28 rfl (lv_at hl 3 rfl) ?_
                    refine lv_iadd hx hb dJ6_stringSize_0f7a4_29 ?_
                    refine lv_topi (fun yn71 eyn71 => ?_)
                    obtain rfl : yn71 = 8 := eyn71.trans (by first | rfl | decide +kernel)
                    have hP9 := hP.sub (ws' := []) [] rfl
                    have hD9 := hD.sub (ws' := []) [] (by decide) rfl
                    refine W.widen (k := 0) (n := 0) (Nat.le_of_ble_eq_true rfl) (Nat.le_of_ble_eq_true rfl) ?_
                    exact (W.iret (v := 8) hx hb hr (fun t ht hW => ⟨⟨8, (), rfl, ⟨8, by omega, rfl, w9, hw9, Or.inr ⟨c1, ew9, (sz_mid hw9 ew8 (i := 8) (by decide) (by decide) (Or.inr ⟨c60, by decide⟩) c63 (by decide)).symm⟩⟩, by rw [ht]; exact hP9, hD9⟩, hS.F ht⟩) hS.2.2 dJ6_stringSize_0f7a4_30)
                · skip
                  refine lv_iload_n hx hb dJ6_stringSize_0f7a4_27 rfl (lv_at hl 0 rfl) ?_
                  refine lv_iload_n hx hb dJ6_stringSize_0f7a4_28 rfl (lv_at hl 3 rfl) ?_
                  refine lv_iadd hx hb dJ6_stringSize_0f7a4_29 ?_
                  refine lv_topi (fun yn72 eyn72 => ?_)
                  obtain rfl : yn72 = 7 := eyn72.trans (by first | rfl | decide +kernel)
                  have hP9 := hP.sub (ws' := []) [] rfl
                  have hD9 := hD.sub (ws' := []) [] (by decide) rfl
                  refine W.widen (k := 0) (n := 0) (Nat.le_of_ble_eq_true rfl) (Nat.le_of_ble_eq_true rfl) ?_
                  exact (W.iret (v := 7) hx hb hr (fun t ht hW => ⟨⟨7, (), rfl, ⟨7, by omega, rfl, w9, hw9, Or.inr ⟨c1, ew9, (sz_mid hw9 ew8 (i := 7) (by decide) (by decide) (Or.inr ⟨c57, by decide⟩) c60 (by decide)).symm⟩⟩, by rw [ht]; exact hP9, hD9⟩, hS.F ht⟩) hS.2.2 dJ6_stringSize_0f7a4_30)
              · skip
                refine lv_iload_n hx hb dJ6_stringSize_0f7a4_27 rfl (lv_at hl 0 rfl) ?_
                refine lv_iload_n hx hb dJ6_stringSize_0f7a4_28 rfl (lv_at hl 3 rfl) ?_
                refine lv_iadd hx hb dJ6_stringSize_0f7a4_29 ?_
                refine lv_topi (fun yn73 eyn73 => ?_)
                obtain rfl : yn73 = 6 := eyn73.trans (by first | rfl | decide +kernel)
                have hP9 := hP.sub (ws' := []) [] rfl
                have hD9 := hD.sub (ws' := []) [] (by decide) rfl
                refine W.widen (k := 0) (n := 0) (Nat.le_of_ble_eq_true rfl) (Nat.le_of_ble_eq_true rfl) ?_
                exact (W.iret (v := 6) hx hb hr (fun t ht hW => ⟨⟨6, (), rfl, ⟨6, by omega, rfl, w9, hw9, Or.inr ⟨c1, ew9, (sz_mid hw9 ew8 (i := 6) (by decide) (by decide) (Or.inr ⟨c54, by decide⟩) c57 (by decide)).symm⟩⟩, by rw [ht]; exact hP9, hD9⟩, hS.F ht⟩) hS.2.2 dJ6_stringSize_0f7a4_30)
            · skip
              refine lv_iload_n hx hb dJ6_stringSize_0f7a4_27 rfl (lv_at hl 0 rfl) ?_
              refine lv_iload_n hx hb dJ6_stringSize_0f7a4_28 rfl (lv_at hl 3 rfl) ?_
              refine lv_iadd hx hb dJ6_stringSize_0f7a4_29 ?_
              refine lv_topi (fun yn74 eyn74 => ?_)
              obtain rfl : yn74 = 5 := eyn74.trans (by first | rfl | decide +kernel)
              have hP9 := hP.sub (ws' := []) [] rfl
              have hD9 := hD.sub (ws' := []) [] (by decide) rfl
              refine W.widen (k := 0) (n := 0) (Nat.le_of_ble_eq_true rfl) (Nat.le_of_ble_eq_true rfl) ?_
              exact (W.iret (v := 5) hx hb hr (fun t ht hW => ⟨⟨5, (), rfl, ⟨5, by omega, rfl, w9, hw9, Or.inr ⟨c1, ew9, (sz_mid hw9 ew8 (i := 5) (by decide) (by decide) (Or.inr ⟨c51, by decide⟩) c54 (by decide)).symm⟩⟩, by rw [ht]; exact hP9, hD9⟩, hS.F ht⟩) hS.2.2 dJ6_stringSize_0f7a4_30)
          · skip
            refine lv_iload_n hx hb dJ6_stringSize_0f7a4_27 rfl (lv_at hl 0 rfl) ?_
            refine lv_iload_n hx hb dJ6_stringSize_0f7a4_28 rfl (lv_at hl 3 rfl) ?_
            refine lv_iadd hx hb dJ6_stringSize_0f7a4_29 ?_
            refine lv_topi (fun yn75 eyn75 => ?_)
            obtain rfl : yn75 = 4 := eyn75.trans (by first | rfl | decide +kernel)
            have hP9 := hP.sub (ws' := []) [] rfl
            have hD9 := hD.sub (ws' := []) [] (by decide) rfl
            refine W.widen (k := 0) (n := 0) (Nat.le_of_ble_eq_true rfl) (Nat.le_of_ble_eq_true rfl) ?_
            exact (W.iret (v := 4) hx hb hr (fun t ht hW => ⟨⟨4, (), rfl, ⟨4, by omega, rfl, w9, hw9, Or.inr ⟨c1, ew9, (sz_mid hw9 ew8 (i := 4) (by decide) (by decide) (Or.inr ⟨c48, by decide⟩) c51 (by decide)).symm⟩⟩, by rw [ht]; exact hP9, hD9⟩, hS.F ht⟩) hS.2.2 dJ6_stringSize_0f7a4_30)
        · skip
          refine lv_iload_n hx hb dJ6_stringSize_0f7a4_27 rfl (lv_at hl 0 rfl) ?_
          refine lv_iload_n hx hb dJ6_stringSize_0f7a4_28 rfl (lv_at hl 3 rfl) ?_
          refine lv_iadd hx hb dJ6_stringSize_0f7a4_29 ?_
          refine lv_topi (fun yn76 eyn76 => ?_)
          obtain rfl : yn76 = 3 := eyn76.trans (by first | rfl | decide +kernel)
          have hP9 := hP.sub (ws' := []) [] rfl
          have hD9 := hD.sub (ws' := []) [] (by decide) rfl
          refine W.widen (k := 0) (n := 0) (Nat.le_of_ble_eq_true rfl) (Nat.le_of_ble_eq_true rfl) ?_
          exact (W.iret (v := 3) hx hb hr (fun t ht hW => ⟨⟨3, (), rfl, ⟨3, by omega, rfl, w9, hw9, Or.inr ⟨c1, ew9, (sz_mid hw9 ew8 (i := 3) (by decide) (by decide) (Or.inr ⟨c45, by decide⟩) c48 (by decide)).symm⟩⟩, by rw [ht]; exact hP9, hD9⟩, hS.F ht⟩) hS.2.2 dJ6_stringSize_0f7a4_30)
      · skip
        refine lv_iload_n hx hb dJ6_stringSize_0f7a4_27 rfl (lv_at hl 0 rfl) ?_
        refine lv_iload_n hx hb dJ6_stringSize_0f7a4_28 rfl (lv_at hl 3 rfl) ?_
        refine lv_iadd hx hb dJ6_stringSize_0f7a4_29 ?_
        refine lv_topi (fun yn77 eyn77 => ?_)
        obtain rfl : yn77 = 2 := eyn77.trans (by first | rfl | decide +kernel)
        have hP9 := hP.sub (ws' := []) [] rfl
        have hD9 := hD.sub (ws' := []) [] (by decide) rfl
        refine W.widen (k := 0) (n := 0) (Nat.le_of_ble_eq_true rfl) (Nat.le_of_ble_eq_true rfl) ?_
        exact (W.iret (v := 2) hx hb hr (fun t ht hW => ⟨⟨2, (), rfl, ⟨2, by omega, rfl, w9, hw9, Or.inr ⟨c1, ew9, (sz_mid hw9 ew8 (i := 2) (by decide) (by decide) (Or.inr ⟨c42, by decide⟩) c45 (by decide)).symm⟩⟩, by rw [ht]; exact hP9, hD9⟩, hS.F ht⟩) hS.2.2 dJ6_stringSize_0f7a4_30)
    · skip
      refine lv_iload_n hx hb dJ6_stringSize_0f7a4_27 rfl (lv_at hl 0 rfl) ?_
      refine lv_iload_n hx hb dJ6_stringSize_0f7a4_28 rfl (lv_at hl 3 rfl) ?_
      refine lv_iadd hx hb dJ6_stringSize_0f7a4_29 ?_
      refine lv_topi (fun yn78 eyn78 => ?_)
      obtain rfl : yn78 = 1 := eyn78.trans (by first | rfl | decide +kernel)
      have hP9 := hP.sub (ws' := []) [] rfl
      have hD9 := hD.sub (ws' := []) [] (by decide) rfl
      refine W.widen (k := 0) (n := 0) (Nat.le_of_ble_eq_true rfl) (Nat.le_of_ble_eq_true rfl) ?_
      exact (W.iret (v := 1) hx hb hr (fun t ht hW => ⟨⟨1, (), rfl, ⟨1, by omega, rfl, w9, hw9, Or.inr ⟨c1, ew9, (sz_mid hw9 ew8 (i := 1) (by decide) (by decide) (Or.inl rfl) c42 (by decide)).symm⟩⟩, by rw [ht]; exact hP9, hD9⟩, hS.F ht⟩) hS.2.2 dJ6_stringSize_0f7a4_30)

set_option maxHeartbeats 4000000 in
set_option maxRecDepth 100000 in
/-- getChars -/
theorem j_getChars_look (l : Launch) (D : va_G) (cA : Nat → ClassId) (sa : Nat → Nat) (o1 : Nat) (cp : Nat) (fy : Nat → Int32) (a : Int32) (ix : Nat) (n9 : Nat) (b9 : Nat) (sz : Nat) (hcp : cp ≤ 126) (hfit : sb_Fit fy) (hsz : SZ a n9) (hix : ix = b9 + n9) (hix2 : ix ≤ cp) : Met l yJ6_getChars_ba4f3 wsJ6_getChars_ba4f3 ({ frames := 0, cells := 0, slots := 0, locals := 0 }) (va_Pc [.int a, .int (nI ix), .ref o1] (Wd2 D cA sa [(o1, .inl (cA 3, cp, .inl fy))] sz)) (va_Qi (fun (r : Int32) (_ : Unit) => True) (fun (_ : Unit) t => ∃ zy : Nat → Int32, sb_Fit zy ∧ Wq D (va_A [(o1, .inl (cA 3, cp, .inl fy))] sz) [(o1, .inl (cA 3, cp, .inl zy))] t) (va_A [(o1, .inl (cA 3, cp, .inl fy))] sz)) 0 0 (va_A [(o1, .inl (cA 3, cp, .inl fy))] sz) := by
  refine Met.ofW (cc := cJ6_getChars_ba4f3) (maxL := 7) (ret := (some .int)) (by decide) rfl ?_
  intro p e s m args below meth c s₁ B hml hv
  obtain ⟨rfl, ⟨hsz, hP, hK, hD0, hC, hZ⟩, hG⟩ := hv
  have hx := B.exec
  have hb := B.bytes
  have hr := B.returns
  have hts := atoms_spec (ws := wsJ6_getChars_ba4f3) B.pre
  have hown : s.vm.findClass RJ6 = some m.cls := findClass_of_methodNamed B.named
  have hlocks := B.notSynchronized
  subst hsz
  have hD := hD0.self (sz := s.heap.size)
  generalize hAe : va_A [(o1, .inl (cA 3, cp, .inl fy))] s.heap.size = A at hD hZ hG ⊢
  have hA : ∀ q : Nat, s.heap.size ≤ q → A q := fun q h => by rw [← hAe]; exact Or.inr h
  have hS : va_S A s.heap s.heap [] := va_S.rf
  have hP : va_P D vwCl [(o1, .inl (cA 3, cp, .inl fy))] s.heap := hP
  have hl := lv_entry ([.int a, .int (nI ix), .ref o1]) (n := 7) (Nat.le_of_ble_eq_true rfl)
  rw [lg_entry_eq]
  generalize (lg_sl ([.int a, .int (nI ix), .ref o1]) ++ List.replicate (7 - (lg_sl ([.int a, .int (nI ix), .ref o1])).length) Slot.unset).toArray = ls at hl ⊢
  have hl : lv_has ls 7 [(0, .int a), (1, .int (nI ix)), (2, .ref o1)] := hl
  obtain ⟨⟨d1, d2, f1, f2, hd1, hd2, ht1, ht2⟩, -⟩ := hG
  obtain ⟨w9, hw9, hcs⟩ := hsz
  rcases hcs with ⟨hn1, hn2, hn3⟩ | ⟨hn1, hn2, hn3⟩
  · skip
    refine lv_iload_n hx hb dJ6_getChars_ba4f3_0 rfl (lv_at hl 1 rfl) ?_
    refine lv_istore (lv' := [(5, .int (nI ix)), (0, .int a), (1, .int (nI ix)), (2, .ref o1)]) hx hb dJ6_getChars_ba4f3_1 hl (by decide) rfl (fun ls hl => ?_)
    refine lv_iload_n hx hb dJ6_getChars_ba4f3_3 rfl (lv_at hl 1 rfl) ?_
    refine lv_if_ge (tgt := 11) hx hb dJ6_getChars_ba4f3_4 (by decide) (fun c9 => absurd c9 (Int32.not_le.mpr hn1)) (fun c1 => ?_)
    refine lv_iconst (v := 1) hx hb dJ6_getChars_ba4f3_7 (by decide) ?_
    refine lv_goto (tgt := 12) hx hb dJ6_getChars_ba4f3_8 (by decide) ?_
    refine lv_istore (lv' := [(6, .int 1), (5, .int (nI ix)), (0, .int a), (1, .int (nI ix)), (2, .ref o1)]) hx hb dJ6_getChars_ba4f3_12 hl (by decide) rfl (fun ls hl => ?_)
    refine lv_iload hx hb dJ6_getChars_ba4f3_14 (lv_at hl 0 rfl) ?_
    refine lv_if_ne (tgt := 22) hx hb dJ6_getChars_ba4f3_16 (by decide) (fun c2 => ?_) (fun c9 => absurd c9 (by decide))
    rw [hn2] at hl
    have hl : lv_has ls 7 [(6, .int 1), (5, .int (nI ix)), (0, .int (ngI w9)), (1, .int (nI ix)), (2, .ref o1)] := hl
    have hqhn3 := dg_pos w9
    rcases Nat.lt_or_ge w9 100 with hn3 | hn3
    · skip
      refine lv_iload_n hx hb dJ6_getChars_ba4f3_22 rfl (lv_at hl 2 rfl) ?_
      refine lv_bipush (v := (-100)) hx hb dJ6_getChars_ba4f3_23 (by decide) ?_
      refine lv_icmp_gt (tgt := 72) hx hb dJ6_getChars_ba4f3_25 (by decide) (fun c4 => ?_) (fun c9 => absurd c9 (fun h9 => h9 (ng_gt hn3)))
      refine lv_aload_n hx hb dJ6_getChars_ba4f3_72 rfl (lv_at hl 4 rfl) ?_
      refine lv_iinc (v := (nI (ix - 1))) (lv' := [(5, .int (nI (ix - 1))), (6, .int 1), (0, .int (ngI w9)), (1, .int (nI ix)), (2, .ref o1)]) hx hb dJ6_getChars_ba4f3_73 hl (k := 1) rfl (nI_dec (a := ix) (b := (ix - 1)) (by omega)) (by decide) rfl (fun ls hl => ?_)
      refine lv_iload hx hb dJ6_getChars_ba4f3_76 (lv_at hl 0 rfl) ?_
      refine va_gets hx hb hd1 hS hown (hts (.fieldLink RJ6 83 "java/lang/Integer" "DigitOnes" "[B") (by decide +kernel)) (fun _ h9 => h9) dJ6_getChars_ba4f3_78 ?_
      refine lv_iload_n hx hb dJ6_getChars_ba4f3_81 rfl (lv_at hl 2 rfl) ?_
      refine lv_ineg hx hb dJ6_getChars_ba4f3_82 ?_
      refine lv_topi (fun yn5 eyn5 => ?_)
      obtain rfl : yn5 = (nI w9) := eyn5.trans (ng_opp)
      refine va_tb (v := .int (f1 ((nI w9)).toNatClampNeg)) hx hb ht1 hS (vp_in_nI (n := w9) (N := 100) (show w9 < 100 by omega) (by decide)) rfl dJ6_getChars_ba4f3_83 ?_
      refine lv_topi (fun yn6 eyn6 => ?_)
      refine va_bast hx hb hK hP hD hS 0 3 rfl rfl (vp_in_nI (n := (ix - 1)) (N := cp) (show (ix - 1) < cp by omega) (by omega)) dJ6_getChars_ba4f3_84 (fun H locs hP hD hS => ?_)
      have hP : va_P D vwCl [(o1, .inl (cA 3, cp, .inl (upd fy (((nI (ix - 1))).toNatClampNeg) (vp_nar .byte yn6))))] H := hP
      have hD : va_D A [(o1, .inl (cA 3, cp, .inl (upd fy (((nI (ix - 1))).toNatClampNeg) (vp_nar .byte yn6))))] := hD
      have hn8 : sb_Fit (upd fy (((nI (ix - 1))).toNatClampNeg) (vp_nar .byte yn6)) := (sb_fitU hfit (pk_fb _))
      generalize (upd fy (((nI (ix - 1))).toNatClampNeg) (vp_nar .byte yn6)) = fn7 at hP hD hn8
      have hP : va_P D vwCl [(o1, .inl (cA 3, cp, .inl fn7))] H := hP
      have hD : va_D A [(o1, .inl (cA 3, cp, .inl fn7))] := hD
      rcases Nat.lt_or_ge w9 10 with hn9 | hn9
      · skip
        refine lv_iload_n hx hb dJ6_getChars_ba4f3_85 rfl (lv_at hl 2 rfl) ?_
        refine lv_bipush (v := (-9)) hx hb dJ6_getChars_ba4f3_86 (by decide) ?_
        refine lv_icmp_ge (tgt := 104) hx hb dJ6_getChars_ba4f3_88 (by decide) (fun c10 => ?_) (fun c9 => absurd c9 (fun h9 => h9 (ng_ge9 hn9)))
        refine lv_iload hx hb dJ6_getChars_ba4f3_104 (lv_at hl 1 rfl) ?_
        refine lv_if_eq (tgt := 118) hx hb dJ6_getChars_ba4f3_106 (by decide) (fun c9 => absurd c9 (by decide)) (fun c11 => ?_)
        refine lv_aload_n hx hb dJ6_getChars_ba4f3_109 rfl (lv_at hl 4 rfl) ?_
        refine lv_iinc (v := (nI ((ix - 1) - 1))) (lv' := [(5, .int (nI ((ix - 1) - 1))), (6, .int 1), (0, .int (ngI w9)), (1, .int (nI ix)), (2, .ref o1)]) hx hb dJ6_getChars_ba4f3_110 hl (k := 0) rfl (nI_dec (a := (ix - 1)) (b := ((ix - 1) - 1)) (by omega)) (by decide) rfl (fun ls hl => ?_)
        refine lv_iload hx hb dJ6_getChars_ba4f3_113 (lv_at hl 0 rfl) ?_
        refine lv_bipush (v := 45) hx hb dJ6_getChars_ba4f3_115 (by decide) ?_
        refine va_bast hx hb hK hP hD hS 0 3 rfl rfl (vp_in_nI (n := ((ix - 1) - 1)) (N := cp) (show ((ix - 1) - 1) < cp by omega) (by omega)) dJ6_getChars_ba4f3_117 (fun H locs hP hD hS => ?_)
        have hP : va_P D vwCl [(o1, .inl (cA 3, cp, .inl (upd fn7 (((nI ((ix - 1) - 1))).toNatClampNeg) (vp_nar .byte 45))))] H := hP
        have hD : va_D A [(o1, .inl (cA 3, cp, .inl (upd fn7 (((nI ((ix - 1) - 1))).toNatClampNeg) (vp_nar .byte 45))))] := hD
        have hn13 : sb_Fit (upd fn7 (((nI ((ix - 1) - 1))).toNatClampNeg) (vp_nar .byte 45)) := (sb_fitU hn8 (pk_fb _))
        generalize (upd fn7 (((nI ((ix - 1) - 1))).toNatClampNeg) (vp_nar .byte 45)) = fn12 at hP hD hn13
        have hP : va_P D vwCl [(o1, .inl (cA 3, cp, .inl fn12))] H := hP
        have hD : va_D A [(o1, .inl (cA 3, cp, .inl fn12))] := hD
        refine lv_iload hx hb dJ6_getChars_ba4f3_118 (lv_at hl 0 rfl) ?_
        have hP9 := hP.sub (ws' := [(o1, .inl (cA 3, cp, .inl fn12))]) [0] rfl
        have hD9 := hD.sub (ws' := [(o1, .inl (cA 3, cp, .inl fn12))]) [0] (by decide) rfl
        refine W.widen (k := 0) (n := 0) (Nat.le_of_ble_eq_true rfl) (Nat.le_of_ble_eq_true rfl) ?_
        exact (W.iret (v := (nI ((ix - 1) - 1))) hx hb hr (fun t ht hW => ⟨⟨(nI ((ix - 1) - 1)), (), rfl, trivial, fn12, hn13, by rw [ht]; exact hP9, hD9⟩, hS.F ht⟩) hS.2.2 dJ6_getChars_ba4f3_120)
      · skip
        have hqhn9 := dg_2 hn9 (by omega)
        refine lv_iload_n hx hb dJ6_getChars_ba4f3_85 rfl (lv_at hl 2 rfl) ?_
        refine lv_bipush (v := (-9)) hx hb dJ6_getChars_ba4f3_86 (by decide) ?_
        refine lv_icmp_ge (tgt := 104) hx hb dJ6_getChars_ba4f3_88 (by decide) (fun c9 => absurd c9 (ng_nge9 hn9 (by omega))) (fun c14 => ?_)
        refine lv_aload_n hx hb dJ6_getChars_ba4f3_91 rfl (lv_at hl 4 rfl) ?_
        refine lv_iinc (v := (nI ((ix - 1) - 1))) (lv' := [(5, .int (nI ((ix - 1) - 1))), (6, .int 1), (0, .int (ngI w9)), (1, .int (nI ix)), (2, .ref o1)]) hx hb dJ6_getChars_ba4f3_92 hl (k := 0) rfl (nI_dec (a := (ix - 1)) (b := ((ix - 1) - 1)) (by omega)) (by decide) rfl (fun ls hl => ?_)
        refine lv_iload hx hb dJ6_getChars_ba4f3_95 (lv_at hl 0 rfl) ?_
        refine va_gets hx hb hd2 hS hown (hts (.fieldLink RJ6 87 "java/lang/Integer" "DigitTens" "[B") (by decide +kernel)) (fun _ h9 => h9) dJ6_getChars_ba4f3_97 ?_
        refine lv_iload_n hx hb dJ6_getChars_ba4f3_100 rfl (lv_at hl 2 rfl) ?_
        refine lv_ineg hx hb dJ6_getChars_ba4f3_101 ?_
        refine lv_topi (fun yn15 eyn15 => ?_)
        obtain rfl : yn15 = (nI w9) := eyn15.trans (ng_opp)
        refine va_tb (v := .int (f2 ((nI w9)).toNatClampNeg)) hx hb ht2 hS (vp_in_nI (n := w9) (N := 100) (show w9 < 100 by omega) (by decide)) rfl dJ6_getChars_ba4f3_102 ?_
        refine lv_topi (fun yn16 eyn16 => ?_)
        refine va_bast hx hb hK hP hD hS 0 3 rfl rfl (vp_in_nI (n := ((ix - 1) - 1)) (N := cp) (show ((ix - 1) - 1) < cp by omega) (by omega)) dJ6_getChars_ba4f3_103 (fun H locs hP hD hS => ?_)
        have hP : va_P D vwCl [(o1, .inl (cA 3, cp, .inl (upd fn7 (((nI ((ix - 1) - 1))).toNatClampNeg) (vp_nar .byte yn16))))] H := hP
        have hD : va_D A [(o1, .inl (cA 3, cp, .inl (upd fn7 (((nI ((ix - 1) - 1))).toNatClampNeg) (vp_nar .byte yn16))))] := hD
        have hn18 : sb_Fit (upd fn7 (((nI ((ix - 1) - 1))).toNatClampNeg) (vp_nar .byte yn16)) := (sb_fitU hn8 (pk_fb _))
        generalize (upd fn7 (((nI ((ix - 1) - 1))).toNatClampNeg) (vp_nar .byte yn16)) = fn17 at hP hD hn18
        have hP : va_P D vwCl [(o1, .inl (cA 3, cp, .inl fn17))] H := hP
        have hD : va_D A [(o1, .inl (cA 3, cp, .inl fn17))] := hD
        refine lv_iload hx hb dJ6_getChars_ba4f3_104 (lv_at hl 1 rfl) ?_
        refine lv_if_eq (tgt := 118) hx hb dJ6_getChars_ba4f3_106 (by decide) (fun c9 => absurd c9 (by decide)) (fun c19 => ?_)
        refine lv_aload_n hx hb dJ6_getChars_ba4f3_109 rfl (lv_at hl 4 rfl) ?_
        refine lv_iinc (v := (nI (((ix - 1) - 1) - 1))) (lv' := [(5, .int (nI (((ix - 1) - 1) - 1))), (6, .int 1), (0, .int (ngI w9)), (1, .int (nI ix)), (2, .ref o1)]) hx hb dJ6_getChars_ba4f3_110 hl (k := 0) rfl (nI_dec (a := ((ix - 1) - 1)) (b := (((ix - 1) - 1) - 1)) (by omega)) (by decide) rfl (fun ls hl => ?_)
        refine lv_iload hx hb dJ6_getChars_ba4f3_113 (lv_at hl 0 rfl) ?_
        refine lv_bipush (v := 45) hx hb dJ6_getChars_ba4f3_115 (by decide) ?_
        refine va_bast hx hb hK hP hD hS 0 3 rfl rfl (vp_in_nI (n := (((ix - 1) - 1) - 1)) (N := cp) (show (((ix - 1) - 1) - 1) < cp by omega) (by omega)) dJ6_getChars_ba4f3_117 (fun H locs hP hD hS => ?_)
        have hP : va_P D vwCl [(o1, .inl (cA 3, cp, .inl (upd fn17 (((nI (((ix - 1) - 1) - 1))).toNatClampNeg) (vp_nar .byte 45))))] H := hP
        have hD : va_D A [(o1, .inl (cA 3, cp, .inl (upd fn17 (((nI (((ix - 1) - 1) - 1))).toNatClampNeg) (vp_nar .byte 45))))] := hD
        have hn21 : sb_Fit (upd fn17 (((nI (((ix - 1) - 1) - 1))).toNatClampNeg) (vp_nar .byte 45)) := (sb_fitU hn18 (pk_fb _))
        generalize (upd fn17 (((nI (((ix - 1) - 1) - 1))).toNatClampNeg) (vp_nar .byte 45)) = fn20 at hP hD hn21
        have hP : va_P D vwCl [(o1, .inl (cA 3, cp, .inl fn20))] H := hP
        have hD : va_D A [(o1, .inl (cA 3, cp, .inl fn20))] := hD
        refine lv_iload hx hb dJ6_getChars_ba4f3_118 (lv_at hl 0 rfl) ?_
        have hP9 := hP.sub (ws' := [(o1, .inl (cA 3, cp, .inl fn20))]) [0] rfl
        have hD9 := hD.sub (ws' := [(o1, .inl (cA 3, cp, .inl fn20))]) [0] (by decide) rfl
        refine W.widen (k := 0) (n := 0) (Nat.le_of_ble_eq_true rfl) (Nat.le_of_ble_eq_true rfl) ?_
        exact (W.iret (v := (nI (((ix - 1) - 1) - 1))) hx hb hr (fun t ht hW => ⟨⟨(nI (((ix - 1) - 1) - 1)), (), rfl, trivial, fn20, hn21, by rw [ht]; exact hP9, hD9⟩, hS.F ht⟩) hS.2.2 dJ6_getChars_ba4f3_120)
    · skip
      refine lv_iload_n hx hb dJ6_getChars_ba4f3_22 rfl (lv_at hl 2 rfl) ?_
      refine lv_bipush (v := (-100)) hx hb dJ6_getChars_ba4f3_23 (by decide) ?_
      refine lv_icmp_gt (tgt := 72) hx hb dJ6_getChars_ba4f3_25 (by decide) (fun c9 => absurd c9 (ng_ngt hn3 (by omega))) (fun c22 => ?_)
      refine lv_iload_n hx hb dJ6_getChars_ba4f3_28 rfl (lv_at hl 2 rfl) ?_
      refine lv_bipush (v := 100) hx hb dJ6_getChars_ba4f3_29 (by decide) ?_
      obtain ⟨w0x, hw0x⟩ : ∃ x9, x9 = w9 / 100 := ⟨_, rfl⟩
      have hdw0x : dg w9 = dg w0x + 2 := by rw [hw0x]; exact dg_100 (by omega) hn3
      have hpw0x := dg_pos w0x
      refine lv_idiv hx hb dJ6_getChars_ba4f3_31 (by decide) ?_
      refine lv_topi (fun yn23 eyn23 => ?_)
      obtain rfl : yn23 = (ngI w0x) := eyn23.trans (by rw [ng_div (by omega), ← hw0x])
      refine lv_istore_n (lv' := [(3, .int (ngI w0x)), (6, .int 1), (5, .int (nI ix)), (0, .int (ngI w9)), (1, .int (nI ix)), (2, .ref o1)]) hx hb dJ6_getChars_ba4f3_32 rfl hl (by decide) rfl (fun ls hl => ?_)
      refine lv_iload_n hx hb dJ6_getChars_ba4f3_33 rfl (lv_at hl 0 rfl) ?_
      refine lv_bipush (v := 100) hx hb dJ6_getChars_ba4f3_34 (by decide) ?_
      refine lv_imul hx hb dJ6_getChars_ba4f3_36 ?_
      refine lv_topi (fun yn24 eyn24 => ?_)
      refine lv_iload_n hx hb dJ6_getChars_ba4f3_37 rfl (lv_at hl 3 rfl) ?_
      refine lv_isub hx hb dJ6_getChars_ba4f3_38 ?_
      refine lv_topi (fun yn27 eyn27 => ?_)
      obtain rfl : yn27 = (nI (w9 % 100)) := eyn27.trans (by rw [eyn24, hw0x]; exact ng_rem (by omega))
      refine lv_istore (lv' := [(4, .int (nI (w9 % 100))), (3, .int (ngI w0x)), (6, .int 1), (5, .int (nI ix)), (0, .int (ngI w9)), (1, .int (nI ix)), (2, .ref o1)]) hx hb dJ6_getChars_ba4f3_39 hl (by decide) rfl (fun ls hl => ?_)
      refine lv_iload_n hx hb dJ6_getChars_ba4f3_41 rfl (lv_at hl 1 rfl) ?_
      refine lv_istore_n (lv' := [(0, .int (ngI w0x)), (4, .int (nI (w9 % 100))), (3, .int (ngI w0x)), (6, .int 1), (5, .int (nI ix)), (1, .int (nI ix)), (2, .ref o1)]) hx hb dJ6_getChars_ba4f3_42 rfl hl (by decide) rfl (fun ls hl => ?_)
      refine lv_aload_n hx hb dJ6_getChars_ba4f3_43 rfl (lv_at hl 6 rfl) ?_
      refine lv_iinc (v := (nI (ix - 1))) (lv' := [(5, .int (nI (ix - 1))), (0, .int (ngI w0x)), (4, .int (nI (w9 % 100))), (3, .int (ngI w0x)), (6, .int 1), (1, .int (nI ix)), (2, .ref o1)]) hx hb dJ6_getChars_ba4f3_44 hl (k := 4) rfl (nI_dec (a := ix) (b := (ix - 1)) (by omega)) (by decide) rfl (fun ls hl => ?_)
      refine lv_iload hx hb dJ6_getChars_ba4f3_47 (lv_at hl 0 rfl) ?_
      refine va_gets hx hb hd1 hS hown (hts (.fieldLink RJ6 83 "java/lang/Integer" "DigitOnes" "[B") (by decide +kernel)) (fun _ h9 => h9) dJ6_getChars_ba4f3_49 ?_
      refine lv_iload hx hb dJ6_getChars_ba4f3_52 (lv_at hl 2 rfl) ?_
      refine va_tb (v := .int (f1 ((nI (w9 % 100))).toNatClampNeg)) hx hb ht1 hS (vp_in_nI (n := (w9 % 100)) (N := 100) (show (w9 % 100) < 100 by omega) (by decide)) rfl dJ6_getChars_ba4f3_54 ?_
      refine lv_topi (fun yn28 eyn28 => ?_)
      refine va_bast hx hb hK hP hD hS 0 3 rfl rfl (vp_in_nI (n := (ix - 1)) (N := cp) (show (ix - 1) < cp by omega) (by omega)) dJ6_getChars_ba4f3_55 (fun H locs hP hD hS => ?_)
      have hP : va_P D vwCl [(o1, .inl (cA 3, cp, .inl (upd fy (((nI (ix - 1))).toNatClampNeg) (vp_nar .byte yn28))))] H := hP
      have hD : va_D A [(o1, .inl (cA 3, cp, .inl (upd fy (((nI (ix - 1))).toNatClampNeg) (vp_nar .byte yn28))))] := hD
      have hn30 : sb_Fit (upd fy (((nI (ix - 1))).toNatClampNeg) (vp_nar .byte yn28)) := (sb_fitU hfit (pk_fb _))
      generalize (upd fy (((nI (ix - 1))).toNatClampNeg) (vp_nar .byte yn28)) = fn29 at hP hD hn30
      have hP : va_P D vwCl [(o1, .inl (cA 3, cp, .inl fn29))] H := hP
      have hD : va_D A [(o1, .inl (cA 3, cp, .inl fn29))] := hD
      refine lv_aload_n hx hb dJ6_getChars_ba4f3_56 rfl (lv_at hl 6 rfl) ?_
      refine lv_iinc (v := (nI ((ix - 1) - 1))) (lv' := [(5, .int (nI ((ix - 1) - 1))), (0, .int (ngI w0x)), (4, .int (nI (w9 % 100))), (3, .int (ngI w0x)), (6, .int 1), (1, .int (nI ix)), (2, .ref o1)]) hx hb dJ6_getChars_ba4f3_57 hl (k := 0) rfl (nI_dec (a := (ix - 1)) (b := ((ix - 1) - 1)) (by omega)) (by decide) rfl (fun ls hl => ?_)
      refine lv_iload hx hb dJ6_getChars_ba4f3_60 (lv_at hl 0 rfl) ?_
      refine va_gets hx hb hd2 hS hown (hts (.fieldLink RJ6 87 "java/lang/Integer" "DigitTens" "[B") (by decide +kernel)) (fun _ h9 => h9) dJ6_getChars_ba4f3_62 ?_
      refine lv_iload hx hb dJ6_getChars_ba4f3_65 (lv_at hl 2 rfl) ?_
      refine va_tb (v := .int (f2 ((nI (w9 % 100))).toNatClampNeg)) hx hb ht2 hS (vp_in_nI (n := (w9 % 100)) (N := 100) (show (w9 % 100) < 100 by omega) (by decide)) rfl dJ6_getChars_ba4f3_67 ?_
      refine lv_topi (fun yn31 eyn31 => ?_)
      refine va_bast hx hb hK hP hD hS 0 3 rfl rfl (vp_in_nI (n := ((ix - 1) - 1)) (N := cp) (show ((ix - 1) - 1) < cp by omega) (by omega)) dJ6_getChars_ba4f3_68 (fun H locs hP hD hS => ?_)
      have hP : va_P D vwCl [(o1, .inl (cA 3, cp, .inl (upd fn29 (((nI ((ix - 1) - 1))).toNatClampNeg) (vp_nar .byte yn31))))] H := hP
      have hD : va_D A [(o1, .inl (cA 3, cp, .inl (upd fn29 (((nI ((ix - 1) - 1))).toNatClampNeg) (vp_nar .byte yn31))))] := hD
      have hn33 : sb_Fit (upd fn29 (((nI ((ix - 1) - 1))).toNatClampNeg) (vp_nar .byte yn31)) := (sb_fitU hn30 (pk_fb _))
      generalize (upd fn29 (((nI ((ix - 1) - 1))).toNatClampNeg) (vp_nar .byte yn31)) = fn32 at hP hD hn33
      have hP : va_P D vwCl [(o1, .inl (cA 3, cp, .inl fn32))] H := hP
      have hD : va_D A [(o1, .inl (cA 3, cp, .inl fn32))] := hD
      refine lv_goto (tgt := 22) hx hb dJ6_getChars_ba4f3_69 (by decide) ?_
      have hqhn34 := dg_pos w0x
      rcases Nat.lt_or_ge w0x 100 with hn34 | hn34
      · skip
        refine lv_iload_n hx hb dJ6_getChars_ba4f3_22 rfl (lv_at hl 1 rfl) ?_
        refine lv_bipush (v := (-100)) hx hb dJ6_getChars_ba4f3_23 (by decide) ?_
        refine lv_icmp_gt (tgt := 72) hx hb dJ6_getChars_ba4f3_25 (by decide) (fun c35 => ?_) (fun c9 => absurd c9 (fun h9 => h9 (ng_gt hn34)))
        refine lv_aload_n hx hb dJ6_getChars_ba4f3_72 rfl (lv_at hl 6 rfl) ?_
        refine lv_iinc (v := (nI (((ix - 1) - 1) - 1))) (lv' := [(5, .int (nI (((ix - 1) - 1) - 1))), (0, .int (ngI w0x)), (4, .int (nI (w9 % 100))), (3, .int (ngI w0x)), (6, .int 1), (1, .int (nI ix)), (2, .ref o1)]) hx hb dJ6_getChars_ba4f3_73 hl (k := 0) rfl (nI_dec (a := ((ix - 1) - 1)) (b := (((ix - 1) - 1) - 1)) (by omega)) (by decide) rfl (fun ls hl => ?_)
        refine lv_iload hx hb dJ6_getChars_ba4f3_76 (lv_at hl 0 rfl) ?_
        refine va_gets hx hb hd1 hS hown (hts (.fieldLink RJ6 83 "java/lang/Integer" "DigitOnes" "[B") (by decide +kernel)) (fun _ h9 => h9) dJ6_getChars_ba4f3_78 ?_
        refine lv_iload_n hx hb dJ6_getChars_ba4f3_81 rfl (lv_at hl 1 rfl) ?_
        refine lv_ineg hx hb dJ6_getChars_ba4f3_82 ?_
        refine lv_topi (fun yn36 eyn36 => ?_)
        obtain rfl : yn36 = (nI w0x) := eyn36.trans (ng_opp)
        refine va_tb (v := .int (f1 ((nI w0x)).toNatClampNeg)) hx hb ht1 hS (vp_in_nI (n := w0x) (N := 100) (show w0x < 100 by omega) (by decide)) rfl dJ6_getChars_ba4f3_83 ?_
        refine lv_topi (fun yn37 eyn37 => ?_)
        refine va_bast hx hb hK hP hD hS 0 3 rfl rfl (vp_in_nI (n := (((ix - 1) - 1) - 1)) (N := cp) (show (((ix - 1) - 1) - 1) < cp by omega) (by omega)) dJ6_getChars_ba4f3_84 (fun H locs hP hD hS => ?_)
        have hP : va_P D vwCl [(o1, .inl (cA 3, cp, .inl (upd fn32 (((nI (((ix - 1) - 1) - 1))).toNatClampNeg) (vp_nar .byte yn37))))] H := hP
        have hD : va_D A [(o1, .inl (cA 3, cp, .inl (upd fn32 (((nI (((ix - 1) - 1) - 1))).toNatClampNeg) (vp_nar .byte yn37))))] := hD
        have hn39 : sb_Fit (upd fn32 (((nI (((ix - 1) - 1) - 1))).toNatClampNeg) (vp_nar .byte yn37)) := (sb_fitU hn33 (pk_fb _))
        generalize (upd fn32 (((nI (((ix - 1) - 1) - 1))).toNatClampNeg) (vp_nar .byte yn37)) = fn38 at hP hD hn39
        have hP : va_P D vwCl [(o1, .inl (cA 3, cp, .inl fn38))] H := hP
        have hD : va_D A [(o1, .inl (cA 3, cp, .inl fn38))] := hD
        rcases Nat.lt_or_ge w0x 10 with hn40 | hn40
        · skip
          refine lv_iload_n hx hb dJ6_getChars_ba4f3_85 rfl (lv_at hl 1 rfl) ?_
          refine lv_bipush (v := (-9)) hx hb dJ6_getChars_ba4f3_86 (by decide) ?_
          refine lv_icmp_ge (tgt := 104) hx hb dJ6_getChars_ba4f3_88 (by decide) (fun c41 => ?_) (fun c9 => absurd c9 (fun h9 => h9 (ng_ge9 hn40)))
          refine lv_iload hx hb dJ6_getChars_ba4f3_104 (lv_at hl 4 rfl) ?_
          refine lv_if_eq (tgt := 118) hx hb dJ6_getChars_ba4f3_106 (by decide) (fun c9 => absurd c9 (by decide)) (fun c42 => ?_)
          refine lv_aload_n hx hb dJ6_getChars_ba4f3_109 rfl (lv_at hl 6 rfl) ?_
          refine lv_iinc (v := (nI ((((ix - 1) - 1) - 1) - 1))) (lv' := [(5, .int (nI ((((ix - 1) - 1) - 1) - 1))), (0, .int (ngI w0x)), (4, .int (nI (w9 % 100))), (3, .int (ngI w0x)), (6, .int 1), (1, .int (nI ix)), (2, .ref o1)]) hx hb dJ6_getChars_ba4f3_110 hl (k := 0) rfl (nI_dec (a := (((ix - 1) - 1) - 1)) (b := ((((ix - 1) - 1) - 1) - 1)) (by omega)) (by decide) rfl (fun ls hl => ?_)
          refine lv_iload hx hb dJ6_getChars_ba4f3_113 (lv_at hl 0 rfl) ?_
          refine lv_bipush (v := 45) hx hb dJ6_getChars_ba4f3_115 (by decide) ?_
          refine va_bast hx hb hK hP hD hS 0 3 rfl rfl (vp_in_nI (n := ((((ix - 1) - 1) - 1) - 1)) (N := cp) (show ((((ix - 1) - 1) - 1) - 1) < cp by omega) (by omega)) dJ6_getChars_ba4f3_117 (fun H locs hP hD hS => ?_)
          have hP : va_P D vwCl [(o1, .inl (cA 3, cp, .inl (upd fn38 (((nI ((((ix - 1) - 1) - 1) - 1))).toNatClampNeg) (vp_nar .byte 45))))] H := hP
          have hD : va_D A [(o1, .inl (cA 3, cp, .inl (upd fn38 (((nI ((((ix - 1) - 1) - 1) - 1))).toNatClampNeg) (vp_nar .byte 45))))] := hD
          have hn44 : sb_Fit (upd fn38 (((nI ((((ix - 1) - 1) - 1) - 1))).toNatClampNeg) (vp_nar .byte 45)) := (sb_fitU hn39 (pk_fb _))
          generalize (upd fn38 (((nI ((((ix - 1) - 1) - 1) - 1))).toNatClampNeg) (vp_nar .byte 45)) = fn43 at hP hD hn44
          have hP : va_P D vwCl [(o1, .inl (cA 3, cp, .inl fn43))] H := hP
          have hD : va_D A [(o1, .inl (cA 3, cp, .inl fn43))] := hD
          refine lv_iload hx hb dJ6_getChars_ba4f3_118 (lv_at hl 0 rfl) ?_
          have hP9 := hP.sub (ws' := [(o1, .inl (cA 3, cp, .inl fn43))]) [0] rfl
          have hD9 := hD.sub (ws' := [(o1, .inl (cA 3, cp, .inl fn43))]) [0] (by decide) rfl
          refine W.widen (k := 0) (n := 0) (Nat.le_of_ble_eq_true rfl) (Nat.le_of_ble_eq_true rfl) ?_
          exact (W.iret (v := (nI ((((ix - 1) - 1) - 1) - 1))) hx hb hr (fun t ht hW => ⟨⟨(nI ((((ix - 1) - 1) - 1) - 1)), (), rfl, trivial, fn43, hn44, by rw [ht]; exact hP9, hD9⟩, hS.F ht⟩) hS.2.2 dJ6_getChars_ba4f3_120)
        · skip
          have hqhn40 := dg_2 hn40 (by omega)
          refine lv_iload_n hx hb dJ6_getChars_ba4f3_85 rfl (lv_at hl 1 rfl) ?_
          refine lv_bipush (v := (-9)) hx hb dJ6_getChars_ba4f3_86 (by decide) ?_
          refine lv_icmp_ge (tgt := 104) hx hb dJ6_getChars_ba4f3_88 (by decide) (fun c9 => absurd c9 (ng_nge9 hn40 (by omega))) (fun c45 => ?_)
          refine lv_aload_n hx hb dJ6_getChars_ba4f3_91 rfl (lv_at hl 6 rfl) ?_
          refine lv_iinc (v := (nI ((((ix - 1) - 1) - 1) - 1))) (lv' := [(5, .int (nI ((((ix - 1) - 1) - 1) - 1))), (0, .int (ngI w0x)), (4, .int (nI (w9 % 100))), (3, .int (ngI w0x)), (6, .int 1), (1, .int (nI ix)), (2, .ref o1)]) hx hb dJ6_getChars_ba4f3_92 hl (k := 0) rfl (nI_dec (a := (((ix - 1) - 1) - 1)) (b := ((((ix - 1) - 1) - 1) - 1)) (by omega)) (by decide) rfl (fun ls hl => ?_)
          refine lv_iload hx hb dJ6_getChars_ba4f3_95 (lv_at hl 0 rfl) ?_
          refine va_gets hx hb hd2 hS hown (hts (.fieldLink RJ6 87 "java/lang/Integer" "DigitTens" "[B") (by decide +kernel)) (fun _ h9 => h9) dJ6_getChars_ba4f3_97 ?_
          refine lv_iload_n hx hb dJ6_getChars_ba4f3_100 rfl (lv_at hl 1 rfl) ?_
          refine lv_ineg hx hb dJ6_getChars_ba4f3_101 ?_
          refine lv_topi (fun yn46 eyn46 => ?_)
          obtain rfl : yn46 = (nI w0x) := eyn46.trans (ng_opp)
          refine va_tb (v := .int (f2 ((nI w0x)).toNatClampNeg)) hx hb ht2 hS (vp_in_nI (n := w0x) (N := 100) (show w0x < 100 by omega) (by decide)) rfl dJ6_getChars_ba4f3_102 ?_
          refine lv_topi (fun yn47 eyn47 => ?_)
          refine va_bast hx hb hK hP hD hS 0 3 rfl rfl (vp_in_nI (n := ((((ix - 1) - 1) - 1) - 1)) (N := cp) (show ((((ix - 1) - 1) - 1) - 1) < cp by omega) (by omega)) dJ6_getChars_ba4f3_103 (fun H locs hP hD hS => ?_)
          have hP : va_P D vwCl [(o1, .inl (cA 3, cp, .inl (upd fn38 (((nI ((((ix - 1) - 1) - 1) - 1))).toNatClampNeg) (vp_nar .byte yn47))))] H := hP
          have hD : va_D A [(o1, .inl (cA 3, cp, .inl (upd fn38 (((nI ((((ix - 1) - 1) - 1) - 1))).toNatClampNeg) (vp_nar .byte yn47))))] := hD
          have hn49 : sb_Fit (upd fn38 (((nI ((((ix - 1) - 1) - 1) - 1))).toNatClampNeg) (vp_nar .byte yn47)) := (sb_fitU hn39 (pk_fb _))
          generalize (upd fn38 (((nI ((((ix - 1) - 1) - 1) - 1))).toNatClampNeg) (vp_nar .byte yn47)) = fn48 at hP hD hn49
          have hP : va_P D vwCl [(o1, .inl (cA 3, cp, .inl fn48))] H := hP
          have hD : va_D A [(o1, .inl (cA 3, cp, .inl fn48))] := hD
          refine lv_iload hx hb dJ6_getChars_ba4f3_104 (lv_at hl 4 rfl) ?_
          refine lv_if_eq (tgt := 118) hx hb dJ6_getChars_ba4f3_106 (by decide) (fun c9 => absurd c9 (by decide)) (fun c50 => ?_)
          refine lv_aload_n hx hb dJ6_getChars_ba4f3_109 rfl (lv_at hl 6 rfl) ?_
          refine lv_iinc (v := (nI (((((ix - 1) - 1) - 1) - 1) - 1))) (lv' := [(5, .int (nI (((((ix - 1) - 1) - 1) - 1) - 1))), (0, .int (ngI w0x)), (4, .int (nI (w9 % 100))), (3, .int (ngI w0x)), (6, .int 1), (1, .int (nI ix)), (2, .ref o1)]) hx hb dJ6_getChars_ba4f3_110 hl (k := 0) rfl (nI_dec (a := ((((ix - 1) - 1) - 1) - 1)) (b := (((((ix - 1) - 1) - 1) - 1) - 1)) (by omega)) (by decide) rfl (fun ls hl => ?_)
          refine lv_iload hx hb dJ6_getChars_ba4f3_113 (lv_at hl 0 rfl) ?_
          refine lv_bipush (v := 45) hx hb dJ6_getChars_ba4f3_115 (by decide) ?_
          refine va_bast hx hb hK hP hD hS 0 3 rfl rfl (vp_in_nI (n := (((((ix - 1) - 1) - 1) - 1) - 1)) (N := cp) (show (((((ix - 1) - 1) - 1) - 1) - 1) < cp by omega) (by omega)) dJ6_getChars_ba4f3_117 (fun H locs hP hD hS => ?_)
          have hP : va_P D vwCl [(o1, .inl (cA 3, cp, .inl (upd fn48 (((nI (((((ix - 1) - 1) - 1) - 1) - 1))).toNatClampNeg) (vp_nar .byte 45))))] H := hP
          have hD : va_D A [(o1, .inl (cA 3, cp, .inl (upd fn48 (((nI (((((ix - 1) - 1) - 1) - 1) - 1))).toNatClampNeg) (vp_nar .byte 45))))] := hD
          have hn52 : sb_Fit (upd fn48 (((nI (((((ix - 1) - 1) - 1) - 1) - 1))).toNatClampNeg) (vp_nar .byte 45)) := (sb_fitU hn49 (pk_fb _))
          generalize (upd fn48 (((nI (((((ix - 1) - 1) - 1) - 1) - 1))).toNatClampNeg) (vp_nar .byte 45)) = fn51 at hP hD hn52
          have hP : va_P D vwCl [(o1, .inl (cA 3, cp, .inl fn51))] H := hP
          have hD : va_D A [(o1, .inl (cA 3, cp, .inl fn51))] := hD
          refine lv_iload hx hb dJ6_getChars_ba4f3_118 (lv_at hl 0 rfl) ?_
          have hP9 := hP.sub (ws' := [(o1, .inl (cA 3, cp, .inl fn51))]) [0] rfl
          have hD9 := hD.sub (ws' := [(o1, .inl (cA 3, cp, .inl fn51))]) [0] (by decide) rfl
          refine W.widen (k := 0) (n := 0) (Nat.le_of_ble_eq_true rfl) (Nat.le_of_ble_eq_true rfl) ?_
          exact (W.iret (v := (nI (((((ix - 1) - 1) - 1) - 1) - 1))) hx hb hr (fun t ht hW => ⟨⟨(nI (((((ix - 1) - 1) - 1) - 1) - 1)), (), rfl, trivial, fn51, hn52, by rw [ht]; exact hP9, hD9⟩, hS.F ht⟩) hS.2.2 dJ6_getChars_ba4f3_120)
      · skip
        refine lv_iload_n hx hb dJ6_getChars_ba4f3_22 rfl (lv_at hl 1 rfl) ?_
        refine lv_bipush (v := (-100)) hx hb dJ6_getChars_ba4f3_23 (by decide) ?_
        refine lv_icmp_gt (tgt := 72) hx hb dJ6_getChars_ba4f3_25 (by decide) (fun c9 => absurd c9 (ng_ngt hn34 (by omega))) (fun c53 => ?_)
        refine lv_iload_n hx hb dJ6_getChars_ba4f3_28 rfl (lv_at hl 1 rfl) ?_
        refine lv_bipush (v := 100) hx hb dJ6_getChars_ba4f3_29 (by decide) ?_
        obtain ⟨w1x, hw1x⟩ : ∃ x9, x9 = w0x / 100 := ⟨_, rfl⟩
        have hdw1x : dg w0x = dg w1x + 2 := by rw [hw1x]; exact dg_100 (by omega) hn34
        have hpw1x := dg_pos w1x
        refine lv_idiv hx hb dJ6_getChars_ba4f3_31 (by decide) ?_
        refine lv_topi (fun yn54 eyn54 => ?_)
        obtain rfl : yn54 = (ngI w1x) := eyn54.trans (by rw [ng_div (by omega), ← hw1x])
        refine lv_istore_n (lv' := [(3, .int (ngI w1x)), (5, .int (nI ((ix - 1) - 1))), (0, .int (ngI w0x)), (4, .int (nI (w9 % 100))), (6, .int 1), (1, .int (nI ix)), (2, .ref o1)]) hx hb dJ6_getChars_ba4f3_32 rfl hl (by decide) rfl (fun ls hl => ?_)
        refine lv_iload_n hx hb dJ6_getChars_ba4f3_33 rfl (lv_at hl 0 rfl) ?_
        refine lv_bipush (v := 100) hx hb dJ6_getChars_ba4f3_34 (by decide) ?_
        refine lv_imul hx hb dJ6_getChars_ba4f3_36 ?_
        refine lv_topi (fun yn55 eyn55 => ?_)
        refine lv_iload_n hx hb dJ6_getChars_ba4f3_37 rfl (lv_at hl 2 rfl) ?_
        refine lv_isub hx hb dJ6_getChars_ba4f3_38 ?_
        refine lv_topi (fun yn58 eyn58 => ?_)
        obtain rfl : yn58 = (nI (w0x % 100)) := eyn58.trans (by rw [eyn55, hw1x]; exact ng_rem (by omega))
        refine lv_istore (lv' := [(4, .int (nI (w0x % 100))), (3, .int (ngI w1x)), (5, .int (nI ((ix - 1) - 1))), (0, .int (ngI w0x)), (6, .int 1), (1, .int (nI ix)), (2, .ref o1)]) hx hb dJ6_getChars_ba4f3_39 hl (by decide) rfl (fun ls hl => ?_)
        refine lv_iload_n hx hb dJ6_getChars_ba4f3_41 rfl (lv_at hl 1 rfl) ?_
        refine lv_istore_n (lv' := [(0, .int (ngI w1x)), (4, .int (nI (w0x % 100))), (3, .int (ngI w1x)), (5, .int (nI ((ix - 1) - 1))), (6, .int 1), (1, .int (nI ix)), (2, .ref o1)]) hx hb dJ6_getChars_ba4f3_42 rfl hl (by decide) rfl (fun ls hl => ?_)
        refine lv_aload_n hx hb dJ6_getChars_ba4f3_43 rfl (lv_at hl 6 rfl) ?_
        refine lv_iinc (v := (nI (((ix - 1) - 1) - 1))) (lv' := [(5, .int (nI (((ix - 1) - 1) - 1))), (0, .int (ngI w1x)), (4, .int (nI (w0x % 100))), (3, .int (ngI w1x)), (6, .int 1), (1, .int (nI ix)), (2, .ref o1)]) hx hb dJ6_getChars_ba4f3_44 hl (k := 3) rfl (nI_dec (a := ((ix - 1) - 1)) (b := (((ix - 1) - 1) - 1)) (by omega)) (by decide) rfl (fun ls hl => ?_)
        refine lv_iload hx hb dJ6_getChars_ba4f3_47 (lv_at hl 0 rfl) ?_
        refine va_gets hx hb hd1 hS hown (hts (.fieldLink RJ6 83 "java/lang/Integer" "DigitOnes" "[B") (by decide +kernel)) (fun _ h9 => h9) dJ6_getChars_ba4f3_49 ?_
        refine lv_iload hx hb dJ6_getChars_ba4f3_52 (lv_at hl 2 rfl) ?_
        refine va_tb (v := .int (f1 ((nI (w0x % 100))).toNatClampNeg)) hx hb ht1 hS (vp_in_nI (n := (w0x % 100)) (N := 100) (show (w0x % 100) < 100 by omega) (by decide)) rfl dJ6_getChars_ba4f3_54 ?_
        refine lv_topi (fun yn59 eyn59 => ?_)
        refine va_bast hx hb hK hP hD hS 0 3 rfl rfl (vp_in_nI (n := (((ix - 1) - 1) - 1)) (N := cp) (show (((ix - 1) - 1) - 1) < cp by omega) (by omega)) dJ6_getChars_ba4f3_55 (fun H locs hP hD hS => ?_)
        have hP : va_P D vwCl [(o1, .inl (cA 3, cp, .inl (upd fn32 (((nI (((ix - 1) - 1) - 1))).toNatClampNeg) (vp_nar .byte yn59))))] H := hP
        have hD : va_D A [(o1, .inl (cA 3, cp, .inl (upd fn32 (((nI (((ix - 1) - 1) - 1))).toNatClampNeg) (vp_nar .byte yn59))))] := hD
        have hn61 : sb_Fit (upd fn32 (((nI (((ix - 1) - 1) - 1))).toNatClampNeg) (vp_nar .byte yn59)) := (sb_fitU hn33 (pk_fb _))
        generalize (upd fn32 (((nI (((ix - 1) - 1) - 1))).toNatClampNeg) (vp_nar .byte yn59)) = fn60 at hP hD hn61
        have hP : va_P D vwCl [(o1, .inl (cA 3, cp, .inl fn60))] H := hP
        have hD : va_D A [(o1, .inl (cA 3, cp, .inl fn60))] := hD
        refine lv_aload_n hx hb dJ6_getChars_ba4f3_56 rfl (lv_at hl 6 rfl) ?_
        refine lv_iinc (v := (nI ((((ix - 1) - 1) - 1) - 1))) (lv' := [(5, .int (nI ((((ix - 1) - 1) - 1) - 1))), (0, .int (ngI w1x)), (4, .int (nI (w0x % 100))), (3, .int (ngI w1x)), (6, .int 1), (1, .int (nI ix)), (2, .ref o1)]) hx hb dJ6_getChars_ba4f3_57 hl (k := 0) rfl (nI_dec (a := (((ix - 1) - 1) - 1)) (b := ((((ix - 1) - 1) - 1) - 1)) (by omega)) (by decide) rfl (fun ls hl => ?_)
        refine lv_iload hx hb dJ6_getChars_ba4f3_60 (lv_at hl 0 rfl) ?_
        refine va_gets hx hb hd2 hS hown (hts (.fieldLink RJ6 87 "java/lang/Integer" "DigitTens" "[B") (by decide +kernel)) (fun _ h9 => h9) dJ6_getChars_ba4f3_62 ?_
        refine lv_iload hx hb dJ6_getChars_ba4f3_65 (lv_at hl 2 rfl) ?_
        refine va_tb (v := .int (f2 ((nI (w0x % 100))).toNatClampNeg)) hx hb ht2 hS (vp_in_nI (n := (w0x % 100)) (N := 100) (show (w0x % 100) < 100 by omega) (by decide)) rfl dJ6_getChars_ba4f3_67 ?_
        refine lv_topi (fun yn62 eyn62 => ?_)
        refine va_bast hx hb hK hP hD hS 0 3 rfl rfl (vp_in_nI (n := ((((ix - 1) - 1) - 1) - 1)) (N := cp) (show ((((ix - 1) - 1) - 1) - 1) < cp by omega) (by omega)) dJ6_getChars_ba4f3_68 (fun H locs hP hD hS => ?_)
        have hP : va_P D vwCl [(o1, .inl (cA 3, cp, .inl (upd fn60 (((nI ((((ix - 1) - 1) - 1) - 1))).toNatClampNeg) (vp_nar .byte yn62))))] H := hP
        have hD : va_D A [(o1, .inl (cA 3, cp, .inl (upd fn60 (((nI ((((ix - 1) - 1) - 1) - 1))).toNatClampNeg) (vp_nar .byte yn62))))] := hD
        have hn64 : sb_Fit (upd fn60 (((nI ((((ix - 1) - 1) - 1) - 1))).toNatClampNeg) (vp_nar .byte yn62)) := (sb_fitU hn61 (pk_fb _))
        generalize (upd fn60 (((nI ((((ix - 1) - 1) - 1) - 1))).toNatClampNeg) (vp_nar .byte yn62)) = fn63 at hP hD hn64
        have hP : va_P D vwCl [(o1, .inl (cA 3, cp, .inl fn63))] H := hP
        have hD : va_D A [(o1, .inl (cA 3, cp, .inl fn63))] := hD
        refine lv_goto (tgt := 22) hx hb dJ6_getChars_ba4f3_69 (by decide) ?_
        have hqhn65 := dg_pos w1x
        rcases Nat.lt_or_ge w1x 100 with hn65 | hn65
        · skip
          refine lv_iload_n hx hb dJ6_getChars_ba4f3_22 rfl (lv_at hl 1 rfl) ?_
          refine lv_bipush (v := (-100)) hx hb dJ6_getChars_ba4f3_23 (by decide) ?_
          refine lv_icmp_gt (tgt := 72) hx hb dJ6_getChars_ba4f3_25 (by decide) (fun c66 => ?_) (fun c9 => absurd c9 (fun h9 => h9 (ng_gt hn65)))
          refine lv_aload_n hx hb dJ6_getChars_ba4f3_72 rfl (lv_at hl 6 rfl) ?_
          refine lv_iinc (v := (nI (((((ix - 1) - 1) - 1) - 1) - 1))) (lv' := [(5, .int (nI (((((ix - 1) - 1) - 1) - 1) - 1))), (0, .int (ngI w1x)), (4, .int (nI (w0x % 100))), (3, .int (ngI w1x)), (6, .int 1), (1, .int (nI ix)), (2, .ref o1)]) hx hb dJ6_getChars_ba4f3_73 hl (k := 0) rfl (nI_dec (a := ((((ix - 1) - 1) - 1) - 1)) (b := (((((ix - 1) - 1) - 1) - 1) - 1)) (by omega)) (by decide) rfl (fun ls hl => ?_)
          refine lv_iload hx hb dJ6_getChars_ba4f3_76 (lv_at hl 0 rfl) ?_
          refine va_gets hx hb hd1 hS hown (hts (.fieldLink RJ6 83 "java/lang/Integer" "DigitOnes" "[B") (by decide +kernel)) (fun _ h9 => h9) dJ6_getChars_ba4f3_78 ?_
          refine lv_iload_n hx hb dJ6_getChars_ba4f3_81 rfl (lv_at hl 1 rfl) ?_
          refine lv_ineg hx hb dJ6_getChars_ba4f3_82 ?_
          refine lv_topi (fun yn67 eyn67 => ?_)
          obtain rfl : yn67 = (nI w1x) := eyn67.trans (ng_opp)
          refine va_tb (v := .int (f1 ((nI w1x)).toNatClampNeg)) hx hb ht1 hS (vp_in_nI (n := w1x) (N := 100) (show w1x < 100 by omega) (by decide)) rfl dJ6_getChars_ba4f3_83 ?_
          refine lv_topi (fun yn68 eyn68 => ?_)
          refine va_bast hx hb hK hP hD hS 0 3 rfl rfl (vp_in_nI (n := (((((ix - 1) - 1) - 1) - 1) - 1)) (N := cp) (show (((((ix - 1) - 1) - 1) - 1) - 1) < cp by omega) (by omega)) dJ6_getChars_ba4f3_84 (fun H locs hP hD hS => ?_)
          have hP : va_P D vwCl [(o1, .inl (cA 3, cp, .inl (upd fn63 (((nI (((((ix - 1) - 1) - 1) - 1) - 1))).toNatClampNeg) (vp_nar .byte yn68))))] H := hP
          have hD : va_D A [(o1, .inl (cA 3, cp, .inl (upd fn63 (((nI (((((ix - 1) - 1) - 1) - 1) - 1))).toNatClampNeg) (vp_nar .byte yn68))))] := hD
          have hn70 : sb_Fit (upd fn63 (((nI (((((ix - 1) - 1) - 1) - 1) - 1))).toNatClampNeg) (vp_nar .byte yn68)) := (sb_fitU hn64 (pk_fb _))
          generalize (upd fn63 (((nI (((((ix - 1) - 1) - 1) - 1) - 1))).toNatClampNeg) (vp_nar .byte yn68)) = fn69 at hP hD hn70
          have hP : va_P D vwCl [(o1, .inl (cA 3, cp, .inl fn69))] H := hP
          have hD : va_D A [(o1, .inl (cA 3, cp, .inl fn69))] := hD
          rcases Nat.lt_or_ge w1x 10 with hn71 | hn71
          · skip
            refine lv_iload_n hx hb dJ6_getChars_ba4f3_85 rfl (lv_at hl 1 rfl) ?_
            refine lv_bipush (v := (-9)) hx hb dJ6_getChars_ba4f3_86 (by decide) ?_
            refine lv_icmp_ge (tgt := 104) hx hb dJ6_getChars_ba4f3_88 (by decide) (fun c72 => ?_) (fun c9 => absurd c9 (fun h9 => h9 (ng_ge9 hn71)))
            refine lv_iload hx hb dJ6_getChars_ba4f3_104 (lv_at hl 4 rfl) ?_
            refine lv_if_eq (tgt := 118) hx hb dJ6_getChars_ba4f3_106 (by decide) (fun c9 => absurd c9 (by decide)) (fun c73 => ?_)
            refine lv_aload_n hx hb dJ6_getChars_ba4f3_109 rfl (lv_at hl 6 rfl) ?_
            refine lv_iinc (v := (nI ((((((ix - 1) - 1) - 1) - 1) - 1) - 1))) (lv' := [(5, .int (nI ((((((ix - 1) - 1) - 1) - 1) - 1) - 1))), (0, .int (ngI w1x)), (4, .int (nI (w0x % 100))), (3, .int (ngI w1x)), (6, .int 1), (1, .int (nI ix)), (2, .ref o1)]) hx hb dJ6_getChars_ba4f3_110 hl (k := 0) rfl (nI_dec (a := (((((ix - 1) - 1) - 1) - 1) - 1)) (b := ((((((ix - 1) - 1) - 1) - 1) - 1) - 1)) (by omega)) (by decide) rfl (fun ls hl => ?_)
            refine lv_iload hx hb dJ6_getChars_ba4f3_113 (lv_at hl 0 rfl) ?_
            refine lv_bipush (v := 45) hx hb dJ6_getChars_ba4f3_115 (by decide) ?_
            refine va_bast hx hb hK hP hD hS 0 3 rfl rfl (vp_in_nI (n := ((((((ix - 1) - 1) - 1) - 1) - 1) - 1)) (N := cp) (show ((((((ix - 1) - 1) - 1) - 1) - 1) - 1) < cp by omega) (by omega)) dJ6_getChars_ba4f3_117 (fun H locs hP hD hS => ?_)
            have hP : va_P D vwCl [(o1, .inl (cA 3, cp, .inl (upd fn69 (((nI ((((((ix - 1) - 1) - 1) - 1) - 1) - 1))).toNatClampNeg) (vp_nar .byte 45))))] H := hP
            have hD : va_D A [(o1, .inl (cA 3, cp, .inl (upd fn69 (((nI ((((((ix - 1) - 1) - 1) - 1) - 1) - 1))).toNatClampNeg) (vp_nar .byte 45))))] := hD
            have hn75 : sb_Fit (upd fn69 (((nI ((((((ix - 1) - 1) - 1) - 1) - 1) - 1))).toNatClampNeg) (vp_nar .byte 45)) := (sb_fitU hn70 (pk_fb _))
            generalize (upd fn69 (((nI ((((((ix - 1) - 1) - 1) - 1) - 1) - 1))).toNatClampNeg) (vp_nar .byte 45)) = fn74 at hP hD hn75
            have hP : va_P D vwCl [(o1, .inl (cA 3, cp, .inl fn74))] H := hP
            have hD : va_D A [(o1, .inl (cA 3, cp, .inl fn74))] := hD
            refine lv_iload hx hb dJ6_getChars_ba4f3_118 (lv_at hl 0 rfl) ?_
            have hP9 := hP.sub (ws' := [(o1, .inl (cA 3, cp, .inl fn74))]) [0] rfl
            have hD9 := hD.sub (ws' := [(o1, .inl (cA 3, cp, .inl fn74))]) [0] (by decide) rfl
            refine W.widen (k := 0) (n := 0) (Nat.le_of_ble_eq_true rfl) (Nat.le_of_ble_eq_true rfl) ?_
            exact (W.iret (v := (nI ((((((ix - 1) - 1) - 1) - 1) - 1) - 1))) hx hb hr (fun t ht hW => ⟨⟨(nI ((((((ix - 1) - 1) - 1) - 1) - 1) - 1)), (), rfl, trivial, fn74, hn75, by rw [ht]; exact hP9, hD9⟩, hS.F ht⟩) hS.2.2 dJ6_getChars_ba4f3_120)
          · skip
            have hqhn71 := dg_2 hn71 (by omega)
            refine lv_iload_n hx hb dJ6_getChars_ba4f3_85 rfl (lv_at hl 1 rfl) ?_
            refine lv_bipush (v := (-9)) hx hb dJ6_getChars_ba4f3_86 (by decide) ?_
            refine lv_icmp_ge (tgt := 104) hx hb dJ6_getChars_ba4f3_88 (by decide) (fun c9 => absurd c9 (ng_nge9 hn71 (by omega))) (fun c76 => ?_)
            refine lv_aload_n hx hb dJ6_getChars_ba4f3_91 rfl (lv_at hl 6 rfl) ?_
            refine lv_iinc (v := (nI ((((((ix - 1) - 1) - 1) - 1) - 1) - 1))) (lv' := [(5, .int (nI ((((((ix - 1) - 1) - 1) - 1) - 1) - 1))), (0, .int (ngI w1x)), (4, .int (nI (w0x % 100))), (3, .int (ngI w1x)), (6, .int 1), (1, .int (nI ix)), (2, .ref o1)]) hx hb dJ6_getChars_ba4f3_92 hl (k := 0) rfl (nI_dec (a := (((((ix - 1) - 1) - 1) - 1) - 1)) (b := ((((((ix - 1) - 1) - 1) - 1) - 1) - 1)) (by omega)) (by decide) rfl (fun ls hl => ?_)
            refine lv_iload hx hb dJ6_getChars_ba4f3_95 (lv_at hl 0 rfl) ?_
            refine va_gets hx hb hd2 hS hown (hts (.fieldLink RJ6 87 "java/lang/Integer" "DigitTens" "[B") (by decide +kernel)) (fun _ h9 => h9) dJ6_getChars_ba4f3_97 ?_
            refine lv_iload_n hx hb dJ6_getChars_ba4f3_100 rfl (lv_at hl 1 rfl) ?_
            refine lv_ineg hx hb dJ6_getChars_ba4f3_101 ?_
            refine lv_topi (fun yn77 eyn77 => ?_)
            obtain rfl : yn77 = (nI w1x) := eyn77.trans (ng_opp)
            refine va_tb (v := .int (f2 ((nI w1x)).toNatClampNeg)) hx hb ht2 hS (vp_in_nI (n := w1x) (N := 100) (show w1x < 100 by omega) (by decide)) rfl dJ6_getChars_ba4f3_102 ?_
            refine lv_topi (fun yn78 eyn78 => ?_)
            refine va_bast hx hb hK hP hD hS 0 3 rfl rfl (vp_in_nI (n := ((((((ix - 1) - 1) - 1) - 1) - 1) - 1)) (N := cp) (show ((((((ix - 1) - 1) - 1) - 1) - 1) - 1) < cp by omega) (by omega)) dJ6_getChars_ba4f3_103 (fun H locs hP hD hS => ?_)
            have hP : va_P D vwCl [(o1, .inl (cA 3, cp, .inl (upd fn69 (((nI ((((((ix - 1) - 1) - 1) - 1) - 1) - 1))).toNatClampNeg) (vp_nar .byte yn78))))] H := hP
            have hD : va_D A [(o1, .inl (cA 3, cp, .inl (upd fn69 (((nI ((((((ix - 1) - 1) - 1) - 1) - 1) - 1))).toNatClampNeg) (vp_nar .byte yn78))))] := hD
            have hn80 : sb_Fit (upd fn69 (((nI ((((((ix - 1) - 1) - 1) - 1) - 1) - 1))).toNatClampNeg) (vp_nar .byte yn78)) := (sb_fitU hn70 (pk_fb _))
            generalize (upd fn69 (((nI ((((((ix - 1) - 1) - 1) - 1) - 1) - 1))).toNatClampNeg) (vp_nar .byte yn78)) = fn79 at hP hD hn80
            have hP : va_P D vwCl [(o1, .inl (cA 3, cp, .inl fn79))] H := hP
            have hD : va_D A [(o1, .inl (cA 3, cp, .inl fn79))] := hD
            refine lv_iload hx hb dJ6_getChars_ba4f3_104 (lv_at hl 4 rfl) ?_
            refine lv_if_eq (tgt := 118) hx hb dJ6_getChars_ba4f3_106 (by decide) (fun c9 => absurd c9 (by decide)) (fun c81 => ?_)
            refine lv_aload_n hx hb dJ6_getChars_ba4f3_109 rfl (lv_at hl 6 rfl) ?_
            refine lv_iinc (v := (nI (((((((ix - 1) - 1) - 1) - 1) - 1) - 1) - 1))) (lv' := [(5, .int (nI (((((((ix - 1) - 1) - 1) - 1) - 1) - 1) - 1))), (0, .int (ngI w1x)), (4, .int (nI (w0x % 100))), (3, .int (ngI w1x)), (6, .int 1), (1, .int (nI ix)), (2, .ref o1)]) hx hb dJ6_getChars_ba4f3_110 hl (k := 0) rfl (nI_dec (a := ((((((ix - 1) - 1) - 1) - 1) - 1) - 1)) (b := (((((((ix - 1) - 1) - 1) - 1) - 1) - 1) - 1)) (by omega)) (by decide) rfl (fun ls hl => ?_)
            refine lv_iload hx hb dJ6_getChars_ba4f3_113 (lv_at hl 0 rfl) ?_
            refine lv_bipush (v := 45) hx hb dJ6_getChars_ba4f3_115 (by decide) ?_
            refine va_bast hx hb hK hP hD hS 0 3 rfl rfl (vp_in_nI (n := (((((((ix - 1) - 1) - 1) - 1) - 1) - 1) - 1)) (N := cp) (show (((((((ix - 1) - 1) - 1) - 1) - 1) - 1) - 1) < cp by omega) (by omega)) dJ6_getChars_ba4f3_117 (fun H locs hP hD hS => ?_)
            have hP : va_P D vwCl [(o1, .inl (cA 3, cp, .inl (upd fn79 (((nI (((((((ix - 1) - 1) - 1) - 1) - 1) - 1) - 1))).toNatClampNeg) (vp_nar .byte 45))))] H := hP
            have hD : va_D A [(o1, .inl (cA 3, cp, .inl (upd fn79 (((nI (((((((ix - 1) - 1) - 1) - 1) - 1) - 1) - 1))).toNatClampNeg) (vp_nar .byte 45))))] := hD
            have hn83 : sb_Fit (upd fn79 (((nI (((((((ix - 1) - 1) - 1) - 1) - 1) - 1) - 1))).toNatClampNeg) (vp_nar .byte 45)) := (sb_fitU hn80 (pk_fb _))
            generalize (upd fn79 (((nI (((((((ix - 1) - 1) - 1) - 1) - 1) - 1) - 1))).toNatClampNeg) (vp_nar .byte 45)) = fn82 at hP hD hn83
            have hP : va_P D vwCl [(o1, .inl (cA 3, cp, .inl fn82))] H := hP
            have hD : va_D A [(o1, .inl (cA 3, cp, .inl fn82))] := hD
            refine lv_iload hx hb dJ6_getChars_ba4f3_118 (lv_at hl 0 rfl) ?_
            have hP9 := hP.sub (ws' := [(o1, .inl (cA 3, cp, .inl fn82))]) [0] rfl
            have hD9 := hD.sub (ws' := [(o1, .inl (cA 3, cp, .inl fn82))]) [0] (by decide) rfl
            refine W.widen (k := 0) (n := 0) (Nat.le_of_ble_eq_true rfl) (Nat.le_of_ble_eq_true rfl) ?_
            exact (W.iret (v := (nI (((((((ix - 1) - 1) - 1) - 1) - 1) - 1) - 1))) hx hb hr (fun t ht hW => ⟨⟨(nI (((((((ix - 1) - 1) - 1) - 1) - 1) - 1) - 1)), (), rfl, trivial, fn82, hn83, by rw [ht]; exact hP9, hD9⟩, hS.F ht⟩) hS.2.2 dJ6_getChars_ba4f3_120)
        · skip
          refine lv_iload_n hx hb dJ6_getChars_ba4f3_22 rfl (lv_at hl 1 rfl) ?_
          refine lv_bipush (v := (-100)) hx hb dJ6_getChars_ba4f3_23 (by decide) ?_
          refine lv_icmp_gt (tgt := 72) hx hb dJ6_getChars_ba4f3_25 (by decide) (fun c9 => absurd c9 (ng_ngt hn65 (by omega))) (fun c84 => ?_)
          refine lv_iload_n hx hb dJ6_getChars_ba4f3_28 rfl (lv_at hl 1 rfl) ?_
          refine lv_bipush (v := 100) hx hb dJ6_getChars_ba4f3_29 (by decide) ?_
          obtain ⟨w2x, hw2x⟩ : ∃ x9, x9 = w1x / 100 := ⟨_, rfl⟩
          have hdw2x : dg w1x = dg w2x + 2 := by rw [hw2x]; exact dg_100 (by omega) hn65
          have hpw2x := dg_pos w2x
          refine lv_idiv hx hb dJ6_getChars_ba4f3_31 (by decide) ?_
          refine lv_topi (fun yn85 eyn85 => ?_)
          obtain rfl : yn85 = (ngI w2x) := eyn85.trans (by rw [ng_div (by omega), ← hw2x])
          refine lv_istore_n (lv' := [(3, .int (ngI w2x)), (5, .int (nI ((((ix - 1) - 1) - 1) - 1))), (0, .int (ngI w1x)), (4, .int (nI (w0x % 100))), (6, .int 1), (1, .int (nI ix)), (2, .ref o1)]) hx hb dJ6_getChars_ba4f3_32 rfl hl (by decide) rfl (fun ls hl => ?_)
          refine lv_iload_n hx hb dJ6_getChars_ba4f3_33 rfl (lv_at hl 0 rfl) ?_
          refine lv_bipush (v := 100) hx hb dJ6_getChars_ba4f3_34 (by decide) ?_
          refine lv_imul hx hb dJ6_getChars_ba4f3_36 ?_
          refine lv_topi (fun yn86 eyn86 => ?_)
          refine lv_iload_n hx hb dJ6_getChars_ba4f3_37 rfl (lv_at hl 2 rfl) ?_
          refine lv_isub hx hb dJ6_getChars_ba4f3_38 ?_
          refine lv_topi (fun yn89 eyn89 => ?_)
          obtain rfl : yn89 = (nI (w1x % 100)) := eyn89.trans (by rw [eyn86, hw2x]; exact ng_rem (by omega))
          refine lv_istore (lv' := [(4, .int (nI (w1x % 100))), (3, .int (ngI w2x)), (5, .int (nI ((((ix - 1) - 1) - 1) - 1))), (0, .int (ngI w1x)), (6, .int 1), (1, .int (nI ix)), (2, .ref o1)]) hx hb dJ6_getChars_ba4f3_39 hl (by decide) rfl (fun ls hl => ?_)
          refine lv_iload_n hx hb dJ6_getChars_ba4f3_41 rfl (lv_at hl 1 rfl) ?_
          refine lv_istore_n (lv' := [(0, .int (ngI w2x)), (4, .int (nI (w1x % 100))), (3, .int (ngI w2x)), (5, .int (nI ((((ix - 1) - 1) - 1) - 1))), (6, .int 1), (1, .int (nI ix)), (2, .ref o1)]) hx hb dJ6_getChars_ba4f3_42 rfl hl (by decide) rfl (fun ls hl => ?_)
          refine lv_aload_n hx hb dJ6_getChars_ba4f3_43 rfl (lv_at hl 6 rfl) ?_
          refine lv_iinc (v := (nI (((((ix - 1) - 1) - 1) - 1) - 1))) (lv' := [(5, .int (nI (((((ix - 1) - 1) - 1) - 1) - 1))), (0, .int (ngI w2x)), (4, .int (nI (w1x % 100))), (3, .int (ngI w2x)), (6, .int 1), (1, .int (nI ix)), (2, .ref o1)]) hx hb dJ6_getChars_ba4f3_44 hl (k := 3) rfl (nI_dec (a := ((((ix - 1) - 1) - 1) - 1)) (b := (((((ix - 1) - 1) - 1) - 1) - 1)) (by omega)) (by decide) rfl (fun ls hl => ?_)
          refine lv_iload hx hb dJ6_getChars_ba4f3_47 (lv_at hl 0 rfl) ?_
          refine va_gets hx hb hd1 hS hown (hts (.fieldLink RJ6 83 "java/lang/Integer" "DigitOnes" "[B") (by decide +kernel)) (fun _ h9 => h9) dJ6_getChars_ba4f3_49 ?_
          refine lv_iload hx hb dJ6_getChars_ba4f3_52 (lv_at hl 2 rfl) ?_
          refine va_tb (v := .int (f1 ((nI (w1x % 100))).toNatClampNeg)) hx hb ht1 hS (vp_in_nI (n := (w1x % 100)) (N := 100) (show (w1x % 100) < 100 by omega) (by decide)) rfl dJ6_getChars_ba4f3_54 ?_
          refine lv_topi (fun yn90 eyn90 => ?_)
          refine va_bast hx hb hK hP hD hS 0 3 rfl rfl (vp_in_nI (n := (((((ix - 1) - 1) - 1) - 1) - 1)) (N := cp) (show (((((ix - 1) - 1) - 1) - 1) - 1) < cp by omega) (by omega)) dJ6_getChars_ba4f3_55 (fun H locs hP hD hS => ?_)
          have hP : va_P D vwCl [(o1, .inl (cA 3, cp, .inl (upd fn63 (((nI (((((ix - 1) - 1) - 1) - 1) - 1))).toNatClampNeg) (vp_nar .byte yn90))))] H := hP
          have hD : va_D A [(o1, .inl (cA 3, cp, .inl (upd fn63 (((nI (((((ix - 1) - 1) - 1) - 1) - 1))).toNatClampNeg) (vp_nar .byte yn90))))] := hD
          have hn92 : sb_Fit (upd fn63 (((nI (((((ix - 1) - 1) - 1) - 1) - 1))).toNatClampNeg) (vp_nar .byte yn90)) := (sb_fitU hn64 (pk_fb _))
          generalize (upd fn63 (((nI (((((ix - 1) - 1) - 1) - 1) - 1))).toNatClampNeg) (vp_nar .byte yn90)) = fn91 at hP hD hn92
          have hP : va_P D vwCl [(o1, .inl (cA 3, cp, .inl fn91))] H := hP
          have hD : va_D A [(o1, .inl (cA 3, cp, .inl fn91))] := hD
          refine lv_aload_n hx hb dJ6_getChars_ba4f3_56 rfl (lv_at hl 6 rfl) ?_
          refine lv_iinc (v := (nI ((((((ix - 1) - 1) - 1) - 1) - 1) - 1))) (lv' := [(5, .int (nI ((((((ix - 1) - 1) - 1) - 1) - 1) - 1))), (0, .int (ngI w2x)), (4, .int (nI (w1x % 100))), (3, .int (ngI w2x)), (6, .int 1), (1, .int (nI ix)), (2, .ref o1)]) hx hb dJ6_getChars_ba4f3_57 hl (k := 0) rfl (nI_dec (a := (((((ix - 1) - 1) - 1) - 1) - 1)) (b := ((((((ix - 1) - 1) - 1) - 1) - 1) - 1)) (by omega)) (by decide) rfl (fun ls hl => ?_)
          refine lv_iload hx hb dJ6_getChars_ba4f3_60 (lv_at hl 0 rfl) ?_
          refine va_gets hx hb hd2 hS hown (hts (.fieldLink RJ6 87 "java/lang/Integer" "DigitTens" "[B") (by decide +kernel)) (fun _ h9 => h9) dJ6_getChars_ba4f3_62 ?_
          refine lv_iload hx hb dJ6_getChars_ba4f3_65 (lv_at hl 2 rfl) ?_
          refine va_tb (v := .int (f2 ((nI (w1x % 100))).toNatClampNeg)) hx hb ht2 hS (vp_in_nI (n := (w1x % 100)) (N := 100) (show (w1x % 100) < 100 by omega) (by decide)) rfl dJ6_getChars_ba4f3_67 ?_
          refine lv_topi (fun yn93 eyn93 => ?_)
          refine va_bast hx hb hK hP hD hS 0 3 rfl rfl (vp_in_nI (n := ((((((ix - 1) - 1) - 1) - 1) - 1) - 1)) (N := cp) (show ((((((ix - 1) - 1) - 1) - 1) - 1) - 1) < cp by omega) (by omega)) dJ6_getChars_ba4f3_68 (fun H locs hP hD hS => ?_)
          have hP : va_P D vwCl [(o1, .inl (cA 3, cp, .inl (upd fn91 (((nI ((((((ix - 1) - 1) - 1) - 1) - 1) - 1))).toNatClampNeg) (vp_nar .byte yn93))))] H := hP
          have hD : va_D A [(o1, .inl (cA 3, cp, .inl (upd fn91 (((nI ((((((ix - 1) - 1) - 1) - 1) - 1) - 1))).toNatClampNeg) (vp_nar .byte yn93))))] := hD
          have hn95 : sb_Fit (upd fn91 (((nI ((((((ix - 1) - 1) - 1) - 1) - 1) - 1))).toNatClampNeg) (vp_nar .byte yn93)) := (sb_fitU hn92 (pk_fb _))
          generalize (upd fn91 (((nI ((((((ix - 1) - 1) - 1) - 1) - 1) - 1))).toNatClampNeg) (vp_nar .byte yn93)) = fn94 at hP hD hn95
          have hP : va_P D vwCl [(o1, .inl (cA 3, cp, .inl fn94))] H := hP
          have hD : va_D A [(o1, .inl (cA 3, cp, .inl fn94))] := hD
          refine lv_goto (tgt := 22) hx hb dJ6_getChars_ba4f3_69 (by decide) ?_
          have hqhn96 := dg_pos w2x
          rcases Nat.lt_or_ge w2x 100 with hn96 | hn96
          · skip
            refine lv_iload_n hx hb dJ6_getChars_ba4f3_22 rfl (lv_at hl 1 rfl) ?_
            refine lv_bipush (v := (-100)) hx hb dJ6_getChars_ba4f3_23 (by decide) ?_
            refine lv_icmp_gt (tgt := 72) hx hb dJ6_getChars_ba4f3_25 (by decide) (fun c97 => ?_) (fun c9 => absurd c9 (fun h9 => h9 (ng_gt hn96)))
            refine lv_aload_n hx hb dJ6_getChars_ba4f3_72 rfl (lv_at hl 6 rfl) ?_
            refine lv_iinc (v := (nI (((((((ix - 1) - 1) - 1) - 1) - 1) - 1) - 1))) (lv' := [(5, .int (nI (((((((ix - 1) - 1) - 1) - 1) - 1) - 1) - 1))), (0, .int (ngI w2x)), (4, .int (nI (w1x % 100))), (3, .int (ngI w2x)), (6, .int 1), (1, .int (nI ix)), (2, .ref o1)]) hx hb dJ6_getChars_ba4f3_73 hl (k := 0) rfl (nI_dec (a := ((((((ix - 1) - 1) - 1) - 1) - 1) - 1)) (b := (((((((ix - 1) - 1) - 1) - 1) - 1) - 1) - 1)) (by omega)) (by decide) rfl (fun ls hl => ?_)
            refine lv_iload hx hb dJ6_getChars_ba4f3_76 (lv_at hl 0 rfl) ?_
            refine va_gets hx hb hd1 hS hown (hts (.fieldLink RJ6 83 "java/lang/Integer" "DigitOnes" "[B") (by decide +kernel)) (fun _ h9 => h9) dJ6_getChars_ba4f3_78 ?_
            refine lv_iload_n hx hb dJ6_getChars_ba4f3_81 rfl (lv_at hl 1 rfl) ?_
            refine lv_ineg hx hb dJ6_getChars_ba4f3_82 ?_
            refine lv_topi (fun yn98 eyn98 => ?_)
            obtain rfl : yn98 = (nI w2x) := eyn98.trans (ng_opp)
            refine va_tb (v := .int (f1 ((nI w2x)).toNatClampNeg)) hx hb ht1 hS (vp_in_nI (n := w2x) (N := 100) (show w2x < 100 by omega) (by decide)) rfl dJ6_getChars_ba4f3_83 ?_
            refine lv_topi (fun yn99 eyn99 => ?_)
            refine va_bast hx hb hK hP hD hS 0 3 rfl rfl (vp_in_nI (n := (((((((ix - 1) - 1) - 1) - 1) - 1) - 1) - 1)) (N := cp) (show (((((((ix - 1) - 1) - 1) - 1) - 1) - 1) - 1) < cp by omega) (by omega)) dJ6_getChars_ba4f3_84 (fun H locs hP hD hS => ?_)
            have hP : va_P D vwCl [(o1, .inl (cA 3, cp, .inl (upd fn94 (((nI (((((((ix - 1) - 1) - 1) - 1) - 1) - 1) - 1))).toNatClampNeg) (vp_nar .byte yn99))))] H := hP
            have hD : va_D A [(o1, .inl (cA 3, cp, .inl (upd fn94 (((nI (((((((ix - 1) - 1) - 1) - 1) - 1) - 1) - 1))).toNatClampNeg) (vp_nar .byte yn99))))] := hD
            have hn101 : sb_Fit (upd fn94 (((nI (((((((ix - 1) - 1) - 1) - 1) - 1) - 1) - 1))).toNatClampNeg) (vp_nar .byte yn99)) := (sb_fitU hn95 (pk_fb _))
            generalize (upd fn94 (((nI (((((((ix - 1) - 1) - 1) - 1) - 1) - 1) - 1))).toNatClampNeg) (vp_nar .byte yn99)) = fn100 at hP hD hn101
            have hP : va_P D vwCl [(o1, .inl (cA 3, cp, .inl fn100))] H := hP
            have hD : va_D A [(o1, .inl (cA 3, cp, .inl fn100))] := hD
            rcases Nat.lt_or_ge w2x 10 with hn102 | hn102
            · skip
              refine lv_iload_n hx hb dJ6_getChars_ba4f3_85 rfl (lv_at hl 1 rfl) ?_
              refine lv_bipush (v := (-9)) hx hb dJ6_getChars_ba4f3_86 (by decide) ?_
              refine lv_icmp_ge (tgt := 104) hx hb dJ6_getChars_ba4f3_88 (by decide) (fun c103 => ?_) (fun c9 => absurd c9 (fun h9 => h9 (ng_ge9 hn102)))
              refine lv_iload hx hb dJ6_getChars_ba4f3_104 (lv_at hl 4 rfl) ?_
              refine lv_if_eq (tgt := 118) hx hb dJ6_getChars_ba4f3_106 (by decide) (fun c9 => absurd c9 (by decide)) (fun c104 => ?_)
              refine lv_aload_n hx hb dJ6_getChars_ba4f3_109 rfl (lv_at hl 6 rfl) ?_
              refine lv_iinc (v := (nI ((((((((ix - 1) - 1) - 1) - 1) - 1) - 1) - 1) - 1))) (lv' := [(5, .int (nI ((((((((ix - 1) - 1) - 1) - 1) - 1) - 1) - 1) - 1))), (0, .int (ngI w2x)), (4, .int (nI (w1x % 100))), (3, .int (ngI w2x)), (6, .int 1), (1, .int (nI ix)), (2, .ref o1)]) hx hb dJ6_getChars_ba4f3_110 hl (k := 0) rfl (nI_dec (a := (((((((ix - 1) - 1) - 1) - 1) - 1) - 1) - 1)) (b := ((((((((ix - 1) - 1) - 1) - 1) - 1) - 1) - 1) - 1)) (by omega)) (by decide) rfl (fun ls hl => ?_)
              refine lv_iload hx hb dJ6_getChars_ba4f3_113 (lv_at hl 0 rfl) ?_
              refine lv_bipush (v := 45) hx hb dJ6_getChars_ba4f3_115 (by decide) ?_
              refine va_bast hx hb hK hP hD hS 0 3 rfl rfl (vp_in_nI (n := ((((((((ix - 1) - 1) - 1) - 1) - 1) - 1) - 1) - 1)) (N := cp) (show ((((((((ix - 1) - 1) - 1) - 1) - 1) - 1) - 1) - 1) < cp by omega) (by omega)) dJ6_getChars_ba4f3_117 (fun H locs hP hD hS => ?_)
              have hP : va_P D vwCl [(o1, .inl (cA 3, cp, .inl (upd fn100 (((nI ((((((((ix - 1) - 1) - 1) - 1) - 1) - 1) - 1) - 1))).toNatClampNeg) (vp_nar .byte 45))))] H := hP
              have hD : va_D A [(o1, .inl (cA 3, cp, .inl (upd fn100 (((nI ((((((((ix - 1) - 1) - 1) - 1) - 1) - 1) - 1) - 1))).toNatClampNeg) (vp_nar .byte 45))))] := hD
              have hn106 : sb_Fit (upd fn100 (((nI ((((((((ix - 1) - 1) - 1) - 1) - 1) - 1) - 1) - 1))).toNatClampNeg) (vp_nar .byte 45)) := (sb_fitU hn101 (pk_fb _))
              generalize (upd fn100 (((nI ((((((((ix - 1) - 1) - 1) - 1) - 1) - 1) - 1) - 1))).toNatClampNeg) (vp_nar .byte 45)) = fn105 at hP hD hn106
              have hP : va_P D vwCl [(o1, .inl (cA 3, cp, .inl fn105))] H := hP
              have hD : va_D A [(o1, .inl (cA 3, cp, .inl fn105))] := hD
              refine lv_iload hx hb dJ6_getChars_ba4f3_118 (lv_at hl 0 rfl) ?_
              have hP9 := hP.sub (ws' := [(o1, .inl (cA 3, cp, .inl fn105))]) [0] rfl
              have hD9 := hD.sub (ws' := [(o1, .inl (cA 3, cp, .inl fn105))]) [0] (by decide) rfl
              refine W.widen (k := 0) (n := 0) (Nat.le_of_ble_eq_true rfl) (Nat.le_of_ble_eq_true rfl) ?_
              exact (W.iret (v := (nI ((((((((ix - 1) - 1) - 1) - 1) - 1) - 1) - 1) - 1))) hx hb hr (fun t ht hW => ⟨⟨(nI ((((((((ix - 1) - 1) - 1) - 1) - 1) - 1) - 1) - 1)), (), rfl, trivial, fn105, hn106, by rw [ht]; exact hP9, hD9⟩, hS.F ht⟩) hS.2.2 dJ6_getChars_ba4f3_120)
            · skip
              have hqhn102 := dg_2 hn102 (by omega)
              refine lv_iload_n hx hb dJ6_getChars_ba4f3_85 rfl (lv_at hl 1 rfl) ?_
              refine lv_bipush (v := (-9)) hx hb dJ6_getChars_ba4f3_86 (by decide) ?_
              refine lv_icmp_ge (tgt := 104) hx hb dJ6_getChars_ba4f3_88 (by decide) (fun c9 => absurd c9 (ng_nge9 hn102 (by omega))) (fun c107 => ?_)
              refine lv_aload_n hx hb dJ6_getChars_ba4f3_91 rfl (lv_at hl 6 rfl) ?_
              refine lv_iinc (v := (nI ((((((((ix - 1) - 1) - 1) - 1) - 1) - 1) - 1) - 1))) (lv' := [(5, .int (nI ((((((((ix - 1) - 1) - 1) - 1) - 1) - 1) - 1) - 1))), (0, .int (ngI w2x)), (4, .int (nI (w1x % 100))), (3, .int (ngI w2x)), (6, .int 1), (1, .int (nI ix)), (2, .ref o1)]) hx hb dJ6_getChars_ba4f3_92 hl (k := 0) rfl (nI_dec (a := (((((((ix - 1) - 1) - 1) - 1) - 1) - 1) - 1)) (b := ((((((((ix - 1) - 1) - 1) - 1) - 1) - 1) - 1) - 1)) (by omega)) (by decide) rfl (fun ls hl => ?_)
              refine lv_iload hx hb dJ6_getChars_ba4f3_95 (lv_at hl 0 rfl) ?_
              refine va_gets hx hb hd2 hS hown (hts (.fieldLink RJ6 87 "java/lang/Integer" "DigitTens" "[B") (by decide +kernel)) (fun _ h9 => h9) dJ6_getChars_ba4f3_97 ?_
              refine lv_iload_n hx hb dJ6_getChars_ba4f3_100 rfl (lv_at hl 1 rfl) ?_
              refine lv_ineg hx hb dJ6_getChars_ba4f3_101 ?_
              refine lv_topi (fun yn108 eyn108 => ?_)
              obtain rfl : yn108 = (nI w2x) := eyn108.trans (ng_opp)
              refine va_tb (v := .int (f2 ((nI w2x)).toNatClampNeg)) hx hb ht2 hS (vp_in_nI (n := w2x) (N := 100) (show w2x < 100 by omega) (by decide)) rfl dJ6_getChars_ba4f3_102 ?_
              refine lv_topi (fun yn109 eyn109 => ?_)
              refine va_bast hx hb hK hP hD hS 0 3 rfl rfl (vp_in_nI (n := ((((((((ix - 1) - 1) - 1) - 1) - 1) - 1) - 1) - 1)) (N := cp) (show ((((((((ix - 1) - 1) - 1) - 1) - 1) - 1) - 1) - 1) < cp by omega) (by omega)) dJ6_getChars_ba4f3_103 (fun H locs hP hD hS => ?_)
              have hP : va_P D vwCl [(o1, .inl (cA 3, cp, .inl (upd fn100 (((nI ((((((((ix - 1) - 1) - 1) - 1) - 1) - 1) - 1) - 1))).toNatClampNeg) (vp_nar .byte yn109))))] H := hP
              have hD : va_D A [(o1, .inl (cA 3, cp, .inl (upd fn100 (((nI ((((((((ix - 1) - 1) - 1) - 1) - 1) - 1) - 1) - 1))).toNatClampNeg) (vp_nar .byte yn109))))] := hD
              have hn111 : sb_Fit (upd fn100 (((nI ((((((((ix - 1) - 1) - 1) - 1) - 1) - 1) - 1) - 1))).toNatClampNeg) (vp_nar .byte yn109)) := (sb_fitU hn101 (pk_fb _))
              generalize (upd fn100 (((nI ((((((((ix - 1) - 1) - 1) - 1) - 1) - 1) - 1) - 1))).toNatClampNeg) (vp_nar .byte yn109)) = fn110 at hP hD hn111
              have hP : va_P D vwCl [(o1, .inl (cA 3, cp, .inl fn110))] H := hP
              have hD : va_D A [(o1, .inl (cA 3, cp, .inl fn110))] := hD
              refine lv_iload hx hb dJ6_getChars_ba4f3_104 (lv_at hl 4 rfl) ?_
              refine lv_if_eq (tgt := 118) hx hb dJ6_getChars_ba4f3_106 (by decide) (fun c9 => absurd c9 (by decide)) (fun c112 => ?_)
              refine lv_aload_n hx hb dJ6_getChars_ba4f3_109 rfl (lv_at hl 6 rfl) ?_
              refine lv_iinc (v := (nI (((((((((ix - 1) - 1) - 1) - 1) - 1) - 1) - 1) - 1) - 1))) (lv' := [(5, .int (nI (((((((((ix - 1) - 1) - 1) - 1) - 1) - 1) - 1) - 1) - 1))), (0, .int (ngI w2x)), (4, .int (nI (w1x % 100))), (3, .int (ngI w2x)), (6, .int 1), (1, .int (nI ix)), (2, .ref o1)]) hx hb dJ6_getChars_ba4f3_110 hl (k := 0) rfl (nI_dec (a := ((((((((ix - 1) - 1) - 1) - 1) - 1) - 1) - 1) - 1)) (b := (((((((((ix - 1) - 1) - 1) - 1) - 1) - 1) - 1) - 1) - 1)) (by omega)) (by decide) rfl (fun ls hl => ?_)
              refine lv_iload hx hb dJ6_getChars_ba4f3_113 (lv_at hl 0 rfl) ?_
              refine lv_bipush (v := 45) hx hb dJ6_getChars_ba4f3_115 (by decide) ?_
              refine va_bast hx hb hK hP hD hS 0 3 rfl rfl (vp_in_nI (n := (((((((((ix - 1) - 1) - 1) - 1) - 1) - 1) - 1) - 1) - 1)) (N := cp) (show (((((((((ix - 1) - 1) - 1) - 1) - 1) - 1) - 1) - 1) - 1) < cp by omega) (by omega)) dJ6_getChars_ba4f3_117 (fun H locs hP hD hS => ?_)
              have hP : va_P D vwCl [(o1, .inl (cA 3, cp, .inl (upd fn110 (((nI (((((((((ix - 1) - 1) - 1) - 1) - 1) - 1) - 1) - 1) - 1))).toNatClampNeg) (vp_nar .byte 45))))] H := hP
              have hD : va_D A [(o1, .inl (cA 3, cp, .inl (upd fn110 (((nI (((((((((ix - 1) - 1) - 1) - 1) - 1) - 1) - 1) - 1) - 1))).toNatClampNeg) (vp_nar .byte 45))))] := hD
              have hn114 : sb_Fit (upd fn110 (((nI (((((((((ix - 1) - 1) - 1) - 1) - 1) - 1) - 1) - 1) - 1))).toNatClampNeg) (vp_nar .byte 45)) := (sb_fitU hn111 (pk_fb _))
              generalize (upd fn110 (((nI (((((((((ix - 1) - 1) - 1) - 1) - 1) - 1) - 1) - 1) - 1))).toNatClampNeg) (vp_nar .byte 45)) = fn113 at hP hD hn114
              have hP : va_P D vwCl [(o1, .inl (cA 3, cp, .inl fn113))] H := hP
              have hD : va_D A [(o1, .inl (cA 3, cp, .inl fn113))] := hD
              refine lv_iload hx hb dJ6_getChars_ba4f3_118 (lv_at hl 0 rfl) ?_
              have hP9 := hP.sub (ws' := [(o1, .inl (cA 3, cp, .inl fn113))]) [0] rfl
              have hD9 := hD.sub (ws' := [(o1, .inl (cA 3, cp, .inl fn113))]) [0] (by decide) rfl
              refine W.widen (k := 0) (n := 0) (Nat.le_of_ble_eq_true rfl) (Nat.le_of_ble_eq_true rfl) ?_
              exact (W.iret (v := (nI (((((((((ix - 1) - 1) - 1) - 1) - 1) - 1) - 1) - 1) - 1))) hx hb hr (fun t ht hW => ⟨⟨(nI (((((((((ix - 1) - 1) - 1) - 1) - 1) - 1) - 1) - 1) - 1)), (), rfl, trivial, fn113, hn114, by rw [ht]; exact hP9, hD9⟩, hS.F ht⟩) hS.2.2 dJ6_getChars_ba4f3_120)
          · skip
            refine lv_iload_n hx hb dJ6_getChars_ba4f3_22 rfl (lv_at hl 1 rfl) ?_
            refine lv_bipush (v := (-100)) hx hb dJ6_getChars_ba4f3_23 (by decide) ?_
            refine lv_icmp_gt (tgt := 72) hx hb dJ6_getChars_ba4f3_25 (by decide) (fun c9 => absurd c9 (ng_ngt hn96 (by omega))) (fun c115 => ?_)
            refine lv_iload_n hx hb dJ6_getChars_ba4f3_28 rfl (lv_at hl 1 rfl) ?_
            refine lv_bipush (v := 100) hx hb dJ6_getChars_ba4f3_29 (by decide) ?_
            obtain ⟨w3x, hw3x⟩ : ∃ x9, x9 = w2x / 100 := ⟨_, rfl⟩
            have hdw3x : dg w2x = dg w3x + 2 := by rw [hw3x]; exact dg_100 (by omega) hn96
            have hpw3x := dg_pos w3x
            refine lv_idiv hx hb dJ6_getChars_ba4f3_31 (by decide) ?_
            refine lv_topi (fun yn116 eyn116 => ?_)
            obtain rfl : yn116 = (ngI w3x) := eyn116.trans (by rw [ng_div (by omega), ← hw3x])
            refine lv_istore_n (lv' := [(3, .int (ngI w3x)), (5, .int (nI ((((((ix - 1) - 1) - 1) - 1) - 1) - 1))), (0, .int (ngI w2x)), (4, .int (nI (w1x % 100))), (6, .int 1), (1, .int (nI ix)), (2, .ref o1)]) hx hb dJ6_getChars_ba4f3_32 rfl hl (by decide) rfl (fun ls hl => ?_)
            refine lv_iload_n hx hb dJ6_getChars_ba4f3_33 rfl (lv_at hl 0 rfl) ?_
            refine lv_bipush (v := 100) hx hb dJ6_getChars_ba4f3_34 (by decide) ?_
            refine lv_imul hx hb dJ6_getChars_ba4f3_36 ?_
            refine lv_topi (fun yn117 eyn117 => ?_)
            refine lv_iload_n hx hb dJ6_getChars_ba4f3_37 rfl (lv_at hl 2 rfl) ?_
            refine lv_isub hx hb dJ6_getChars_ba4f3_38 ?_
            refine lv_topi (fun yn120 eyn120 => ?_)
            obtain rfl : yn120 = (nI (w2x % 100)) := eyn120.trans (by rw [eyn117, hw3x]; exact ng_rem (by omega))
            refine lv_istore (lv' := [(4, .int (nI (w2x % 100))), (3, .int (ngI w3x)), (5, .int (nI ((((((ix - 1) - 1) - 1) - 1) - 1) - 1))), (0, .int (ngI w2x)), (6, .int 1), (1, .int (nI ix)), (2, .ref o1)]) hx hb dJ6_getChars_ba4f3_39 hl (by decide) rfl (fun ls hl => ?_)
            refine lv_iload_n hx hb dJ6_getChars_ba4f3_41 rfl (lv_at hl 1 rfl) ?_
            refine lv_istore_n (lv' := [(0, .int (ngI w3x)), (4, .int (nI (w2x % 100))), (3, .int (ngI w3x)), (5, .int (nI ((((((ix - 1) - 1) - 1) - 1) - 1) - 1))), (6, .int 1), (1, .int (nI ix)), (2, .ref o1)]) hx hb dJ6_getChars_ba4f3_42 rfl hl (by decide) rfl (fun ls hl => ?_)
            refine lv_aload_n hx hb dJ6_getChars_ba4f3_43 rfl (lv_at hl 6 rfl) ?_
            refine lv_iinc (v := (nI (((((((ix - 1) - 1) - 1) - 1) - 1) - 1) - 1))) (lv' := [(5, .int (nI (((((((ix - 1) - 1) - 1) - 1) - 1) - 1) - 1))), (0, .int (ngI w3x)), (4, .int (nI (w2x % 100))), (3, .int (ngI w3x)), (6, .int 1), (1, .int (nI ix)), (2, .ref o1)]) hx hb dJ6_getChars_ba4f3_44 hl (k := 3) rfl (nI_dec (a := ((((((ix - 1) - 1) - 1) - 1) - 1) - 1)) (b := (((((((ix - 1) - 1) - 1) - 1) - 1) - 1) - 1)) (by omega)) (by decide) rfl (fun ls hl => ?_)
            refine lv_iload hx hb dJ6_getChars_ba4f3_47 (lv_at hl 0 rfl) ?_
            refine va_gets hx hb hd1 hS hown (hts (.fieldLink RJ6 83 "java/lang/Integer" "DigitOnes" "[B") (by decide +kernel)) (fun _ h9 => h9) dJ6_getChars_ba4f3_49 ?_
            refine lv_iload hx hb dJ6_getChars_ba4f3_52 (lv_at hl 2 rfl) ?_
            refine va_tb (v := .int (f1 ((nI (w2x % 100))).toNatClampNeg)) hx hb ht1 hS (vp_in_nI (n := (w2x % 100)) (N := 100) (show (w2x % 100) < 100 by omega) (by decide)) rfl dJ6_getChars_ba4f3_54 ?_
            refine lv_topi (fun yn121 eyn121 => ?_)
            refine va_bast hx hb hK hP hD hS 0 3 rfl rfl (vp_in_nI (n := (((((((ix - 1) - 1) - 1) - 1) - 1) - 1) - 1)) (N := cp) (show (((((((ix - 1) - 1) - 1) - 1) - 1) - 1) - 1) < cp by omega) (by omega)) dJ6_getChars_ba4f3_55 (fun H locs hP hD hS => ?_)
            have hP : va_P D vwCl [(o1, .inl (cA 3, cp, .inl (upd fn94 (((nI (((((((ix - 1) - 1) - 1) - 1) - 1) - 1) - 1))).toNatClampNeg) (vp_nar .byte yn121))))] H := hP
            have hD : va_D A [(o1, .inl (cA 3, cp, .inl (upd fn94 (((nI (((((((ix - 1) - 1) - 1) - 1) - 1) - 1) - 1))).toNatClampNeg) (vp_nar .byte yn121))))] := hD
            have hn123 : sb_Fit (upd fn94 (((nI (((((((ix - 1) - 1) - 1) - 1) - 1) - 1) - 1))).toNatClampNeg) (vp_nar .byte yn121)) := (sb_fitU hn95 (pk_fb _))
            generalize (upd fn94 (((nI (((((((ix - 1) - 1) - 1) - 1) - 1) - 1) - 1))).toNatClampNeg) (vp_nar .byte yn121)) = fn122 at hP hD hn123
            have hP : va_P D vwCl [(o1, .inl (cA 3, cp, .inl fn122))] H := hP
            have hD : va_D A [(o1, .inl (cA 3, cp, .inl fn122))] := hD
            refine lv_aload_n hx hb dJ6_getChars_ba4f3_56 rfl (lv_at hl 6 rfl) ?_
            refine lv_iinc (v := (nI ((((((((ix - 1) - 1) - 1) - 1) - 1) - 1) - 1) - 1))) (lv' := [(5, .int (nI ((((((((ix - 1) - 1) - 1) - 1) - 1) - 1) - 1) - 1))), (0, .int (ngI w3x)), (4, .int (nI (w2x % 100))), (3, .int (ngI w3x)), (6, .int 1), (1, .int (nI ix)), (2, .ref o1)]) hx hb dJ6_getChars_ba4f3_57 hl (k := 0) rfl (nI_dec (a := (((((((ix - 1) - 1) - 1) - 1) - 1) - 1) - 1)) (b := ((((((((ix - 1) - 1) - 1) - 1) - 1) - 1) - 1) - 1)) (by omega)) (by decide) rfl (fun ls hl => ?_)
            refine lv_iload hx hb dJ6_getChars_ba4f3_60 (lv_at hl 0 rfl) ?_
            refine va_gets hx hb hd2 hS hown (hts (.fieldLink RJ6 87 "java/lang/Integer" "DigitTens" "[B") (by decide +kernel)) (fun _ h9 => h9) dJ6_getChars_ba4f3_62 ?_
            refine lv_iload hx hb dJ6_getChars_ba4f3_65 (lv_at hl 2 rfl) ?_
            refine va_tb (v := .int (f2 ((nI (w2x % 100))).toNatClampNeg)) hx hb ht2 hS (vp_in_nI (n := (w2x % 100)) (N := 100) (show (w2x % 100) < 100 by omega) (by decide)) rfl dJ6_getChars_ba4f3_67 ?_
            refine lv_topi (fun yn124 eyn124 => ?_)
            refine va_bast hx hb hK hP hD hS 0 3 rfl rfl (vp_in_nI (n := ((((((((ix - 1) - 1) - 1) - 1) - 1) - 1) - 1) - 1)) (N := cp) (show ((((((((ix - 1) - 1) - 1) - 1) - 1) - 1) - 1) - 1) < cp by omega) (by omega)) dJ6_getChars_ba4f3_68 (fun H locs hP hD hS => ?_)
            have hP : va_P D vwCl [(o1, .inl (cA 3, cp, .inl (upd fn122 (((nI ((((((((ix - 1) - 1) - 1) - 1) - 1) - 1) - 1) - 1))).toNatClampNeg) (vp_nar .byte yn124))))] H := hP
            have hD : va_D A [(o1, .inl (cA 3, cp, .inl (upd fn122 (((nI ((((((((ix - 1) - 1) - 1) - 1) - 1) - 1) - 1) - 1))).toNatClampNeg) (vp_nar .byte yn124))))] := hD
            have hn126 : sb_Fit (upd fn122 (((nI ((((((((ix - 1) - 1) - 1) - 1) - 1) - 1) - 1) - 1))).toNatClampNeg) (vp_nar .byte yn124)) := (sb_fitU hn123 (pk_fb _))
            generalize (upd fn122 (((nI ((((((((ix - 1) - 1) - 1) - 1) - 1) - 1) - 1) - 1))).toNatClampNeg) (vp_nar .byte yn124)) = fn125 at hP hD hn126
            have hP : va_P D vwCl [(o1, .inl (cA 3, cp, .inl fn125))] H := hP
            have hD : va_D A [(o1, .inl (cA 3, cp, .inl fn125))] := hD
            refine lv_goto (tgt := 22) hx hb dJ6_getChars_ba4f3_69 (by decide) ?_
            have hqhn127 := dg_pos w3x
            have hn127 : w3x < 100 := by omega
            refine lv_iload_n hx hb dJ6_getChars_ba4f3_22 rfl (lv_at hl 1 rfl) ?_
            refine lv_bipush (v := (-100)) hx hb dJ6_getChars_ba4f3_23 (by decide) ?_
            refine lv_icmp_gt (tgt := 72) hx hb dJ6_getChars_ba4f3_25 (by decide) (fun c128 => ?_) (fun c9 => absurd c9 (fun h9 => h9 (ng_gt hn127)))
            refine lv_aload_n hx hb dJ6_getChars_ba4f3_72 rfl (lv_at hl 6 rfl) ?_
            refine lv_iinc (v := (nI (((((((((ix - 1) - 1) - 1) - 1) - 1) - 1) - 1) - 1) - 1))) (lv' := [(5, .int (nI (((((((((ix - 1) - 1) - 1) - 1) - 1) - 1) - 1) - 1) - 1))), (0, .int (ngI w3x)), (4, .int (nI (w2x % 100))), (3, .int (ngI w3x)), (6, .int 1), (1, .int (nI ix)), (2, .ref o1)]) hx hb dJ6_getChars_ba4f3_73 hl (k := 0) rfl (nI_dec (a := ((((((((ix - 1) - 1) - 1) - 1) - 1) - 1) - 1) - 1)) (b := (((((((((ix - 1) - 1) - 1) - 1) - 1) - 1) - 1) - 1) - 1)) (by omega)) (by decide) rfl (fun ls hl => ?_)
            refine lv_iload hx hb dJ6_getChars_ba4f3_76 (lv_at hl 0 rfl) ?_
            refine va_gets hx hb hd1 hS hown (hts (.fieldLink RJ6 83 "java/lang/Integer" "DigitOnes" "[B") (by decide +kernel)) (fun _ h9 => h9) dJ6_getChars_ba4f3_78 ?_
            refine lv_iload_n hx hb dJ6_getChars_ba4f3_81 rfl (lv_at hl 1 rfl) ?_
            refine lv_ineg hx hb dJ6_getChars_ba4f3_82 ?_
            refine lv_topi (fun yn129 eyn129 => ?_)
            obtain rfl : yn129 = (nI w3x) := eyn129.trans (ng_opp)
            refine va_tb (v := .int (f1 ((nI w3x)).toNatClampNeg)) hx hb ht1 hS (vp_in_nI (n := w3x) (N := 100) (show w3x < 100 by omega) (by decide)) rfl dJ6_getChars_ba4f3_83 ?_
            refine lv_topi (fun yn130 eyn130 => ?_)
            refine va_bast hx hb hK hP hD hS 0 3 rfl rfl (vp_in_nI (n := (((((((((ix - 1) - 1) - 1) - 1) - 1) - 1) - 1) - 1) - 1)) (N := cp) (show (((((((((ix - 1) - 1) - 1) - 1) - 1) - 1) - 1) - 1) - 1) < cp by omega) (by omega)) dJ6_getChars_ba4f3_84 (fun H locs hP hD hS => ?_)
            have hP : va_P D vwCl [(o1, .inl (cA 3, cp, .inl (upd fn125 (((nI (((((((((ix - 1) - 1) - 1) - 1) - 1) - 1) - 1) - 1) - 1))).toNatClampNeg) (vp_nar .byte yn130))))] H := hP
            have hD : va_D A [(o1, .inl (cA 3, cp, .inl (upd fn125 (((nI (((((((((ix - 1) - 1) - 1) - 1) - 1) - 1) - 1) - 1) - 1))).toNatClampNeg) (vp_nar .byte yn130))))] := hD
            have hn132 : sb_Fit (upd fn125 (((nI (((((((((ix - 1) - 1) - 1) - 1) - 1) - 1) - 1) - 1) - 1))).toNatClampNeg) (vp_nar .byte yn130)) := (sb_fitU hn126 (pk_fb _))
            generalize (upd fn125 (((nI (((((((((ix - 1) - 1) - 1) - 1) - 1) - 1) - 1) - 1) - 1))).toNatClampNeg) (vp_nar .byte yn130)) = fn131 at hP hD hn132
            have hP : va_P D vwCl [(o1, .inl (cA 3, cp, .inl fn131))] H := hP
            have hD : va_D A [(o1, .inl (cA 3, cp, .inl fn131))] := hD
            rcases Nat.lt_or_ge w3x 10 with hn133 | hn133
            · skip
              refine lv_iload_n hx hb dJ6_getChars_ba4f3_85 rfl (lv_at hl 1 rfl) ?_
              refine lv_bipush (v := (-9)) hx hb dJ6_getChars_ba4f3_86 (by decide) ?_
              refine lv_icmp_ge (tgt := 104) hx hb dJ6_getChars_ba4f3_88 (by decide) (fun c134 => ?_) (fun c9 => absurd c9 (fun h9 => h9 (ng_ge9 hn133)))
              refine lv_iload hx hb dJ6_getChars_ba4f3_104 (lv_at hl 4 rfl) ?_
              refine lv_if_eq (tgt := 118) hx hb dJ6_getChars_ba4f3_106 (by decide) (fun c9 => absurd c9 (by decide)) (fun c135 => ?_)
              refine lv_aload_n hx hb dJ6_getChars_ba4f3_109 rfl (lv_at hl 6 rfl) ?_
              refine lv_iinc (v := (nI ((((((((((ix - 1) - 1) - 1) - 1) - 1) - 1) - 1) - 1) - 1) - 1))) (lv' := [(5, .int (nI ((((((((((ix - 1) - 1) - 1) - 1) - 1) - 1) - 1) - 1) - 1) - 1))), (0, .int (ngI w3x)), (4, .int (nI (w2x % 100))), (3, .int (ngI w3x)), (6, .int 1), (1, .int (nI ix)), (2, .ref o1)]) hx hb dJ6_getChars_ba4f3_110 hl (k := 0) rfl (nI_dec (a := (((((((((ix - 1) - 1) - 1) - 1) - 1) - 1) - 1) - 1) - 1)) (b := ((((((((((ix - 1) - 1) - 1) - 1) - 1) - 1) - 1) - 1) - 1) - 1)) (by omega)) (by decide) rfl (fun ls hl => ?_)
              refine lv_iload hx hb dJ6_getChars_ba4f3_113 (lv_at hl 0 rfl) ?_
              refine lv_bipush (v := 45) hx hb dJ6_getChars_ba4f3_115 (by decide) ?_
              refine va_bast hx hb hK hP hD hS 0 3 rfl rfl (vp_in_nI (n := ((((((((((ix - 1) - 1) - 1) - 1) - 1) - 1) - 1) - 1) - 1) - 1)) (N := cp) (show ((((((((((ix - 1) - 1) - 1) - 1) - 1) - 1) - 1) - 1) - 1) - 1) < cp by omega) (by omega)) dJ6_getChars_ba4f3_117 (fun H locs hP hD hS => ?_)
              have hP : va_P D vwCl [(o1, .inl (cA 3, cp, .inl (upd fn131 (((nI ((((((((((ix - 1) - 1) - 1) - 1) - 1) - 1) - 1) - 1) - 1) - 1))).toNatClampNeg) (vp_nar .byte 45))))] H := hP
              have hD : va_D A [(o1, .inl (cA 3, cp, .inl (upd fn131 (((nI ((((((((((ix - 1) - 1) - 1) - 1) - 1) - 1) - 1) - 1) - 1) - 1))).toNatClampNeg) (vp_nar .byte 45))))] := hD
              have hn137 : sb_Fit (upd fn131 (((nI ((((((((((ix - 1) - 1) - 1) - 1) - 1) - 1) - 1) - 1) - 1) - 1))).toNatClampNeg) (vp_nar .byte 45)) := (sb_fitU hn132 (pk_fb _))
              generalize (upd fn131 (((nI ((((((((((ix - 1) - 1) - 1) - 1) - 1) - 1) - 1) - 1) - 1) - 1))).toNatClampNeg) (vp_nar .byte 45)) = fn136 at hP hD hn137
              have hP : va_P D vwCl [(o1, .inl (cA 3, cp, .inl fn136))] H := hP
              have hD : va_D A [(o1, .inl (cA 3, cp, .inl fn136))] := hD
              refine lv_iload hx hb dJ6_getChars_ba4f3_118 (lv_at hl 0 rfl) ?_
              have hP9 := hP.sub (ws' := [(o1, .inl (cA 3, cp, .inl fn136))]) [0] rfl
              have hD9 := hD.sub (ws' := [(o1, .inl (cA 3, cp, .inl fn136))]) [0] (by decide) rfl
              refine W.widen (k := 0) (n := 0) (Nat.le_of_ble_eq_true rfl) (Nat.le_of_ble_eq_true rfl) ?_
              exact (W.iret (v := (nI ((((((((((ix - 1) - 1) - 1) - 1) - 1) - 1) - 1) - 1) - 1) - 1))) hx hb hr (fun t ht hW => ⟨⟨(nI ((((((((((ix - 1) - 1) - 1) - 1) - 1) - 1) - 1) - 1) - 1) - 1)), (), rfl, trivial, fn136, hn137, by rw [ht]; exact hP9, hD9⟩, hS.F ht⟩) hS.2.2 dJ6_getChars_ba4f3_120)
            · skip
              have hqhn133 := dg_2 hn133 (by omega)
              refine lv_iload_n hx hb dJ6_getChars_ba4f3_85 rfl (lv_at hl 1 rfl) ?_
              refine lv_bipush (v := (-9)) hx hb dJ6_getChars_ba4f3_86 (by decide) ?_
              refine lv_icmp_ge (tgt := 104) hx hb dJ6_getChars_ba4f3_88 (by decide) (fun c9 => absurd c9 (ng_nge9 hn133 (by omega))) (fun c138 => ?_)
              refine lv_aload_n hx hb dJ6_getChars_ba4f3_91 rfl (lv_at hl 6 rfl) ?_
              refine lv_iinc (v := (nI ((((((((((ix - 1) - 1) - 1) - 1) - 1) - 1) - 1) - 1) - 1) - 1))) (lv' := [(5, .int (nI ((((((((((ix - 1) - 1) - 1) - 1) - 1) - 1) - 1) - 1) - 1) - 1))), (0, .int (ngI w3x)), (4, .int (nI (w2x % 100))), (3, .int (ngI w3x)), (6, .int 1), (1, .int (nI ix)), (2, .ref o1)]) hx hb dJ6_getChars_ba4f3_92 hl (k := 0) rfl (nI_dec (a := (((((((((ix - 1) - 1) - 1) - 1) - 1) - 1) - 1) - 1) - 1)) (b := ((((((((((ix - 1) - 1) - 1) - 1) - 1) - 1) - 1) - 1) - 1) - 1)) (by omega)) (by decide) rfl (fun ls hl => ?_)
              refine lv_iload hx hb dJ6_getChars_ba4f3_95 (lv_at hl 0 rfl) ?_
              refine va_gets hx hb hd2 hS hown (hts (.fieldLink RJ6 87 "java/lang/Integer" "DigitTens" "[B") (by decide +kernel)) (fun _ h9 => h9) dJ6_getChars_ba4f3_97 ?_
              refine lv_iload_n hx hb dJ6_getChars_ba4f3_100 rfl (lv_at hl 1 rfl) ?_
              refine lv_ineg hx hb dJ6_getChars_ba4f3_101 ?_
              refine lv_topi (fun yn139 eyn139 => ?_)
              obtain rfl : yn139 = (nI w3x) := eyn139.trans (ng_opp)
              refine va_tb (v := .int (f2 ((nI w3x)).toNatClampNeg)) hx hb ht2 hS (vp_in_nI (n := w3x) (N := 100) (show w3x < 100 by omega) (by decide)) rfl dJ6_getChars_ba4f3_102 ?_
              refine lv_topi (fun yn140 eyn140 => ?_)
              refine va_bast hx hb hK hP hD hS 0 3 rfl rfl (vp_in_nI (n := ((((((((((ix - 1) - 1) - 1) - 1) - 1) - 1) - 1) - 1) - 1) - 1)) (N := cp) (show ((((((((((ix - 1) - 1) - 1) - 1) - 1) - 1) - 1) - 1) - 1) - 1) < cp by omega) (by omega)) dJ6_getChars_ba4f3_103 (fun H locs hP hD hS => ?_)
              have hP : va_P D vwCl [(o1, .inl (cA 3, cp, .inl (upd fn131 (((nI ((((((((((ix - 1) - 1) - 1) - 1) - 1) - 1) - 1) - 1) - 1) - 1))).toNatClampNeg) (vp_nar .byte yn140))))] H := hP
              have hD : va_D A [(o1, .inl (cA 3, cp, .inl (upd fn131 (((nI ((((((((((ix - 1) - 1) - 1) - 1) - 1) - 1) - 1) - 1) - 1) - 1))).toNatClampNeg) (vp_nar .byte yn140))))] := hD
              have hn142 : sb_Fit (upd fn131 (((nI ((((((((((ix - 1) - 1) - 1) - 1) - 1) - 1) - 1) - 1) - 1) - 1))).toNatClampNeg) (vp_nar .byte yn140)) := (sb_fitU hn132 (pk_fb _))
              generalize (upd fn131 (((nI ((((((((((ix - 1) - 1) - 1) - 1) - 1) - 1) - 1) - 1) - 1) - 1))).toNatClampNeg) (vp_nar .byte yn140)) = fn141 at hP hD hn142
              have hP : va_P D vwCl [(o1, .inl (cA 3, cp, .inl fn141))] H := hP
              have hD : va_D A [(o1, .inl (cA 3, cp, .inl fn141))] := hD
              refine lv_iload hx hb dJ6_getChars_ba4f3_104 (lv_at hl 4 rfl) ?_
              refine lv_if_eq (tgt := 118) hx hb dJ6_getChars_ba4f3_106 (by decide) (fun c9 => absurd c9 (by decide)) (fun c143 => ?_)
              refine lv_aload_n hx hb dJ6_getChars_ba4f3_109 rfl (lv_at hl 6 rfl) ?_
              refine lv_iinc (v := (nI (((((((((((ix - 1) - 1) - 1) - 1) - 1) - 1) - 1) - 1) - 1) - 1) - 1))) (lv' := [(5, .int (nI (((((((((((ix - 1) - 1) - 1) - 1) - 1) - 1) - 1) - 1) - 1) - 1) - 1))), (0, .int (ngI w3x)), (4, .int (nI (w2x % 100))), (3, .int (ngI w3x)), (6, .int 1), (1, .int (nI ix)), (2, .ref o1)]) hx hb dJ6_getChars_ba4f3_110 hl (k := 0) rfl (nI_dec (a := ((((((((((ix - 1) - 1) - 1) - 1) - 1) - 1) - 1) - 1) - 1) - 1)) (b := (((((((((((ix - 1) - 1) - 1) - 1) - 1) - 1) - 1) - 1) - 1) - 1) - 1)) (by omega)) (by decide) rfl (fun ls hl => ?_)
              refine lv_iload hx hb dJ6_getChars_ba4f3_113 (lv_at hl 0 rfl) ?_
              refine lv_bipush (v := 45) hx hb dJ6_getChars_ba4f3_115 (by decide) ?_
              refine va_bast hx hb hK hP hD hS 0 3 rfl rfl (vp_in_nI (n := (((((((((((ix - 1) - 1) - 1) - 1) - 1) - 1) - 1) - 1) - 1) - 1) - 1)) (N := cp) (show (((((((((((ix - 1) - 1) - 1) - 1) - 1) - 1) - 1) - 1) - 1) - 1) - 1) < cp by omega) (by omega)) dJ6_getChars_ba4f3_117 (fun H locs hP hD hS => ?_)
              have hP : va_P D vwCl [(o1, .inl (cA 3, cp, .inl (upd fn141 (((nI (((((((((((ix - 1) - 1) - 1) - 1) - 1) - 1) - 1) - 1) - 1) - 1) - 1))).toNatClampNeg) (vp_nar .byte 45))))] H := hP
              have hD : va_D A [(o1, .inl (cA 3, cp, .inl (upd fn141 (((nI (((((((((((ix - 1) - 1) - 1) - 1) - 1) - 1) - 1) - 1) - 1) - 1) - 1))).toNatClampNeg) (vp_nar .byte 45))))] := hD
              have hn145 : sb_Fit (upd fn141 (((nI (((((((((((ix - 1) - 1) - 1) - 1) - 1) - 1) - 1) - 1) - 1) - 1) - 1))).toNatClampNeg) (vp_nar .byte 45)) := (sb_fitU hn142 (pk_fb _))
              generalize (upd fn141 (((nI (((((((((((ix - 1) - 1) - 1) - 1) - 1) - 1) - 1) - 1) - 1) - 1) - 1))).toNatClampNeg) (vp_nar .byte 45)) = fn144 at hP hD hn145
              have hP : va_P D vwCl [(o1, .inl (cA 3, cp, .inl fn144))] H := hP
              have hD : va_D A [(o1, .inl (cA 3, cp, .inl fn144))] := hD
              refine lv_iload hx hb dJ6_getChars_ba4f3_118 (lv_at hl 0 rfl) ?_
              have hP9 := hP.sub (ws' := [(o1, .inl (cA 3, cp, .inl fn144))]) [0] rfl
              have hD9 := hD.sub (ws' := [(o1, .inl (cA 3, cp, .inl fn144))]) [0] (by decide) rfl
              refine W.widen (k := 0) (n := 0) (Nat.le_of_ble_eq_true rfl) (Nat.le_of_ble_eq_true rfl) ?_
              exact (W.iret (v := (nI (((((((((((ix - 1) - 1) - 1) - 1) - 1) - 1) - 1) - 1) - 1) - 1) - 1))) hx hb hr (fun t ht hW => ⟨⟨(nI (((((((((((ix - 1) - 1) - 1) - 1) - 1) - 1) - 1) - 1) - 1) - 1) - 1)), (), rfl, trivial, fn144, hn145, by rw [ht]; exact hP9, hD9⟩, hS.F ht⟩) hS.2.2 dJ6_getChars_ba4f3_120)
  · skip
    refine lv_iload_n hx hb dJ6_getChars_ba4f3_0 rfl (lv_at hl 1 rfl) ?_
    refine lv_istore (lv' := [(5, .int (nI ix)), (0, .int a), (1, .int (nI ix)), (2, .ref o1)]) hx hb dJ6_getChars_ba4f3_1 hl (by decide) rfl (fun ls hl => ?_)
    refine lv_iload_n hx hb dJ6_getChars_ba4f3_3 rfl (lv_at hl 1 rfl) ?_
    refine lv_if_ge (tgt := 11) hx hb dJ6_getChars_ba4f3_4 (by decide) (fun c146 => ?_) (fun c9 => absurd c9 (fun h9 => h9 (Int32.not_lt.mp hn1)))
    refine lv_iconst (v := 0) hx hb dJ6_getChars_ba4f3_11 (by decide) ?_
    refine lv_istore (lv' := [(6, .int 0), (5, .int (nI ix)), (0, .int a), (1, .int (nI ix)), (2, .ref o1)]) hx hb dJ6_getChars_ba4f3_12 hl (by decide) rfl (fun ls hl => ?_)
    refine lv_iload hx hb dJ6_getChars_ba4f3_14 (lv_at hl 0 rfl) ?_
    refine lv_if_ne (tgt := 22) hx hb dJ6_getChars_ba4f3_16 (by decide) (fun c9 => absurd c9 (by decide)) (fun c147 => ?_)
    refine lv_iload_n hx hb dJ6_getChars_ba4f3_19 rfl (lv_at hl 2 rfl) ?_
    refine lv_ineg hx hb dJ6_getChars_ba4f3_20 ?_
    refine lv_topi (fun yn148 eyn148 => ?_)
    obtain rfl : yn148 = (ngI w9) := eyn148.trans hn2
    refine lv_istore_n (lv' := [(0, .int (ngI w9)), (6, .int 0), (5, .int (nI ix)), (1, .int (nI ix)), (2, .ref o1)]) hx hb dJ6_getChars_ba4f3_21 rfl hl (by decide) rfl (fun ls hl => ?_)
    have hqhn149 := dg_pos w9
    rcases Nat.lt_or_ge w9 100 with hn149 | hn149
    · skip
      refine lv_iload_n hx hb dJ6_getChars_ba4f3_22 rfl (lv_at hl 0 rfl) ?_
      refine lv_bipush (v := (-100)) hx hb dJ6_getChars_ba4f3_23 (by decide) ?_
      refine lv_icmp_gt (tgt := 72) hx hb dJ6_getChars_ba4f3_25 (by decide) (fun c150 => ?_) (fun c9 => absurd c9 (fun h9 => h9 (ng_gt hn149)))
      refine lv_aload_n hx hb dJ6_getChars_ba4f3_72 rfl (lv_at hl 4 rfl) ?_
      refine lv_iinc (v := (nI (ix - 1))) (lv' := [(5, .int (nI (ix - 1))), (0, .int (ngI w9)), (6, .int 0), (1, .int (nI ix)), (2, .ref o1)]) hx hb dJ6_getChars_ba4f3_73 hl (k := 2) rfl (nI_dec (a := ix) (b := (ix - 1)) (by omega)) (by decide) rfl (fun ls hl => ?_)
      refine lv_iload hx hb dJ6_getChars_ba4f3_76 (lv_at hl 0 rfl) ?_
      refine va_gets hx hb hd1 hS hown (hts (.fieldLink RJ6 83 "java/lang/Integer" "DigitOnes" "[B") (by decide +kernel)) (fun _ h9 => h9) dJ6_getChars_ba4f3_78 ?_
      refine lv_iload_n hx hb dJ6_getChars_ba4f3_81 rfl (lv_at hl 1 rfl) ?_
      refine lv_ineg hx hb dJ6_getChars_ba4f3_82 ?_
      refine lv_topi (fun yn151 eyn151 => ?_)
      obtain rfl : yn151 = (nI w9) := eyn151.trans (ng_opp)
      refine va_tb (v := .int (f1 ((nI w9)).toNatClampNeg)) hx hb ht1 hS (vp_in_nI (n := w9) (N := 100) (show w9 < 100 by omega) (by decide)) rfl dJ6_getChars_ba4f3_83 ?_
      refine lv_topi (fun yn152 eyn152 => ?_)
      refine va_bast hx hb hK hP hD hS 0 3 rfl rfl (vp_in_nI (n := (ix - 1)) (N := cp) (show (ix - 1) < cp by omega) (by omega)) dJ6_getChars_ba4f3_84 (fun H locs hP hD hS => ?_)
      have hP : va_P D vwCl [(o1, .inl (cA 3, cp, .inl (upd fy (((nI (ix - 1))).toNatClampNeg) (vp_nar .byte yn152))))] H := hP
      have hD : va_D A [(o1, .inl (cA 3, cp, .inl (upd fy (((nI (ix - 1))).toNatClampNeg) (vp_nar .byte yn152))))] := hD
      have hn154 : sb_Fit (upd fy (((nI (ix - 1))).toNatClampNeg) (vp_nar .byte yn152)) := (sb_fitU hfit (pk_fb _))
      generalize (upd fy (((nI (ix - 1))).toNatClampNeg) (vp_nar .byte yn152)) = fn153 at hP hD hn154
      have hP : va_P D vwCl [(o1, .inl (cA 3, cp, .inl fn153))] H := hP
      have hD : va_D A [(o1, .inl (cA 3, cp, .inl fn153))] := hD
      rcases Nat.lt_or_ge w9 10 with hn155 | hn155
      · skip
        refine lv_iload_n hx hb dJ6_getChars_ba4f3_85 rfl (lv_at hl 1 rfl) ?_
        refine lv_bipush (v := (-9)) hx hb dJ6_getChars_ba4f3_86 (by decide) ?_
        refine lv_icmp_ge (tgt := 104) hx hb dJ6_getChars_ba4f3_88 (by decide) (fun c156 => ?_) (fun c9 => absurd c9 (fun h9 => h9 (ng_ge9 hn155)))
        refine lv_iload hx hb dJ6_getChars_ba4f3_104 (lv_at hl 2 rfl) ?_
        refine lv_if_eq (tgt := 118) hx hb dJ6_getChars_ba4f3_106 (by decide) (fun c157 => ?_) (fun c9 => absurd c9 (by decide))
        refine lv_iload hx hb dJ6_getChars_ba4f3_118 (lv_at hl 0 rfl) ?_
        have hP9 := hP.sub (ws' := [(o1, .inl (cA 3, cp, .inl fn153))]) [0] rfl
        have hD9 := hD.sub (ws' := [(o1, .inl (cA 3, cp, .inl fn153))]) [0] (by decide) rfl
        refine W.widen (k := 0) (n := 0) (Nat.le_of_ble_eq_true rfl) (Nat.le_of_ble_eq_true rfl) ?_
        exact (W.iret (v := (nI (ix - 1))) hx hb hr (fun t ht hW => ⟨⟨(nI (ix - 1)), (), rfl, trivial, fn153, hn154, by rw [ht]; exact hP9, hD9⟩, hS.F ht⟩) hS.2.2 dJ6_getChars_ba4f3_120)
      · skip
        have hqhn155 := dg_2 hn155 (by omega)
        refine lv_iload_n hx hb dJ6_getChars_ba4f3_85 rfl (lv_at hl 1 rfl) ?_
        refine lv_bipush (v := (-9)) hx hb dJ6_getChars_ba4f3_86 (by decide) ?_
        refine lv_icmp_ge (tgt := 104) hx hb dJ6_getChars_ba4f3_88 (by decide) (fun c9 => absurd c9 (ng_nge9 hn155 (by omega))) (fun c158 => ?_)
        refine lv_aload_n hx hb dJ6_getChars_ba4f3_91 rfl (lv_at hl 4 rfl) ?_
        refine lv_iinc (v := (nI ((ix - 1) - 1))) (lv' := [(5, .int (nI ((ix - 1) - 1))), (0, .int (ngI w9)), (6, .int 0), (1, .int (nI ix)), (2, .ref o1)]) hx hb dJ6_getChars_ba4f3_92 hl (k := 0) rfl (nI_dec (a := (ix - 1)) (b := ((ix - 1) - 1)) (by omega)) (by decide) rfl (fun ls hl => ?_)
        refine lv_iload hx hb dJ6_getChars_ba4f3_95 (lv_at hl 0 rfl) ?_
        refine va_gets hx hb hd2 hS hown (hts (.fieldLink RJ6 87 "java/lang/Integer" "DigitTens" "[B") (by decide +kernel)) (fun _ h9 => h9) dJ6_getChars_ba4f3_97 ?_
        refine lv_iload_n hx hb dJ6_getChars_ba4f3_100 rfl (lv_at hl 1 rfl) ?_
        refine lv_ineg hx hb dJ6_getChars_ba4f3_101 ?_
        refine lv_topi (fun yn159 eyn159 => ?_)
        obtain rfl : yn159 = (nI w9) := eyn159.trans (ng_opp)
        refine va_tb (v := .int (f2 ((nI w9)).toNatClampNeg)) hx hb ht2 hS (vp_in_nI (n := w9) (N := 100) (show w9 < 100 by omega) (by decide)) rfl dJ6_getChars_ba4f3_102 ?_
        refine lv_topi (fun yn160 eyn160 => ?_)
        refine va_bast hx hb hK hP hD hS 0 3 rfl rfl (vp_in_nI (n := ((ix - 1) - 1)) (N := cp) (show ((ix - 1) - 1) < cp by omega) (by omega)) dJ6_getChars_ba4f3_103 (fun H locs hP hD hS => ?_)
        have hP : va_P D vwCl [(o1, .inl (cA 3, cp, .inl (upd fn153 (((nI ((ix - 1) - 1))).toNatClampNeg) (vp_nar .byte yn160))))] H := hP
        have hD : va_D A [(o1, .inl (cA 3, cp, .inl (upd fn153 (((nI ((ix - 1) - 1))).toNatClampNeg) (vp_nar .byte yn160))))] := hD
        have hn162 : sb_Fit (upd fn153 (((nI ((ix - 1) - 1))).toNatClampNeg) (vp_nar .byte yn160)) := (sb_fitU hn154 (pk_fb _))
        generalize (upd fn153 (((nI ((ix - 1) - 1))).toNatClampNeg) (vp_nar .byte yn160)) = fn161 at hP hD hn162
        have hP : va_P D vwCl [(o1, .inl (cA 3, cp, .inl fn161))] H := hP
        have hD : va_D A [(o1, .inl (cA 3, cp, .inl fn161))] := hD
        refine lv_iload hx hb dJ6_getChars_ba4f3_104 (lv_at hl 2 rfl) ?_
        refine lv_if_eq (tgt := 118) hx hb dJ6_getChars_ba4f3_106 (by decide) (fun c163 => ?_) (fun c9 => absurd c9 (by decide))
        refine lv_iload hx hb dJ6_getChars_ba4f3_118 (lv_at hl 0 rfl) ?_
        have hP9 := hP.sub (ws' := [(o1, .inl (cA 3, cp, .inl fn161))]) [0] rfl
        have hD9 := hD.sub (ws' := [(o1, .inl (cA 3, cp, .inl fn161))]) [0] (by decide) rfl
        refine W.widen (k := 0) (n := 0) (Nat.le_of_ble_eq_true rfl) (Nat.le_of_ble_eq_true rfl) ?_
        exact (W.iret (v := (nI ((ix - 1) - 1))) hx hb hr (fun t ht hW => ⟨⟨(nI ((ix - 1) - 1)), (), rfl, trivial, fn161, hn162, by rw [ht]; exact hP9, hD9⟩, hS.F ht⟩) hS.2.2 dJ6_getChars_ba4f3_120)
    · skip
      refine lv_iload_n hx hb dJ6_getChars_ba4f3_22 rfl (lv_at hl 0 rfl) ?_
      refine lv_bipush (v := (-100)) hx hb dJ6_getChars_ba4f3_23 (by decide) ?_
      refine lv_icmp_gt (tgt := 72) hx hb dJ6_getChars_ba4f3_25 (by decide) (fun c9 => absurd c9 (ng_ngt hn149 (by omega))) (fun c164 => ?_)
      refine lv_iload_n hx hb dJ6_getChars_ba4f3_28 rfl (lv_at hl 0 rfl) ?_
      refine lv_bipush (v := 100) hx hb dJ6_getChars_ba4f3_29 (by decide) ?_
      obtain ⟨w0x, hw0x⟩ : ∃ x9, x9 = w9 / 100 := ⟨_, rfl⟩
      have hdw0x : dg w9 = dg w0x + 2 := by rw [hw0x]; exact dg_100 (by omega) hn149
      have hpw0x := dg_pos w0x
      refine lv_idiv hx hb dJ6_getChars_ba4f3_31 (by decide) ?_
      refine lv_topi (fun yn165 eyn165 => ?_)
      obtain rfl : yn165 = (ngI w0x) := eyn165.trans (by rw [ng_div (by omega), ← hw0x])
      refine lv_istore_n (lv' := [(3, .int (ngI w0x)), (0, .int (ngI w9)), (6, .int 0), (5, .int (nI ix)), (1, .int (nI ix)), (2, .ref o1)]) hx hb dJ6_getChars_ba4f3_32 rfl hl (by decide) rfl (fun ls hl => ?_)
      refine lv_iload_n hx hb dJ6_getChars_ba4f3_33 rfl (lv_at hl 0 rfl) ?_
      refine lv_bipush (v := 100) hx hb dJ6_getChars_ba4f3_34 (by decide) ?_
      refine lv_imul hx hb dJ6_getChars_ba4f3_36 ?_
      refine lv_topi (fun yn166 eyn166 => ?_)
      refine lv_iload_n hx hb dJ6_getChars_ba4f3_37 rfl (lv_at hl 1 rfl) ?_
      refine lv_isub hx hb dJ6_getChars_ba4f3_38 ?_
      refine lv_topi (fun yn169 eyn169 => ?_)
      obtain rfl : yn169 = (nI (w9 % 100)) := eyn169.trans (by rw [eyn166, hw0x]; exact ng_rem (by omega))
      refine lv_istore (lv' := [(4, .int (nI (w9 % 100))), (3, .int (ngI w0x)), (0, .int (ngI w9)), (6, .int 0), (5, .int (nI ix)), (1, .int (nI ix)), (2, .ref o1)]) hx hb dJ6_getChars_ba4f3_39 hl (by decide) rfl (fun ls hl => ?_)
      refine lv_iload_n hx hb dJ6_getChars_ba4f3_41 rfl (lv_at hl 1 rfl) ?_
      refine lv_istore_n (lv' := [(0, .int (ngI w0x)), (4, .int (nI (w9 % 100))), (3, .int (ngI w0x)), (6, .int 0), (5, .int (nI ix)), (1, .int (nI ix)), (2, .ref o1)]) hx hb dJ6_getChars_ba4f3_42 rfl hl (by decide) rfl (fun ls hl => ?_)
      refine lv_aload_n hx hb dJ6_getChars_ba4f3_43 rfl (lv_at hl 6 rfl) ?_
      refine lv_iinc (v := (nI (ix - 1))) (lv' := [(5, .int (nI (ix - 1))), (0, .int (ngI w0x)), (4, .int (nI (w9 % 100))), (3, .int (ngI w0x)), (6, .int 0), (1, .int (nI ix)), (2, .ref o1)]) hx hb dJ6_getChars_ba4f3_44 hl (k := 4) rfl (nI_dec (a := ix) (b := (ix - 1)) (by omega)) (by decide) rfl (fun ls hl => ?_)
      refine lv_iload hx hb dJ6_getChars_ba4f3_47 (lv_at hl 0 rfl) ?_
      refine va_gets hx hb hd1 hS hown (hts (.fieldLink RJ6 83 "java/lang/Integer" "DigitOnes" "[B") (by decide +kernel)) (fun _ h9 => h9) dJ6_getChars_ba4f3_49 ?_
      refine lv_iload hx hb dJ6_getChars_ba4f3_52 (lv_at hl 2 rfl) ?_
      refine va_tb (v := .int (f1 ((nI (w9 % 100))).toNatClampNeg)) hx hb ht1 hS (vp_in_nI (n := (w9 % 100)) (N := 100) (show (w9 % 100) < 100 by omega) (by decide)) rfl dJ6_getChars_ba4f3_54 ?_
      refine lv_topi (fun yn170 eyn170 => ?_)
      refine va_bast hx hb hK hP hD hS 0 3 rfl rfl (vp_in_nI (n := (ix - 1)) (N := cp) (show (ix - 1) < cp by omega) (by omega)) dJ6_getChars_ba4f3_55 (fun H locs hP hD hS => ?_)
      have hP : va_P D vwCl [(o1, .inl (cA 3, cp, .inl (upd fy (((nI (ix - 1))).toNatClampNeg) (vp_nar .byte yn170))))] H := hP
      have hD : va_D A [(o1, .inl (cA 3, cp, .inl (upd fy (((nI (ix - 1))).toNatClampNeg) (vp_nar .byte yn170))))] := hD
      have hn172 : sb_Fit (upd fy (((nI (ix - 1))).toNatClampNeg) (vp_nar .byte yn170)) := (sb_fitU hfit (pk_fb _))
      generalize (upd fy (((nI (ix - 1))).toNatClampNeg) (vp_nar .byte yn170)) = fn171 at hP hD hn172
      have hP : va_P D vwCl [(o1, .inl (cA 3, cp, .inl fn171))] H := hP
      have hD : va_D A [(o1, .inl (cA 3, cp, .inl fn171))] := hD
      refine lv_aload_n hx hb dJ6_getChars_ba4f3_56 rfl (lv_at hl 6 rfl) ?_
      refine lv_iinc (v := (nI ((ix - 1) - 1))) (lv' := [(5, .int (nI ((ix - 1) - 1))), (0, .int (ngI w0x)), (4, .int (nI (w9 % 100))), (3, .int (ngI w0x)), (6, .int 0), (1, .int (nI ix)), (2, .ref o1)]) hx hb dJ6_getChars_ba4f3_57 hl (k := 0) rfl (nI_dec (a := (ix - 1)) (b := ((ix - 1) - 1)) (by omega)) (by decide) rfl (fun ls hl => ?_)
      refine lv_iload hx hb dJ6_getChars_ba4f3_60 (lv_at hl 0 rfl) ?_
      refine va_gets hx hb hd2 hS hown (hts (.fieldLink RJ6 87 "java/lang/Integer" "DigitTens" "[B") (by decide +kernel)) (fun _ h9 => h9) dJ6_getChars_ba4f3_62 ?_
      refine lv_iload hx hb dJ6_getChars_ba4f3_65 (lv_at hl 2 rfl) ?_
      refine va_tb (v := .int (f2 ((nI (w9 % 100))).toNatClampNeg)) hx hb ht2 hS (vp_in_nI (n := (w9 % 100)) (N := 100) (show (w9 % 100) < 100 by omega) (by decide)) rfl dJ6_getChars_ba4f3_67 ?_
      refine lv_topi (fun yn173 eyn173 => ?_)
      refine va_bast hx hb hK hP hD hS 0 3 rfl rfl (vp_in_nI (n := ((ix - 1) - 1)) (N := cp) (show ((ix - 1) - 1) < cp by omega) (by omega)) dJ6_getChars_ba4f3_68 (fun H locs hP hD hS => ?_)
      have hP : va_P D vwCl [(o1, .inl (cA 3, cp, .inl (upd fn171 (((nI ((ix - 1) - 1))).toNatClampNeg) (vp_nar .byte yn173))))] H := hP
      have hD : va_D A [(o1, .inl (cA 3, cp, .inl (upd fn171 (((nI ((ix - 1) - 1))).toNatClampNeg) (vp_nar .byte yn173))))] := hD
      have hn175 : sb_Fit (upd fn171 (((nI ((ix - 1) - 1))).toNatClampNeg) (vp_nar .byte yn173)) := (sb_fitU hn172 (pk_fb _))
      generalize (upd fn171 (((nI ((ix - 1) - 1))).toNatClampNeg) (vp_nar .byte yn173)) = fn174 at hP hD hn175
      have hP : va_P D vwCl [(o1, .inl (cA 3, cp, .inl fn174))] H := hP
      have hD : va_D A [(o1, .inl (cA 3, cp, .inl fn174))] := hD
      refine lv_goto (tgt := 22) hx hb dJ6_getChars_ba4f3_69 (by decide) ?_
      have hqhn176 := dg_pos w0x
      rcases Nat.lt_or_ge w0x 100 with hn176 | hn176
      · skip
        refine lv_iload_n hx hb dJ6_getChars_ba4f3_22 rfl (lv_at hl 1 rfl) ?_
        refine lv_bipush (v := (-100)) hx hb dJ6_getChars_ba4f3_23 (by decide) ?_
        refine lv_icmp_gt (tgt := 72) hx hb dJ6_getChars_ba4f3_25 (by decide) (fun c177 => ?_) (fun c9 => absurd c9 (fun h9 => h9 (ng_gt hn176)))
        refine lv_aload_n hx hb dJ6_getChars_ba4f3_72 rfl (lv_at hl 6 rfl) ?_
        refine lv_iinc (v := (nI (((ix - 1) - 1) - 1))) (lv' := [(5, .int (nI (((ix - 1) - 1) - 1))), (0, .int (ngI w0x)), (4, .int (nI (w9 % 100))), (3, .int (ngI w0x)), (6, .int 0), (1, .int (nI ix)), (2, .ref o1)]) hx hb dJ6_getChars_ba4f3_73 hl (k := 0) rfl (nI_dec (a := ((ix - 1) - 1)) (b := (((ix - 1) - 1) - 1)) (by omega)) (by decide) rfl (fun ls hl => ?_)
        refine lv_iload hx hb dJ6_getChars_ba4f3_76 (lv_at hl 0 rfl) ?_
        refine va_gets hx hb hd1 hS hown (hts (.fieldLink RJ6 83 "java/lang/Integer" "DigitOnes" "[B") (by decide +kernel)) (fun _ h9 => h9) dJ6_getChars_ba4f3_78 ?_
        refine lv_iload_n hx hb dJ6_getChars_ba4f3_81 rfl (lv_at hl 1 rfl) ?_
        refine lv_ineg hx hb dJ6_getChars_ba4f3_82 ?_
        refine lv_topi (fun yn178 eyn178 => ?_)
        obtain rfl : yn178 = (nI w0x) := eyn178.trans (ng_opp)
        refine va_tb (v := .int (f1 ((nI w0x)).toNatClampNeg)) hx hb ht1 hS (vp_in_nI (n := w0x) (N := 100) (show w0x < 100 by omega) (by decide)) rfl dJ6_getChars_ba4f3_83 ?_
        refine lv_topi (fun yn179 eyn179 => ?_)
        refine va_bast hx hb hK hP hD hS 0 3 rfl rfl (vp_in_nI (n := (((ix - 1) - 1) - 1)) (N := cp) (show (((ix - 1) - 1) - 1) < cp by omega) (by omega)) dJ6_getChars_ba4f3_84 (fun H locs hP hD hS => ?_)
        have hP : va_P D vwCl [(o1, .inl (cA 3, cp, .inl (upd fn174 (((nI (((ix - 1) - 1) - 1))).toNatClampNeg) (vp_nar .byte yn179))))] H := hP
        have hD : va_D A [(o1, .inl (cA 3, cp, .inl (upd fn174 (((nI (((ix - 1) - 1) - 1))).toNatClampNeg) (vp_nar .byte yn179))))] := hD
        have hn181 : sb_Fit (upd fn174 (((nI (((ix - 1) - 1) - 1))).toNatClampNeg) (vp_nar .byte yn179)) := (sb_fitU hn175 (pk_fb _))
        generalize (upd fn174 (((nI (((ix - 1) - 1) - 1))).toNatClampNeg) (vp_nar .byte yn179)) = fn180 at hP hD hn181
        have hP : va_P D vwCl [(o1, .inl (cA 3, cp, .inl fn180))] H := hP
        have hD : va_D A [(o1, .inl (cA 3, cp, .inl fn180))] := hD
        rcases Nat.lt_or_ge w0x 10 with hn182 | hn182
        · skip
          refine lv_iload_n hx hb dJ6_getChars_ba4f3_85 rfl (lv_at hl 1 rfl) ?_
          refine lv_bipush (v := (-9)) hx hb dJ6_getChars_ba4f3_86 (by decide) ?_
          refine lv_icmp_ge (tgt := 104) hx hb dJ6_getChars_ba4f3_88 (by decide) (fun c183 => ?_) (fun c9 => absurd c9 (fun h9 => h9 (ng_ge9 hn182)))
          refine lv_iload hx hb dJ6_getChars_ba4f3_104 (lv_at hl 4 rfl) ?_
          refine lv_if_eq (tgt := 118) hx hb dJ6_getChars_ba4f3_106 (by decide) (fun c184 => ?_) (fun c9 => absurd c9 (by decide))
          refine lv_iload hx hb dJ6_getChars_ba4f3_118 (lv_at hl 0 rfl) ?_
          have hP9 := hP.sub (ws' := [(o1, .inl (cA 3, cp, .inl fn180))]) [0] rfl
          have hD9 := hD.sub (ws' := [(o1, .inl (cA 3, cp, .inl fn180))]) [0] (by decide) rfl
          refine W.widen (k := 0) (n := 0) (Nat.le_of_ble_eq_true rfl) (Nat.le_of_ble_eq_true rfl) ?_
          exact (W.iret (v := (nI (((ix - 1) - 1) - 1))) hx hb hr (fun t ht hW => ⟨⟨(nI (((ix - 1) - 1) - 1)), (), rfl, trivial, fn180, hn181, by rw [ht]; exact hP9, hD9⟩, hS.F ht⟩) hS.2.2 dJ6_getChars_ba4f3_120)
        · skip
          have hqhn182 := dg_2 hn182 (by omega)
          refine lv_iload_n hx hb dJ6_getChars_ba4f3_85 rfl (lv_at hl 1 rfl) ?_
          refine lv_bipush (v := (-9)) hx hb dJ6_getChars_ba4f3_86 (by decide) ?_
          refine lv_icmp_ge (tgt := 104) hx hb dJ6_getChars_ba4f3_88 (by decide) (fun c9 => absurd c9 (ng_nge9 hn182 (by omega))) (fun c185 => ?_)
          refine lv_aload_n hx hb dJ6_getChars_ba4f3_91 rfl (lv_at hl 6 rfl) ?_
          refine lv_iinc (v := (nI ((((ix - 1) - 1) - 1) - 1))) (lv' := [(5, .int (nI ((((ix - 1) - 1) - 1) - 1))), (0, .int (ngI w0x)), (4, .int (nI (w9 % 100))), (3, .int (ngI w0x)), (6, .int 0), (1, .int (nI ix)), (2, .ref o1)]) hx hb dJ6_getChars_ba4f3_92 hl (k := 0) rfl (nI_dec (a := (((ix - 1) - 1) - 1)) (b := ((((ix - 1) - 1) - 1) - 1)) (by omega)) (by decide) rfl (fun ls hl => ?_)
          refine lv_iload hx hb dJ6_getChars_ba4f3_95 (lv_at hl 0 rfl) ?_
          refine va_gets hx hb hd2 hS hown (hts (.fieldLink RJ6 87 "java/lang/Integer" "DigitTens" "[B") (by decide +kernel)) (fun _ h9 => h9) dJ6_getChars_ba4f3_97 ?_
          refine lv_iload_n hx hb dJ6_getChars_ba4f3_100 rfl (lv_at hl 1 rfl) ?_
          refine lv_ineg hx hb dJ6_getChars_ba4f3_101 ?_
          refine lv_topi (fun yn186 eyn186 => ?_)
          obtain rfl : yn186 = (nI w0x) := eyn186.trans (ng_opp)
          refine va_tb (v := .int (f2 ((nI w0x)).toNatClampNeg)) hx hb ht2 hS (vp_in_nI (n := w0x) (N := 100) (show w0x < 100 by omega) (by decide)) rfl dJ6_getChars_ba4f3_102 ?_
          refine lv_topi (fun yn187 eyn187 => ?_)
          refine va_bast hx hb hK hP hD hS 0 3 rfl rfl (vp_in_nI (n := ((((ix - 1) - 1) - 1) - 1)) (N := cp) (show ((((ix - 1) - 1) - 1) - 1) < cp by omega) (by omega)) dJ6_getChars_ba4f3_103 (fun H locs hP hD hS => ?_)
          have hP : va_P D vwCl [(o1, .inl (cA 3, cp, .inl (upd fn180 (((nI ((((ix - 1) - 1) - 1) - 1))).toNatClampNeg) (vp_nar .byte yn187))))] H := hP
          have hD : va_D A [(o1, .inl (cA 3, cp, .inl (upd fn180 (((nI ((((ix - 1) - 1) - 1) - 1))).toNatClampNeg) (vp_nar .byte yn187))))] := hD
          have hn189 : sb_Fit (upd fn180 (((nI ((((ix - 1) - 1) - 1) - 1))).toNatClampNeg) (vp_nar .byte yn187)) := (sb_fitU hn181 (pk_fb _))
          generalize (upd fn180 (((nI ((((ix - 1) - 1) - 1) - 1))).toNatClampNeg) (vp_nar .byte yn187)) = fn188 at hP hD hn189
          have hP : va_P D vwCl [(o1, .inl (cA 3, cp, .inl fn188))] H := hP
          have hD : va_D A [(o1, .inl (cA 3, cp, .inl fn188))] := hD
          refine lv_iload hx hb dJ6_getChars_ba4f3_104 (lv_at hl 4 rfl) ?_
          refine lv_if_eq (tgt := 118) hx hb dJ6_getChars_ba4f3_106 (by decide) (fun c190 => ?_) (fun c9 => absurd c9 (by decide))
          refine lv_iload hx hb dJ6_getChars_ba4f3_118 (lv_at hl 0 rfl) ?_
          have hP9 := hP.sub (ws' := [(o1, .inl (cA 3, cp, .inl fn188))]) [0] rfl
          have hD9 := hD.sub (ws' := [(o1, .inl (cA 3, cp, .inl fn188))]) [0] (by decide) rfl
          refine W.widen (k := 0) (n := 0) (Nat.le_of_ble_eq_true rfl) (Nat.le_of_ble_eq_true rfl) ?_
          exact (W.iret (v := (nI ((((ix - 1) - 1) - 1) - 1))) hx hb hr (fun t ht hW => ⟨⟨(nI ((((ix - 1) - 1) - 1) - 1)), (), rfl, trivial, fn188, hn189, by rw [ht]; exact hP9, hD9⟩, hS.F ht⟩) hS.2.2 dJ6_getChars_ba4f3_120)
      · skip
        refine lv_iload_n hx hb dJ6_getChars_ba4f3_22 rfl (lv_at hl 1 rfl) ?_
        refine lv_bipush (v := (-100)) hx hb dJ6_getChars_ba4f3_23 (by decide) ?_
        refine lv_icmp_gt (tgt := 72) hx hb dJ6_getChars_ba4f3_25 (by decide) (fun c9 => absurd c9 (ng_ngt hn176 (by omega))) (fun c191 => ?_)
        refine lv_iload_n hx hb dJ6_getChars_ba4f3_28 rfl (lv_at hl 1 rfl) ?_
        refine lv_bipush (v := 100) hx hb dJ6_getChars_ba4f3_29 (by decide) ?_
        obtain ⟨w1x, hw1x⟩ : ∃ x9, x9 = w0x / 100 := ⟨_, rfl⟩
        have hdw1x : dg w0x = dg w1x + 2 := by rw [hw1x]; exact dg_100 (by omega) hn176
        have hpw1x := dg_pos w1x
        refine lv_idiv hx hb dJ6_getChars_ba4f3_31 (by decide) ?_
        refine lv_topi (fun yn192 eyn192 => ?_)
        obtain rfl : yn192 = (ngI w1x) := eyn192.trans (by rw [ng_div (by omega), ← hw1x])
        refine lv_istore_n (lv' := [(3, .int (ngI w1x)), (5, .int (nI ((ix - 1) - 1))), (0, .int (ngI w0x)), (4, .int (nI (w9 % 100))), (6, .int 0), (1, .int (nI ix)), (2, .ref o1)]) hx hb dJ6_getChars_ba4f3_32 rfl hl (by decide) rfl (fun ls hl => ?_)
        refine lv_iload_n hx hb dJ6_getChars_ba4f3_33 rfl (lv_at hl 0 rfl) ?_
        refine lv_bipush (v := 100) hx hb dJ6_getChars_ba4f3_34 (by decide) ?_
        refine lv_imul hx hb dJ6_getChars_ba4f3_36 ?_
        refine lv_topi (fun yn193 eyn193 => ?_)
        refine lv_iload_n hx hb dJ6_getChars_ba4f3_37 rfl (lv_at hl 2 rfl) ?_
        refine lv_isub hx hb dJ6_getChars_ba4f3_38 ?_
        refine lv_topi (fun yn196 eyn196 => ?_)
        obtain rfl : yn196 = (nI (w0x % 100)) := eyn196.trans (by rw [eyn193, hw1x]; exact ng_rem (by omega))
        refine lv_istore (lv' := [(4, .int (nI (w0x % 100))), (3, .int (ngI w1x)), (5, .int (nI ((ix - 1) - 1))), (0, .int (ngI w0x)), (6, .int 0), (1, .int (nI ix)), (2, .ref o1)]) hx hb dJ6_getChars_ba4f3_39 hl (by decide) rfl (fun ls hl => ?_)
        refine lv_iload_n hx hb dJ6_getChars_ba4f3_41 rfl (lv_at hl 1 rfl) ?_
        refine lv_istore_n (lv' := [(0, .int (ngI w1x)), (4, .int (nI (w0x % 100))), (3, .int (ngI w1x)), (5, .int (nI ((ix - 1) - 1))), (6, .int 0), (1, .int (nI ix)), (2, .ref o1)]) hx hb dJ6_getChars_ba4f3_42 rfl hl (by decide) rfl (fun ls hl => ?_)
        refine lv_aload_n hx hb dJ6_getChars_ba4f3_43 rfl (lv_at hl 6 rfl) ?_
        refine lv_iinc (v := (nI (((ix - 1) - 1) - 1))) (lv' := [(5, .int (nI (((ix - 1) - 1) - 1))), (0, .int (ngI w1x)), (4, .int (nI (w0x % 100))), (3, .int (ngI w1x)), (6, .int 0), (1, .int (nI ix)), (2, .ref o1)]) hx hb dJ6_getChars_ba4f3_44 hl (k := 3) rfl (nI_dec (a := ((ix - 1) - 1)) (b := (((ix - 1) - 1) - 1)) (by omega)) (by decide) rfl (fun ls hl => ?_)
        refine lv_iload hx hb dJ6_getChars_ba4f3_47 (lv_at hl 0 rfl) ?_
        refine va_gets hx hb hd1 hS hown (hts (.fieldLink RJ6 83 "java/lang/Integer" "DigitOnes" "[B") (by decide +kernel)) (fun _ h9 => h9) dJ6_getChars_ba4f3_49 ?_
        refine lv_iload hx hb dJ6_getChars_ba4f3_52 (lv_at hl 2 rfl) ?_
        refine va_tb (v := .int (f1 ((nI (w0x % 100))).toNatClampNeg)) hx hb ht1 hS (vp_in_nI (n := (w0x % 100)) (N := 100) (show (w0x % 100) < 100 by omega) (by decide)) rfl dJ6_getChars_ba4f3_54 ?_
        refine lv_topi (fun yn197 eyn197 => ?_)
        refine va_bast hx hb hK hP hD hS 0 3 rfl rfl (vp_in_nI (n := (((ix - 1) - 1) - 1)) (N := cp) (show (((ix - 1) - 1) - 1) < cp by omega) (by omega)) dJ6_getChars_ba4f3_55 (fun H locs hP hD hS => ?_)
        have hP : va_P D vwCl [(o1, .inl (cA 3, cp, .inl (upd fn174 (((nI (((ix - 1) - 1) - 1))).toNatClampNeg) (vp_nar .byte yn197))))] H := hP
        have hD : va_D A [(o1, .inl (cA 3, cp, .inl (upd fn174 (((nI (((ix - 1) - 1) - 1))).toNatClampNeg) (vp_nar .byte yn197))))] := hD
        have hn199 : sb_Fit (upd fn174 (((nI (((ix - 1) - 1) - 1))).toNatClampNeg) (vp_nar .byte yn197)) := (sb_fitU hn175 (pk_fb _))
        generalize (upd fn174 (((nI (((ix - 1) - 1) - 1))).toNatClampNeg) (vp_nar .byte yn197)) = fn198 at hP hD hn199
        have hP : va_P D vwCl [(o1, .inl (cA 3, cp, .inl fn198))] H := hP
        have hD : va_D A [(o1, .inl (cA 3, cp, .inl fn198))] := hD
        refine lv_aload_n hx hb dJ6_getChars_ba4f3_56 rfl (lv_at hl 6 rfl) ?_
        refine lv_iinc (v := (nI ((((ix - 1) - 1) - 1) - 1))) (lv' := [(5, .int (nI ((((ix - 1) - 1) - 1) - 1))), (0, .int (ngI w1x)), (4, .int (nI (w0x % 100))), (3, .int (ngI w1x)), (6, .int 0), (1, .int (nI ix)), (2, .ref o1)]) hx hb dJ6_getChars_ba4f3_57 hl (k := 0) rfl (nI_dec (a := (((ix - 1) - 1) - 1)) (b := ((((ix - 1) - 1) - 1) - 1)) (by omega)) (by decide) rfl (fun ls hl => ?_)
        refine lv_iload hx hb dJ6_getChars_ba4f3_60 (lv_at hl 0 rfl) ?_
        refine va_gets hx hb hd2 hS hown (hts (.fieldLink RJ6 87 "java/lang/Integer" "DigitTens" "[B") (by decide +kernel)) (fun _ h9 => h9) dJ6_getChars_ba4f3_62 ?_
        refine lv_iload hx hb dJ6_getChars_ba4f3_65 (lv_at hl 2 rfl) ?_
        refine va_tb (v := .int (f2 ((nI (w0x % 100))).toNatClampNeg)) hx hb ht2 hS (vp_in_nI (n := (w0x % 100)) (N := 100) (show (w0x % 100) < 100 by omega) (by decide)) rfl dJ6_getChars_ba4f3_67 ?_
        refine lv_topi (fun yn200 eyn200 => ?_)
        refine va_bast hx hb hK hP hD hS 0 3 rfl rfl (vp_in_nI (n := ((((ix - 1) - 1) - 1) - 1)) (N := cp) (show ((((ix - 1) - 1) - 1) - 1) < cp by omega) (by omega)) dJ6_getChars_ba4f3_68 (fun H locs hP hD hS => ?_)
        have hP : va_P D vwCl [(o1, .inl (cA 3, cp, .inl (upd fn198 (((nI ((((ix - 1) - 1) - 1) - 1))).toNatClampNeg) (vp_nar .byte yn200))))] H := hP
        have hD : va_D A [(o1, .inl (cA 3, cp, .inl (upd fn198 (((nI ((((ix - 1) - 1) - 1) - 1))).toNatClampNeg) (vp_nar .byte yn200))))] := hD
        have hn202 : sb_Fit (upd fn198 (((nI ((((ix - 1) - 1) - 1) - 1))).toNatClampNeg) (vp_nar .byte yn200)) := (sb_fitU hn199 (pk_fb _))
        generalize (upd fn198 (((nI ((((ix - 1) - 1) - 1) - 1))).toNatClampNeg) (vp_nar .byte yn200)) = fn201 at hP hD hn202
        have hP : va_P D vwCl [(o1, .inl (cA 3, cp, .inl fn201))] H := hP
        have hD : va_D A [(o1, .inl (cA 3, cp, .inl fn201))] := hD
        refine lv_goto (tgt := 22) hx hb dJ6_getChars_ba4f3_69 (by decide) ?_
        have hqhn203 := dg_pos w1x
        rcases Nat.lt_or_ge w1x 100 with hn203 | hn203
        · skip
          refine lv_iload_n hx hb dJ6_getChars_ba4f3_22 rfl (lv_at hl 1 rfl) ?_
          refine lv_bipush (v := (-100)) hx hb dJ6_getChars_ba4f3_23 (by decide) ?_
          refine lv_icmp_gt (tgt := 72) hx hb dJ6_getChars_ba4f3_25 (by decide) (fun c204 => ?_) (fun c9 => absurd c9 (fun h9 => h9 (ng_gt hn203)))
          refine lv_aload_n hx hb dJ6_getChars_ba4f3_72 rfl (lv_at hl 6 rfl) ?_
          refine lv_iinc (v := (nI (((((ix - 1) - 1) - 1) - 1) - 1))) (lv' := [(5, .int (nI (((((ix - 1) - 1) - 1) - 1) - 1))), (0, .int (ngI w1x)), (4, .int (nI (w0x % 100))), (3, .int (ngI w1x)), (6, .int 0), (1, .int (nI ix)), (2, .ref o1)]) hx hb dJ6_getChars_ba4f3_73 hl (k := 0) rfl (nI_dec (a := ((((ix - 1) - 1) - 1) - 1)) (b := (((((ix - 1) - 1) - 1) - 1) - 1)) (by omega)) (by decide) rfl (fun ls hl => ?_)
          refine lv_iload hx hb dJ6_getChars_ba4f3_76 (lv_at hl 0 rfl) ?_
          refine va_gets hx hb hd1 hS hown (hts (.fieldLink RJ6 83 "java/lang/Integer" "DigitOnes" "[B") (by decide +kernel)) (fun _ h9 => h9) dJ6_getChars_ba4f3_78 ?_
          refine lv_iload_n hx hb dJ6_getChars_ba4f3_81 rfl (lv_at hl 1 rfl) ?_
          refine lv_ineg hx hb dJ6_getChars_ba4f3_82 ?_
          refine lv_topi (fun yn205 eyn205 => ?_)
          obtain rfl : yn205 = (nI w1x) := eyn205.trans (ng_opp)
          refine va_tb (v := .int (f1 ((nI w1x)).toNatClampNeg)) hx hb ht1 hS (vp_in_nI (n := w1x) (N := 100) (show w1x < 100 by omega) (by decide)) rfl dJ6_getChars_ba4f3_83 ?_
          refine lv_topi (fun yn206 eyn206 => ?_)
          refine va_bast hx hb hK hP hD hS 0 3 rfl rfl (vp_in_nI (n := (((((ix - 1) - 1) - 1) - 1) - 1)) (N := cp) (show (((((ix - 1) - 1) - 1) - 1) - 1) < cp by omega) (by omega)) dJ6_getChars_ba4f3_84 (fun H locs hP hD hS => ?_)
          have hP : va_P D vwCl [(o1, .inl (cA 3, cp, .inl (upd fn201 (((nI (((((ix - 1) - 1) - 1) - 1) - 1))).toNatClampNeg) (vp_nar .byte yn206))))] H := hP
          have hD : va_D A [(o1, .inl (cA 3, cp, .inl (upd fn201 (((nI (((((ix - 1) - 1) - 1) - 1) - 1))).toNatClampNeg) (vp_nar .byte yn206))))] := hD
          have hn208 : sb_Fit (upd fn201 (((nI (((((ix - 1) - 1) - 1) - 1) - 1))).toNatClampNeg) (vp_nar .byte yn206)) := (sb_fitU hn202 (pk_fb _))
          generalize (upd fn201 (((nI (((((ix - 1) - 1) - 1) - 1) - 1))).toNatClampNeg) (vp_nar .byte yn206)) = fn207 at hP hD hn208
          have hP : va_P D vwCl [(o1, .inl (cA 3, cp, .inl fn207))] H := hP
          have hD : va_D A [(o1, .inl (cA 3, cp, .inl fn207))] := hD
          rcases Nat.lt_or_ge w1x 10 with hn209 | hn209
          · skip
            refine lv_iload_n hx hb dJ6_getChars_ba4f3_85 rfl (lv_at hl 1 rfl) ?_
            refine lv_bipush (v := (-9)) hx hb dJ6_getChars_ba4f3_86 (by decide) ?_
            refine lv_icmp_ge (tgt := 104) hx hb dJ6_getChars_ba4f3_88 (by decide) (fun c210 => ?_) (fun c9 => absurd c9 (fun h9 => h9 (ng_ge9 hn209)))
            refine lv_iload hx hb dJ6_getChars_ba4f3_104 (lv_at hl 4 rfl) ?_
            refine lv_if_eq (tgt := 118) hx hb dJ6_getChars_ba4f3_106 (by decide) (fun c211 => ?_) (fun c9 => absurd c9 (by decide))
            refine lv_iload hx hb dJ6_getChars_ba4f3_118 (lv_at hl 0 rfl) ?_
            have hP9 := hP.sub (ws' := [(o1, .inl (cA 3, cp, .inl fn207))]) [0] rfl
            have hD9 := hD.sub (ws' := [(o1, .inl (cA 3, cp, .inl fn207))]) [0] (by decide) rfl
            refine W.widen (k := 0) (n := 0) (Nat.le_of_ble_eq_true rfl) (Nat.le_of_ble_eq_true rfl) ?_
            exact (W.iret (v := (nI (((((ix - 1) - 1) - 1) - 1) - 1))) hx hb hr (fun t ht hW => ⟨⟨(nI (((((ix - 1) - 1) - 1) - 1) - 1)), (), rfl, trivial, fn207, hn208, by rw [ht]; exact hP9, hD9⟩, hS.F ht⟩) hS.2.2 dJ6_getChars_ba4f3_120)
          · skip
            have hqhn209 := dg_2 hn209 (by omega)
            refine lv_iload_n hx hb dJ6_getChars_ba4f3_85 rfl (lv_at hl 1 rfl) ?_
            refine lv_bipush (v := (-9)) hx hb dJ6_getChars_ba4f3_86 (by decide) ?_
            refine lv_icmp_ge (tgt := 104) hx hb dJ6_getChars_ba4f3_88 (by decide) (fun c9 => absurd c9 (ng_nge9 hn209 (by omega))) (fun c212 => ?_)
            refine lv_aload_n hx hb dJ6_getChars_ba4f3_91 rfl (lv_at hl 6 rfl) ?_
            refine lv_iinc (v := (nI ((((((ix - 1) - 1) - 1) - 1) - 1) - 1))) (lv' := [(5, .int (nI ((((((ix - 1) - 1) - 1) - 1) - 1) - 1))), (0, .int (ngI w1x)), (4, .int (nI (w0x % 100))), (3, .int (ngI w1x)), (6, .int 0), (1, .int (nI ix)), (2, .ref o1)]) hx hb dJ6_getChars_ba4f3_92 hl (k := 0) rfl (nI_dec (a := (((((ix - 1) - 1) - 1) - 1) - 1)) (b := ((((((ix - 1) - 1) - 1) - 1) - 1) - 1)) (by omega)) (by decide) rfl (fun ls hl => ?_)
            refine lv_iload hx hb dJ6_getChars_ba4f3_95 (lv_at hl 0 rfl) ?_
            refine va_gets hx hb hd2 hS hown (hts (.fieldLink RJ6 87 "java/lang/Integer" "DigitTens" "[B") (by decide +kernel)) (fun _ h9 => h9) dJ6_getChars_ba4f3_97 ?_
            refine lv_iload_n hx hb dJ6_getChars_ba4f3_100 rfl (lv_at hl 1 rfl) ?_
            refine lv_ineg hx hb dJ6_getChars_ba4f3_101 ?_
            refine lv_topi (fun yn213 eyn213 => ?_)
            obtain rfl : yn213 = (nI w1x) := eyn213.trans (ng_opp)
            refine va_tb (v := .int (f2 ((nI w1x)).toNatClampNeg)) hx hb ht2 hS (vp_in_nI (n := w1x) (N := 100) (show w1x < 100 by omega) (by decide)) rfl dJ6_getChars_ba4f3_102 ?_
            refine lv_topi (fun yn214 eyn214 => ?_)
            refine va_bast hx hb hK hP hD hS 0 3 rfl rfl (vp_in_nI (n := ((((((ix - 1) - 1) - 1) - 1) - 1) - 1)) (N := cp) (show ((((((ix - 1) - 1) - 1) - 1) - 1) - 1) < cp by omega) (by omega)) dJ6_getChars_ba4f3_103 (fun H locs hP hD hS => ?_)
            have hP : va_P D vwCl [(o1, .inl (cA 3, cp, .inl (upd fn207 (((nI ((((((ix - 1) - 1) - 1) - 1) - 1) - 1))).toNatClampNeg) (vp_nar .byte yn214))))] H := hP
            have hD : va_D A [(o1, .inl (cA 3, cp, .inl (upd fn207 (((nI ((((((ix - 1) - 1) - 1) - 1) - 1) - 1))).toNatClampNeg) (vp_nar .byte yn214))))] := hD
            have hn216 : sb_Fit (upd fn207 (((nI ((((((ix - 1) - 1) - 1) - 1) - 1) - 1))).toNatClampNeg) (vp_nar .byte yn214)) := (sb_fitU hn208 (pk_fb _))
            generalize (upd fn207 (((nI ((((((ix - 1) - 1) - 1) - 1) - 1) - 1))).toNatClampNeg) (vp_nar .byte yn214)) = fn215 at hP hD hn216
            have hP : va_P D vwCl [(o1, .inl (cA 3, cp, .inl fn215))] H := hP
            have hD : va_D A [(o1, .inl (cA 3, cp, .inl fn215))] := hD
            refine lv_iload hx hb dJ6_getChars_ba4f3_104 (lv_at hl 4 rfl) ?_
            refine lv_if_eq (tgt := 118) hx hb dJ6_getChars_ba4f3_106 (by decide) (fun c217 => ?_) (fun c9 => absurd c9 (by decide))
            refine lv_iload hx hb dJ6_getChars_ba4f3_118 (lv_at hl 0 rfl) ?_
            have hP9 := hP.sub (ws' := [(o1, .inl (cA 3, cp, .inl fn215))]) [0] rfl
            have hD9 := hD.sub (ws' := [(o1, .inl (cA 3, cp, .inl fn215))]) [0] (by decide) rfl
            refine W.widen (k := 0) (n := 0) (Nat.le_of_ble_eq_true rfl) (Nat.le_of_ble_eq_true rfl) ?_
            exact (W.iret (v := (nI ((((((ix - 1) - 1) - 1) - 1) - 1) - 1))) hx hb hr (fun t ht hW => ⟨⟨(nI ((((((ix - 1) - 1) - 1) - 1) - 1) - 1)), (), rfl, trivial, fn215, hn216, by rw [ht]; exact hP9, hD9⟩, hS.F ht⟩) hS.2.2 dJ6_getChars_ba4f3_120)
        · skip
          refine lv_iload_n hx hb dJ6_getChars_ba4f3_22 rfl (lv_at hl 1 rfl) ?_
          refine lv_bipush (v := (-100)) hx hb dJ6_getChars_ba4f3_23 (by decide) ?_
          refine lv_icmp_gt (tgt := 72) hx hb dJ6_getChars_ba4f3_25 (by decide) (fun c9 => absurd c9 (ng_ngt hn203 (by omega))) (fun c218 => ?_)
          refine lv_iload_n hx hb dJ6_getChars_ba4f3_28 rfl (lv_at hl 1 rfl) ?_
          refine lv_bipush (v := 100) hx hb dJ6_getChars_ba4f3_29 (by decide) ?_
          obtain ⟨w2x, hw2x⟩ : ∃ x9, x9 = w1x / 100 := ⟨_, rfl⟩
          have hdw2x : dg w1x = dg w2x + 2 := by rw [hw2x]; exact dg_100 (by omega) hn203
          have hpw2x := dg_pos w2x
          refine lv_idiv hx hb dJ6_getChars_ba4f3_31 (by decide) ?_
          refine lv_topi (fun yn219 eyn219 => ?_)
          obtain rfl : yn219 = (ngI w2x) := eyn219.trans (by rw [ng_div (by omega), ← hw2x])
          refine lv_istore_n (lv' := [(3, .int (ngI w2x)), (5, .int (nI ((((ix - 1) - 1) - 1) - 1))), (0, .int (ngI w1x)), (4, .int (nI (w0x % 100))), (6, .int 0), (1, .int (nI ix)), (2, .ref o1)]) hx hb dJ6_getChars_ba4f3_32 rfl hl (by decide) rfl (fun ls hl => ?_)
          refine lv_iload_n hx hb dJ6_getChars_ba4f3_33 rfl (lv_at hl 0 rfl) ?_
          refine lv_bipush (v := 100) hx hb dJ6_getChars_ba4f3_34 (by decide) ?_
          refine lv_imul hx hb dJ6_getChars_ba4f3_36 ?_
          refine lv_topi (fun yn220 eyn220 => ?_)
          refine lv_iload_n hx hb dJ6_getChars_ba4f3_37 rfl (lv_at hl 2 rfl) ?_
          refine lv_isub hx hb dJ6_getChars_ba4f3_38 ?_
          refine lv_topi (fun yn223 eyn223 => ?_)
          obtain rfl : yn223 = (nI (w1x % 100)) := eyn223.trans (by rw [eyn220, hw2x]; exact ng_rem (by omega))
          refine lv_istore (lv' := [(4, .int (nI (w1x % 100))), (3, .int (ngI w2x)), (5, .int (nI ((((ix - 1) - 1) - 1) - 1))), (0, .int (ngI w1x)), (6, .int 0), (1, .int (nI ix)), (2, .ref o1)]) hx hb dJ6_getChars_ba4f3_39 hl (by decide) rfl (fun ls hl => ?_)
          refine lv_iload_n hx hb dJ6_getChars_ba4f3_41 rfl (lv_at hl 1 rfl) ?_
          refine lv_istore_n (lv' := [(0, .int (ngI w2x)), (4, .int (nI (w1x % 100))), (3, .int (ngI w2x)), (5, .int (nI ((((ix - 1) - 1) - 1) - 1))), (6, .int 0), (1, .int (nI ix)), (2, .ref o1)]) hx hb dJ6_getChars_ba4f3_42 rfl hl (by decide) rfl (fun ls hl => ?_)
          refine lv_aload_n hx hb dJ6_getChars_ba4f3_43 rfl (lv_at hl 6 rfl) ?_
          refine lv_iinc (v := (nI (((((ix - 1) - 1) - 1) - 1) - 1))) (lv' := [(5, .int (nI (((((ix - 1) - 1) - 1) - 1) - 1))), (0, .int (ngI w2x)), (4, .int (nI (w1x % 100))), (3, .int (ngI w2x)), (6, .int 0), (1, .int (nI ix)), (2, .ref o1)]) hx hb dJ6_getChars_ba4f3_44 hl (k := 3) rfl (nI_dec (a := ((((ix - 1) - 1) - 1) - 1)) (b := (((((ix - 1) - 1) - 1) - 1) - 1)) (by omega)) (by decide) rfl (fun ls hl => ?_)
          refine lv_iload hx hb dJ6_getChars_ba4f3_47 (lv_at hl 0 rfl) ?_
          refine va_gets hx hb hd1 hS hown (hts (.fieldLink RJ6 83 "java/lang/Integer" "DigitOnes" "[B") (by decide +kernel)) (fun _ h9 => h9) dJ6_getChars_ba4f3_49 ?_
          refine lv_iload hx hb dJ6_getChars_ba4f3_52 (lv_at hl 2 rfl) ?_
          refine va_tb (v := .int (f1 ((nI (w1x % 100))).toNatClampNeg)) hx hb ht1 hS (vp_in_nI (n := (w1x % 100)) (N := 100) (show (w1x % 100) < 100 by omega) (by decide)) rfl dJ6_getChars_ba4f3_54 ?_
          refine lv_topi (fun yn224 eyn224 => ?_)
          refine va_bast hx hb hK hP hD hS 0 3 rfl rfl (vp_in_nI (n := (((((ix - 1) - 1) - 1) - 1) - 1)) (N := cp) (show (((((ix - 1) - 1) - 1) - 1) - 1) < cp by omega) (by omega)) dJ6_getChars_ba4f3_55 (fun H locs hP hD hS => ?_)
          have hP : va_P D vwCl [(o1, .inl (cA 3, cp, .inl (upd fn201 (((nI (((((ix - 1) - 1) - 1) - 1) - 1))).toNatClampNeg) (vp_nar .byte yn224))))] H := hP
          have hD : va_D A [(o1, .inl (cA 3, cp, .inl (upd fn201 (((nI (((((ix - 1) - 1) - 1) - 1) - 1))).toNatClampNeg) (vp_nar .byte yn224))))] := hD
          have hn226 : sb_Fit (upd fn201 (((nI (((((ix - 1) - 1) - 1) - 1) - 1))).toNatClampNeg) (vp_nar .byte yn224)) := (sb_fitU hn202 (pk_fb _))
          generalize (upd fn201 (((nI (((((ix - 1) - 1) - 1) - 1) - 1))).toNatClampNeg) (vp_nar .byte yn224)) = fn225 at hP hD hn226
          have hP : va_P D vwCl [(o1, .inl (cA 3, cp, .inl fn225))] H := hP
          have hD : va_D A [(o1, .inl (cA 3, cp, .inl fn225))] := hD
          refine lv_aload_n hx hb dJ6_getChars_ba4f3_56 rfl (lv_at hl 6 rfl) ?_
          refine lv_iinc (v := (nI ((((((ix - 1) - 1) - 1) - 1) - 1) - 1))) (lv' := [(5, .int (nI ((((((ix - 1) - 1) - 1) - 1) - 1) - 1))), (0, .int (ngI w2x)), (4, .int (nI (w1x % 100))), (3, .int (ngI w2x)), (6, .int 0), (1, .int (nI ix)), (2, .ref o1)]) hx hb dJ6_getChars_ba4f3_57 hl (k := 0) rfl (nI_dec (a := (((((ix - 1) - 1) - 1) - 1) - 1)) (b := ((((((ix - 1) - 1) - 1) - 1) - 1) - 1)) (by omega)) (by decide) rfl (fun ls hl => ?_)
          refine lv_iload hx hb dJ6_getChars_ba4f3_60 (lv_at hl 0 rfl) ?_
          refine va_gets hx hb hd2 hS hown (hts (.fieldLink RJ6 87 "java/lang/Integer" "DigitTens" "[B") (by decide +kernel)) (fun _ h9 => h9) dJ6_getChars_ba4f3_62 ?_
          refine lv_iload hx hb dJ6_getChars_ba4f3_65 (lv_at hl 2 rfl) ?_
          refine va_tb (v := .int (f2 ((nI (w1x % 100))).toNatClampNeg)) hx hb ht2 hS (vp_in_nI (n := (w1x % 100)) (N := 100) (show (w1x % 100) < 100 by omega) (by decide)) rfl dJ6_getChars_ba4f3_67 ?_
          refine lv_topi (fun yn227 eyn227 => ?_)
          refine va_bast hx hb hK hP hD hS 0 3 rfl rfl (vp_in_nI (n := ((((((ix - 1) - 1) - 1) - 1) - 1) - 1)) (N := cp) (show ((((((ix - 1) - 1) - 1) - 1) - 1) - 1) < cp by omega) (by omega)) dJ6_getChars_ba4f3_68 (fun H locs hP hD hS => ?_)
          have hP : va_P D vwCl [(o1, .inl (cA 3, cp, .inl (upd fn225 (((nI ((((((ix - 1) - 1) - 1) - 1) - 1) - 1))).toNatClampNeg) (vp_nar .byte yn227))))] H := hP
          have hD : va_D A [(o1, .inl (cA 3, cp, .inl (upd fn225 (((nI ((((((ix - 1) - 1) - 1) - 1) - 1) - 1))).toNatClampNeg) (vp_nar .byte yn227))))] := hD
          have hn229 : sb_Fit (upd fn225 (((nI ((((((ix - 1) - 1) - 1) - 1) - 1) - 1))).toNatClampNeg) (vp_nar .byte yn227)) := (sb_fitU hn226 (pk_fb _))
          generalize (upd fn225 (((nI ((((((ix - 1) - 1) - 1) - 1) - 1) - 1))).toNatClampNeg) (vp_nar .byte yn227)) = fn228 at hP hD hn229
          have hP : va_P D vwCl [(o1, .inl (cA 3, cp, .inl fn228))] H := hP
          have hD : va_D A [(o1, .inl (cA 3, cp, .inl fn228))] := hD
          refine lv_goto (tgt := 22) hx hb dJ6_getChars_ba4f3_69 (by decide) ?_
          have hqhn230 := dg_pos w2x
          rcases Nat.lt_or_ge w2x 100 with hn230 | hn230
          · skip
            refine lv_iload_n hx hb dJ6_getChars_ba4f3_22 rfl (lv_at hl 1 rfl) ?_
            refine lv_bipush (v := (-100)) hx hb dJ6_getChars_ba4f3_23 (by decide) ?_
            refine lv_icmp_gt (tgt := 72) hx hb dJ6_getChars_ba4f3_25 (by decide) (fun c231 => ?_) (fun c9 => absurd c9 (fun h9 => h9 (ng_gt hn230)))
            refine lv_aload_n hx hb dJ6_getChars_ba4f3_72 rfl (lv_at hl 6 rfl) ?_
            refine lv_iinc (v := (nI (((((((ix - 1) - 1) - 1) - 1) - 1) - 1) - 1))) (lv' := [(5, .int (nI (((((((ix - 1) - 1) - 1) - 1) - 1) - 1) - 1))), (0, .int (ngI w2x)), (4, .int (nI (w1x % 100))), (3, .int (ngI w2x)), (6, .int 0), (1, .int (nI ix)), (2, .ref o1)]) hx hb dJ6_getChars_ba4f3_73 hl (k := 0) rfl (nI_dec (a := ((((((ix - 1) - 1) - 1) - 1) - 1) - 1)) (b := (((((((ix - 1) - 1) - 1) - 1) - 1) - 1) - 1)) (by omega)) (by decide) rfl (fun ls hl => ?_)
            refine lv_iload hx hb dJ6_getChars_ba4f3_76 (lv_at hl 0 rfl) ?_
            refine va_gets hx hb hd1 hS hown (hts (.fieldLink RJ6 83 "java/lang/Integer" "DigitOnes" "[B") (by decide +kernel)) (fun _ h9 => h9) dJ6_getChars_ba4f3_78 ?_
            refine lv_iload_n hx hb dJ6_getChars_ba4f3_81 rfl (lv_at hl 1 rfl) ?_
            refine lv_ineg hx hb dJ6_getChars_ba4f3_82 ?_
            refine lv_topi (fun yn232 eyn232 => ?_)
            obtain rfl : yn232 = (nI w2x) := eyn232.trans (ng_opp)
            refine va_tb (v := .int (f1 ((nI w2x)).toNatClampNeg)) hx hb ht1 hS (vp_in_nI (n := w2x) (N := 100) (show w2x < 100 by omega) (by decide)) rfl dJ6_getChars_ba4f3_83 ?_
            refine lv_topi (fun yn233 eyn233 => ?_)
            refine va_bast hx hb hK hP hD hS 0 3 rfl rfl (vp_in_nI (n := (((((((ix - 1) - 1) - 1) - 1) - 1) - 1) - 1)) (N := cp) (show (((((((ix - 1) - 1) - 1) - 1) - 1) - 1) - 1) < cp by omega) (by omega)) dJ6_getChars_ba4f3_84 (fun H locs hP hD hS => ?_)
            have hP : va_P D vwCl [(o1, .inl (cA 3, cp, .inl (upd fn228 (((nI (((((((ix - 1) - 1) - 1) - 1) - 1) - 1) - 1))).toNatClampNeg) (vp_nar .byte yn233))))] H := hP
            have hD : va_D A [(o1, .inl (cA 3, cp, .inl (upd fn228 (((nI (((((((ix - 1) - 1) - 1) - 1) - 1) - 1) - 1))).toNatClampNeg) (vp_nar .byte yn233))))] := hD
            have hn235 : sb_Fit (upd fn228 (((nI (((((((ix - 1) - 1) - 1) - 1) - 1) - 1) - 1))).toNatClampNeg) (vp_nar .byte yn233)) := (sb_fitU hn229 (pk_fb _))
            generalize (upd fn228 (((nI (((((((ix - 1) - 1) - 1) - 1) - 1) - 1) - 1))).toNatClampNeg) (vp_nar .byte yn233)) = fn234 at hP hD hn235
            have hP : va_P D vwCl [(o1, .inl (cA 3, cp, .inl fn234))] H := hP
            have hD : va_D A [(o1, .inl (cA 3, cp, .inl fn234))] := hD
            rcases Nat.lt_or_ge w2x 10 with hn236 | hn236
            · skip
              refine lv_iload_n hx hb dJ6_getChars_ba4f3_85 rfl (lv_at hl 1 rfl) ?_
              refine lv_bipush (v := (-9)) hx hb dJ6_getChars_ba4f3_86 (by decide) ?_
              refine lv_icmp_ge (tgt := 104) hx hb dJ6_getChars_ba4f3_88 (by decide) (fun c237 => ?_) (fun c9 => absurd c9 (fun h9 => h9 (ng_ge9 hn236)))
              refine lv_iload hx hb dJ6_getChars_ba4f3_104 (lv_at hl 4 rfl) ?_
              refine lv_if_eq (tgt := 118) hx hb dJ6_getChars_ba4f3_106 (by decide) (fun c238 => ?_) (fun c9 => absurd c9 (by decide))
              refine lv_iload hx hb dJ6_getChars_ba4f3_118 (lv_at hl 0 rfl) ?_
              have hP9 := hP.sub (ws' := [(o1, .inl (cA 3, cp, .inl fn234))]) [0] rfl
              have hD9 := hD.sub (ws' := [(o1, .inl (cA 3, cp, .inl fn234))]) [0] (by decide) rfl
              refine W.widen (k := 0) (n := 0) (Nat.le_of_ble_eq_true rfl) (Nat.le_of_ble_eq_true rfl) ?_
              exact (W.iret (v := (nI (((((((ix - 1) - 1) - 1) - 1) - 1) - 1) - 1))) hx hb hr (fun t ht hW => ⟨⟨(nI (((((((ix - 1) - 1) - 1) - 1) - 1) - 1) - 1)), (), rfl, trivial, fn234, hn235, by rw [ht]; exact hP9, hD9⟩, hS.F ht⟩) hS.2.2 dJ6_getChars_ba4f3_120)
            · skip
              have hqhn236 := dg_2 hn236 (by omega)
              refine lv_iload_n hx hb dJ6_getChars_ba4f3_85 rfl (lv_at hl 1 rfl) ?_
              refine lv_bipush (v := (-9)) hx hb dJ6_getChars_ba4f3_86 (by decide) ?_
              refine lv_icmp_ge (tgt := 104) hx hb dJ6_getChars_ba4f3_88 (by decide) (fun c9 => absurd c9 (ng_nge9 hn236 (by omega))) (fun c239 => ?_)
              refine lv_aload_n hx hb dJ6_getChars_ba4f3_91 rfl (lv_at hl 6 rfl) ?_
              refine lv_iinc (v := (nI ((((((((ix - 1) - 1) - 1) - 1) - 1) - 1) - 1) - 1))) (lv' := [(5, .int (nI ((((((((ix - 1) - 1) - 1) - 1) - 1) - 1) - 1) - 1))), (0, .int (ngI w2x)), (4, .int (nI (w1x % 100))), (3, .int (ngI w2x)), (6, .int 0), (1, .int (nI ix)), (2, .ref o1)]) hx hb dJ6_getChars_ba4f3_92 hl (k := 0) rfl (nI_dec (a := (((((((ix - 1) - 1) - 1) - 1) - 1) - 1) - 1)) (b := ((((((((ix - 1) - 1) - 1) - 1) - 1) - 1) - 1) - 1)) (by omega)) (by decide) rfl (fun ls hl => ?_)
              refine lv_iload hx hb dJ6_getChars_ba4f3_95 (lv_at hl 0 rfl) ?_
              refine va_gets hx hb hd2 hS hown (hts (.fieldLink RJ6 87 "java/lang/Integer" "DigitTens" "[B") (by decide +kernel)) (fun _ h9 => h9) dJ6_getChars_ba4f3_97 ?_
              refine lv_iload_n hx hb dJ6_getChars_ba4f3_100 rfl (lv_at hl 1 rfl) ?_
              refine lv_ineg hx hb dJ6_getChars_ba4f3_101 ?_
              refine lv_topi (fun yn240 eyn240 => ?_)
              obtain rfl : yn240 = (nI w2x) := eyn240.trans (ng_opp)
              refine va_tb (v := .int (f2 ((nI w2x)).toNatClampNeg)) hx hb ht2 hS (vp_in_nI (n := w2x) (N := 100) (show w2x < 100 by omega) (by decide)) rfl dJ6_getChars_ba4f3_102 ?_
              refine lv_topi (fun yn241 eyn241 => ?_)
              refine va_bast hx hb hK hP hD hS 0 3 rfl rfl (vp_in_nI (n := ((((((((ix - 1) - 1) - 1) - 1) - 1) - 1) - 1) - 1)) (N := cp) (show ((((((((ix - 1) - 1) - 1) - 1) - 1) - 1) - 1) - 1) < cp by omega) (by omega)) dJ6_getChars_ba4f3_103 (fun H locs hP hD hS => ?_)
              have hP : va_P D vwCl [(o1, .inl (cA 3, cp, .inl (upd fn234 (((nI ((((((((ix - 1) - 1) - 1) - 1) - 1) - 1) - 1) - 1))).toNatClampNeg) (vp_nar .byte yn241))))] H := hP
              have hD : va_D A [(o1, .inl (cA 3, cp, .inl (upd fn234 (((nI ((((((((ix - 1) - 1) - 1) - 1) - 1) - 1) - 1) - 1))).toNatClampNeg) (vp_nar .byte yn241))))] := hD
              have hn243 : sb_Fit (upd fn234 (((nI ((((((((ix - 1) - 1) - 1) - 1) - 1) - 1) - 1) - 1))).toNatClampNeg) (vp_nar .byte yn241)) := (sb_fitU hn235 (pk_fb _))
              generalize (upd fn234 (((nI ((((((((ix - 1) - 1) - 1) - 1) - 1) - 1) - 1) - 1))).toNatClampNeg) (vp_nar .byte yn241)) = fn242 at hP hD hn243
              have hP : va_P D vwCl [(o1, .inl (cA 3, cp, .inl fn242))] H := hP
              have hD : va_D A [(o1, .inl (cA 3, cp, .inl fn242))] := hD
              refine lv_iload hx hb dJ6_getChars_ba4f3_104 (lv_at hl 4 rfl) ?_
              refine lv_if_eq (tgt := 118) hx hb dJ6_getChars_ba4f3_106 (by decide) (fun c244 => ?_) (fun c9 => absurd c9 (by decide))
              refine lv_iload hx hb dJ6_getChars_ba4f3_118 (lv_at hl 0 rfl) ?_
              have hP9 := hP.sub (ws' := [(o1, .inl (cA 3, cp, .inl fn242))]) [0] rfl
              have hD9 := hD.sub (ws' := [(o1, .inl (cA 3, cp, .inl fn242))]) [0] (by decide) rfl
              refine W.widen (k := 0) (n := 0) (Nat.le_of_ble_eq_true rfl) (Nat.le_of_ble_eq_true rfl) ?_
              exact (W.iret (v := (nI ((((((((ix - 1) - 1) - 1) - 1) - 1) - 1) - 1) - 1))) hx hb hr (fun t ht hW => ⟨⟨(nI ((((((((ix - 1) - 1) - 1) - 1) - 1) - 1) - 1) - 1)), (), rfl, trivial, fn242, hn243, by rw [ht]; exact hP9, hD9⟩, hS.F ht⟩) hS.2.2 dJ6_getChars_ba4f3_120)
          · skip
            refine lv_iload_n hx hb dJ6_getChars_ba4f3_22 rfl (lv_at hl 1 rfl) ?_
            refine lv_bipush (v := (-100)) hx hb dJ6_getChars_ba4f3_23 (by decide) ?_
            refine lv_icmp_gt (tgt := 72) hx hb dJ6_getChars_ba4f3_25 (by decide) (fun c9 => absurd c9 (ng_ngt hn230 (by omega))) (fun c245 => ?_)
            refine lv_iload_n hx hb dJ6_getChars_ba4f3_28 rfl (lv_at hl 1 rfl) ?_
            refine lv_bipush (v := 100) hx hb dJ6_getChars_ba4f3_29 (by decide) ?_
            obtain ⟨w3x, hw3x⟩ : ∃ x9, x9 = w2x / 100 := ⟨_, rfl⟩
            have hdw3x : dg w2x = dg w3x + 2 := by rw [hw3x]; exact dg_100 (by omega) hn230
            have hpw3x := dg_pos w3x
            refine lv_idiv hx hb dJ6_getChars_ba4f3_31 (by decide) ?_
            refine lv_topi (fun yn246 eyn246 => ?_)
            obtain rfl : yn246 = (ngI w3x) := eyn246.trans (by rw [ng_div (by omega), ← hw3x])
            refine lv_istore_n (lv' := [(3, .int (ngI w3x)), (5, .int (nI ((((((ix - 1) - 1) - 1) - 1) - 1) - 1))), (0, .int (ngI w2x)), (4, .int (nI (w1x % 100))), (6, .int 0), (1, .int (nI ix)), (2, .ref o1)]) hx hb dJ6_getChars_ba4f3_32 rfl hl (by decide) rfl (fun ls hl => ?_)
            refine lv_iload_n hx hb dJ6_getChars_ba4f3_33 rfl (lv_at hl 0 rfl) ?_
            refine lv_bipush (v := 100) hx hb dJ6_getChars_ba4f3_34 (by decide) ?_
            refine lv_imul hx hb dJ6_getChars_ba4f3_36 ?_
            refine lv_topi (fun yn247 eyn247 => ?_)
            refine lv_iload_n hx hb dJ6_getChars_ba4f3_37 rfl (lv_at hl 2 rfl) ?_
            refine lv_isub hx hb dJ6_getChars_ba4f3_38 ?_
            refine lv_topi (fun yn250 eyn250 => ?_)
            obtain rfl : yn250 = (nI (w2x % 100)) := eyn250.trans (by rw [eyn247, hw3x]; exact ng_rem (by omega))
            refine lv_istore (lv' := [(4, .int (nI (w2x % 100))), (3, .int (ngI w3x)), (5, .int (nI ((((((ix - 1) - 1) - 1) - 1) - 1) - 1))), (0, .int (ngI w2x)), (6, .int 0), (1, .int (nI ix)), (2, .ref o1)]) hx hb dJ6_getChars_ba4f3_39 hl (by decide) rfl (fun ls hl => ?_)
            refine lv_iload_n hx hb dJ6_getChars_ba4f3_41 rfl (lv_at hl 1 rfl) ?_
            refine lv_istore_n (lv' := [(0, .int (ngI w3x)), (4, .int (nI (w2x % 100))), (3, .int (ngI w3x)), (5, .int (nI ((((((ix - 1) - 1) - 1) - 1) - 1) - 1))), (6, .int 0), (1, .int (nI ix)), (2, .ref o1)]) hx hb dJ6_getChars_ba4f3_42 rfl hl (by decide) rfl (fun ls hl => ?_)
            refine lv_aload_n hx hb dJ6_getChars_ba4f3_43 rfl (lv_at hl 6 rfl) ?_
            refine lv_iinc (v := (nI (((((((ix - 1) - 1) - 1) - 1) - 1) - 1) - 1))) (lv' := [(5, .int (nI (((((((ix - 1) - 1) - 1) - 1) - 1) - 1) - 1))), (0, .int (ngI w3x)), (4, .int (nI (w2x % 100))), (3, .int (ngI w3x)), (6, .int 0), (1, .int (nI ix)), (2, .ref o1)]) hx hb dJ6_getChars_ba4f3_44 hl (k := 3) rfl (nI_dec (a := ((((((ix - 1) - 1) - 1) - 1) - 1) - 1)) (b := (((((((ix - 1) - 1) - 1) - 1) - 1) - 1) - 1)) (by omega)) (by decide) rfl (fun ls hl => ?_)
            refine lv_iload hx hb dJ6_getChars_ba4f3_47 (lv_at hl 0 rfl) ?_
            refine va_gets hx hb hd1 hS hown (hts (.fieldLink RJ6 83 "java/lang/Integer" "DigitOnes" "[B") (by decide +kernel)) (fun _ h9 => h9) dJ6_getChars_ba4f3_49 ?_
            refine lv_iload hx hb dJ6_getChars_ba4f3_52 (lv_at hl 2 rfl) ?_
            refine va_tb (v := .int (f1 ((nI (w2x % 100))).toNatClampNeg)) hx hb ht1 hS (vp_in_nI (n := (w2x % 100)) (N := 100) (show (w2x % 100) < 100 by omega) (by decide)) rfl dJ6_getChars_ba4f3_54 ?_
            refine lv_topi (fun yn251 eyn251 => ?_)
            refine va_bast hx hb hK hP hD hS 0 3 rfl rfl (vp_in_nI (n := (((((((ix - 1) - 1) - 1) - 1) - 1) - 1) - 1)) (N := cp) (show (((((((ix - 1) - 1) - 1) - 1) - 1) - 1) - 1) < cp by omega) (by omega)) dJ6_getChars_ba4f3_55 (fun H locs hP hD hS => ?_)
            have hP : va_P D vwCl [(o1, .inl (cA 3, cp, .inl (upd fn228 (((nI (((((((ix - 1) - 1) - 1) - 1) - 1) - 1) - 1))).toNatClampNeg) (vp_nar .byte yn251))))] H := hP
            have hD : va_D A [(o1, .inl (cA 3, cp, .inl (upd fn228 (((nI (((((((ix - 1) - 1) - 1) - 1) - 1) - 1) - 1))).toNatClampNeg) (vp_nar .byte yn251))))] := hD
            have hn253 : sb_Fit (upd fn228 (((nI (((((((ix - 1) - 1) - 1) - 1) - 1) - 1) - 1))).toNatClampNeg) (vp_nar .byte yn251)) := (sb_fitU hn229 (pk_fb _))
            generalize (upd fn228 (((nI (((((((ix - 1) - 1) - 1) - 1) - 1) - 1) - 1))).toNatClampNeg) (vp_nar .byte yn251)) = fn252 at hP hD hn253
            have hP : va_P D vwCl [(o1, .inl (cA 3, cp, .inl fn252))] H := hP
            have hD : va_D A [(o1, .inl (cA 3, cp, .inl fn252))] := hD
            refine lv_aload_n hx hb dJ6_getChars_ba4f3_56 rfl (lv_at hl 6 rfl) ?_
            refine lv_iinc (v := (nI ((((((((ix - 1) - 1) - 1) - 1) - 1) - 1) - 1) - 1))) (lv' := [(5, .int (nI ((((((((ix - 1) - 1) - 1) - 1) - 1) - 1) - 1) - 1))), (0, .int (ngI w3x)), (4, .int (nI (w2x % 100))), (3, .int (ngI w3x)), (6, .int 0), (1, .int (nI ix)), (2, .ref o1)]) hx hb dJ6_getChars_ba4f3_57 hl (k := 0) rfl (nI_dec (a := (((((((ix - 1) - 1) - 1) - 1) - 1) - 1) - 1)) (b := ((((((((ix - 1) - 1) - 1) - 1) - 1) - 1) - 1) - 1)) (by omega)) (by decide) rfl (fun ls hl => ?_)
            refine lv_iload hx hb dJ6_getChars_ba4f3_60 (lv_at hl 0 rfl) ?_
            refine va_gets hx hb hd2 hS hown (hts (.fieldLink RJ6 87 "java/lang/Integer" "DigitTens" "[B") (by decide +kernel)) (fun _ h9 => h9) dJ6_getChars_ba4f3_62 ?_
            refine lv_iload hx hb dJ6_getChars_ba4f3_65 (lv_at hl 2 rfl) ?_
            refine va_tb (v := .int (f2 ((nI (w2x % 100))).toNatClampNeg)) hx hb ht2 hS (vp_in_nI (n := (w2x % 100)) (N := 100) (show (w2x % 100) < 100 by omega) (by decide)) rfl dJ6_getChars_ba4f3_67 ?_
            refine lv_topi (fun yn254 eyn254 => ?_)
            refine va_bast hx hb hK hP hD hS 0 3 rfl rfl (vp_in_nI (n := ((((((((ix - 1) - 1) - 1) - 1) - 1) - 1) - 1) - 1)) (N := cp) (show ((((((((ix - 1) - 1) - 1) - 1) - 1) - 1) - 1) - 1) < cp by omega) (by omega)) dJ6_getChars_ba4f3_68 (fun H locs hP hD hS => ?_)
            have hP : va_P D vwCl [(o1, .inl (cA 3, cp, .inl (upd fn252 (((nI ((((((((ix - 1) - 1) - 1) - 1) - 1) - 1) - 1) - 1))).toNatClampNeg) (vp_nar .byte yn254))))] H := hP
            have hD : va_D A [(o1, .inl (cA 3, cp, .inl (upd fn252 (((nI ((((((((ix - 1) - 1) - 1) - 1) - 1) - 1) - 1) - 1))).toNatClampNeg) (vp_nar .byte yn254))))] := hD
            have hn256 : sb_Fit (upd fn252 (((nI ((((((((ix - 1) - 1) - 1) - 1) - 1) - 1) - 1) - 1))).toNatClampNeg) (vp_nar .byte yn254)) := (sb_fitU hn253 (pk_fb _))
            generalize (upd fn252 (((nI ((((((((ix - 1) - 1) - 1) - 1) - 1) - 1) - 1) - 1))).toNatClampNeg) (vp_nar .byte yn254)) = fn255 at hP hD hn256
            have hP : va_P D vwCl [(o1, .inl (cA 3, cp, .inl fn255))] H := hP
            have hD : va_D A [(o1, .inl (cA 3, cp, .inl fn255))] := hD
            refine lv_goto (tgt := 22) hx hb dJ6_getChars_ba4f3_69 (by decide) ?_
            have hqhn257 := dg_pos w3x
            have hn257 : w3x < 100 := by omega
            refine lv_iload_n hx hb dJ6_getChars_ba4f3_22 rfl (lv_at hl 1 rfl) ?_
            refine lv_bipush (v := (-100)) hx hb dJ6_getChars_ba4f3_23 (by decide) ?_
            refine lv_icmp_gt (tgt := 72) hx hb dJ6_getChars_ba4f3_25 (by decide) (fun c258 => ?_) (fun c9 => absurd c9 (fun h9 => h9 (ng_gt hn257)))
            refine lv_aload_n hx hb dJ6_getChars_ba4f3_72 rfl (lv_at hl 6 rfl) ?_
            refine lv_iinc (v := (nI (((((((((ix - 1) - 1) - 1) - 1) - 1) - 1) - 1) - 1) - 1))) (lv' := [(5, .int (nI (((((((((ix - 1) - 1) - 1) - 1) - 1) - 1) - 1) - 1) - 1))), (0, .int (ngI w3x)), (4, .int (nI (w2x % 100))), (3, .int (ngI w3x)), (6, .int 0), (1, .int (nI ix)), (2, .ref o1)]) hx hb dJ6_getChars_ba4f3_73 hl (k := 0) rfl (nI_dec (a := ((((((((ix - 1) - 1) - 1) - 1) - 1) - 1) - 1) - 1)) (b := (((((((((ix - 1) - 1) - 1) - 1) - 1) - 1) - 1) - 1) - 1)) (by omega)) (by decide) rfl (fun ls hl => ?_)
            refine lv_iload hx hb dJ6_getChars_ba4f3_76 (lv_at hl 0 rfl) ?_
            refine va_gets hx hb hd1 hS hown (hts (.fieldLink RJ6 83 "java/lang/Integer" "DigitOnes" "[B") (by decide +kernel)) (fun _ h9 => h9) dJ6_getChars_ba4f3_78 ?_
            refine lv_iload_n hx hb dJ6_getChars_ba4f3_81 rfl (lv_at hl 1 rfl) ?_
            refine lv_ineg hx hb dJ6_getChars_ba4f3_82 ?_
            refine lv_topi (fun yn259 eyn259 => ?_)
            obtain rfl : yn259 = (nI w3x) := eyn259.trans (ng_opp)
            refine va_tb (v := .int (f1 ((nI w3x)).toNatClampNeg)) hx hb ht1 hS (vp_in_nI (n := w3x) (N := 100) (show w3x < 100 by omega) (by decide)) rfl dJ6_getChars_ba4f3_83 ?_
            refine lv_topi (fun yn260 eyn260 => ?_)
            refine va_bast hx hb hK hP hD hS 0 3 rfl rfl (vp_in_nI (n := (((((((((ix - 1) - 1) - 1) - 1) - 1) - 1) - 1) - 1) - 1)) (N := cp) (show (((((((((ix - 1) - 1) - 1) - 1) - 1) - 1) - 1) - 1) - 1) < cp by omega) (by omega)) dJ6_getChars_ba4f3_84 (fun H locs hP hD hS => ?_)
            have hP : va_P D vwCl [(o1, .inl (cA 3, cp, .inl (upd fn255 (((nI (((((((((ix - 1) - 1) - 1) - 1) - 1) - 1) - 1) - 1) - 1))).toNatClampNeg) (vp_nar .byte yn260))))] H := hP
            have hD : va_D A [(o1, .inl (cA 3, cp, .inl (upd fn255 (((nI (((((((((ix - 1) - 1) - 1) - 1) - 1) - 1) - 1) - 1) - 1))).toNatClampNeg) (vp_nar .byte yn260))))] := hD
            have hn262 : sb_Fit (upd fn255 (((nI (((((((((ix - 1) - 1) - 1) - 1) - 1) - 1) - 1) - 1) - 1))).toNatClampNeg) (vp_nar .byte yn260)) := (sb_fitU hn256 (pk_fb _))
            generalize (upd fn255 (((nI (((((((((ix - 1) - 1) - 1) - 1) - 1) - 1) - 1) - 1) - 1))).toNatClampNeg) (vp_nar .byte yn260)) = fn261 at hP hD hn262
            have hP : va_P D vwCl [(o1, .inl (cA 3, cp, .inl fn261))] H := hP
            have hD : va_D A [(o1, .inl (cA 3, cp, .inl fn261))] := hD
            rcases Nat.lt_or_ge w3x 10 with hn263 | hn263
            · skip
              refine lv_iload_n hx hb dJ6_getChars_ba4f3_85 rfl (lv_at hl 1 rfl) ?_
              refine lv_bipush (v := (-9)) hx hb dJ6_getChars_ba4f3_86 (by decide) ?_
              refine lv_icmp_ge (tgt := 104) hx hb dJ6_getChars_ba4f3_88 (by decide) (fun c264 => ?_) (fun c9 => absurd c9 (fun h9 => h9 (ng_ge9 hn263)))
              refine lv_iload hx hb dJ6_getChars_ba4f3_104 (lv_at hl 4 rfl) ?_
              refine lv_if_eq (tgt := 118) hx hb dJ6_getChars_ba4f3_106 (by decide) (fun c265 => ?_) (fun c9 => absurd c9 (by decide))
              refine lv_iload hx hb dJ6_getChars_ba4f3_118 (lv_at hl 0 rfl) ?_
              have hP9 := hP.sub (ws' := [(o1, .inl (cA 3, cp, .inl fn261))]) [0] rfl
              have hD9 := hD.sub (ws' := [(o1, .inl (cA 3, cp, .inl fn261))]) [0] (by decide) rfl
              refine W.widen (k := 0) (n := 0) (Nat.le_of_ble_eq_true rfl) (Nat.le_of_ble_eq_true rfl) ?_
              exact (W.iret (v := (nI (((((((((ix - 1) - 1) - 1) - 1) - 1) - 1) - 1) - 1) - 1))) hx hb hr (fun t ht hW => ⟨⟨(nI (((((((((ix - 1) - 1) - 1) - 1) - 1) - 1) - 1) - 1) - 1)), (), rfl, trivial, fn261, hn262, by rw [ht]; exact hP9, hD9⟩, hS.F ht⟩) hS.2.2 dJ6_getChars_ba4f3_120)
            · skip
              have hqhn263 := dg_2 hn263 (by omega)
              refine lv_iload_n hx hb dJ6_getChars_ba4f3_85 rfl (lv_at hl 1 rfl) ?_
              refine lv_bipush (v := (-9)) hx hb dJ6_getChars_ba4f3_86 (by decide) ?_
              refine lv_icmp_ge (tgt := 104) hx hb dJ6_getChars_ba4f3_88 (by decide) (fun c9 => absurd c9 (ng_nge9 hn263 (by omega))) (fun c266 => ?_)
              refine lv_aload_n hx hb dJ6_getChars_ba4f3_91 rfl (lv_at hl 6 rfl) ?_
              refine lv_iinc (v := (nI ((((((((((ix - 1) - 1) - 1) - 1) - 1) - 1) - 1) - 1) - 1) - 1))) (lv' := [(5, .int (nI ((((((((((ix - 1) - 1) - 1) - 1) - 1) - 1) - 1) - 1) - 1) - 1))), (0, .int (ngI w3x)), (4, .int (nI (w2x % 100))), (3, .int (ngI w3x)), (6, .int 0), (1, .int (nI ix)), (2, .ref o1)]) hx hb dJ6_getChars_ba4f3_92 hl (k := 0) rfl (nI_dec (a := (((((((((ix - 1) - 1) - 1) - 1) - 1) - 1) - 1) - 1) - 1)) (b := ((((((((((ix - 1) - 1) - 1) - 1) - 1) - 1) - 1) - 1) - 1) - 1)) (by omega)) (by decide) rfl (fun ls hl => ?_)
              refine lv_iload hx hb dJ6_getChars_ba4f3_95 (lv_at hl 0 rfl) ?_
              refine va_gets hx hb hd2 hS hown (hts (.fieldLink RJ6 87 "java/lang/Integer" "DigitTens" "[B") (by decide +kernel)) (fun _ h9 => h9) dJ6_getChars_ba4f3_97 ?_
              refine lv_iload_n hx hb dJ6_getChars_ba4f3_100 rfl (lv_at hl 1 rfl) ?_
              refine lv_ineg hx hb dJ6_getChars_ba4f3_101 ?_
              refine lv_topi (fun yn267 eyn267 => ?_)
              obtain rfl : yn267 = (nI w3x) := eyn267.trans (ng_opp)
              refine va_tb (v := .int (f2 ((nI w3x)).toNatClampNeg)) hx hb ht2 hS (vp_in_nI (n := w3x) (N := 100) (show w3x < 100 by omega) (by decide)) rfl dJ6_getChars_ba4f3_102 ?_
              refine lv_topi (fun yn268 eyn268 => ?_)
              refine va_bast hx hb hK hP hD hS 0 3 rfl rfl (vp_in_nI (n := ((((((((((ix - 1) - 1) - 1) - 1) - 1) - 1) - 1) - 1) - 1) - 1)) (N := cp) (show ((((((((((ix - 1) - 1) - 1) - 1) - 1) - 1) - 1) - 1) - 1) - 1) < cp by omega) (by omega)) dJ6_getChars_ba4f3_103 (fun H locs hP hD hS => ?_)
              have hP : va_P D vwCl [(o1, .inl (cA 3, cp, .inl (upd fn261 (((nI ((((((((((ix - 1) - 1) - 1) - 1) - 1) - 1) - 1) - 1) - 1) - 1))).toNatClampNeg) (vp_nar .byte yn268))))] H := hP
              have hD : va_D A [(o1, .inl (cA 3, cp, .inl (upd fn261 (((nI ((((((((((ix - 1) - 1) - 1) - 1) - 1) - 1) - 1) - 1) - 1) - 1))).toNatClampNeg) (vp_nar .byte yn268))))] := hD
              have hn270 : sb_Fit (upd fn261 (((nI ((((((((((ix - 1) - 1) - 1) - 1) - 1) - 1) - 1) - 1) - 1) - 1))).toNatClampNeg) (vp_nar .byte yn268)) := (sb_fitU hn262 (pk_fb _))
              generalize (upd fn261 (((nI ((((((((((ix - 1) - 1) - 1) - 1) - 1) - 1) - 1) - 1) - 1) - 1))).toNatClampNeg) (vp_nar .byte yn268)) = fn269 at hP hD hn270
              have hP : va_P D vwCl [(o1, .inl (cA 3, cp, .inl fn269))] H := hP
              have hD : va_D A [(o1, .inl (cA 3, cp, .inl fn269))] := hD
              refine lv_iload hx hb dJ6_getChars_ba4f3_104 (lv_at hl 4 rfl) ?_
              refine lv_if_eq (tgt := 118) hx hb dJ6_getChars_ba4f3_106 (by decide) (fun c271 => ?_) (fun c9 => absurd c9 (by decide))
              refine lv_iload hx hb dJ6_getChars_ba4f3_118 (lv_at hl 0 rfl) ?_
              have hP9 := hP.sub (ws' := [(o1, .inl (cA 3, cp, .inl fn269))]) [0] rfl
              have hD9 := hD.sub (ws' := [(o1, .inl (cA 3, cp, .inl fn269))]) [0] (by decide) rfl
              refine W.widen (k := 0) (n := 0) (Nat.le_of_ble_eq_true rfl) (Nat.le_of_ble_eq_true rfl) ?_
              exact (W.iret (v := (nI ((((((((((ix - 1) - 1) - 1) - 1) - 1) - 1) - 1) - 1) - 1) - 1))) hx hb hr (fun t ht hW => ⟨⟨(nI ((((((((((ix - 1) - 1) - 1) - 1) - 1) - 1) - 1) - 1) - 1) - 1)), (), rfl, trivial, fn269, hn270, by rw [ht]; exact hP9, hD9⟩, hS.F ht⟩) hS.2.2 dJ6_getChars_ba4f3_120)
