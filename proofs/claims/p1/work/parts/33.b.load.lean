set_option maxHeartbeats 4000000 in
set_option maxRecDepth 100000 in
/-- Preconditions.checkIndex within -/
theorem c_pchk_null (l : Launch) (D : va_G) (cA : Nat → ClassId) (sa : Nat → Nat) (i n : Nat) (sz : Nat) (hi : i < n) (hn : n < 2 ^ 31) : Met l yJ3_checkIndex_8e157 wsJ3_checkIndex_8e157 ({ frames := 0, cells := 0, slots := 0, locals := 0 }) (va_Pc [.int (nI i), .int (nI n), .null] (Wd D cA sa [] sz)) (va_Qi (fun (r : Int32) (_ : Unit) => r = (nI i)) (fun (_ : Unit) t => Wq D (va_A [] sz) [] t) (va_A [] sz)) 0 0 (va_A [] sz) := by
  refine Met.ofW (cc := cJ3_checkIndex_8e157) (maxL := 3) (ret := (some .int)) (by decide) rfl ?_
  intro p e s m args below meth c s₁ B hml hv
  obtain ⟨rfl, hsz, hP, hK, hD0, hC, hZ⟩ := hv
  have hx := B.exec
  have hb := B.bytes
  have hr := B.returns
  have hts := atoms_spec (ws := wsJ3_checkIndex_8e157) B.pre
  have hown : s.vm.findClass RJ3 = some m.cls := findClass_of_methodNamed B.named
  have hlocks := B.notSynchronized
  subst hsz
  have hD := hD0.self (sz := s.heap.size)
  generalize hAe : va_A [] s.heap.size = A at hD hZ ⊢
  have hA : ∀ q : Nat, s.heap.size ≤ q → A q := fun q h => by rw [← hAe]; exact Or.inr h
  have hS : va_S A s.heap s.heap [] := va_S.rf
  have hP : va_P D vwCl [] s.heap := hP
  have hl := lv_entry ([.int (nI i), .int (nI n), .null]) (n := 3) (Nat.le_of_ble_eq_true rfl)
  rw [lg_entry_eq]
  generalize (lg_sl ([.int (nI i), .int (nI n), .null]) ++ List.replicate (3 - (lg_sl ([.int (nI i), .int (nI n), .null])).length) Slot.unset).toArray = ls at hl ⊢
  have hl : lv_has ls 3 [(0, .int (nI i)), (1, .int (nI n)), (2, .null)] := hl
  refine lv_iload_n hx hb dJ3_checkIndex_8e157_0 rfl (lv_at hl 0 rfl) ?_
  refine lv_if_lt (tgt := 9) hx hb dJ3_checkIndex_8e157_1 (by decide) (fun c9 => absurd c9 (nI_pos (Nat.lt_trans hi hn))) (fun c1 => ?_)
  refine lv_iload_n hx hb dJ3_checkIndex_8e157_4 rfl (lv_at hl 0 rfl) ?_
  refine lv_iload_n hx hb dJ3_checkIndex_8e157_5 rfl (lv_at hl 1 rfl) ?_
  refine lv_icmp_lt (tgt := 16) hx hb dJ3_checkIndex_8e157_6 (by decide) (fun c2 => ?_) (fun c9 => absurd c9 (fun h3 => h3 (nI_lt hi hn)))
  refine lv_iload_n hx hb dJ3_checkIndex_8e157_16 rfl (lv_at hl 0 rfl) ?_
  have hP9 := hP.sub (ws' := []) [] rfl
  have hD9 := hD.sub (ws' := []) [] (by decide) rfl
  refine W.widen (k := 0) (n := 0) (Nat.le_of_ble_eq_true rfl) (Nat.le_of_ble_eq_true rfl) ?_
  exact W.iret (v := (nI i)) hx hb hr (fun t ht hW => ⟨⟨(nI i), (), rfl, rfl, by rw [ht]; exact hP9, hD9⟩, hS.F ht⟩) hS.2.2 dJ3_checkIndex_8e157_17

set_option maxHeartbeats 4000000 in
set_option maxRecDepth 100000 in
/-- Preconditions.checkIndex within -/
theorem c_pchk_ref (l : Launch) (D : va_G) (cA : Nat → ClassId) (sa : Nat → Nat) (i n t : Nat) (sz : Nat) (hi : i < n) (hn : n < 2 ^ 31) : Met l yJ3_checkIndex_8e157 wsJ3_checkIndex_8e157 ({ frames := 0, cells := 0, slots := 0, locals := 0 }) (va_Pc [.int (nI i), .int (nI n), .ref t] (Wd D cA sa [] sz)) (va_Qi (fun (r : Int32) (_ : Unit) => r = (nI i)) (fun (_ : Unit) t => Wq D (va_A [] sz) [] t) (va_A [] sz)) 0 0 (va_A [] sz) := by
  refine Met.ofW (cc := cJ3_checkIndex_8e157) (maxL := 3) (ret := (some .int)) (by decide) rfl ?_
  intro p e s m args below meth c s₁ B hml hv
  obtain ⟨rfl, hsz, hP, hK, hD0, hC, hZ⟩ := hv
  have hx := B.exec
  have hb := B.bytes
  have hr := B.returns
  have hts := atoms_spec (ws := wsJ3_checkIndex_8e157) B.pre
  have hown : s.vm.findClass RJ3 = some m.cls := findClass_of_methodNamed B.named
  have hlocks := B.notSynchronized
  subst hsz
  have hD := hD0.self (sz := s.heap.size)
  generalize hAe : va_A [] s.heap.size = A at hD hZ ⊢
  have hA : ∀ q : Nat, s.heap.size ≤ q → A q := fun q h => by rw [← hAe]; exact Or.inr h
  have hS : va_S A s.heap s.heap [] := va_S.rf
  have hP : va_P D vwCl [] s.heap := hP
  have hl := lv_entry ([.int (nI i), .int (nI n), .ref t]) (n := 3) (Nat.le_of_ble_eq_true rfl)
  rw [lg_entry_eq]
  generalize (lg_sl ([.int (nI i), .int (nI n), .ref t]) ++ List.replicate (3 - (lg_sl ([.int (nI i), .int (nI n), .ref t])).length) Slot.unset).toArray = ls at hl ⊢
  have hl : lv_has ls 3 [(0, .int (nI i)), (1, .int (nI n)), (2, .ref t)] := hl
  refine lv_iload_n hx hb dJ3_checkIndex_8e157_0 rfl (lv_at hl 0 rfl) ?_
  refine lv_if_lt (tgt := 9) hx hb dJ3_checkIndex_8e157_1 (by decide) (fun c9 => absurd c9 (nI_pos (Nat.lt_trans hi hn))) (fun c1 => ?_)
  refine lv_iload_n hx hb dJ3_checkIndex_8e157_4 rfl (lv_at hl 0 rfl) ?_
  refine lv_iload_n hx hb dJ3_checkIndex_8e157_5 rfl (lv_at hl 1 rfl) ?_
  refine lv_icmp_lt (tgt := 16) hx hb dJ3_checkIndex_8e157_6 (by decide) (fun c2 => ?_) (fun c9 => absurd c9 (fun h3 => h3 (nI_lt hi hn)))
  refine lv_iload_n hx hb dJ3_checkIndex_8e157_16 rfl (lv_at hl 0 rfl) ?_
  have hP9 := hP.sub (ws' := []) [] rfl
  have hD9 := hD.sub (ws' := []) [] (by decide) rfl
  refine W.widen (k := 0) (n := 0) (Nat.le_of_ble_eq_true rfl) (Nat.le_of_ble_eq_true rfl) ?_
  exact W.iret (v := (nI i)) hx hb hr (fun t ht hW => ⟨⟨(nI i), (), rfl, rfl, by rw [ht]; exact hP9, hD9⟩, hS.F ht⟩) hS.2.2 dJ3_checkIndex_8e157_17

set_option maxHeartbeats 4000000 in
set_option maxRecDepth 100000 in
/-- String.checkIndex within -/
theorem c_schk (l : Launch) (D : va_G) (cA : Nat → ClassId) (sa : Nat → Nat) (i n : Nat) (sz : Nat) (hi : i < n) (hn : n < 2 ^ 31) : Met l yJ0_checkIndex_df160 wsJ0_checkIndex_df160 ({ frames := 1, cells := 0, slots := 0, locals := 22 }) (va_Pc [.int (nI i), .int (nI n)] (Wd D cA sa [] sz)) (va_Qv (fun _ : Unit => True) (fun (_ : Unit) t => Wq D (va_A [] sz) [] t) (va_A [] sz)) 0 0 (va_A [] sz) := by
  refine Met.ofW (cc := cJ0_checkIndex_df160) (maxL := 2) (ret := none) (by decide) rfl ?_
  intro p e s m args below meth c s₁ B hml hv
  obtain ⟨rfl, hsz, hP, hK, hD0, hC, hZ⟩ := hv
  have hx := B.exec
  have hb := B.bytes
  have hr := B.returns
  have hts := atoms_spec (ws := wsJ0_checkIndex_df160) B.pre
  have hown : s.vm.findClass RJ0 = some m.cls := findClass_of_methodNamed B.named
  have hlocks := B.notSynchronized
  subst hsz
  have hD := hD0.self (sz := s.heap.size)
  generalize hAe : va_A [] s.heap.size = A at hD hZ ⊢
  have hA : ∀ q : Nat, s.heap.size ≤ q → A q := fun q h => by rw [← hAe]; exact Or.inr h
  have hS : va_S A s.heap s.heap [] := va_S.rf
  have hP : va_P D vwCl [] s.heap := hP
  have hl := lv_entry ([.int (nI i), .int (nI n)]) (n := 2) (Nat.le_of_ble_eq_true rfl)
  rw [lg_entry_eq]
  generalize (lg_sl ([.int (nI i), .int (nI n)]) ++ List.replicate (2 - (lg_sl ([.int (nI i), .int (nI n)])).length) Slot.unset).toArray = ls at hl ⊢
  have hl : lv_has ls 2 [(0, .int (nI i)), (1, .int (nI n))] := hl
  refine lv_iload_n hx hb dJ0_checkIndex_df160_0 rfl (lv_at hl 0 rfl) ?_
  refine lv_iload_n hx hb dJ0_checkIndex_df160_1 rfl (lv_at hl 1 rfl) ?_
  rcases hZ.2.2.2.1 with hz9 | ⟨t9, hz9⟩
  · skip
    refine va_gets hx hb hz9 hS hown (hts (.fieldLink RJ0 1053 "jdk/internal/util/Preconditions" "SIOOBE_FORMATTER" "Ljava/util/function/BiFunction;") (by decide +kernel)) (fun _ h9 => h9) dJ0_checkIndex_df160_2 ?_
    have hPc := hP.sub (ws' := []) [] rfl
    have hDc := hD.sub (ws' := []) [] (by decide) rfl
    have hFc := va_free (wc := []) hD hS hA [] rfl
    refine va_calli (va_runS (As := [.int (nI i), .int (nI n), .null]) (rest := []) ⟨hx, hb, hml, hown, hts⟩ (c_pchk_null l D cA sa i n s.heap.size hi hn) (va_cwS 3 hts gJ0_checkIndex_df160_J3_checkIndex_8e157 rfl rfl rfl (by decide +kernel) ⟨(Nat.le_of_ble_eq_true rfl), (Nat.le_of_ble_eq_true rfl)⟩) ⟨Wd.blind, fun U hU hW => ⟨rfl, Wd.call hPc hDc hK hC hZ hS hFc U hU hW⟩⟩ rfl rfl hl.1 rfl (lv_room (Nat.le_of_ble_eq_true rfl)) dJ0_checkIndex_df160_5 ⟨(Nat.le_of_ble_eq_true rfl), (Nat.le_of_ble_eq_true rfl)⟩) hS (fun q _ h => hFc q h) hFc (fun rn1 u t H1 locs ht hvm hw hB hz1 hk1 hS => ?_)
    obtain ⟨hP1, hD1⟩ := hB
    rw [ht] at hP1
    obtain ⟨hP, hD⟩ := va_join (wr := []) (w1 := []) hP hD [] [] rfl rfl (by decide) (by decide) hk1 hFc hP1 hD1
    generalize H1 = H at hP hS ⊢
    have hP : va_P D vwCl [] H := hP
    have hD : va_D A [] := hD
    obtain rfl : rn1 = (nI i) := hw
    refine lv_pop hx hb dJ0_checkIndex_df160_8 rfl ?_
    have hP9 := hP.sub (ws' := []) [] rfl
    have hD9 := hD.sub (ws' := []) [] (by decide) rfl
    refine W.widen (k := 0) (n := 0) (Nat.le_of_ble_eq_true rfl) (Nat.le_of_ble_eq_true rfl) ?_
    exact W.vret hx hb hr (fun t ht hW => ⟨⟨(), rfl, trivial, by rw [ht]; exact hP9, hD9⟩, hS.F ht⟩) hS.2.2 dJ0_checkIndex_df160_9
  · skip
    refine va_gets hx hb hz9 hS hown (hts (.fieldLink RJ0 1053 "jdk/internal/util/Preconditions" "SIOOBE_FORMATTER" "Ljava/util/function/BiFunction;") (by decide +kernel)) (fun _ h9 => h9) dJ0_checkIndex_df160_2 ?_
    have hPc := hP.sub (ws' := []) [] rfl
    have hDc := hD.sub (ws' := []) [] (by decide) rfl
    have hFc := va_free (wc := []) hD hS hA [] rfl
    refine va_calli (va_runS (As := [.int (nI i), .int (nI n), .ref t9]) (rest := []) ⟨hx, hb, hml, hown, hts⟩ (c_pchk_ref l D cA sa i n t9 s.heap.size hi hn) (va_cwS 3 hts gJ0_checkIndex_df160_J3_checkIndex_8e157 rfl rfl rfl (by decide +kernel) ⟨(Nat.le_of_ble_eq_true rfl), (Nat.le_of_ble_eq_true rfl)⟩) ⟨Wd.blind, fun U hU hW => ⟨rfl, Wd.call hPc hDc hK hC hZ hS hFc U hU hW⟩⟩ rfl rfl hl.1 rfl (lv_room (Nat.le_of_ble_eq_true rfl)) dJ0_checkIndex_df160_5 ⟨(Nat.le_of_ble_eq_true rfl), (Nat.le_of_ble_eq_true rfl)⟩) hS (fun q _ h => hFc q h) hFc (fun rn2 u t H1 locs ht hvm hw hB hz1 hk1 hS => ?_)
    obtain ⟨hP1, hD1⟩ := hB
    rw [ht] at hP1
    obtain ⟨hP, hD⟩ := va_join (wr := []) (w1 := []) hP hD [] [] rfl rfl (by decide) (by decide) hk1 hFc hP1 hD1
    generalize H1 = H at hP hS ⊢
    have hP : va_P D vwCl [] H := hP
    have hD : va_D A [] := hD
    obtain rfl : rn2 = (nI i) := hw
    refine lv_pop hx hb dJ0_checkIndex_df160_8 rfl ?_
    have hP9 := hP.sub (ws' := []) [] rfl
    have hD9 := hD.sub (ws' := []) [] (by decide) rfl
    refine W.widen (k := 0) (n := 0) (Nat.le_of_ble_eq_true rfl) (Nat.le_of_ble_eq_true rfl) ?_
    exact W.vret hx hb hr (fun t ht hW => ⟨⟨(), rfl, trivial, by rw [ht]; exact hP9, hD9⟩, hS.F ht⟩) hS.2.2 dJ0_checkIndex_df160_9

set_option maxHeartbeats 4000000 in
set_option maxRecDepth 100000 in
/-- StringLatin1.charAt -/
theorem c_lcharAt (l : Launch) (D : va_G) (cA : Nat → ClassId) (sa : Nat → Nat) (k i : Nat) (bs : List Int32) (sz : Nat) (hq : (k, bs) ∈ sbL) (hi : i < bs.length) : Met l yJ1_charAt_3b067 wsJ1_charAt_3b067 ({ frames := 2, cells := 0, slots := 0, locals := 43 }) (va_Pc [.ref (sa (1000 + k)), .int (nI i)] (Wd D cA sa [] sz)) (va_Qi (fun (r : Int32) (_ : Unit) => r = bs.getD i 0) (fun (_ : Unit) t => Wq D (va_A [] sz) [] t) (va_A [] sz)) 0 0 (va_A [] sz) := by
  refine Met.ofW (cc := cJ1_charAt_3b067) (maxL := 2) (ret := (some .char)) (by decide) rfl ?_
  intro p e s m args below meth c s₁ B hml hv
  obtain ⟨rfl, hsz, hP, hK, hD0, hC, hZ⟩ := hv
  have hx := B.exec
  have hb := B.bytes
  have hr := B.returns
  have hts := atoms_spec (ws := wsJ1_charAt_3b067) B.pre
  have hown : s.vm.findClass RJ1 = some m.cls := findClass_of_methodNamed B.named
  have hlocks := B.notSynchronized
  subst hsz
  have hD := hD0.self (sz := s.heap.size)
  generalize hAe : va_A [] s.heap.size = A at hD hZ ⊢
  have hA : ∀ q : Nat, s.heap.size ≤ q → A q := fun q h => by rw [← hAe]; exact Or.inr h
  have hS : va_S A s.heap s.heap [] := va_S.rf
  have hP : va_P D vwCl [] s.heap := hP
  have hl := lv_entry ([.ref (sa (1000 + k)), .int (nI i)]) (n := 2) (Nat.le_of_ble_eq_true rfl)
  rw [lg_entry_eq]
  generalize (lg_sl ([.ref (sa (1000 + k)), .int (nI i)]) ++ List.replicate (2 - (lg_sl ([.ref (sa (1000 + k)), .int (nI i)])).length) Slot.unset).toArray = ls at hl ⊢
  have hl : lv_has ls 2 [(0, .ref (sa (1000 + k))), (1, .int (nI i))] := hl
  have hso := hZ.2.2.2.2 (k, bs) hq
  have hsC : va_OF "java/lang/String" "coder" "B" (.int 0) (sa k) A s s.heap := hso.2.1
  have hsV : va_OF "java/lang/String" "value" "[B" (.ref (sa (1000 + k))) (sa k) A s s.heap := hso.2.2.1
  have hsT : va_T .byte (sa (1000 + k)) bs.length (fun j => .int (bs.getD j 0)) A s s.heap := hso.2.2.2
  refine lv_iload_n hx hb dJ1_charAt_3b067_0 rfl (lv_at hl 1 rfl) ?_
  refine lv_aload_n hx hb dJ1_charAt_3b067_1 rfl (lv_at hl 0 rfl) ?_
  refine va_tlen (v := nI bs.length) hx hb hsT hS rfl dJ1_charAt_3b067_2 ?_
  have hPc := hP.sub (ws' := []) [] rfl
  have hDc := hD.sub (ws' := []) [] (by decide) rfl
  have hFc := va_free (wc := []) hD hS hA [] rfl
  refine va_callv (va_runS (As := [.int (nI i), .int (nI bs.length)]) (rest := []) ⟨hx, hb, hml, hown, hts⟩ (c_schk l D cA sa i bs.length s.heap.size hi (sb_lt hq)) (va_cwS 2 hts gJ1_charAt_3b067_J0_checkIndex_df160 rfl rfl rfl (by decide +kernel) ⟨(Nat.le_of_ble_eq_true rfl), (Nat.le_of_ble_eq_true rfl)⟩) ⟨Wd.blind, fun U hU hW => ⟨rfl, Wd.call hPc hDc hK hC hZ hS hFc U hU hW⟩⟩ rfl rfl hl.1 rfl (lv_room (Nat.le_of_ble_eq_true rfl)) dJ1_charAt_3b067_3 ⟨(Nat.le_of_ble_eq_true rfl), (Nat.le_of_ble_eq_true rfl)⟩) hS (fun q _ h => hFc q h) hFc (fun u t H1 locs ht hvm hw hB hz1 hk1 hS => ?_)
  obtain ⟨hP1, hD1⟩ := hB
  rw [ht] at hP1
  obtain ⟨hP, hD⟩ := va_join (wr := []) (w1 := []) hP hD [] [] rfl rfl (by decide) (by decide) hk1 hFc hP1 hD1
  generalize H1 = H at hP hS ⊢
  have hP : va_P D vwCl [] H := hP
  have hD : va_D A [] := hD
  refine lv_aload_n hx hb dJ1_charAt_3b067_6 rfl (lv_at hl 0 rfl) ?_
  refine lv_iload_n hx hb dJ1_charAt_3b067_7 rfl (lv_at hl 1 rfl) ?_
  refine va_tb (v := .int (bs.getD i 0)) hx hb hsT hS (vp_in_nI hi (sb_lt hq)) (by rw [nI_clamp (Nat.lt_trans hi (sb_lt hq))]) dJ1_charAt_3b067_8 ?_
  refine lv_sipush (v := 255) hx hb dJ1_charAt_3b067_9 (by decide) ?_
  refine lv_iand hx hb dJ1_charAt_3b067_12 ?_
  refine lv_i2c hx hb dJ1_charAt_3b067_13 rfl ?_
  refine lv_topi (fun yn2 eyn2 => ?_)
  obtain rfl : yn2 = bs.getD i 0 := eyn2.trans (sb_c2 hq hi)
  have hP9 := hP.sub (ws' := []) [] rfl
  have hD9 := hD.sub (ws' := []) [] (by decide) rfl
  refine W.widen (k := 0) (n := 0) (Nat.le_of_ble_eq_true rfl) (Nat.le_of_ble_eq_true rfl) ?_
  exact W.zret (v := (bs.getD i 0)) hx hb hr (sb_nar hq hi) (fun t ht hW => ⟨⟨(bs.getD i 0), (), rfl, rfl, by rw [ht]; exact hP9, hD9⟩, hS.F ht⟩) hS.2.2 dJ1_charAt_3b067_14

set_option maxHeartbeats 4000000 in
set_option maxRecDepth 100000 in
/-- isLatin1: yes -/
theorem c_isLatin1 (l : Launch) (D : va_G) (cA : Nat → ClassId) (sa : Nat → Nat) (k : Nat) (bs : List Int32) (sz : Nat) (hq : (k, bs) ∈ sbL) : Met l yJ0_isLatin1_aae02 wsJ0_isLatin1_aae02 ({ frames := 0, cells := 0, slots := 0, locals := 0 }) (va_Pc [.ref (sa k)] (Wd D cA sa [] sz)) (va_Qi (fun (r : Int32) (_ : Unit) => r = 1) (fun (_ : Unit) t => Wq D (va_A [] sz) [] t) (va_A [] sz)) 0 0 (va_A [] sz) := by
  refine Met.ofW (cc := cJ0_isLatin1_aae02) (maxL := 1) (ret := (some .boolean)) (by decide) rfl ?_
  intro p e s m args below meth c s₁ B hml hv
  obtain ⟨rfl, hsz, hP, hK, hD0, hC, hZ⟩ := hv
  have hx := B.exec
  have hb := B.bytes
  have hr := B.returns
  have hts := atoms_spec (ws := wsJ0_isLatin1_aae02) B.pre
  have hown : s.vm.findClass RJ0 = some m.cls := findClass_of_methodNamed B.named
  have hlocks := B.notSynchronized
  subst hsz
  have hD := hD0.self (sz := s.heap.size)
  generalize hAe : va_A [] s.heap.size = A at hD hZ ⊢
  have hA : ∀ q : Nat, s.heap.size ≤ q → A q := fun q h => by rw [← hAe]; exact Or.inr h
  have hS : va_S A s.heap s.heap [] := va_S.rf
  have hP : va_P D vwCl [] s.heap := hP
  have hl := lv_entry ([.ref (sa k)]) (n := 1) (Nat.le_of_ble_eq_true rfl)
  rw [lg_entry_eq]
  generalize (lg_sl ([.ref (sa k)]) ++ List.replicate (1 - (lg_sl ([.ref (sa k)])).length) Slot.unset).toArray = ls at hl ⊢
  have hl : lv_has ls 1 [(0, .ref (sa k))] := hl
  have hso := hZ.2.2.2.2 (k, bs) hq
  have hsC : va_OF "java/lang/String" "coder" "B" (.int 0) (sa k) A s s.heap := hso.2.1
  have hsV : va_OF "java/lang/String" "value" "[B" (.ref (sa (1000 + k))) (sa k) A s s.heap := hso.2.2.1
  have hsT : va_T .byte (sa (1000 + k)) bs.length (fun j => .int (bs.getD j 0)) A s s.heap := hso.2.2.2
  refine va_gets hx hb hZ.2.2.1 hS hown (hts (.fieldLink RJ0 38 "java/lang/String" "COMPACT_STRINGS" "Z") (by decide +kernel)) (fun _ h9 => h9) dJ0_isLatin1_aae02_0 ?_
  refine lv_if_eq (tgt := 17) hx hb dJ0_isLatin1_aae02_3 (by decide) (fun c9 => absurd c9 (by decide)) (fun c1 => ?_)
  refine lv_aload_n hx hb dJ0_isLatin1_aae02_6 rfl (lv_at hl 0 rfl) ?_
  refine vk_getf hx hb hsC hS hown (hts (.fieldLink RJ0 15 "java/lang/String" "coder" "B") (by decide +kernel)) (fun _ h9 => h9) dJ0_isLatin1_aae02_7 ?_
  refine lv_if_ne (tgt := 17) hx hb dJ0_isLatin1_aae02_10 (by decide) (fun c9 => absurd c9 (by decide)) (fun c2 => ?_)
  refine lv_iconst (v := 1) hx hb dJ0_isLatin1_aae02_13 (by decide) ?_
  refine lv_goto (tgt := 18) hx hb dJ0_isLatin1_aae02_14 (by decide) ?_
  have hP9 := hP.sub (ws' := []) [] rfl
  have hD9 := hD.sub (ws' := []) [] (by decide) rfl
  refine W.widen (k := 0) (n := 0) (Nat.le_of_ble_eq_true rfl) (Nat.le_of_ble_eq_true rfl) ?_
  exact W.zret (v := 1) hx hb hr (by first | rfl | decide) (fun t ht hW => ⟨⟨1, (), rfl, rfl, by rw [ht]; exact hP9, hD9⟩, hS.F ht⟩) hS.2.2 dJ0_isLatin1_aae02_18

set_option maxHeartbeats 4000000 in
set_option maxRecDepth 100000 in
/-- coder: 0 -/
theorem c_coder (l : Launch) (D : va_G) (cA : Nat → ClassId) (sa : Nat → Nat) (k : Nat) (bs : List Int32) (sz : Nat) (hq : (k, bs) ∈ sbL) : Met l yJ0_coder_7d493 wsJ0_coder_7d493 ({ frames := 0, cells := 0, slots := 0, locals := 0 }) (va_Pc [.ref (sa k)] (Wd D cA sa [] sz)) (va_Qi (fun (r : Int32) (_ : Unit) => r = 0) (fun (_ : Unit) t => Wq D (va_A [] sz) [] t) (va_A [] sz)) 0 0 (va_A [] sz) := by
  refine Met.ofW (cc := cJ0_coder_7d493) (maxL := 1) (ret := (some .byte)) (by decide) rfl ?_
  intro p e s m args below meth c s₁ B hml hv
  obtain ⟨rfl, hsz, hP, hK, hD0, hC, hZ⟩ := hv
  have hx := B.exec
  have hb := B.bytes
  have hr := B.returns
  have hts := atoms_spec (ws := wsJ0_coder_7d493) B.pre
  have hown : s.vm.findClass RJ0 = some m.cls := findClass_of_methodNamed B.named
  have hlocks := B.notSynchronized
  subst hsz
  have hD := hD0.self (sz := s.heap.size)
  generalize hAe : va_A [] s.heap.size = A at hD hZ ⊢
  have hA : ∀ q : Nat, s.heap.size ≤ q → A q := fun q h => by rw [← hAe]; exact Or.inr h
  have hS : va_S A s.heap s.heap [] := va_S.rf
  have hP : va_P D vwCl [] s.heap := hP
  have hl := lv_entry ([.ref (sa k)]) (n := 1) (Nat.le_of_ble_eq_true rfl)
  rw [lg_entry_eq]
  generalize (lg_sl ([.ref (sa k)]) ++ List.replicate (1 - (lg_sl ([.ref (sa k)])).length) Slot.unset).toArray = ls at hl ⊢
  have hl : lv_has ls 1 [(0, .ref (sa k))] := hl
  have hso := hZ.2.2.2.2 (k, bs) hq
  have hsC : va_OF "java/lang/String" "coder" "B" (.int 0) (sa k) A s s.heap := hso.2.1
  have hsV : va_OF "java/lang/String" "value" "[B" (.ref (sa (1000 + k))) (sa k) A s s.heap := hso.2.2.1
  have hsT : va_T .byte (sa (1000 + k)) bs.length (fun j => .int (bs.getD j 0)) A s s.heap := hso.2.2.2
  refine va_gets hx hb hZ.2.2.1 hS hown (hts (.fieldLink RJ0 38 "java/lang/String" "COMPACT_STRINGS" "Z") (by decide +kernel)) (fun _ h9 => h9) dJ0_coder_7d493_0 ?_
  refine lv_if_eq (tgt := 13) hx hb dJ0_coder_7d493_3 (by decide) (fun c9 => absurd c9 (by decide)) (fun c1 => ?_)
  refine lv_aload_n hx hb dJ0_coder_7d493_6 rfl (lv_at hl 0 rfl) ?_
  refine vk_getf hx hb hsC hS hown (hts (.fieldLink RJ0 15 "java/lang/String" "coder" "B") (by decide +kernel)) (fun _ h9 => h9) dJ0_coder_7d493_7 ?_
  refine lv_goto (tgt := 14) hx hb dJ0_coder_7d493_10 (by decide) ?_
  have hP9 := hP.sub (ws' := []) [] rfl
  have hD9 := hD.sub (ws' := []) [] (by decide) rfl
  refine W.widen (k := 0) (n := 0) (Nat.le_of_ble_eq_true rfl) (Nat.le_of_ble_eq_true rfl) ?_
  exact W.zret (v := 0) hx hb hr (by first | rfl | decide) (fun t ht hW => ⟨⟨0, (), rfl, rfl, by rw [ht]; exact hP9, hD9⟩, hS.F ht⟩) hS.2.2 dJ0_coder_7d493_14

set_option maxHeartbeats 4000000 in
set_option maxRecDepth 100000 in
/-- String.charAt -/
theorem c_charAt (l : Launch) (D : va_G) (cA : Nat → ClassId) (sa : Nat → Nat) (k i : Nat) (bs : List Int32) (sz : Nat) (hq : (k, bs) ∈ sbL) (hi : i < bs.length) : Met l yJ0_charAt_5068e wsJ0_charAt_5068e ({ frames := 3, cells := 0, slots := 0, locals := 64 }) (va_Pc [.ref (sa k), .int (nI i)] (Wd D cA sa [] sz)) (va_Qi (fun (r : Int32) (_ : Unit) => r = bs.getD i 0) (fun (_ : Unit) t => Wq D (va_A [] sz) [] t) (va_A [] sz)) 0 0 (va_A [] sz) := by
  refine Met.ofW (cc := cJ0_charAt_5068e) (maxL := 2) (ret := (some .char)) (by decide) rfl ?_
  intro p e s m args below meth c s₁ B hml hv
  obtain ⟨rfl, hsz, hP, hK, hD0, hC, hZ⟩ := hv
  have hx := B.exec
  have hb := B.bytes
  have hr := B.returns
  have hts := atoms_spec (ws := wsJ0_charAt_5068e) B.pre
  have hown : s.vm.findClass RJ0 = some m.cls := findClass_of_methodNamed B.named
  have hlocks := B.notSynchronized
  subst hsz
  have hD := hD0.self (sz := s.heap.size)
  generalize hAe : va_A [] s.heap.size = A at hD hZ ⊢
  have hA : ∀ q : Nat, s.heap.size ≤ q → A q := fun q h => by rw [← hAe]; exact Or.inr h
  have hS : va_S A s.heap s.heap [] := va_S.rf
  have hP : va_P D vwCl [] s.heap := hP
  have hl := lv_entry ([.ref (sa k), .int (nI i)]) (n := 2) (Nat.le_of_ble_eq_true rfl)
  rw [lg_entry_eq]
  generalize (lg_sl ([.ref (sa k), .int (nI i)]) ++ List.replicate (2 - (lg_sl ([.ref (sa k), .int (nI i)])).length) Slot.unset).toArray = ls at hl ⊢
  have hl : lv_has ls 2 [(0, .ref (sa k)), (1, .int (nI i))] := hl
  have hso := hZ.2.2.2.2 (k, bs) hq
  have hsC : va_OF "java/lang/String" "coder" "B" (.int 0) (sa k) A s s.heap := hso.2.1
  have hsV : va_OF "java/lang/String" "value" "[B" (.ref (sa (1000 + k))) (sa k) A s s.heap := hso.2.2.1
  have hsT : va_T .byte (sa (1000 + k)) bs.length (fun j => .int (bs.getD j 0)) A s s.heap := hso.2.2.2
  refine lv_aload_n hx hb dJ0_charAt_5068e_0 rfl (lv_at hl 0 rfl) ?_
  have hPc := hP.sub (ws' := []) [] rfl
  have hDc := hD.sub (ws' := []) [] (by decide) rfl
  have hFc := va_free (wc := []) hD hS hA [] rfl
  refine va_calli (va_runV (As := []) (rest := []) ⟨hx, hb, hml, hown, hts⟩ (c_isLatin1 l D cA sa k bs s.heap.size hq) (cwV 0 hts gJ0_charAt_5068e_J0_isLatin1_aae02 rfl rfl rfl (by decide +kernel) ⟨(Nat.le_of_ble_eq_true rfl), (Nat.le_of_ble_eq_true rfl)⟩) ⟨Wd.blind, SO.recv hso hS, fun U hU hW => ⟨rfl, Wd.call hPc hDc hK hC hZ hS hFc U hU hW⟩⟩ rfl rfl hl.1 rfl (lv_room (Nat.le_of_ble_eq_true rfl)) dJ0_charAt_5068e_1 ⟨(Nat.le_of_ble_eq_true rfl), (Nat.le_of_ble_eq_true rfl)⟩) hS (fun q _ h => hFc q h) hFc (fun rn1 u t H1 locs ht hvm hw hB hz1 hk1 hS => ?_)
  obtain ⟨hP1, hD1⟩ := hB
  rw [ht] at hP1
  obtain ⟨hP, hD⟩ := va_join (wr := []) (w1 := []) hP hD [] [] rfl rfl (by decide) (by decide) hk1 hFc hP1 hD1
  generalize H1 = H at hP hS ⊢
  have hP : va_P D vwCl [] H := hP
  have hD : va_D A [] := hD
  obtain rfl : rn1 = 1 := hw
  refine lv_if_eq (tgt := 16) hx hb dJ0_charAt_5068e_4 (by decide) (fun c9 => absurd c9 (by decide)) (fun c2 => ?_)
  refine lv_aload_n hx hb dJ0_charAt_5068e_7 rfl (lv_at hl 0 rfl) ?_
  refine vk_getf hx hb hsV hS hown (hts (.fieldLink RJ0 9 "java/lang/String" "value" "[B") (by decide +kernel)) (fun _ h9 => h9) dJ0_charAt_5068e_8 ?_
  refine lv_iload_n hx hb dJ0_charAt_5068e_11 rfl (lv_at hl 1 rfl) ?_
  have hPc := hP.sub (ws' := []) [] rfl
  have hDc := hD.sub (ws' := []) [] (by decide) rfl
  have hFc := va_free (wc := []) hD hS hA [] rfl
  refine va_calli (va_runS (As := [.ref (sa (1000 + k)), .int (nI i)]) (rest := []) ⟨hx, hb, hml, hown, hts⟩ (c_lcharAt l D cA sa k i bs H.size hq hi) (va_cwS 2 hts gJ0_charAt_5068e_J1_charAt_3b067 rfl rfl rfl (by decide +kernel) ⟨(Nat.le_of_ble_eq_true rfl), (Nat.le_of_ble_eq_true rfl)⟩) ⟨Wd.blind, fun U hU hW => ⟨rfl, Wd.call hPc hDc hK hC hZ hS hFc U hU hW⟩⟩ rfl rfl hl.1 rfl (lv_room (Nat.le_of_ble_eq_true rfl)) dJ0_charAt_5068e_12 ⟨(Nat.le_of_ble_eq_true rfl), (Nat.le_of_ble_eq_true rfl)⟩) hS (fun q _ h => hFc q h) hFc (fun rn3 u t H1 locs ht hvm hw hB hz1 hk1 hS => ?_)
  obtain ⟨hP1, hD1⟩ := hB
  rw [ht] at hP1
  obtain ⟨hP, hD⟩ := va_join (wr := []) (w1 := []) hP hD [] [] rfl rfl (by decide) (by decide) hk1 hFc hP1 hD1
  generalize H1 = H at hP hS ⊢
  have hP : va_P D vwCl [] H := hP
  have hD : va_D A [] := hD
  obtain rfl : rn3 = (bs.getD i 0) := hw
  have hP9 := hP.sub (ws' := []) [] rfl
  have hD9 := hD.sub (ws' := []) [] (by decide) rfl
  refine W.widen (k := 0) (n := 0) (Nat.le_of_ble_eq_true rfl) (Nat.le_of_ble_eq_true rfl) ?_
  exact W.zret (v := (bs.getD i 0)) hx hb hr (sb_nar hq hi) (fun t ht hW => ⟨⟨(bs.getD i 0), (), rfl, rfl, by rw [ht]; exact hP9, hD9⟩, hS.F ht⟩) hS.2.2 dJ0_charAt_5068e_15

set_option maxHeartbeats 4000000 in
set_option maxRecDepth 100000 in
/-- String.length -/
theorem c_slength (l : Launch) (D : va_G) (cA : Nat → ClassId) (sa : Nat → Nat) (k : Nat) (bs : List Int32) (sz : Nat) (hq : (k, bs) ∈ sbL) : Met l yJ0_length_8abf5 wsJ0_length_8abf5 ({ frames := 1, cells := 0, slots := 0, locals := 20 }) (va_Pc [.ref (sa k)] (Wd D cA sa [] sz)) (va_Qi (fun (r : Int32) (_ : Unit) => r = (nI bs.length)) (fun (_ : Unit) t => Wq D (va_A [] sz) [] t) (va_A [] sz)) 0 0 (va_A [] sz) := by
  refine Met.ofW (cc := cJ0_length_8abf5) (maxL := 1) (ret := (some .int)) (by decide) rfl ?_
  intro p e s m args below meth c s₁ B hml hv
  obtain ⟨rfl, hsz, hP, hK, hD0, hC, hZ⟩ := hv
  have hx := B.exec
  have hb := B.bytes
  have hr := B.returns
  have hts := atoms_spec (ws := wsJ0_length_8abf5) B.pre
  have hown : s.vm.findClass RJ0 = some m.cls := findClass_of_methodNamed B.named
  have hlocks := B.notSynchronized
  subst hsz
  have hD := hD0.self (sz := s.heap.size)
  generalize hAe : va_A [] s.heap.size = A at hD hZ ⊢
  have hA : ∀ q : Nat, s.heap.size ≤ q → A q := fun q h => by rw [← hAe]; exact Or.inr h
  have hS : va_S A s.heap s.heap [] := va_S.rf
  have hP : va_P D vwCl [] s.heap := hP
  have hl := lv_entry ([.ref (sa k)]) (n := 1) (Nat.le_of_ble_eq_true rfl)
  rw [lg_entry_eq]
  generalize (lg_sl ([.ref (sa k)]) ++ List.replicate (1 - (lg_sl ([.ref (sa k)])).length) Slot.unset).toArray = ls at hl ⊢
  have hl : lv_has ls 1 [(0, .ref (sa k))] := hl
  have hso := hZ.2.2.2.2 (k, bs) hq
  have hsC : va_OF "java/lang/String" "coder" "B" (.int 0) (sa k) A s s.heap := hso.2.1
  have hsV : va_OF "java/lang/String" "value" "[B" (.ref (sa (1000 + k))) (sa k) A s s.heap := hso.2.2.1
  have hsT : va_T .byte (sa (1000 + k)) bs.length (fun j => .int (bs.getD j 0)) A s s.heap := hso.2.2.2
  refine lv_aload_n hx hb dJ0_length_8abf5_0 rfl (lv_at hl 0 rfl) ?_
  refine vk_getf hx hb hsV hS hown (hts (.fieldLink RJ0 9 "java/lang/String" "value" "[B") (by decide +kernel)) (fun _ h9 => h9) dJ0_length_8abf5_1 ?_
  refine va_tlen (v := nI bs.length) hx hb hsT hS rfl dJ0_length_8abf5_4 ?_
  refine lv_aload_n hx hb dJ0_length_8abf5_5 rfl (lv_at hl 0 rfl) ?_
  have hPc := hP.sub (ws' := []) [] rfl
  have hDc := hD.sub (ws' := []) [] (by decide) rfl
  have hFc := va_free (wc := []) hD hS hA [] rfl
  refine va_calli (va_runV (As := []) (rest := [.int (nI bs.length)]) ⟨hx, hb, hml, hown, hts⟩ (c_coder l D cA sa k bs s.heap.size hq) (cwV 0 hts gJ0_length_8abf5_J0_coder_7d493 rfl rfl rfl (by decide +kernel) ⟨(Nat.le_of_ble_eq_true rfl), (Nat.le_of_ble_eq_true rfl)⟩) ⟨Wd.blind, SO.recv hso hS, fun U hU hW => ⟨rfl, Wd.call hPc hDc hK hC hZ hS hFc U hU hW⟩⟩ rfl rfl hl.1 rfl (lv_room (Nat.le_of_ble_eq_true rfl)) dJ0_length_8abf5_6 ⟨(Nat.le_of_ble_eq_true rfl), (Nat.le_of_ble_eq_true rfl)⟩) hS (fun q _ h => hFc q h) hFc (fun rn1 u t H1 locs ht hvm hw hB hz1 hk1 hS => ?_)
  obtain ⟨hP1, hD1⟩ := hB
  rw [ht] at hP1
  obtain ⟨hP, hD⟩ := va_join (wr := []) (w1 := []) hP hD [] [] rfl rfl (by decide) (by decide) hk1 hFc hP1 hD1
  generalize H1 = H at hP hS ⊢
  have hP : va_P D vwCl [] H := hP
  have hD : va_D A [] := hD
  obtain rfl : rn1 = 0 := hw
  refine lv_ishr hx hb dJ0_length_8abf5_9 ?_
  refine lv_topi (fun yn2 eyn2 => ?_)
  obtain rfl : yn2 = nI bs.length := eyn2.trans (sc_shr0 (sb_lt hq))
  have hP9 := hP.sub (ws' := []) [] rfl
  have hD9 := hD.sub (ws' := []) [] (by decide) rfl
  refine W.widen (k := 0) (n := 0) (Nat.le_of_ble_eq_true rfl) (Nat.le_of_ble_eq_true rfl) ?_
  exact W.iret (v := (nI bs.length)) hx hb hr (fun t ht hW => ⟨⟨(nI bs.length), (), rfl, rfl, by rw [ht]; exact hP9, hD9⟩, hS.F ht⟩) hS.2.2 dJ0_length_8abf5_10

set_option maxHeartbeats 4000000 in
set_option maxRecDepth 100000 in
/-- withLetter: some long -/
theorem c_withLetter (l : Launch) (D : va_G) (cA : Nat → ClassId) (sa : Nat → Nat) (w : Int64) (c0 : Int32) (sz : Nat) : Met l yX8_withLetter wsX8_withLetter ({ frames := 0, cells := 0, slots := 0, locals := 0 }) (va_Pc [.long w, .int c0] (Wd D cA sa [] sz)) (va_Ql (fun (r : Int64) (_ : Unit) => True) (fun (_ : Unit) t => Wq D (va_A [] sz) [] t) (va_A [] sz)) 0 0 (va_A [] sz) := by
  refine Met.ofW (cc := cX8_withLetter) (maxL := 3) (ret := (some .long)) (by decide) rfl ?_
  intro p e s m args below meth c s₁ B hml hv
  obtain ⟨rfl, hsz, hP, hK, hD0, hC, hZ⟩ := hv
  have hx := B.exec
  have hb := B.bytes
  have hr := B.returns
  have hts := atoms_spec (ws := wsX8_withLetter) B.pre
  have hown : s.vm.findClass RX8 = some m.cls := findClass_of_methodNamed B.named
  have hlocks := B.notSynchronized
  subst hsz
  have hD := hD0.self (sz := s.heap.size)
  generalize hAe : va_A [] s.heap.size = A at hD hZ ⊢
  have hA : ∀ q : Nat, s.heap.size ≤ q → A q := fun q h => by rw [← hAe]; exact Or.inr h
  have hS : va_S A s.heap s.heap [] := va_S.rf
  have hP : va_P D vwCl [] s.heap := hP
  have hl := lv_entry ([.long w, .int c0]) (n := 3) (Nat.le_of_ble_eq_true rfl)
  rw [lg_entry_eq]
  generalize (lg_sl ([.long w, .int c0]) ++ List.replicate (3 - (lg_sl ([.long w, .int c0])).length) Slot.unset).toArray = ls at hl ⊢
  have hl : lv_has ls 3 [(0, .long w), (2, .int c0)] := hl
  refine lv_lload_n hx hb dX8_withLetter_0 rfl (lv_at hl 0 rfl) ?_
  refine lv_iconst (v := 5) hx hb dX8_withLetter_1 (by decide) ?_
  refine lv_lshl hx hb dX8_withLetter_2 rfl ?_
  refine lv_topl (fun yn1 _ => ?_)
  refine lv_iload_n hx hb dX8_withLetter_3 rfl (lv_at hl 1 rfl) ?_
  refine lv_bipush (v := 97) hx hb dX8_withLetter_4 (by decide) ?_
  refine lv_isub hx hb dX8_withLetter_6 ?_
  refine lv_iconst (v := 1) hx hb dX8_withLetter_7 (by decide) ?_
  refine lv_iadd hx hb dX8_withLetter_8 ?_
  refine lv_i2l (v := (((c0 - 97) + 1).toInt64)) hx hb dX8_withLetter_9 rfl ?_
  refine lv_lor hx hb dX8_withLetter_10 ?_
  refine lv_topl (fun yn4 _ => ?_)
  have hP9 := hP.sub (ws' := []) [] rfl
  have hD9 := hD.sub (ws' := []) [] (by decide) rfl
  refine W.widen (k := 0) (n := 0) (Nat.le_of_ble_eq_true rfl) (Nat.le_of_ble_eq_true rfl) ?_
  exact W.lret (v := yn4) hx hb hr (fun t ht hW => ⟨⟨yn4, (), rfl, trivial, by rw [ht]; exact hP9, hD9⟩, hS.F ht⟩) hS.2.2 dX8_withLetter_11

set_option maxHeartbeats 4000000 in
set_option maxRecDepth 100000 in
/-- packed: some long -/
theorem c_packed (l : Launch) (D : va_G) (cA : Nat → ClassId) (sa : Nat → Nat) (k : Nat) (bs : List Int32) (sz : Nat) (hq : (k, bs) ∈ sbL) : Met l yX8_packed wsX8_packed ({ frames := 4, cells := 0, slots := 0, locals := 85 }) (va_Pc [.ref (sa k)] (Wd D cA sa [] sz)) (va_Ql (fun (r : Int64) (_ : Unit) => True) (fun (_ : Unit) t => Wq D (va_A [] sz) [] t) (va_A [] sz)) 0 0 (va_A [] sz) := by
  refine Met.ofW (cc := cX8_packed) (maxL := 4) (ret := (some .long)) (by decide) rfl ?_
  intro p e s m args below meth c s₁ B hml hv
  obtain ⟨rfl, hsz, hP, hK, hD0, hC, hZ⟩ := hv
  have hx := B.exec
  have hb := B.bytes
  have hr := B.returns
  have hts := atoms_spec (ws := wsX8_packed) B.pre
  have hown : s.vm.findClass RX8 = some m.cls := findClass_of_methodNamed B.named
  have hlocks := B.notSynchronized
  subst hsz
  have hD := hD0.self (sz := s.heap.size)
  generalize hAe : va_A [] s.heap.size = A at hD hZ ⊢
  have hA : ∀ q : Nat, s.heap.size ≤ q → A q := fun q h => by rw [← hAe]; exact Or.inr h
  have hS : va_S A s.heap s.heap [] := va_S.rf
  have hP : va_P D vwCl [] s.heap := hP
  have hl := lv_entry ([.ref (sa k)]) (n := 4) (Nat.le_of_ble_eq_true rfl)
  rw [lg_entry_eq]
  generalize (lg_sl ([.ref (sa k)]) ++ List.replicate (4 - (lg_sl ([.ref (sa k)])).length) Slot.unset).toArray = ls at hl ⊢
  have hl : lv_has ls 4 [(0, .ref (sa k))] := hl
  have hso := hZ.2.2.2.2 (k, bs) hq
  have hsC : va_OF "java/lang/String" "coder" "B" (.int 0) (sa k) A s s.heap := hso.2.1
  have hsV : va_OF "java/lang/String" "value" "[B" (.ref (sa (1000 + k))) (sa k) A s s.heap := hso.2.2.1
  have hsT : va_T .byte (sa (1000 + k)) bs.length (fun j => .int (bs.getD j 0)) A s s.heap := hso.2.2.2
  refine lv_lconst (v := 0) hx hb dX8_packed_0 (by decide) ?_
  refine lv_lstore_n (lv' := [(1, .long 0), (0, .ref (sa k))]) hx hb dX8_packed_1 rfl hl (by decide) rfl (fun ls hl => ?_)
  refine lv_iconst (v := 0) hx hb dX8_packed_2 (by decide) ?_
  refine lv_istore_n (lv' := [(3, .int 0), (1, .long 0), (0, .ref (sa k))]) hx hb dX8_packed_3 rfl hl (by decide) rfl (fun ls hl => ?_)
  have loop : ∀ (n i : Nat) (w : Int64) (H : Heap) (locs : List Loc) (ls : Array Slot), i + n = bs.length → va_P D vwCl [] H → va_D A [] → va_S A s.heap H locs → lv_has ls 4 [(3, .int (nI i)), (1, .long w), (0, .ref (sa k))] → W p l e (headSpec wsX8_packed ({ frames := 4, cells := 0, slots := 0, locals := 85 } : Room)).room s m ([.ref (sa k)] : List Value).toArray below meth c H locs 0 0 (MQ below (va_Ql (fun (r : Int64) (_ : Unit) => True) (fun (_ : Unit) t => Wq D A [] t) A) ([.ref (sa k)] : List Value).toArray s 0 0 A) (F0 m 4 ls []) := by
    intro n
    induction n with
    | zero =>
      intro i w H locs ls hi hP hD hS hl
      obtain rfl : bs.length = i := by omega
      refine lv_iload_n hx hb dX8_packed_4 rfl (lv_at hl 0 rfl) ?_
      refine lv_aload_n hx hb dX8_packed_5 rfl (lv_at hl 2 rfl) ?_
      have hPc := hP.sub (ws' := []) [] rfl
      have hDc := hD.sub (ws' := []) [] (by decide) rfl
      have hFc := va_free (wc := []) hD hS hA [] rfl
      refine va_calli (va_runV (As := []) (rest := [.int (nI bs.length)]) ⟨hx, hb, hml, hown, hts⟩ (c_slength l D cA sa k bs H.size hq) (cwV 0 hts gX8_packed_J0_length_8abf5 rfl rfl rfl (by decide +kernel) ⟨(Nat.le_of_ble_eq_true rfl), (Nat.le_of_ble_eq_true rfl)⟩) ⟨Wd.blind, SO.recv hso hS, fun U hU hW => ⟨rfl, Wd.call hPc hDc hK hC hZ hS hFc U hU hW⟩⟩ rfl rfl hl.1 rfl (lv_room (Nat.le_of_ble_eq_true rfl)) dX8_packed_6 ⟨(Nat.le_of_ble_eq_true rfl), (Nat.le_of_ble_eq_true rfl)⟩) hS (fun q _ h => hFc q h) hFc (fun rn1 u t H1 locs ht hvm hw hB hz1 hk1 hS => ?_)
      obtain ⟨hP1, hD1⟩ := hB
      rw [ht] at hP1
      obtain ⟨hP, hD⟩ := va_join (wr := []) (w1 := []) hP hD [] [] rfl rfl (by decide) (by decide) hk1 hFc hP1 hD1
      generalize H1 = H at hP hS ⊢
      have hP : va_P D vwCl [] H := hP
      have hD : va_D A [] := hD
      obtain rfl : rn1 = (nI bs.length) := hw
      refine lv_icmp_ge (tgt := 28) hx hb dX8_packed_9 (by decide) (fun c2 => ?_) (fun c9 => absurd c9 (fun h3 => h3 (nI_le (Nat.le_refl bs.length) (sb_lt hq))))
      refine lv_lload_n hx hb dX8_packed_28 rfl (lv_at hl 1 rfl) ?_
      have hP9 := hP.sub (ws' := []) [] rfl
      have hD9 := hD.sub (ws' := []) [] (by decide) rfl
      refine W.widen (k := 0) (n := 0) (Nat.le_of_ble_eq_true rfl) (Nat.le_of_ble_eq_true rfl) ?_
      exact W.lret (v := w) hx hb hr (fun t ht hW => ⟨⟨w, (), rfl, trivial, by rw [ht]; exact hP9, hD9⟩, hS.F ht⟩) hS.2.2 dX8_packed_29
    | succ n ih =>
      intro i w H locs ls hi hP hD hS hl
      refine lv_iload_n hx hb dX8_packed_4 rfl (lv_at hl 0 rfl) ?_
      refine lv_aload_n hx hb dX8_packed_5 rfl (lv_at hl 2 rfl) ?_
      have hPc := hP.sub (ws' := []) [] rfl
      have hDc := hD.sub (ws' := []) [] (by decide) rfl
      have hFc := va_free (wc := []) hD hS hA [] rfl
      refine va_calli (va_runV (As := []) (rest := [.int (nI i)]) ⟨hx, hb, hml, hown, hts⟩ (c_slength l D cA sa k bs H.size hq) (cwV 0 hts gX8_packed_J0_length_8abf5 rfl rfl rfl (by decide +kernel) ⟨(Nat.le_of_ble_eq_true rfl), (Nat.le_of_ble_eq_true rfl)⟩) ⟨Wd.blind, SO.recv hso hS, fun U hU hW => ⟨rfl, Wd.call hPc hDc hK hC hZ hS hFc U hU hW⟩⟩ rfl rfl hl.1 rfl (lv_room (Nat.le_of_ble_eq_true rfl)) dX8_packed_6 ⟨(Nat.le_of_ble_eq_true rfl), (Nat.le_of_ble_eq_true rfl)⟩) hS (fun q _ h => hFc q h) hFc (fun rn3 u t H1 locs ht hvm hw hB hz1 hk1 hS => ?_)
      obtain ⟨hP1, hD1⟩ := hB
      rw [ht] at hP1
      obtain ⟨hP, hD⟩ := va_join (wr := []) (w1 := []) hP hD [] [] rfl rfl (by decide) (by decide) hk1 hFc hP1 hD1
      generalize H1 = H at hP hS ⊢
      have hP : va_P D vwCl [] H := hP
      have hD : va_D A [] := hD
      obtain rfl : rn3 = (nI bs.length) := hw
      refine lv_icmp_ge (tgt := 28) hx hb dX8_packed_9 (by decide) (fun c9 => absurd c9 (nI_ge (show i < bs.length by omega) (sb_lt hq))) (fun c4 => ?_)
      refine lv_lload_n hx hb dX8_packed_12 rfl (lv_at hl 1 rfl) ?_
      refine lv_aload_n hx hb dX8_packed_13 rfl (lv_at hl 2 rfl) ?_
      refine lv_iload_n hx hb dX8_packed_14 rfl (lv_at hl 0 rfl) ?_
      have hPc := hP.sub (ws' := []) [] rfl
      have hDc := hD.sub (ws' := []) [] (by decide) rfl
      have hFc := va_free (wc := []) hD hS hA [] rfl
      refine va_calli (va_runV (As := [.int (nI i)]) (rest := [.long w]) ⟨hx, hb, hml, hown, hts⟩ (c_charAt l D cA sa k i bs H.size hq (show i < bs.length by omega)) (cwV 1 hts gX8_packed_J0_charAt_5068e rfl rfl rfl (by decide +kernel) ⟨(Nat.le_of_ble_eq_true rfl), (Nat.le_of_ble_eq_true rfl)⟩) ⟨Wd.blind, SO.recv hso hS, fun U hU hW => ⟨rfl, Wd.call hPc hDc hK hC hZ hS hFc U hU hW⟩⟩ rfl rfl hl.1 rfl (lv_room (Nat.le_of_ble_eq_true rfl)) dX8_packed_15 ⟨(Nat.le_of_ble_eq_true rfl), (Nat.le_of_ble_eq_true rfl)⟩) hS (fun q _ h => hFc q h) hFc (fun rn5 u t H1 locs ht hvm hw hB hz1 hk1 hS => ?_)
      obtain ⟨hP1, hD1⟩ := hB
      rw [ht] at hP1
      obtain ⟨hP, hD⟩ := va_join (wr := []) (w1 := []) hP hD [] [] rfl rfl (by decide) (by decide) hk1 hFc hP1 hD1
      generalize H1 = H at hP hS ⊢
      have hP : va_P D vwCl [] H := hP
      have hD : va_D A [] := hD
      obtain rfl : rn5 = (bs.getD i 0) := hw
      have hPc := hP.sub (ws' := []) [] rfl
      have hDc := hD.sub (ws' := []) [] (by decide) rfl
      have hFc := va_free (wc := []) hD hS hA [] rfl
      refine va_calll (va_runS (As := [.long w, .int (bs.getD i 0)]) (rest := []) ⟨hx, hb, hml, hown, hts⟩ (c_withLetter l D cA sa w (bs.getD i 0) H.size) (va_cwS 2 hts gX8_packed_X8_withLetter rfl rfl rfl (by decide +kernel) ⟨(Nat.le_of_ble_eq_true rfl), (Nat.le_of_ble_eq_true rfl)⟩) ⟨Wd.blind, fun U hU hW => ⟨rfl, Wd.call hPc hDc hK hC hZ hS hFc U hU hW⟩⟩ rfl rfl hl.1 rfl (lv_room (Nat.le_of_ble_eq_true rfl)) dX8_packed_18 ⟨(Nat.le_of_ble_eq_true rfl), (Nat.le_of_ble_eq_true rfl)⟩) hS (fun q _ h => hFc q h) hFc (fun rn6 u t H1 locs ht hvm hw hB hz1 hk1 hS => ?_)
      obtain ⟨hP1, hD1⟩ := hB
      rw [ht] at hP1
      obtain ⟨hP, hD⟩ := va_join (wr := []) (w1 := []) hP hD [] [] rfl rfl (by decide) (by decide) hk1 hFc hP1 hD1
      generalize H1 = H at hP hS ⊢
      have hP : va_P D vwCl [] H := hP
      have hD : va_D A [] := hD
      refine lv_lstore_n (lv' := [(1, .long rn6), (3, .int (nI i)), (0, .ref (sa k))]) hx hb dX8_packed_21 rfl hl (by decide) rfl (fun ls hl => ?_)
      refine lv_iinc (v := (nI (i + 1))) (lv' := [(3, .int (nI (i + 1))), (1, .long rn6), (0, .ref (sa k))]) hx hb dX8_packed_22 hl (k := 1) rfl (nI_1 _) (by decide) rfl (fun ls hl => ?_)
      refine lv_goto (tgt := 4) hx hb dX8_packed_25 (by decide) ?_
      exact ih (i + 1) rn6 H _ ls (by omega) (hP.sub [] rfl) (hD.sub [] (by decide) rfl) hS (lv_sub hl [0, 1, 2] rfl)
  exact loop bs.length 0 0 _ _ ls (by omega) (hP.sub [] rfl) (hD.sub [] (by decide) rfl) hS (lv_sub hl [0, 1, 2] rfl)

set_option maxHeartbeats 4000000 in
set_option maxRecDepth 100000 in
/-- spelling(8) -/
theorem c_spell_8 (l : Launch) (D : va_G) (cA : Nat → ClassId) (sa : Nat → Nat)  (sz : Nat) : Met l yX7_spelling wsX7_spelling ({ frames := 0, cells := 0, slots := 0, locals := 0 }) (va_Pc [.int 8] (Wd D cA sa [] sz)) (va_Qr (fun _ : Unit => True) (fun (_ : Unit) (a9 : Nat) t => a9 = (sa 1) ∧ Wq D (va_A [] sz) [] t) (va_A [] sz)) 0 0 (va_A [] sz) := by
  refine Met.ofW (cc := cX7_spelling) (maxL := 1) (ret := (some (.object "java/lang/String"))) (by decide) rfl ?_
  intro p e s m args below meth c s₁ B hml hv
  obtain ⟨rfl, hsz, hP, hK, hD0, hC, hZ⟩ := hv
  have hx := B.exec
  have hb := B.bytes
  have hr := B.returns
  have hts := atoms_spec (ws := wsX7_spelling) B.pre
  have hown : s.vm.findClass RX7 = some m.cls := findClass_of_methodNamed B.named
  have hlocks := B.notSynchronized
  subst hsz
  have hD := hD0.self (sz := s.heap.size)
  generalize hAe : va_A [] s.heap.size = A at hD hZ ⊢
  have hA : ∀ q : Nat, s.heap.size ≤ q → A q := fun q h => by rw [← hAe]; exact Or.inr h
  have hS : va_S A s.heap s.heap [] := va_S.rf
  have hP : va_P D vwCl [] s.heap := hP
  have hl := lv_entry ([.int 8]) (n := 1) (Nat.le_of_ble_eq_true rfl)
  rw [lg_entry_eq]
  generalize (lg_sl ([.int 8]) ++ List.replicate (1 - (lg_sl ([.int 8])).length) Slot.unset).toArray = ls at hl ⊢
  have hl : lv_has ls 1 [(0, .int 8)] := hl
  refine lv_iload_n hx hb dX7_spelling_0 rfl (lv_at hl 0 rfl) ?_
  refine lv_tableIn (off := 75) (tgt := 76) hx hb dX7_spelling_1 (by decide) (by decide) (by decide) (by decide) ?_
  refine va_ldcS hx hb hown (hC.str 1 rfl) dX7_spelling_76 ?_
  have hP9 := hP.sub (ws' := []) [] rfl
  have hD9 := hD.sub (ws' := []) [] (by decide) rfl
  refine W.widen (k := 0) (n := 0) (Nat.le_of_ble_eq_true rfl) (Nat.le_of_ble_eq_true rfl) ?_
  exact W.aret (v := .ref (sa 1)) hx hb hr (Or.inl ⟨_, rfl⟩) (Or.inr ⟨_, rfl⟩) (fun t ht hW => ⟨⟨(), (sa 1), rfl, trivial, rfl, by rw [ht]; exact hP9, hD9⟩, hS.F ht⟩) hS.2.2 dX7_spelling_78

set_option maxHeartbeats 4000000 in
set_option maxRecDepth 100000 in
/-- spelling(9) -/
theorem c_spell_9 (l : Launch) (D : va_G) (cA : Nat → ClassId) (sa : Nat → Nat)  (sz : Nat) : Met l yX7_spelling wsX7_spelling ({ frames := 0, cells := 0, slots := 0, locals := 0 }) (va_Pc [.int 9] (Wd D cA sa [] sz)) (va_Qr (fun _ : Unit => True) (fun (_ : Unit) (a9 : Nat) t => a9 = (sa 2) ∧ Wq D (va_A [] sz) [] t) (va_A [] sz)) 0 0 (va_A [] sz) := by
  refine Met.ofW (cc := cX7_spelling) (maxL := 1) (ret := (some (.object "java/lang/String"))) (by decide) rfl ?_
  intro p e s m args below meth c s₁ B hml hv
  obtain ⟨rfl, hsz, hP, hK, hD0, hC, hZ⟩ := hv
  have hx := B.exec
  have hb := B.bytes
  have hr := B.returns
  have hts := atoms_spec (ws := wsX7_spelling) B.pre
  have hown : s.vm.findClass RX7 = some m.cls := findClass_of_methodNamed B.named
  have hlocks := B.notSynchronized
  subst hsz
  have hD := hD0.self (sz := s.heap.size)
  generalize hAe : va_A [] s.heap.size = A at hD hZ ⊢
  have hA : ∀ q : Nat, s.heap.size ≤ q → A q := fun q h => by rw [← hAe]; exact Or.inr h
  have hS : va_S A s.heap s.heap [] := va_S.rf
  have hP : va_P D vwCl [] s.heap := hP
  have hl := lv_entry ([.int 9]) (n := 1) (Nat.le_of_ble_eq_true rfl)
  rw [lg_entry_eq]
  generalize (lg_sl ([.int 9]) ++ List.replicate (1 - (lg_sl ([.int 9])).length) Slot.unset).toArray = ls at hl ⊢
  have hl : lv_has ls 1 [(0, .int 9)] := hl
  refine lv_iload_n hx hb dX7_spelling_0 rfl (lv_at hl 0 rfl) ?_
  refine lv_tableIn (off := 78) (tgt := 79) hx hb dX7_spelling_1 (by decide) (by decide) (by decide) (by decide) ?_
  refine va_ldcS hx hb hown (hC.str 2 rfl) dX7_spelling_79 ?_
  have hP9 := hP.sub (ws' := []) [] rfl
  have hD9 := hD.sub (ws' := []) [] (by decide) rfl
  refine W.widen (k := 0) (n := 0) (Nat.le_of_ble_eq_true rfl) (Nat.le_of_ble_eq_true rfl) ?_
  exact W.aret (v := .ref (sa 2)) hx hb hr (Or.inl ⟨_, rfl⟩) (Or.inr ⟨_, rfl⟩) (fun t ht hW => ⟨⟨(), (sa 2), rfl, trivial, rfl, by rw [ht]; exact hP9, hD9⟩, hS.F ht⟩) hS.2.2 dX7_spelling_81

set_option maxHeartbeats 4000000 in
set_option maxRecDepth 100000 in
/-- spelling(10) -/
theorem c_spell_10 (l : Launch) (D : va_G) (cA : Nat → ClassId) (sa : Nat → Nat)  (sz : Nat) : Met l yX7_spelling wsX7_spelling ({ frames := 0, cells := 0, slots := 0, locals := 0 }) (va_Pc [.int 10] (Wd D cA sa [] sz)) (va_Qr (fun _ : Unit => True) (fun (_ : Unit) (a9 : Nat) t => a9 = (sa 3) ∧ Wq D (va_A [] sz) [] t) (va_A [] sz)) 0 0 (va_A [] sz) := by
  refine Met.ofW (cc := cX7_spelling) (maxL := 1) (ret := (some (.object "java/lang/String"))) (by decide) rfl ?_
  intro p e s m args below meth c s₁ B hml hv
  obtain ⟨rfl, hsz, hP, hK, hD0, hC, hZ⟩ := hv
  have hx := B.exec
  have hb := B.bytes
  have hr := B.returns
  have hts := atoms_spec (ws := wsX7_spelling) B.pre
  have hown : s.vm.findClass RX7 = some m.cls := findClass_of_methodNamed B.named
  have hlocks := B.notSynchronized
  subst hsz
  have hD := hD0.self (sz := s.heap.size)
  generalize hAe : va_A [] s.heap.size = A at hD hZ ⊢
  have hA : ∀ q : Nat, s.heap.size ≤ q → A q := fun q h => by rw [← hAe]; exact Or.inr h
  have hS : va_S A s.heap s.heap [] := va_S.rf
  have hP : va_P D vwCl [] s.heap := hP
  have hl := lv_entry ([.int 10]) (n := 1) (Nat.le_of_ble_eq_true rfl)
  rw [lg_entry_eq]
  generalize (lg_sl ([.int 10]) ++ List.replicate (1 - (lg_sl ([.int 10])).length) Slot.unset).toArray = ls at hl ⊢
  have hl : lv_has ls 1 [(0, .int 10)] := hl
  refine lv_iload_n hx hb dX7_spelling_0 rfl (lv_at hl 0 rfl) ?_
  refine lv_tableIn (off := 81) (tgt := 82) hx hb dX7_spelling_1 (by decide) (by decide) (by decide) (by decide) ?_
  refine va_ldcS hx hb hown (hC.str 3 rfl) dX7_spelling_82 ?_
  have hP9 := hP.sub (ws' := []) [] rfl
  have hD9 := hD.sub (ws' := []) [] (by decide) rfl
  refine W.widen (k := 0) (n := 0) (Nat.le_of_ble_eq_true rfl) (Nat.le_of_ble_eq_true rfl) ?_
  exact W.aret (v := .ref (sa 3)) hx hb hr (Or.inl ⟨_, rfl⟩) (Or.inr ⟨_, rfl⟩) (fun t ht hW => ⟨⟨(), (sa 3), rfl, trivial, rfl, by rw [ht]; exact hP9, hD9⟩, hS.F ht⟩) hS.2.2 dX7_spelling_84

set_option maxHeartbeats 4000000 in
set_option maxRecDepth 100000 in
/-- spelling(11) -/
theorem c_spell_11 (l : Launch) (D : va_G) (cA : Nat → ClassId) (sa : Nat → Nat)  (sz : Nat) : Met l yX7_spelling wsX7_spelling ({ frames := 0, cells := 0, slots := 0, locals := 0 }) (va_Pc [.int 11] (Wd D cA sa [] sz)) (va_Qr (fun _ : Unit => True) (fun (_ : Unit) (a9 : Nat) t => a9 = (sa 4) ∧ Wq D (va_A [] sz) [] t) (va_A [] sz)) 0 0 (va_A [] sz) := by
  refine Met.ofW (cc := cX7_spelling) (maxL := 1) (ret := (some (.object "java/lang/String"))) (by decide) rfl ?_
  intro p e s m args below meth c s₁ B hml hv
  obtain ⟨rfl, hsz, hP, hK, hD0, hC, hZ⟩ := hv
  have hx := B.exec
  have hb := B.bytes
  have hr := B.returns
  have hts := atoms_spec (ws := wsX7_spelling) B.pre
  have hown : s.vm.findClass RX7 = some m.cls := findClass_of_methodNamed B.named
  have hlocks := B.notSynchronized
  subst hsz
  have hD := hD0.self (sz := s.heap.size)
  generalize hAe : va_A [] s.heap.size = A at hD hZ ⊢
  have hA : ∀ q : Nat, s.heap.size ≤ q → A q := fun q h => by rw [← hAe]; exact Or.inr h
  have hS : va_S A s.heap s.heap [] := va_S.rf
  have hP : va_P D vwCl [] s.heap := hP
  have hl := lv_entry ([.int 11]) (n := 1) (Nat.le_of_ble_eq_true rfl)
  rw [lg_entry_eq]
  generalize (lg_sl ([.int 11]) ++ List.replicate (1 - (lg_sl ([.int 11])).length) Slot.unset).toArray = ls at hl ⊢
  have hl : lv_has ls 1 [(0, .int 11)] := hl
  refine lv_iload_n hx hb dX7_spelling_0 rfl (lv_at hl 0 rfl) ?_
  refine lv_tableIn (off := 84) (tgt := 85) hx hb dX7_spelling_1 (by decide) (by decide) (by decide) (by decide) ?_
  refine va_ldcS hx hb hown (hC.str 4 rfl) dX7_spelling_85 ?_
  have hP9 := hP.sub (ws' := []) [] rfl
  have hD9 := hD.sub (ws' := []) [] (by decide) rfl
  refine W.widen (k := 0) (n := 0) (Nat.le_of_ble_eq_true rfl) (Nat.le_of_ble_eq_true rfl) ?_
  exact W.aret (v := .ref (sa 4)) hx hb hr (Or.inl ⟨_, rfl⟩) (Or.inr ⟨_, rfl⟩) (fun t ht hW => ⟨⟨(), (sa 4), rfl, trivial, rfl, by rw [ht]; exact hP9, hD9⟩, hS.F ht⟩) hS.2.2 dX7_spelling_87

set_option maxHeartbeats 4000000 in
set_option maxRecDepth 100000 in
/-- spelling(12) -/
theorem c_spell_12 (l : Launch) (D : va_G) (cA : Nat → ClassId) (sa : Nat → Nat)  (sz : Nat) : Met l yX7_spelling wsX7_spelling ({ frames := 0, cells := 0, slots := 0, locals := 0 }) (va_Pc [.int 12] (Wd D cA sa [] sz)) (va_Qr (fun _ : Unit => True) (fun (_ : Unit) (a9 : Nat) t => a9 = (sa 5) ∧ Wq D (va_A [] sz) [] t) (va_A [] sz)) 0 0 (va_A [] sz) := by
  refine Met.ofW (cc := cX7_spelling) (maxL := 1) (ret := (some (.object "java/lang/String"))) (by decide) rfl ?_
  intro p e s m args below meth c s₁ B hml hv
  obtain ⟨rfl, hsz, hP, hK, hD0, hC, hZ⟩ := hv
  have hx := B.exec
  have hb := B.bytes
  have hr := B.returns
  have hts := atoms_spec (ws := wsX7_spelling) B.pre
  have hown : s.vm.findClass RX7 = some m.cls := findClass_of_methodNamed B.named
  have hlocks := B.notSynchronized
  subst hsz
  have hD := hD0.self (sz := s.heap.size)
  generalize hAe : va_A [] s.heap.size = A at hD hZ ⊢
  have hA : ∀ q : Nat, s.heap.size ≤ q → A q := fun q h => by rw [← hAe]; exact Or.inr h
  have hS : va_S A s.heap s.heap [] := va_S.rf
  have hP : va_P D vwCl [] s.heap := hP
  have hl := lv_entry ([.int 12]) (n := 1) (Nat.le_of_ble_eq_true rfl)
  rw [lg_entry_eq]
  generalize (lg_sl ([.int 12]) ++ List.replicate (1 - (lg_sl ([.int 12])).length) Slot.unset).toArray = ls at hl ⊢
  have hl : lv_has ls 1 [(0, .int 12)] := hl
  refine lv_iload_n hx hb dX7_spelling_0 rfl (lv_at hl 0 rfl) ?_
  refine lv_tableIn (off := 87) (tgt := 88) hx hb dX7_spelling_1 (by decide) (by decide) (by decide) (by decide) ?_
  refine va_ldcS hx hb hown (hC.str 5 rfl) dX7_spelling_88 ?_
  have hP9 := hP.sub (ws' := []) [] rfl
  have hD9 := hD.sub (ws' := []) [] (by decide) rfl
  refine W.widen (k := 0) (n := 0) (Nat.le_of_ble_eq_true rfl) (Nat.le_of_ble_eq_true rfl) ?_
  exact W.aret (v := .ref (sa 5)) hx hb hr (Or.inl ⟨_, rfl⟩) (Or.inr ⟨_, rfl⟩) (fun t ht hW => ⟨⟨(), (sa 5), rfl, trivial, rfl, by rw [ht]; exact hP9, hD9⟩, hS.F ht⟩) hS.2.2 dX7_spelling_90

set_option maxHeartbeats 4000000 in
set_option maxRecDepth 100000 in
/-- spelling(13) -/
theorem c_spell_13 (l : Launch) (D : va_G) (cA : Nat → ClassId) (sa : Nat → Nat)  (sz : Nat) : Met l yX7_spelling wsX7_spelling ({ frames := 0, cells := 0, slots := 0, locals := 0 }) (va_Pc [.int 13] (Wd D cA sa [] sz)) (va_Qr (fun _ : Unit => True) (fun (_ : Unit) (a9 : Nat) t => a9 = (sa 6) ∧ Wq D (va_A [] sz) [] t) (va_A [] sz)) 0 0 (va_A [] sz) := by
  refine Met.ofW (cc := cX7_spelling) (maxL := 1) (ret := (some (.object "java/lang/String"))) (by decide) rfl ?_
  intro p e s m args below meth c s₁ B hml hv
  obtain ⟨rfl, hsz, hP, hK, hD0, hC, hZ⟩ := hv
  have hx := B.exec
  have hb := B.bytes
  have hr := B.returns
  have hts := atoms_spec (ws := wsX7_spelling) B.pre
  have hown : s.vm.findClass RX7 = some m.cls := findClass_of_methodNamed B.named
  have hlocks := B.notSynchronized
  subst hsz
  have hD := hD0.self (sz := s.heap.size)
  generalize hAe : va_A [] s.heap.size = A at hD hZ ⊢
  have hA : ∀ q : Nat, s.heap.size ≤ q → A q := fun q h => by rw [← hAe]; exact Or.inr h
  have hS : va_S A s.heap s.heap [] := va_S.rf
  have hP : va_P D vwCl [] s.heap := hP
  have hl := lv_entry ([.int 13]) (n := 1) (Nat.le_of_ble_eq_true rfl)
  rw [lg_entry_eq]
  generalize (lg_sl ([.int 13]) ++ List.replicate (1 - (lg_sl ([.int 13])).length) Slot.unset).toArray = ls at hl ⊢
  have hl : lv_has ls 1 [(0, .int 13)] := hl
  refine lv_iload_n hx hb dX7_spelling_0 rfl (lv_at hl 0 rfl) ?_
  refine lv_tableIn (off := 90) (tgt := 91) hx hb dX7_spelling_1 (by decide) (by decide) (by decide) (by decide) ?_
  refine va_ldcS hx hb hown (hC.str 6 rfl) dX7_spelling_91 ?_
  have hP9 := hP.sub (ws' := []) [] rfl
  have hD9 := hD.sub (ws' := []) [] (by decide) rfl
  refine W.widen (k := 0) (n := 0) (Nat.le_of_ble_eq_true rfl) (Nat.le_of_ble_eq_true rfl) ?_
  exact W.aret (v := .ref (sa 6)) hx hb hr (Or.inl ⟨_, rfl⟩) (Or.inr ⟨_, rfl⟩) (fun t ht hW => ⟨⟨(), (sa 6), rfl, trivial, rfl, by rw [ht]; exact hP9, hD9⟩, hS.F ht⟩) hS.2.2 dX7_spelling_93

set_option maxHeartbeats 4000000 in
set_option maxRecDepth 100000 in
/-- spelling(14) -/
theorem c_spell_14 (l : Launch) (D : va_G) (cA : Nat → ClassId) (sa : Nat → Nat)  (sz : Nat) : Met l yX7_spelling wsX7_spelling ({ frames := 0, cells := 0, slots := 0, locals := 0 }) (va_Pc [.int 14] (Wd D cA sa [] sz)) (va_Qr (fun _ : Unit => True) (fun (_ : Unit) (a9 : Nat) t => a9 = (sa 7) ∧ Wq D (va_A [] sz) [] t) (va_A [] sz)) 0 0 (va_A [] sz) := by
  refine Met.ofW (cc := cX7_spelling) (maxL := 1) (ret := (some (.object "java/lang/String"))) (by decide) rfl ?_
  intro p e s m args below meth c s₁ B hml hv
  obtain ⟨rfl, hsz, hP, hK, hD0, hC, hZ⟩ := hv
  have hx := B.exec
  have hb := B.bytes
  have hr := B.returns
  have hts := atoms_spec (ws := wsX7_spelling) B.pre
  have hown : s.vm.findClass RX7 = some m.cls := findClass_of_methodNamed B.named
  have hlocks := B.notSynchronized
  subst hsz
  have hD := hD0.self (sz := s.heap.size)
  generalize hAe : va_A [] s.heap.size = A at hD hZ ⊢
  have hA : ∀ q : Nat, s.heap.size ≤ q → A q := fun q h => by rw [← hAe]; exact Or.inr h
  have hS : va_S A s.heap s.heap [] := va_S.rf
  have hP : va_P D vwCl [] s.heap := hP
  have hl := lv_entry ([.int 14]) (n := 1) (Nat.le_of_ble_eq_true rfl)
  rw [lg_entry_eq]
  generalize (lg_sl ([.int 14]) ++ List.replicate (1 - (lg_sl ([.int 14])).length) Slot.unset).toArray = ls at hl ⊢
  have hl : lv_has ls 1 [(0, .int 14)] := hl
  refine lv_iload_n hx hb dX7_spelling_0 rfl (lv_at hl 0 rfl) ?_
  refine lv_tableIn (off := 93) (tgt := 94) hx hb dX7_spelling_1 (by decide) (by decide) (by decide) (by decide) ?_
  refine va_ldcS hx hb hown (hC.str 7 rfl) dX7_spelling_94 ?_
  have hP9 := hP.sub (ws' := []) [] rfl
  have hD9 := hD.sub (ws' := []) [] (by decide) rfl
  refine W.widen (k := 0) (n := 0) (Nat.le_of_ble_eq_true rfl) (Nat.le_of_ble_eq_true rfl) ?_
  exact W.aret (v := .ref (sa 7)) hx hb hr (Or.inl ⟨_, rfl⟩) (Or.inr ⟨_, rfl⟩) (fun t ht hW => ⟨⟨(), (sa 7), rfl, trivial, rfl, by rw [ht]; exact hP9, hD9⟩, hS.F ht⟩) hS.2.2 dX7_spelling_96

set_option maxHeartbeats 4000000 in
set_option maxRecDepth 100000 in
/-- spelling(15) -/
theorem c_spell_15 (l : Launch) (D : va_G) (cA : Nat → ClassId) (sa : Nat → Nat)  (sz : Nat) : Met l yX7_spelling wsX7_spelling ({ frames := 0, cells := 0, slots := 0, locals := 0 }) (va_Pc [.int 15] (Wd D cA sa [] sz)) (va_Qr (fun _ : Unit => True) (fun (_ : Unit) (a9 : Nat) t => a9 = (sa 8) ∧ Wq D (va_A [] sz) [] t) (va_A [] sz)) 0 0 (va_A [] sz) := by
  refine Met.ofW (cc := cX7_spelling) (maxL := 1) (ret := (some (.object "java/lang/String"))) (by decide) rfl ?_
  intro p e s m args below meth c s₁ B hml hv
  obtain ⟨rfl, hsz, hP, hK, hD0, hC, hZ⟩ := hv
  have hx := B.exec
  have hb := B.bytes
  have hr := B.returns
  have hts := atoms_spec (ws := wsX7_spelling) B.pre
  have hown : s.vm.findClass RX7 = some m.cls := findClass_of_methodNamed B.named
  have hlocks := B.notSynchronized
  subst hsz
  have hD := hD0.self (sz := s.heap.size)
  generalize hAe : va_A [] s.heap.size = A at hD hZ ⊢
  have hA : ∀ q : Nat, s.heap.size ≤ q → A q := fun q h => by rw [← hAe]; exact Or.inr h
  have hS : va_S A s.heap s.heap [] := va_S.rf
  have hP : va_P D vwCl [] s.heap := hP
  have hl := lv_entry ([.int 15]) (n := 1) (Nat.le_of_ble_eq_true rfl)
  rw [lg_entry_eq]
  generalize (lg_sl ([.int 15]) ++ List.replicate (1 - (lg_sl ([.int 15])).length) Slot.unset).toArray = ls at hl ⊢
  have hl : lv_has ls 1 [(0, .int 15)] := hl
  refine lv_iload_n hx hb dX7_spelling_0 rfl (lv_at hl 0 rfl) ?_
  refine lv_tableIn (off := 96) (tgt := 97) hx hb dX7_spelling_1 (by decide) (by decide) (by decide) (by decide) ?_
  refine va_ldcS hx hb hown (hC.str 8 rfl) dX7_spelling_97 ?_
  have hP9 := hP.sub (ws' := []) [] rfl
  have hD9 := hD.sub (ws' := []) [] (by decide) rfl
  refine W.widen (k := 0) (n := 0) (Nat.le_of_ble_eq_true rfl) (Nat.le_of_ble_eq_true rfl) ?_
  exact W.aret (v := .ref (sa 8)) hx hb hr (Or.inl ⟨_, rfl⟩) (Or.inr ⟨_, rfl⟩) (fun t ht hW => ⟨⟨(), (sa 8), rfl, trivial, rfl, by rw [ht]; exact hP9, hD9⟩, hS.F ht⟩) hS.2.2 dX7_spelling_99

set_option maxHeartbeats 4000000 in
set_option maxRecDepth 100000 in
/-- spelling(16) -/
theorem c_spell_16 (l : Launch) (D : va_G) (cA : Nat → ClassId) (sa : Nat → Nat)  (sz : Nat) : Met l yX7_spelling wsX7_spelling ({ frames := 0, cells := 0, slots := 0, locals := 0 }) (va_Pc [.int 16] (Wd D cA sa [] sz)) (va_Qr (fun _ : Unit => True) (fun (_ : Unit) (a9 : Nat) t => a9 = (sa 9) ∧ Wq D (va_A [] sz) [] t) (va_A [] sz)) 0 0 (va_A [] sz) := by
  refine Met.ofW (cc := cX7_spelling) (maxL := 1) (ret := (some (.object "java/lang/String"))) (by decide) rfl ?_
  intro p e s m args below meth c s₁ B hml hv
  obtain ⟨rfl, hsz, hP, hK, hD0, hC, hZ⟩ := hv
  have hx := B.exec
  have hb := B.bytes
  have hr := B.returns
  have hts := atoms_spec (ws := wsX7_spelling) B.pre
  have hown : s.vm.findClass RX7 = some m.cls := findClass_of_methodNamed B.named
  have hlocks := B.notSynchronized
  subst hsz
  have hD := hD0.self (sz := s.heap.size)
  generalize hAe : va_A [] s.heap.size = A at hD hZ ⊢
  have hA : ∀ q : Nat, s.heap.size ≤ q → A q := fun q h => by rw [← hAe]; exact Or.inr h
  have hS : va_S A s.heap s.heap [] := va_S.rf
  have hP : va_P D vwCl [] s.heap := hP
  have hl := lv_entry ([.int 16]) (n := 1) (Nat.le_of_ble_eq_true rfl)
  rw [lg_entry_eq]
  generalize (lg_sl ([.int 16]) ++ List.replicate (1 - (lg_sl ([.int 16])).length) Slot.unset).toArray = ls at hl ⊢
  have hl : lv_has ls 1 [(0, .int 16)] := hl
  refine lv_iload_n hx hb dX7_spelling_0 rfl (lv_at hl 0 rfl) ?_
  refine lv_tableIn (off := 99) (tgt := 100) hx hb dX7_spelling_1 (by decide) (by decide) (by decide) (by decide) ?_
  refine va_ldcS hx hb hown (hC.str 9 rfl) dX7_spelling_100 ?_
  have hP9 := hP.sub (ws' := []) [] rfl
  have hD9 := hD.sub (ws' := []) [] (by decide) rfl
  refine W.widen (k := 0) (n := 0) (Nat.le_of_ble_eq_true rfl) (Nat.le_of_ble_eq_true rfl) ?_
  exact W.aret (v := .ref (sa 9)) hx hb hr (Or.inl ⟨_, rfl⟩) (Or.inr ⟨_, rfl⟩) (fun t ht hW => ⟨⟨(), (sa 9), rfl, trivial, rfl, by rw [ht]; exact hP9, hD9⟩, hS.F ht⟩) hS.2.2 dX7_spelling_102

set_option maxHeartbeats 4000000 in
set_option maxRecDepth 100000 in
/-- spelling(17) -/
theorem c_spell_17 (l : Launch) (D : va_G) (cA : Nat → ClassId) (sa : Nat → Nat)  (sz : Nat) : Met l yX7_spelling wsX7_spelling ({ frames := 0, cells := 0, slots := 0, locals := 0 }) (va_Pc [.int 17] (Wd D cA sa [] sz)) (va_Qr (fun _ : Unit => True) (fun (_ : Unit) (a9 : Nat) t => a9 = (sa 10) ∧ Wq D (va_A [] sz) [] t) (va_A [] sz)) 0 0 (va_A [] sz) := by
  refine Met.ofW (cc := cX7_spelling) (maxL := 1) (ret := (some (.object "java/lang/String"))) (by decide) rfl ?_
  intro p e s m args below meth c s₁ B hml hv
  obtain ⟨rfl, hsz, hP, hK, hD0, hC, hZ⟩ := hv
  have hx := B.exec
  have hb := B.bytes
  have hr := B.returns
  have hts := atoms_spec (ws := wsX7_spelling) B.pre
  have hown : s.vm.findClass RX7 = some m.cls := findClass_of_methodNamed B.named
  have hlocks := B.notSynchronized
  subst hsz
  have hD := hD0.self (sz := s.heap.size)
  generalize hAe : va_A [] s.heap.size = A at hD hZ ⊢
  have hA : ∀ q : Nat, s.heap.size ≤ q → A q := fun q h => by rw [← hAe]; exact Or.inr h
  have hS : va_S A s.heap s.heap [] := va_S.rf
  have hP : va_P D vwCl [] s.heap := hP
  have hl := lv_entry ([.int 17]) (n := 1) (Nat.le_of_ble_eq_true rfl)
  rw [lg_entry_eq]
  generalize (lg_sl ([.int 17]) ++ List.replicate (1 - (lg_sl ([.int 17])).length) Slot.unset).toArray = ls at hl ⊢
  have hl : lv_has ls 1 [(0, .int 17)] := hl
  refine lv_iload_n hx hb dX7_spelling_0 rfl (lv_at hl 0 rfl) ?_
  refine lv_tableIn (off := 102) (tgt := 103) hx hb dX7_spelling_1 (by decide) (by decide) (by decide) (by decide) ?_
  refine va_ldcS hx hb hown (hC.str 10 rfl) dX7_spelling_103 ?_
  have hP9 := hP.sub (ws' := []) [] rfl
  have hD9 := hD.sub (ws' := []) [] (by decide) rfl
  refine W.widen (k := 0) (n := 0) (Nat.le_of_ble_eq_true rfl) (Nat.le_of_ble_eq_true rfl) ?_
  exact W.aret (v := .ref (sa 10)) hx hb hr (Or.inl ⟨_, rfl⟩) (Or.inr ⟨_, rfl⟩) (fun t ht hW => ⟨⟨(), (sa 10), rfl, trivial, rfl, by rw [ht]; exact hP9, hD9⟩, hS.F ht⟩) hS.2.2 dX7_spelling_105

set_option maxHeartbeats 4000000 in
set_option maxRecDepth 100000 in
/-- spelling(18) -/
theorem c_spell_18 (l : Launch) (D : va_G) (cA : Nat → ClassId) (sa : Nat → Nat)  (sz : Nat) : Met l yX7_spelling wsX7_spelling ({ frames := 0, cells := 0, slots := 0, locals := 0 }) (va_Pc [.int 18] (Wd D cA sa [] sz)) (va_Qr (fun _ : Unit => True) (fun (_ : Unit) (a9 : Nat) t => a9 = (sa 11) ∧ Wq D (va_A [] sz) [] t) (va_A [] sz)) 0 0 (va_A [] sz) := by
  refine Met.ofW (cc := cX7_spelling) (maxL := 1) (ret := (some (.object "java/lang/String"))) (by decide) rfl ?_
  intro p e s m args below meth c s₁ B hml hv
  obtain ⟨rfl, hsz, hP, hK, hD0, hC, hZ⟩ := hv
  have hx := B.exec
  have hb := B.bytes
  have hr := B.returns
  have hts := atoms_spec (ws := wsX7_spelling) B.pre
  have hown : s.vm.findClass RX7 = some m.cls := findClass_of_methodNamed B.named
  have hlocks := B.notSynchronized
  subst hsz
  have hD := hD0.self (sz := s.heap.size)
  generalize hAe : va_A [] s.heap.size = A at hD hZ ⊢
  have hA : ∀ q : Nat, s.heap.size ≤ q → A q := fun q h => by rw [← hAe]; exact Or.inr h
  have hS : va_S A s.heap s.heap [] := va_S.rf
  have hP : va_P D vwCl [] s.heap := hP
  have hl := lv_entry ([.int 18]) (n := 1) (Nat.le_of_ble_eq_true rfl)
  rw [lg_entry_eq]
  generalize (lg_sl ([.int 18]) ++ List.replicate (1 - (lg_sl ([.int 18])).length) Slot.unset).toArray = ls at hl ⊢
  have hl : lv_has ls 1 [(0, .int 18)] := hl
  refine lv_iload_n hx hb dX7_spelling_0 rfl (lv_at hl 0 rfl) ?_
  refine lv_tableIn (off := 105) (tgt := 106) hx hb dX7_spelling_1 (by decide) (by decide) (by decide) (by decide) ?_
  refine va_ldcS hx hb hown (hC.str 11 rfl) dX7_spelling_106 ?_
  have hP9 := hP.sub (ws' := []) [] rfl
  have hD9 := hD.sub (ws' := []) [] (by decide) rfl
  refine W.widen (k := 0) (n := 0) (Nat.le_of_ble_eq_true rfl) (Nat.le_of_ble_eq_true rfl) ?_
  exact W.aret (v := .ref (sa 11)) hx hb hr (Or.inl ⟨_, rfl⟩) (Or.inr ⟨_, rfl⟩) (fun t ht hW => ⟨⟨(), (sa 11), rfl, trivial, rfl, by rw [ht]; exact hP9, hD9⟩, hS.F ht⟩) hS.2.2 dX7_spelling_108

set_option maxHeartbeats 4000000 in
set_option maxRecDepth 100000 in
/-- spelling(19) -/
theorem c_spell_19 (l : Launch) (D : va_G) (cA : Nat → ClassId) (sa : Nat → Nat)  (sz : Nat) : Met l yX7_spelling wsX7_spelling ({ frames := 0, cells := 0, slots := 0, locals := 0 }) (va_Pc [.int 19] (Wd D cA sa [] sz)) (va_Qr (fun _ : Unit => True) (fun (_ : Unit) (a9 : Nat) t => a9 = (sa 12) ∧ Wq D (va_A [] sz) [] t) (va_A [] sz)) 0 0 (va_A [] sz) := by
  refine Met.ofW (cc := cX7_spelling) (maxL := 1) (ret := (some (.object "java/lang/String"))) (by decide) rfl ?_
  intro p e s m args below meth c s₁ B hml hv
  obtain ⟨rfl, hsz, hP, hK, hD0, hC, hZ⟩ := hv
  have hx := B.exec
  have hb := B.bytes
  have hr := B.returns
  have hts := atoms_spec (ws := wsX7_spelling) B.pre
  have hown : s.vm.findClass RX7 = some m.cls := findClass_of_methodNamed B.named
  have hlocks := B.notSynchronized
  subst hsz
  have hD := hD0.self (sz := s.heap.size)
  generalize hAe : va_A [] s.heap.size = A at hD hZ ⊢
  have hA : ∀ q : Nat, s.heap.size ≤ q → A q := fun q h => by rw [← hAe]; exact Or.inr h
  have hS : va_S A s.heap s.heap [] := va_S.rf
  have hP : va_P D vwCl [] s.heap := hP
  have hl := lv_entry ([.int 19]) (n := 1) (Nat.le_of_ble_eq_true rfl)
  rw [lg_entry_eq]
  generalize (lg_sl ([.int 19]) ++ List.replicate (1 - (lg_sl ([.int 19])).length) Slot.unset).toArray = ls at hl ⊢
  have hl : lv_has ls 1 [(0, .int 19)] := hl
  refine lv_iload_n hx hb dX7_spelling_0 rfl (lv_at hl 0 rfl) ?_
  refine lv_tableIn (off := 108) (tgt := 109) hx hb dX7_spelling_1 (by decide) (by decide) (by decide) (by decide) ?_
  refine va_ldcS hx hb hown (hC.str 12 rfl) dX7_spelling_109 ?_
  have hP9 := hP.sub (ws' := []) [] rfl
  have hD9 := hD.sub (ws' := []) [] (by decide) rfl
  refine W.widen (k := 0) (n := 0) (Nat.le_of_ble_eq_true rfl) (Nat.le_of_ble_eq_true rfl) ?_
  exact W.aret (v := .ref (sa 12)) hx hb hr (Or.inl ⟨_, rfl⟩) (Or.inr ⟨_, rfl⟩) (fun t ht hW => ⟨⟨(), (sa 12), rfl, trivial, rfl, by rw [ht]; exact hP9, hD9⟩, hS.F ht⟩) hS.2.2 dX7_spelling_111

set_option maxHeartbeats 4000000 in
set_option maxRecDepth 100000 in
/-- spelling(20) -/
theorem c_spell_20 (l : Launch) (D : va_G) (cA : Nat → ClassId) (sa : Nat → Nat)  (sz : Nat) : Met l yX7_spelling wsX7_spelling ({ frames := 0, cells := 0, slots := 0, locals := 0 }) (va_Pc [.int 20] (Wd D cA sa [] sz)) (va_Qr (fun _ : Unit => True) (fun (_ : Unit) (a9 : Nat) t => a9 = (sa 13) ∧ Wq D (va_A [] sz) [] t) (va_A [] sz)) 0 0 (va_A [] sz) := by
  refine Met.ofW (cc := cX7_spelling) (maxL := 1) (ret := (some (.object "java/lang/String"))) (by decide) rfl ?_
  intro p e s m args below meth c s₁ B hml hv
  obtain ⟨rfl, hsz, hP, hK, hD0, hC, hZ⟩ := hv
  have hx := B.exec
  have hb := B.bytes
  have hr := B.returns
  have hts := atoms_spec (ws := wsX7_spelling) B.pre
  have hown : s.vm.findClass RX7 = some m.cls := findClass_of_methodNamed B.named
  have hlocks := B.notSynchronized
  subst hsz
  have hD := hD0.self (sz := s.heap.size)
  generalize hAe : va_A [] s.heap.size = A at hD hZ ⊢
  have hA : ∀ q : Nat, s.heap.size ≤ q → A q := fun q h => by rw [← hAe]; exact Or.inr h
  have hS : va_S A s.heap s.heap [] := va_S.rf
  have hP : va_P D vwCl [] s.heap := hP
  have hl := lv_entry ([.int 20]) (n := 1) (Nat.le_of_ble_eq_true rfl)
  rw [lg_entry_eq]
  generalize (lg_sl ([.int 20]) ++ List.replicate (1 - (lg_sl ([.int 20])).length) Slot.unset).toArray = ls at hl ⊢
  have hl : lv_has ls 1 [(0, .int 20)] := hl
  refine lv_iload_n hx hb dX7_spelling_0 rfl (lv_at hl 0 rfl) ?_
  refine lv_tableIn (off := 111) (tgt := 112) hx hb dX7_spelling_1 (by decide) (by decide) (by decide) (by decide) ?_
  refine va_ldcS hx hb hown (hC.str 13 rfl) dX7_spelling_112 ?_
  have hP9 := hP.sub (ws' := []) [] rfl
  have hD9 := hD.sub (ws' := []) [] (by decide) rfl
  refine W.widen (k := 0) (n := 0) (Nat.le_of_ble_eq_true rfl) (Nat.le_of_ble_eq_true rfl) ?_
  exact W.aret (v := .ref (sa 13)) hx hb hr (Or.inl ⟨_, rfl⟩) (Or.inr ⟨_, rfl⟩) (fun t ht hW => ⟨⟨(), (sa 13), rfl, trivial, rfl, by rw [ht]; exact hP9, hD9⟩, hS.F ht⟩) hS.2.2 dX7_spelling_114

set_option maxHeartbeats 4000000 in
set_option maxRecDepth 100000 in
/-- spelling(21) -/
theorem c_spell_21 (l : Launch) (D : va_G) (cA : Nat → ClassId) (sa : Nat → Nat)  (sz : Nat) : Met l yX7_spelling wsX7_spelling ({ frames := 0, cells := 0, slots := 0, locals := 0 }) (va_Pc [.int 21] (Wd D cA sa [] sz)) (va_Qr (fun _ : Unit => True) (fun (_ : Unit) (a9 : Nat) t => a9 = (sa 14) ∧ Wq D (va_A [] sz) [] t) (va_A [] sz)) 0 0 (va_A [] sz) := by
  refine Met.ofW (cc := cX7_spelling) (maxL := 1) (ret := (some (.object "java/lang/String"))) (by decide) rfl ?_
  intro p e s m args below meth c s₁ B hml hv
  obtain ⟨rfl, hsz, hP, hK, hD0, hC, hZ⟩ := hv
  have hx := B.exec
  have hb := B.bytes
  have hr := B.returns
  have hts := atoms_spec (ws := wsX7_spelling) B.pre
  have hown : s.vm.findClass RX7 = some m.cls := findClass_of_methodNamed B.named
  have hlocks := B.notSynchronized
  subst hsz
  have hD := hD0.self (sz := s.heap.size)
  generalize hAe : va_A [] s.heap.size = A at hD hZ ⊢
  have hA : ∀ q : Nat, s.heap.size ≤ q → A q := fun q h => by rw [← hAe]; exact Or.inr h
  have hS : va_S A s.heap s.heap [] := va_S.rf
  have hP : va_P D vwCl [] s.heap := hP
  have hl := lv_entry ([.int 21]) (n := 1) (Nat.le_of_ble_eq_true rfl)
  rw [lg_entry_eq]
  generalize (lg_sl ([.int 21]) ++ List.replicate (1 - (lg_sl ([.int 21])).length) Slot.unset).toArray = ls at hl ⊢
  have hl : lv_has ls 1 [(0, .int 21)] := hl
  refine lv_iload_n hx hb dX7_spelling_0 rfl (lv_at hl 0 rfl) ?_
  refine lv_tableIn (off := 114) (tgt := 115) hx hb dX7_spelling_1 (by decide) (by decide) (by decide) (by decide) ?_
  refine va_ldcS hx hb hown (hC.str 14 rfl) dX7_spelling_115 ?_
  have hP9 := hP.sub (ws' := []) [] rfl
  have hD9 := hD.sub (ws' := []) [] (by decide) rfl
  refine W.widen (k := 0) (n := 0) (Nat.le_of_ble_eq_true rfl) (Nat.le_of_ble_eq_true rfl) ?_
  exact W.aret (v := .ref (sa 14)) hx hb hr (Or.inl ⟨_, rfl⟩) (Or.inr ⟨_, rfl⟩) (fun t ht hW => ⟨⟨(), (sa 14), rfl, trivial, rfl, by rw [ht]; exact hP9, hD9⟩, hS.F ht⟩) hS.2.2 dX7_spelling_117

set_option maxHeartbeats 4000000 in
set_option maxRecDepth 100000 in
/-- spelling(22) -/
theorem c_spell_22 (l : Launch) (D : va_G) (cA : Nat → ClassId) (sa : Nat → Nat)  (sz : Nat) : Met l yX7_spelling wsX7_spelling ({ frames := 0, cells := 0, slots := 0, locals := 0 }) (va_Pc [.int 22] (Wd D cA sa [] sz)) (va_Qr (fun _ : Unit => True) (fun (_ : Unit) (a9 : Nat) t => a9 = (sa 15) ∧ Wq D (va_A [] sz) [] t) (va_A [] sz)) 0 0 (va_A [] sz) := by
  refine Met.ofW (cc := cX7_spelling) (maxL := 1) (ret := (some (.object "java/lang/String"))) (by decide) rfl ?_
  intro p e s m args below meth c s₁ B hml hv
  obtain ⟨rfl, hsz, hP, hK, hD0, hC, hZ⟩ := hv
  have hx := B.exec
  have hb := B.bytes
  have hr := B.returns
  have hts := atoms_spec (ws := wsX7_spelling) B.pre
  have hown : s.vm.findClass RX7 = some m.cls := findClass_of_methodNamed B.named
  have hlocks := B.notSynchronized
  subst hsz
  have hD := hD0.self (sz := s.heap.size)
  generalize hAe : va_A [] s.heap.size = A at hD hZ ⊢
  have hA : ∀ q : Nat, s.heap.size ≤ q → A q := fun q h => by rw [← hAe]; exact Or.inr h
  have hS : va_S A s.heap s.heap [] := va_S.rf
  have hP : va_P D vwCl [] s.heap := hP
  have hl := lv_entry ([.int 22]) (n := 1) (Nat.le_of_ble_eq_true rfl)
  rw [lg_entry_eq]
  generalize (lg_sl ([.int 22]) ++ List.replicate (1 - (lg_sl ([.int 22])).length) Slot.unset).toArray = ls at hl ⊢
  have hl : lv_has ls 1 [(0, .int 22)] := hl
  refine lv_iload_n hx hb dX7_spelling_0 rfl (lv_at hl 0 rfl) ?_
  refine lv_tableIn (off := 117) (tgt := 118) hx hb dX7_spelling_1 (by decide) (by decide) (by decide) (by decide) ?_
  refine va_ldcS hx hb hown (hC.str 15 rfl) dX7_spelling_118 ?_
  have hP9 := hP.sub (ws' := []) [] rfl
  have hD9 := hD.sub (ws' := []) [] (by decide) rfl
  refine W.widen (k := 0) (n := 0) (Nat.le_of_ble_eq_true rfl) (Nat.le_of_ble_eq_true rfl) ?_
  exact W.aret (v := .ref (sa 15)) hx hb hr (Or.inl ⟨_, rfl⟩) (Or.inr ⟨_, rfl⟩) (fun t ht hW => ⟨⟨(), (sa 15), rfl, trivial, rfl, by rw [ht]; exact hP9, hD9⟩, hS.F ht⟩) hS.2.2 dX7_spelling_120

set_option maxHeartbeats 4000000 in
set_option maxRecDepth 100000 in
/-- markKeywords: the END alone -/
theorem c_markKeywords (l : Launch) (D : va_G) (cA : Nat → ClassId) (sa : Nat → Nat) (r1 g1 g2 g3 : Nat) (fk : Nat → Int32) (sz : Nat) (hk : At0 1 fk) : Met l yX5_markKeywords wsX5_markKeywords ({ frames := 5, cells := 0, slots := 0, locals := 108 }) (va_Pc [.ref r1] (Wd D cA sa [(r1, .inr (9, [.ref g1, .ref g2, .ref g3, .int 1])), (g1, .inl (cA 0, 701, .inl fk))] sz)) (va_Qv (fun _ : Unit => True) (fun (_ : Unit) t => Wq D (va_A [(r1, .inr (9, [.ref g1, .ref g2, .ref g3, .int 1])), (g1, .inl (cA 0, 701, .inl fk))] sz) [(r1, .inr (9, [.ref g1, .ref g2, .ref g3, .int 1])), (g1, .inl (cA 0, 701, .inl fk))] t) (va_A [(r1, .inr (9, [.ref g1, .ref g2, .ref g3, .int 1])), (g1, .inl (cA 0, 701, .inl fk))] sz)) 0 0 (va_A [(r1, .inr (9, [.ref g1, .ref g2, .ref g3, .int 1])), (g1, .inl (cA 0, 701, .inl fk))] sz) := by
  refine Met.ofW (cc := cX5_markKeywords) (maxL := 5) (ret := none) (by decide) rfl ?_
  intro p e s m args below meth c s₁ B hml hv
  obtain ⟨rfl, hsz, hP, hK, hD0, hC, hZ⟩ := hv
  have hx := B.exec
  have hb := B.bytes
  have hr := B.returns
  have hts := atoms_spec (ws := wsX5_markKeywords) B.pre
  have hown : s.vm.findClass RX5 = some m.cls := findClass_of_methodNamed B.named
  have hlocks := B.notSynchronized
  subst hsz
  have hD := hD0.self (sz := s.heap.size)
  generalize hAe : va_A [(r1, .inr (9, [.ref g1, .ref g2, .ref g3, .int 1])), (g1, .inl (cA 0, 701, .inl fk))] s.heap.size = A at hD hZ ⊢
  have hA : ∀ q : Nat, s.heap.size ≤ q → A q := fun q h => by rw [← hAe]; exact Or.inr h
  have hS : va_S A s.heap s.heap [] := va_S.rf
  have hP : va_P D vwCl [(r1, .inr (9, [.ref g1, .ref g2, .ref g3, .int 1])), (g1, .inl (cA 0, 701, .inl fk))] s.heap := hP
  have hl := lv_entry ([.ref r1]) (n := 5) (Nat.le_of_ble_eq_true rfl)
  rw [lg_entry_eq]
  generalize (lg_sl ([.ref r1]) ++ List.replicate (5 - (lg_sl ([.ref r1])).length) Slot.unset).toArray = ls at hl ⊢
  have hl : lv_has ls 5 [(0, .ref r1)] := hl
  have inX5 : ∀ w ∈ u_ws RX5 TX5 4, w ∈ wsX5_markKeywords := by decide +kernel
  refine lv_bipush (v := 8) hx hb dX5_markKeywords_0 (by decide) ?_
  refine lv_istore_n (lv' := [(1, .int 8), (0, .ref r1)]) hx hb dX5_markKeywords_2 rfl hl (by decide) rfl (fun ls hl => ?_)
  refine lv_iload_n hx hb dX5_markKeywords_3 rfl (lv_at hl 0 rfl) ?_
  refine lv_bipush (v := 22) hx hb dX5_markKeywords_4 (by decide) ?_
  refine lv_icmp_gt (tgt := 72) hx hb dX5_markKeywords_6 (by decide) (fun c9 => absurd c9 (by decide)) (fun c1 => ?_)
  refine lv_iload_n hx hb dX5_markKeywords_9 rfl (lv_at hl 0 rfl) ?_
  have hPc := hP.sub (ws' := []) [] rfl
  have hDc := hD.sub (ws' := []) [] (by decide) rfl
  have hFc := va_free (wc := []) hD hS hA [] rfl
  refine va_callr (va_runS (As := [.int 8]) (rest := []) ⟨hx, hb, hml, hown, hts⟩ (c_spell_8 l D cA sa  s.heap.size) (va_cwS 1 hts gX5_markKeywords_X7_spelling rfl rfl rfl (by decide +kernel) ⟨(Nat.le_of_ble_eq_true rfl), (Nat.le_of_ble_eq_true rfl)⟩) ⟨Wd.blind, fun U hU hW => ⟨rfl, Wd.call hPc hDc hK hC hZ hS hFc U hU hW⟩⟩ rfl rfl hl.1 rfl (lv_room (Nat.le_of_ble_eq_true rfl)) dX5_markKeywords_10 ⟨(Nat.le_of_ble_eq_true rfl), (Nat.le_of_ble_eq_true rfl)⟩) hS (fun q _ h => hFc q h) hFc (fun u ra t H1 locs ht hvm hw hB hz1 hk1 hS => ?_)
  obtain ⟨rfl, hP1, hD1⟩ := hB
  rw [ht] at hP1
  obtain ⟨hP, hD⟩ := va_join (wr := [(r1, .inr (9, [.ref g1, .ref g2, .ref g3, .int 1])), (g1, .inl (cA 0, 701, .inl fk))]) (w1 := []) hP hD [] [0, 1] rfl rfl (by decide) (by decide) hk1 hFc hP1 hD1
  generalize H1 = H at hP hS ⊢
  have hP : va_P D vwCl [(r1, .inr (9, [.ref g1, .ref g2, .ref g3, .int 1])), (g1, .inl (cA 0, 701, .inl fk))] H := hP
  have hD : va_D A [(r1, .inr (9, [.ref g1, .ref g2, .ref g3, .int 1])), (g1, .inl (cA 0, 701, .inl fk))] := hD
  have hPc := hP.sub (ws' := []) [] rfl
  have hDc := hD.sub (ws' := []) [] (by decide) rfl
  have hFc := va_free (wc := []) hD hS hA [] rfl
  refine va_calll (va_runS (As := [.ref (sa 1)]) (rest := []) ⟨hx, hb, hml, hown, hts⟩ (c_packed l D cA sa 1 ([114, 97, 116, 101]) H.size (by decide +kernel)) (va_cwS 1 hts gX5_markKeywords_X8_packed rfl rfl rfl (by decide +kernel) ⟨(Nat.le_of_ble_eq_true rfl), (Nat.le_of_ble_eq_true rfl)⟩) ⟨Wd.blind, fun U hU hW => ⟨rfl, Wd.call hPc hDc hK hC hZ hS hFc U hU hW⟩⟩ rfl rfl hl.1 rfl (lv_room (Nat.le_of_ble_eq_true rfl)) dX5_markKeywords_13 ⟨(Nat.le_of_ble_eq_true rfl), (Nat.le_of_ble_eq_true rfl)⟩) hS (fun q _ h => hFc q h) hFc (fun rn2 u t H1 locs ht hvm hw hB hz1 hk1 hS => ?_)
  obtain ⟨hP1, hD1⟩ := hB
  rw [ht] at hP1
  obtain ⟨hP, hD⟩ := va_join (wr := [(r1, .inr (9, [.ref g1, .ref g2, .ref g3, .int 1])), (g1, .inl (cA 0, 701, .inl fk))]) (w1 := []) hP hD [] [0, 1] rfl rfl (by decide) (by decide) hk1 hFc hP1 hD1
  generalize H1 = H at hP hS ⊢
  have hP : va_P D vwCl [(r1, .inr (9, [.ref g1, .ref g2, .ref g3, .int 1])), (g1, .inl (cA 0, 701, .inl fk))] H := hP
  have hD : va_D A [(r1, .inr (9, [.ref g1, .ref g2, .ref g3, .int 1])), (g1, .inl (cA 0, 701, .inl fk))] := hD
  refine lv_lstore_n (lv' := [(2, .long rn2), (1, .int 8), (0, .ref r1)]) hx hb dX5_markKeywords_16 rfl hl (by decide) rfl (fun ls hl => ?_)
  refine lv_iconst (v := 0) hx hb dX5_markKeywords_17 (by decide) ?_
  refine lv_istore (lv' := [(4, .int 0), (2, .long rn2), (1, .int 8), (0, .ref r1)]) hx hb dX5_markKeywords_18 hl (by decide) rfl (fun ls hl => ?_)
  refine lv_iload hx hb dX5_markKeywords_20 (lv_at hl 0 rfl) ?_
  refine lv_aload_n hx hb dX5_markKeywords_22 rfl (lv_at hl 3 rfl) ?_
  refine va_get (D := D) (ci := 9) (v := .int 1) (C := RX5) (T := TX5) (N := 4) hx hb hts inX5 hown hK hP 0 rfl rfl 3 (by decide) (hts (.fieldLink RX5 22 "EscrowDesk$Scanner" "count" "I") (by decide +kernel)) (fun _ h9 => h9) rfl dX5_markKeywords_23 ?_
  refine lv_icmp_ge (tgt := 66) hx hb dX5_markKeywords_26 (by decide) (fun c9 => absurd c9 (by decide)) (fun c3 => ?_)
  refine lv_aload_n hx hb dX5_markKeywords_29 rfl (lv_at hl 3 rfl) ?_
  refine va_get (D := D) (ci := 9) (v := .ref g1) (C := RX5) (T := TX5) (N := 4) hx hb hts inX5 hown hK hP 0 rfl rfl 0 (by decide) (hts (.fieldLink RX5 9 "EscrowDesk$Scanner" "kinds" "[I") (by decide +kernel)) (fun _ h9 => h9) rfl dX5_markKeywords_30 ?_
  refine lv_iload hx hb dX5_markKeywords_33 (lv_at hl 0 rfl) ?_
  refine va_iald hx hb hK hP 1 0 rfl rfl (vp_in_iff.mpr (by decide)) dX5_markKeywords_35 ?_
  refine lv_topi (fun yn4 eyn4 => ?_)
  obtain rfl : yn4 = 1 := eyn4.trans hk
  refine lv_iconst (v := 4) hx hb dX5_markKeywords_36 (by decide) ?_
  refine lv_icmp_ne (tgt := 60) hx hb dX5_markKeywords_37 (by decide) (fun c5 => ?_) (fun c9 => absurd c9 (by decide))
  refine lv_iinc (v := 1) (lv' := [(4, .int 1), (2, .long rn2), (1, .int 8), (0, .ref r1)]) hx hb dX5_markKeywords_60 hl (k := 0) rfl (by first | rfl | decide +kernel) (by decide) rfl (fun ls hl => ?_)
  refine lv_goto (tgt := 20) hx hb dX5_markKeywords_63 (by decide) ?_
  refine lv_iload hx hb dX5_markKeywords_20 (lv_at hl 0 rfl) ?_
  refine lv_aload_n hx hb dX5_markKeywords_22 rfl (lv_at hl 3 rfl) ?_
  refine va_get (D := D) (ci := 9) (v := .int 1) (C := RX5) (T := TX5) (N := 4) hx hb hts inX5 hown hK hP 0 rfl rfl 3 (by decide) (hts (.fieldLink RX5 22 "EscrowDesk$Scanner" "count" "I") (by decide +kernel)) (fun _ h9 => h9) rfl dX5_markKeywords_23 ?_
  refine lv_icmp_ge (tgt := 66) hx hb dX5_markKeywords_26 (by decide) (fun c6 => ?_) (fun c9 => absurd c9 (by decide))
  refine lv_iinc (v := 9) (lv' := [(1, .int 9), (4, .int 1), (2, .long rn2), (0, .ref r1)]) hx hb dX5_markKeywords_66 hl (k := 2) rfl (by first | rfl | decide +kernel) (by decide) rfl (fun ls hl => ?_)
  refine lv_goto (tgt := 3) hx hb dX5_markKeywords_69 (by decide) ?_
  refine lv_iload_n hx hb dX5_markKeywords_3 rfl (lv_at hl 0 rfl) ?_
  refine lv_bipush (v := 22) hx hb dX5_markKeywords_4 (by decide) ?_
  refine lv_icmp_gt (tgt := 72) hx hb dX5_markKeywords_6 (by decide) (fun c9 => absurd c9 (by decide)) (fun c7 => ?_)
  refine lv_iload_n hx hb dX5_markKeywords_9 rfl (lv_at hl 0 rfl) ?_
  have hPc := hP.sub (ws' := []) [] rfl
  have hDc := hD.sub (ws' := []) [] (by decide) rfl
  have hFc := va_free (wc := []) hD hS hA [] rfl
  refine va_callr (va_runS (As := [.int 9]) (rest := []) ⟨hx, hb, hml, hown, hts⟩ (c_spell_9 l D cA sa  H.size) (va_cwS 1 hts gX5_markKeywords_X7_spelling rfl rfl rfl (by decide +kernel) ⟨(Nat.le_of_ble_eq_true rfl), (Nat.le_of_ble_eq_true rfl)⟩) ⟨Wd.blind, fun U hU hW => ⟨rfl, Wd.call hPc hDc hK hC hZ hS hFc U hU hW⟩⟩ rfl rfl hl.1 rfl (lv_room (Nat.le_of_ble_eq_true rfl)) dX5_markKeywords_10 ⟨(Nat.le_of_ble_eq_true rfl), (Nat.le_of_ble_eq_true rfl)⟩) hS (fun q _ h => hFc q h) hFc (fun u ra t H1 locs ht hvm hw hB hz1 hk1 hS => ?_)
  obtain ⟨rfl, hP1, hD1⟩ := hB
  rw [ht] at hP1
  obtain ⟨hP, hD⟩ := va_join (wr := [(r1, .inr (9, [.ref g1, .ref g2, .ref g3, .int 1])), (g1, .inl (cA 0, 701, .inl fk))]) (w1 := []) hP hD [] [0, 1] rfl rfl (by decide) (by decide) hk1 hFc hP1 hD1
  generalize H1 = H at hP hS ⊢
  have hP : va_P D vwCl [(r1, .inr (9, [.ref g1, .ref g2, .ref g3, .int 1])), (g1, .inl (cA 0, 701, .inl fk))] H := hP
  have hD : va_D A [(r1, .inr (9, [.ref g1, .ref g2, .ref g3, .int 1])), (g1, .inl (cA 0, 701, .inl fk))] := hD
  have hPc := hP.sub (ws' := []) [] rfl
  have hDc := hD.sub (ws' := []) [] (by decide) rfl
  have hFc := va_free (wc := []) hD hS hA [] rfl
  refine va_calll (va_runS (As := [.ref (sa 2)]) (rest := []) ⟨hx, hb, hml, hown, hts⟩ (c_packed l D cA sa 2 ([102, 101, 101]) H.size (by decide +kernel)) (va_cwS 1 hts gX5_markKeywords_X8_packed rfl rfl rfl (by decide +kernel) ⟨(Nat.le_of_ble_eq_true rfl), (Nat.le_of_ble_eq_true rfl)⟩) ⟨Wd.blind, fun U hU hW => ⟨rfl, Wd.call hPc hDc hK hC hZ hS hFc U hU hW⟩⟩ rfl rfl hl.1 rfl (lv_room (Nat.le_of_ble_eq_true rfl)) dX5_markKeywords_13 ⟨(Nat.le_of_ble_eq_true rfl), (Nat.le_of_ble_eq_true rfl)⟩) hS (fun q _ h => hFc q h) hFc (fun rn8 u t H1 locs ht hvm hw hB hz1 hk1 hS => ?_)
  obtain ⟨hP1, hD1⟩ := hB
  rw [ht] at hP1
  obtain ⟨hP, hD⟩ := va_join (wr := [(r1, .inr (9, [.ref g1, .ref g2, .ref g3, .int 1])), (g1, .inl (cA 0, 701, .inl fk))]) (w1 := []) hP hD [] [0, 1] rfl rfl (by decide) (by decide) hk1 hFc hP1 hD1
  generalize H1 = H at hP hS ⊢
  have hP : va_P D vwCl [(r1, .inr (9, [.ref g1, .ref g2, .ref g3, .int 1])), (g1, .inl (cA 0, 701, .inl fk))] H := hP
  have hD : va_D A [(r1, .inr (9, [.ref g1, .ref g2, .ref g3, .int 1])), (g1, .inl (cA 0, 701, .inl fk))] := hD
  refine lv_lstore_n (lv' := [(2, .long rn8), (1, .int 9), (4, .int 1), (0, .ref r1)]) hx hb dX5_markKeywords_16 rfl hl (by decide) rfl (fun ls hl => ?_)
  refine lv_iconst (v := 0) hx hb dX5_markKeywords_17 (by decide) ?_
  refine lv_istore (lv' := [(4, .int 0), (2, .long rn8), (1, .int 9), (0, .ref r1)]) hx hb dX5_markKeywords_18 hl (by decide) rfl (fun ls hl => ?_)
  refine lv_iload hx hb dX5_markKeywords_20 (lv_at hl 0 rfl) ?_
  refine lv_aload_n hx hb dX5_markKeywords_22 rfl (lv_at hl 3 rfl) ?_
  refine va_get (D := D) (ci := 9) (v := .int 1) (C := RX5) (T := TX5) (N := 4) hx hb hts inX5 hown hK hP 0 rfl rfl 3 (by decide) (hts (.fieldLink RX5 22 "EscrowDesk$Scanner" "count" "I") (by decide +kernel)) (fun _ h9 => h9) rfl dX5_markKeywords_23 ?_
  refine lv_icmp_ge (tgt := 66) hx hb dX5_markKeywords_26 (by decide) (fun c9 => absurd c9 (by decide)) (fun c9 => ?_)
  refine lv_aload_n hx hb dX5_markKeywords_29 rfl (lv_at hl 3 rfl) ?_
  refine va_get (D := D) (ci := 9) (v := .ref g1) (C := RX5) (T := TX5) (N := 4) hx hb hts inX5 hown hK hP 0 rfl rfl 0 (by decide) (hts (.fieldLink RX5 9 "EscrowDesk$Scanner" "kinds" "[I") (by decide +kernel)) (fun _ h9 => h9) rfl dX5_markKeywords_30 ?_
  refine lv_iload hx hb dX5_markKeywords_33 (lv_at hl 0 rfl) ?_
  refine va_iald hx hb hK hP 1 0 rfl rfl (vp_in_iff.mpr (by decide)) dX5_markKeywords_35 ?_
  refine lv_topi (fun yn10 eyn10 => ?_)
  obtain rfl : yn10 = 1 := eyn10.trans hk
  refine lv_iconst (v := 4) hx hb dX5_markKeywords_36 (by decide) ?_
  refine lv_icmp_ne (tgt := 60) hx hb dX5_markKeywords_37 (by decide) (fun c11 => ?_) (fun c9 => absurd c9 (by decide))
  refine lv_iinc (v := 1) (lv' := [(4, .int 1), (2, .long rn8), (1, .int 9), (0, .ref r1)]) hx hb dX5_markKeywords_60 hl (k := 0) rfl (by first | rfl | decide +kernel) (by decide) rfl (fun ls hl => ?_)
  refine lv_goto (tgt := 20) hx hb dX5_markKeywords_63 (by decide) ?_
  refine lv_iload hx hb dX5_markKeywords_20 (lv_at hl 0 rfl) ?_
  refine lv_aload_n hx hb dX5_markKeywords_22 rfl (lv_at hl 3 rfl) ?_
  refine va_get (D := D) (ci := 9) (v := .int 1) (C := RX5) (T := TX5) (N := 4) hx hb hts inX5 hown hK hP 0 rfl rfl 3 (by decide) (hts (.fieldLink RX5 22 "EscrowDesk$Scanner" "count" "I") (by decide +kernel)) (fun _ h9 => h9) rfl dX5_markKeywords_23 ?_
  refine lv_icmp_ge (tgt := 66) hx hb dX5_markKeywords_26 (by decide) (fun c12 => ?_) (fun c9 => absurd c9 (by decide))
  refine lv_iinc (v := 10) (lv' := [(1, .int 10), (4, .int 1), (2, .long rn8), (0, .ref r1)]) hx hb dX5_markKeywords_66 hl (k := 2) rfl (by first | rfl | decide +kernel) (by decide) rfl (fun ls hl => ?_)
  refine lv_goto (tgt := 3) hx hb dX5_markKeywords_69 (by decide) ?_
  refine lv_iload_n hx hb dX5_markKeywords_3 rfl (lv_at hl 0 rfl) ?_
  refine lv_bipush (v := 22) hx hb dX5_markKeywords_4 (by decide) ?_
  refine lv_icmp_gt (tgt := 72) hx hb dX5_markKeywords_6 (by decide) (fun c9 => absurd c9 (by decide)) (fun c13 => ?_)
  refine lv_iload_n hx hb dX5_markKeywords_9 rfl (lv_at hl 0 rfl) ?_
  have hPc := hP.sub (ws' := []) [] rfl
  have hDc := hD.sub (ws' := []) [] (by decide) rfl
  have hFc := va_free (wc := []) hD hS hA [] rfl
  refine va_callr (va_runS (As := [.int 10]) (rest := []) ⟨hx, hb, hml, hown, hts⟩ (c_spell_10 l D cA sa  H.size) (va_cwS 1 hts gX5_markKeywords_X7_spelling rfl rfl rfl (by decide +kernel) ⟨(Nat.le_of_ble_eq_true rfl), (Nat.le_of_ble_eq_true rfl)⟩) ⟨Wd.blind, fun U hU hW => ⟨rfl, Wd.call hPc hDc hK hC hZ hS hFc U hU hW⟩⟩ rfl rfl hl.1 rfl (lv_room (Nat.le_of_ble_eq_true rfl)) dX5_markKeywords_10 ⟨(Nat.le_of_ble_eq_true rfl), (Nat.le_of_ble_eq_true rfl)⟩) hS (fun q _ h => hFc q h) hFc (fun u ra t H1 locs ht hvm hw hB hz1 hk1 hS => ?_)
  obtain ⟨rfl, hP1, hD1⟩ := hB
  rw [ht] at hP1
  obtain ⟨hP, hD⟩ := va_join (wr := [(r1, .inr (9, [.ref g1, .ref g2, .ref g3, .int 1])), (g1, .inl (cA 0, 701, .inl fk))]) (w1 := []) hP hD [] [0, 1] rfl rfl (by decide) (by decide) hk1 hFc hP1 hD1
  generalize H1 = H at hP hS ⊢
  have hP : va_P D vwCl [(r1, .inr (9, [.ref g1, .ref g2, .ref g3, .int 1])), (g1, .inl (cA 0, 701, .inl fk))] H := hP
  have hD : va_D A [(r1, .inr (9, [.ref g1, .ref g2, .ref g3, .int 1])), (g1, .inl (cA 0, 701, .inl fk))] := hD
  have hPc := hP.sub (ws' := []) [] rfl
  have hDc := hD.sub (ws' := []) [] (by decide) rfl
  have hFc := va_free (wc := []) hD hS hA [] rfl
  refine va_calll (va_runS (As := [.ref (sa 3)]) (rest := []) ⟨hx, hb, hml, hown, hts⟩ (c_packed l D cA sa 3 ([103, 114, 97, 99, 101]) H.size (by decide +kernel)) (va_cwS 1 hts gX5_markKeywords_X8_packed rfl rfl rfl (by decide +kernel) ⟨(Nat.le_of_ble_eq_true rfl), (Nat.le_of_ble_eq_true rfl)⟩) ⟨Wd.blind, fun U hU hW => ⟨rfl, Wd.call hPc hDc hK hC hZ hS hFc U hU hW⟩⟩ rfl rfl hl.1 rfl (lv_room (Nat.le_of_ble_eq_true rfl)) dX5_markKeywords_13 ⟨(Nat.le_of_ble_eq_true rfl), (Nat.le_of_ble_eq_true rfl)⟩) hS (fun q _ h => hFc q h) hFc (fun rn14 u t H1 locs ht hvm hw hB hz1 hk1 hS => ?_)
  obtain ⟨hP1, hD1⟩ := hB
  rw [ht] at hP1
  obtain ⟨hP, hD⟩ := va_join (wr := [(r1, .inr (9, [.ref g1, .ref g2, .ref g3, .int 1])), (g1, .inl (cA 0, 701, .inl fk))]) (w1 := []) hP hD [] [0, 1] rfl rfl (by decide) (by decide) hk1 hFc hP1 hD1
  generalize H1 = H at hP hS ⊢
  have hP : va_P D vwCl [(r1, .inr (9, [.ref g1, .ref g2, .ref g3, .int 1])), (g1, .inl (cA 0, 701, .inl fk))] H := hP
  have hD : va_D A [(r1, .inr (9, [.ref g1, .ref g2, .ref g3, .int 1])), (g1, .inl (cA 0, 701, .inl fk))] := hD
  refine lv_lstore_n (lv' := [(2, .long rn14), (1, .int 10), (4, .int 1), (0, .ref r1)]) hx hb dX5_markKeywords_16 rfl hl (by decide) rfl (fun ls hl => ?_)
  refine lv_iconst (v := 0) hx hb dX5_markKeywords_17 (by decide) ?_
  refine lv_istore (lv' := [(4, .int 0), (2, .long rn14), (1, .int 10), (0, .ref r1)]) hx hb dX5_markKeywords_18 hl (by decide) rfl (fun ls hl => ?_)
  refine lv_iload hx hb dX5_markKeywords_20 (lv_at hl 0 rfl) ?_
  refine lv_aload_n hx hb dX5_markKeywords_22 rfl (lv_at hl 3 rfl) ?_
  refine va_get (D := D) (ci := 9) (v := .int 1) (C := RX5) (T := TX5) (N := 4) hx hb hts inX5 hown hK hP 0 rfl rfl 3 (by decide) (hts (.fieldLink RX5 22 "EscrowDesk$Scanner" "count" "I") (by decide +kernel)) (fun _ h9 => h9) rfl dX5_markKeywords_23 ?_
  refine lv_icmp_ge (tgt := 66) hx hb dX5_markKeywords_26 (by decide) (fun c9 => absurd c9 (by decide)) (fun c15 => ?_)
  refine lv_aload_n hx hb dX5_markKeywords_29 rfl (lv_at hl 3 rfl) ?_
  refine va_get (D := D) (ci := 9) (v := .ref g1) (C := RX5) (T := TX5) (N := 4) hx hb hts inX5 hown hK hP 0 rfl rfl 0 (by decide) (hts (.fieldLink RX5 9 "EscrowDesk$Scanner" "kinds" "[I") (by decide +kernel)) (fun _ h9 => h9) rfl dX5_markKeywords_30 ?_
  refine lv_iload hx hb dX5_markKeywords_33 (lv_at hl 0 rfl) ?_
  refine va_iald hx hb hK hP 1 0 rfl rfl (vp_in_iff.mpr (by decide)) dX5_markKeywords_35 ?_
  refine lv_topi (fun yn16 eyn16 => ?_)
  obtain rfl : yn16 = 1 := eyn16.trans hk
  refine lv_iconst (v := 4) hx hb dX5_markKeywords_36 (by decide) ?_
  refine lv_icmp_ne (tgt := 60) hx hb dX5_markKeywords_37 (by decide) (fun c17 => ?_) (fun c9 => absurd c9 (by decide))
  refine lv_iinc (v := 1) (lv' := [(4, .int 1), (2, .long rn14), (1, .int 10), (0, .ref r1)]) hx hb dX5_markKeywords_60 hl (k := 0) rfl (by first | rfl | decide +kernel) (by decide) rfl (fun ls hl => ?_)
  refine lv_goto (tgt := 20) hx hb dX5_markKeywords_63 (by decide) ?_
  refine lv_iload hx hb dX5_markKeywords_20 (lv_at hl 0 rfl) ?_
  refine lv_aload_n hx hb dX5_markKeywords_22 rfl (lv_at hl 3 rfl) ?_
  refine va_get (D := D) (ci := 9) (v := .int 1) (C := RX5) (T := TX5) (N := 4) hx hb hts inX5 hown hK hP 0 rfl rfl 3 (by decide) (hts (.fieldLink RX5 22 "EscrowDesk$Scanner" "count" "I") (by decide +kernel)) (fun _ h9 => h9) rfl dX5_markKeywords_23 ?_
  refine lv_icmp_ge (tgt := 66) hx hb dX5_markKeywords_26 (by decide) (fun c18 => ?_) (fun c9 => absurd c9 (by decide))
  refine lv_iinc (v := 11) (lv' := [(1, .int 11), (4, .int 1), (2, .long rn14), (0, .ref r1)]) hx hb dX5_markKeywords_66 hl (k := 2) rfl (by first | rfl | decide +kernel) (by decide) rfl (fun ls hl => ?_)
  refine lv_goto (tgt := 3) hx hb dX5_markKeywords_69 (by decide) ?_
  refine lv_iload_n hx hb dX5_markKeywords_3 rfl (lv_at hl 0 rfl) ?_
  refine lv_bipush (v := 22) hx hb dX5_markKeywords_4 (by decide) ?_
  refine lv_icmp_gt (tgt := 72) hx hb dX5_markKeywords_6 (by decide) (fun c9 => absurd c9 (by decide)) (fun c19 => ?_)
  refine lv_iload_n hx hb dX5_markKeywords_9 rfl (lv_at hl 0 rfl) ?_
  have hPc := hP.sub (ws' := []) [] rfl
  have hDc := hD.sub (ws' := []) [] (by decide) rfl
  have hFc := va_free (wc := []) hD hS hA [] rfl
  refine va_callr (va_runS (As := [.int 11]) (rest := []) ⟨hx, hb, hml, hown, hts⟩ (c_spell_11 l D cA sa  H.size) (va_cwS 1 hts gX5_markKeywords_X7_spelling rfl rfl rfl (by decide +kernel) ⟨(Nat.le_of_ble_eq_true rfl), (Nat.le_of_ble_eq_true rfl)⟩) ⟨Wd.blind, fun U hU hW => ⟨rfl, Wd.call hPc hDc hK hC hZ hS hFc U hU hW⟩⟩ rfl rfl hl.1 rfl (lv_room (Nat.le_of_ble_eq_true rfl)) dX5_markKeywords_10 ⟨(Nat.le_of_ble_eq_true rfl), (Nat.le_of_ble_eq_true rfl)⟩) hS (fun q _ h => hFc q h) hFc (fun u ra t H1 locs ht hvm hw hB hz1 hk1 hS => ?_)
  obtain ⟨rfl, hP1, hD1⟩ := hB
  rw [ht] at hP1
  obtain ⟨hP, hD⟩ := va_join (wr := [(r1, .inr (9, [.ref g1, .ref g2, .ref g3, .int 1])), (g1, .inl (cA 0, 701, .inl fk))]) (w1 := []) hP hD [] [0, 1] rfl rfl (by decide) (by decide) hk1 hFc hP1 hD1
  generalize H1 = H at hP hS ⊢
  have hP : va_P D vwCl [(r1, .inr (9, [.ref g1, .ref g2, .ref g3, .int 1])), (g1, .inl (cA 0, 701, .inl fk))] H := hP
  have hD : va_D A [(r1, .inr (9, [.ref g1, .ref g2, .ref g3, .int 1])), (g1, .inl (cA 0, 701, .inl fk))] := hD
  have hPc := hP.sub (ws' := []) [] rfl
  have hDc := hD.sub (ws' := []) [] (by decide) rfl
  have hFc := va_free (wc := []) hD hS hA [] rfl
  refine va_calll (va_runS (As := [.ref (sa 4)]) (rest := []) ⟨hx, hb, hml, hown, hts⟩ (c_packed l D cA sa 4 ([100, 101, 112, 111, 115, 105, 116]) H.size (by decide +kernel)) (va_cwS 1 hts gX5_markKeywords_X8_packed rfl rfl rfl (by decide +kernel) ⟨(Nat.le_of_ble_eq_true rfl), (Nat.le_of_ble_eq_true rfl)⟩) ⟨Wd.blind, fun U hU hW => ⟨rfl, Wd.call hPc hDc hK hC hZ hS hFc U hU hW⟩⟩ rfl rfl hl.1 rfl (lv_room (Nat.le_of_ble_eq_true rfl)) dX5_markKeywords_13 ⟨(Nat.le_of_ble_eq_true rfl), (Nat.le_of_ble_eq_true rfl)⟩) hS (fun q _ h => hFc q h) hFc (fun rn20 u t H1 locs ht hvm hw hB hz1 hk1 hS => ?_)
  obtain ⟨hP1, hD1⟩ := hB
  rw [ht] at hP1
  obtain ⟨hP, hD⟩ := va_join (wr := [(r1, .inr (9, [.ref g1, .ref g2, .ref g3, .int 1])), (g1, .inl (cA 0, 701, .inl fk))]) (w1 := []) hP hD [] [0, 1] rfl rfl (by decide) (by decide) hk1 hFc hP1 hD1
  generalize H1 = H at hP hS ⊢
  have hP : va_P D vwCl [(r1, .inr (9, [.ref g1, .ref g2, .ref g3, .int 1])), (g1, .inl (cA 0, 701, .inl fk))] H := hP
  have hD : va_D A [(r1, .inr (9, [.ref g1, .ref g2, .ref g3, .int 1])), (g1, .inl (cA 0, 701, .inl fk))] := hD
  refine lv_lstore_n (lv' := [(2, .long rn20), (1, .int 11), (4, .int 1), (0, .ref r1)]) hx hb dX5_markKeywords_16 rfl hl (by decide) rfl (fun ls hl => ?_)
  refine lv_iconst (v := 0) hx hb dX5_markKeywords_17 (by decide) ?_
  refine lv_istore (lv' := [(4, .int 0), (2, .long rn20), (1, .int 11), (0, .ref r1)]) hx hb dX5_markKeywords_18 hl (by decide) rfl (fun ls hl => ?_)
  refine lv_iload hx hb dX5_markKeywords_20 (lv_at hl 0 rfl) ?_
  refine lv_aload_n hx hb dX5_markKeywords_22 rfl (lv_at hl 3 rfl) ?_
  refine va_get (D := D) (ci := 9) (v := .int 1) (C := RX5) (T := TX5) (N := 4) hx hb hts inX5 hown hK hP 0 rfl rfl 3 (by decide) (hts (.fieldLink RX5 22 "EscrowDesk$Scanner" "count" "I") (by decide +kernel)) (fun _ h9 => h9) rfl dX5_markKeywords_23 ?_
  refine lv_icmp_ge (tgt := 66) hx hb dX5_markKeywords_26 (by decide) (fun c9 => absurd c9 (by decide)) (fun c21 => ?_)
  refine lv_aload_n hx hb dX5_markKeywords_29 rfl (lv_at hl 3 rfl) ?_
  refine va_get (D := D) (ci := 9) (v := .ref g1) (C := RX5) (T := TX5) (N := 4) hx hb hts inX5 hown hK hP 0 rfl rfl 0 (by decide) (hts (.fieldLink RX5 9 "EscrowDesk$Scanner" "kinds" "[I") (by decide +kernel)) (fun _ h9 => h9) rfl dX5_markKeywords_30 ?_
  refine lv_iload hx hb dX5_markKeywords_33 (lv_at hl 0 rfl) ?_
  refine va_iald hx hb hK hP 1 0 rfl rfl (vp_in_iff.mpr (by decide)) dX5_markKeywords_35 ?_
  refine lv_topi (fun yn22 eyn22 => ?_)
  obtain rfl : yn22 = 1 := eyn22.trans hk
  refine lv_iconst (v := 4) hx hb dX5_markKeywords_36 (by decide) ?_
  refine lv_icmp_ne (tgt := 60) hx hb dX5_markKeywords_37 (by decide) (fun c23 => ?_) (fun c9 => absurd c9 (by decide))
  refine lv_iinc (v := 1) (lv' := [(4, .int 1), (2, .long rn20), (1, .int 11), (0, .ref r1)]) hx hb dX5_markKeywords_60 hl (k := 0) rfl (by first | rfl | decide +kernel) (by decide) rfl (fun ls hl => ?_)
  refine lv_goto (tgt := 20) hx hb dX5_markKeywords_63 (by decide) ?_
  refine lv_iload hx hb dX5_markKeywords_20 (lv_at hl 0 rfl) ?_
  refine lv_aload_n hx hb dX5_markKeywords_22 rfl (lv_at hl 3 rfl) ?_
  refine va_get (D := D) (ci := 9) (v := .int 1) (C := RX5) (T := TX5) (N := 4) hx hb hts inX5 hown hK hP 0 rfl rfl 3 (by decide) (hts (.fieldLink RX5 22 "EscrowDesk$Scanner" "count" "I") (by decide +kernel)) (fun _ h9 => h9) rfl dX5_markKeywords_23 ?_
  refine lv_icmp_ge (tgt := 66) hx hb dX5_markKeywords_26 (by decide) (fun c24 => ?_) (fun c9 => absurd c9 (by decide))
  refine lv_iinc (v := 12) (lv' := [(1, .int 12), (4, .int 1), (2, .long rn20), (0, .ref r1)]) hx hb dX5_markKeywords_66 hl (k := 2) rfl (by first | rfl | decide +kernel) (by decide) rfl (fun ls hl => ?_)
  refine lv_goto (tgt := 3) hx hb dX5_markKeywords_69 (by decide) ?_
  refine lv_iload_n hx hb dX5_markKeywords_3 rfl (lv_at hl 0 rfl) ?_
  refine lv_bipush (v := 22) hx hb dX5_markKeywords_4 (by decide) ?_
  refine lv_icmp_gt (tgt := 72) hx hb dX5_markKeywords_6 (by decide) (fun c9 => absurd c9 (by decide)) (fun c25 => ?_)
  refine lv_iload_n hx hb dX5_markKeywords_9 rfl (lv_at hl 0 rfl) ?_
  have hPc := hP.sub (ws' := []) [] rfl
  have hDc := hD.sub (ws' := []) [] (by decide) rfl
  have hFc := va_free (wc := []) hD hS hA [] rfl
  refine va_callr (va_runS (As := [.int 12]) (rest := []) ⟨hx, hb, hml, hown, hts⟩ (c_spell_12 l D cA sa  H.size) (va_cwS 1 hts gX5_markKeywords_X7_spelling rfl rfl rfl (by decide +kernel) ⟨(Nat.le_of_ble_eq_true rfl), (Nat.le_of_ble_eq_true rfl)⟩) ⟨Wd.blind, fun U hU hW => ⟨rfl, Wd.call hPc hDc hK hC hZ hS hFc U hU hW⟩⟩ rfl rfl hl.1 rfl (lv_room (Nat.le_of_ble_eq_true rfl)) dX5_markKeywords_10 ⟨(Nat.le_of_ble_eq_true rfl), (Nat.le_of_ble_eq_true rfl)⟩) hS (fun q _ h => hFc q h) hFc (fun u ra t H1 locs ht hvm hw hB hz1 hk1 hS => ?_)
  obtain ⟨rfl, hP1, hD1⟩ := hB
  rw [ht] at hP1
  obtain ⟨hP, hD⟩ := va_join (wr := [(r1, .inr (9, [.ref g1, .ref g2, .ref g3, .int 1])), (g1, .inl (cA 0, 701, .inl fk))]) (w1 := []) hP hD [] [0, 1] rfl rfl (by decide) (by decide) hk1 hFc hP1 hD1
  generalize H1 = H at hP hS ⊢
  have hP : va_P D vwCl [(r1, .inr (9, [.ref g1, .ref g2, .ref g3, .int 1])), (g1, .inl (cA 0, 701, .inl fk))] H := hP
  have hD : va_D A [(r1, .inr (9, [.ref g1, .ref g2, .ref g3, .int 1])), (g1, .inl (cA 0, 701, .inl fk))] := hD
  have hPc := hP.sub (ws' := []) [] rfl
  have hDc := hD.sub (ws' := []) [] (by decide) rfl
  have hFc := va_free (wc := []) hD hS hA [] rfl
  refine va_calll (va_runS (As := [.ref (sa 5)]) (rest := []) ⟨hx, hb, hml, hown, hts⟩ (c_packed l D cA sa 5 ([109, 105, 108, 101, 115, 116, 111, 110, 101]) H.size (by decide +kernel)) (va_cwS 1 hts gX5_markKeywords_X8_packed rfl rfl rfl (by decide +kernel) ⟨(Nat.le_of_ble_eq_true rfl), (Nat.le_of_ble_eq_true rfl)⟩) ⟨Wd.blind, fun U hU hW => ⟨rfl, Wd.call hPc hDc hK hC hZ hS hFc U hU hW⟩⟩ rfl rfl hl.1 rfl (lv_room (Nat.le_of_ble_eq_true rfl)) dX5_markKeywords_13 ⟨(Nat.le_of_ble_eq_true rfl), (Nat.le_of_ble_eq_true rfl)⟩) hS (fun q _ h => hFc q h) hFc (fun rn26 u t H1 locs ht hvm hw hB hz1 hk1 hS => ?_)
  obtain ⟨hP1, hD1⟩ := hB
  rw [ht] at hP1
  obtain ⟨hP, hD⟩ := va_join (wr := [(r1, .inr (9, [.ref g1, .ref g2, .ref g3, .int 1])), (g1, .inl (cA 0, 701, .inl fk))]) (w1 := []) hP hD [] [0, 1] rfl rfl (by decide) (by decide) hk1 hFc hP1 hD1
  generalize H1 = H at hP hS ⊢
  have hP : va_P D vwCl [(r1, .inr (9, [.ref g1, .ref g2, .ref g3, .int 1])), (g1, .inl (cA 0, 701, .inl fk))] H := hP
  have hD : va_D A [(r1, .inr (9, [.ref g1, .ref g2, .ref g3, .int 1])), (g1, .inl (cA 0, 701, .inl fk))] := hD
  refine lv_lstore_n (lv' := [(2, .long rn26), (1, .int 12), (4, .int 1), (0, .ref r1)]) hx hb dX5_markKeywords_16 rfl hl (by decide) rfl (fun ls hl => ?_)
  refine lv_iconst (v := 0) hx hb dX5_markKeywords_17 (by decide) ?_
  refine lv_istore (lv' := [(4, .int 0), (2, .long rn26), (1, .int 12), (0, .ref r1)]) hx hb dX5_markKeywords_18 hl (by decide) rfl (fun ls hl => ?_)
  refine lv_iload hx hb dX5_markKeywords_20 (lv_at hl 0 rfl) ?_
  refine lv_aload_n hx hb dX5_markKeywords_22 rfl (lv_at hl 3 rfl) ?_
  refine va_get (D := D) (ci := 9) (v := .int 1) (C := RX5) (T := TX5) (N := 4) hx hb hts inX5 hown hK hP 0 rfl rfl 3 (by decide) (hts (.fieldLink RX5 22 "EscrowDesk$Scanner" "count" "I") (by decide +kernel)) (fun _ h9 => h9) rfl dX5_markKeywords_23 ?_
  refine lv_icmp_ge (tgt := 66) hx hb dX5_markKeywords_26 (by decide) (fun c9 => absurd c9 (by decide)) (fun c27 => ?_)
  refine lv_aload_n hx hb dX5_markKeywords_29 rfl (lv_at hl 3 rfl) ?_
  refine va_get (D := D) (ci := 9) (v := .ref g1) (C := RX5) (T := TX5) (N := 4) hx hb hts inX5 hown hK hP 0 rfl rfl 0 (by decide) (hts (.fieldLink RX5 9 "EscrowDesk$Scanner" "kinds" "[I") (by decide +kernel)) (fun _ h9 => h9) rfl dX5_markKeywords_30 ?_
  refine lv_iload hx hb dX5_markKeywords_33 (lv_at hl 0 rfl) ?_
  refine va_iald hx hb hK hP 1 0 rfl rfl (vp_in_iff.mpr (by decide)) dX5_markKeywords_35 ?_
  refine lv_topi (fun yn28 eyn28 => ?_)
  obtain rfl : yn28 = 1 := eyn28.trans hk
  refine lv_iconst (v := 4) hx hb dX5_markKeywords_36 (by decide) ?_
  refine lv_icmp_ne (tgt := 60) hx hb dX5_markKeywords_37 (by decide) (fun c29 => ?_) (fun c9 => absurd c9 (by decide))
  refine lv_iinc (v := 1) (lv' := [(4, .int 1), (2, .long rn26), (1, .int 12), (0, .ref r1)]) hx hb dX5_markKeywords_60 hl (k := 0) rfl (by first | rfl | decide +kernel) (by decide) rfl (fun ls hl => ?_)
  refine lv_goto (tgt := 20) hx hb dX5_markKeywords_63 (by decide) ?_
  refine lv_iload hx hb dX5_markKeywords_20 (lv_at hl 0 rfl) ?_
  refine lv_aload_n hx hb dX5_markKeywords_22 rfl (lv_at hl 3 rfl) ?_
  refine va_get (D := D) (ci := 9) (v := .int 1) (C := RX5) (T := TX5) (N := 4) hx hb hts inX5 hown hK hP 0 rfl rfl 3 (by decide) (hts (.fieldLink RX5 22 "EscrowDesk$Scanner" "count" "I") (by decide +kernel)) (fun _ h9 => h9) rfl dX5_markKeywords_23 ?_
  refine lv_icmp_ge (tgt := 66) hx hb dX5_markKeywords_26 (by decide) (fun c30 => ?_) (fun c9 => absurd c9 (by decide))
  refine lv_iinc (v := 13) (lv' := [(1, .int 13), (4, .int 1), (2, .long rn26), (0, .ref r1)]) hx hb dX5_markKeywords_66 hl (k := 2) rfl (by first | rfl | decide +kernel) (by decide) rfl (fun ls hl => ?_)
  refine lv_goto (tgt := 3) hx hb dX5_markKeywords_69 (by decide) ?_
  refine lv_iload_n hx hb dX5_markKeywords_3 rfl (lv_at hl 0 rfl) ?_
  refine lv_bipush (v := 22) hx hb dX5_markKeywords_4 (by decide) ?_
  refine lv_icmp_gt (tgt := 72) hx hb dX5_markKeywords_6 (by decide) (fun c9 => absurd c9 (by decide)) (fun c31 => ?_)
  refine lv_iload_n hx hb dX5_markKeywords_9 rfl (lv_at hl 0 rfl) ?_
  have hPc := hP.sub (ws' := []) [] rfl
  have hDc := hD.sub (ws' := []) [] (by decide) rfl
  have hFc := va_free (wc := []) hD hS hA [] rfl
  refine va_callr (va_runS (As := [.int 13]) (rest := []) ⟨hx, hb, hml, hown, hts⟩ (c_spell_13 l D cA sa  H.size) (va_cwS 1 hts gX5_markKeywords_X7_spelling rfl rfl rfl (by decide +kernel) ⟨(Nat.le_of_ble_eq_true rfl), (Nat.le_of_ble_eq_true rfl)⟩) ⟨Wd.blind, fun U hU hW => ⟨rfl, Wd.call hPc hDc hK hC hZ hS hFc U hU hW⟩⟩ rfl rfl hl.1 rfl (lv_room (Nat.le_of_ble_eq_true rfl)) dX5_markKeywords_10 ⟨(Nat.le_of_ble_eq_true rfl), (Nat.le_of_ble_eq_true rfl)⟩) hS (fun q _ h => hFc q h) hFc (fun u ra t H1 locs ht hvm hw hB hz1 hk1 hS => ?_)
  obtain ⟨rfl, hP1, hD1⟩ := hB
  rw [ht] at hP1
  obtain ⟨hP, hD⟩ := va_join (wr := [(r1, .inr (9, [.ref g1, .ref g2, .ref g3, .int 1])), (g1, .inl (cA 0, 701, .inl fk))]) (w1 := []) hP hD [] [0, 1] rfl rfl (by decide) (by decide) hk1 hFc hP1 hD1
  generalize H1 = H at hP hS ⊢
  have hP : va_P D vwCl [(r1, .inr (9, [.ref g1, .ref g2, .ref g3, .int 1])), (g1, .inl (cA 0, 701, .inl fk))] H := hP
  have hD : va_D A [(r1, .inr (9, [.ref g1, .ref g2, .ref g3, .int 1])), (g1, .inl (cA 0, 701, .inl fk))] := hD
  have hPc := hP.sub (ws' := []) [] rfl
  have hDc := hD.sub (ws' := []) [] (by decide) rfl
  have hFc := va_free (wc := []) hD hS hA [] rfl
  refine va_calll (va_runS (As := [.ref (sa 6)]) (rest := []) ⟨hx, hb, hml, hown, hts⟩ (c_packed l D cA sa 6 ([119, 104, 101, 110]) H.size (by decide +kernel)) (va_cwS 1 hts gX5_markKeywords_X8_packed rfl rfl rfl (by decide +kernel) ⟨(Nat.le_of_ble_eq_true rfl), (Nat.le_of_ble_eq_true rfl)⟩) ⟨Wd.blind, fun U hU hW => ⟨rfl, Wd.call hPc hDc hK hC hZ hS hFc U hU hW⟩⟩ rfl rfl hl.1 rfl (lv_room (Nat.le_of_ble_eq_true rfl)) dX5_markKeywords_13 ⟨(Nat.le_of_ble_eq_true rfl), (Nat.le_of_ble_eq_true rfl)⟩) hS (fun q _ h => hFc q h) hFc (fun rn32 u t H1 locs ht hvm hw hB hz1 hk1 hS => ?_)
  obtain ⟨hP1, hD1⟩ := hB
  rw [ht] at hP1
  obtain ⟨hP, hD⟩ := va_join (wr := [(r1, .inr (9, [.ref g1, .ref g2, .ref g3, .int 1])), (g1, .inl (cA 0, 701, .inl fk))]) (w1 := []) hP hD [] [0, 1] rfl rfl (by decide) (by decide) hk1 hFc hP1 hD1
  generalize H1 = H at hP hS ⊢
  have hP : va_P D vwCl [(r1, .inr (9, [.ref g1, .ref g2, .ref g3, .int 1])), (g1, .inl (cA 0, 701, .inl fk))] H := hP
  have hD : va_D A [(r1, .inr (9, [.ref g1, .ref g2, .ref g3, .int 1])), (g1, .inl (cA 0, 701, .inl fk))] := hD
  refine lv_lstore_n (lv' := [(2, .long rn32), (1, .int 13), (4, .int 1), (0, .ref r1)]) hx hb dX5_markKeywords_16 rfl hl (by decide) rfl (fun ls hl => ?_)
  refine lv_iconst (v := 0) hx hb dX5_markKeywords_17 (by decide) ?_
  refine lv_istore (lv' := [(4, .int 0), (2, .long rn32), (1, .int 13), (0, .ref r1)]) hx hb dX5_markKeywords_18 hl (by decide) rfl (fun ls hl => ?_)
  refine lv_iload hx hb dX5_markKeywords_20 (lv_at hl 0 rfl) ?_
  refine lv_aload_n hx hb dX5_markKeywords_22 rfl (lv_at hl 3 rfl) ?_
  refine va_get (D := D) (ci := 9) (v := .int 1) (C := RX5) (T := TX5) (N := 4) hx hb hts inX5 hown hK hP 0 rfl rfl 3 (by decide) (hts (.fieldLink RX5 22 "EscrowDesk$Scanner" "count" "I") (by decide +kernel)) (fun _ h9 => h9) rfl dX5_markKeywords_23 ?_
  refine lv_icmp_ge (tgt := 66) hx hb dX5_markKeywords_26 (by decide) (fun c9 => absurd c9 (by decide)) (fun c33 => ?_)
  refine lv_aload_n hx hb dX5_markKeywords_29 rfl (lv_at hl 3 rfl) ?_
  refine va_get (D := D) (ci := 9) (v := .ref g1) (C := RX5) (T := TX5) (N := 4) hx hb hts inX5 hown hK hP 0 rfl rfl 0 (by decide) (hts (.fieldLink RX5 9 "EscrowDesk$Scanner" "kinds" "[I") (by decide +kernel)) (fun _ h9 => h9) rfl dX5_markKeywords_30 ?_
  refine lv_iload hx hb dX5_markKeywords_33 (lv_at hl 0 rfl) ?_
  refine va_iald hx hb hK hP 1 0 rfl rfl (vp_in_iff.mpr (by decide)) dX5_markKeywords_35 ?_
  refine lv_topi (fun yn34 eyn34 => ?_)
  obtain rfl : yn34 = 1 := eyn34.trans hk
  refine lv_iconst (v := 4) hx hb dX5_markKeywords_36 (by decide) ?_
  refine lv_icmp_ne (tgt := 60) hx hb dX5_markKeywords_37 (by decide) (fun c35 => ?_) (fun c9 => absurd c9 (by decide))
  refine lv_iinc (v := 1) (lv' := [(4, .int 1), (2, .long rn32), (1, .int 13), (0, .ref r1)]) hx hb dX5_markKeywords_60 hl (k := 0) rfl (by first | rfl | decide +kernel) (by decide) rfl (fun ls hl => ?_)
  refine lv_goto (tgt := 20) hx hb dX5_markKeywords_63 (by decide) ?_
  refine lv_iload hx hb dX5_markKeywords_20 (lv_at hl 0 rfl) ?_
  refine lv_aload_n hx hb dX5_markKeywords_22 rfl (lv_at hl 3 rfl) ?_
  refine va_get (D := D) (ci := 9) (v := .int 1) (C := RX5) (T := TX5) (N := 4) hx hb hts inX5 hown hK hP 0 rfl rfl 3 (by decide) (hts (.fieldLink RX5 22 "EscrowDesk$Scanner" "count" "I") (by decide +kernel)) (fun _ h9 => h9) rfl dX5_markKeywords_23 ?_
  refine lv_icmp_ge (tgt := 66) hx hb dX5_markKeywords_26 (by decide) (fun c36 => ?_) (fun c9 => absurd c9 (by decide))
  refine lv_iinc (v := 14) (lv' := [(1, .int 14), (4, .int 1), (2, .long rn32), (0, .ref r1)]) hx hb dX5_markKeywords_66 hl (k := 2) rfl (by first | rfl | decide +kernel) (by decide) rfl (fun ls hl => ?_)
  refine lv_goto (tgt := 3) hx hb dX5_markKeywords_69 (by decide) ?_
  refine lv_iload_n hx hb dX5_markKeywords_3 rfl (lv_at hl 0 rfl) ?_
  refine lv_bipush (v := 22) hx hb dX5_markKeywords_4 (by decide) ?_
  refine lv_icmp_gt (tgt := 72) hx hb dX5_markKeywords_6 (by decide) (fun c9 => absurd c9 (by decide)) (fun c37 => ?_)
  refine lv_iload_n hx hb dX5_markKeywords_9 rfl (lv_at hl 0 rfl) ?_
  have hPc := hP.sub (ws' := []) [] rfl
  have hDc := hD.sub (ws' := []) [] (by decide) rfl
  have hFc := va_free (wc := []) hD hS hA [] rfl
  refine va_callr (va_runS (As := [.int 14]) (rest := []) ⟨hx, hb, hml, hown, hts⟩ (c_spell_14 l D cA sa  H.size) (va_cwS 1 hts gX5_markKeywords_X7_spelling rfl rfl rfl (by decide +kernel) ⟨(Nat.le_of_ble_eq_true rfl), (Nat.le_of_ble_eq_true rfl)⟩) ⟨Wd.blind, fun U hU hW => ⟨rfl, Wd.call hPc hDc hK hC hZ hS hFc U hU hW⟩⟩ rfl rfl hl.1 rfl (lv_room (Nat.le_of_ble_eq_true rfl)) dX5_markKeywords_10 ⟨(Nat.le_of_ble_eq_true rfl), (Nat.le_of_ble_eq_true rfl)⟩) hS (fun q _ h => hFc q h) hFc (fun u ra t H1 locs ht hvm hw hB hz1 hk1 hS => ?_)
  obtain ⟨rfl, hP1, hD1⟩ := hB
  rw [ht] at hP1
  obtain ⟨hP, hD⟩ := va_join (wr := [(r1, .inr (9, [.ref g1, .ref g2, .ref g3, .int 1])), (g1, .inl (cA 0, 701, .inl fk))]) (w1 := []) hP hD [] [0, 1] rfl rfl (by decide) (by decide) hk1 hFc hP1 hD1
  generalize H1 = H at hP hS ⊢
  have hP : va_P D vwCl [(r1, .inr (9, [.ref g1, .ref g2, .ref g3, .int 1])), (g1, .inl (cA 0, 701, .inl fk))] H := hP
  have hD : va_D A [(r1, .inr (9, [.ref g1, .ref g2, .ref g3, .int 1])), (g1, .inl (cA 0, 701, .inl fk))] := hD
  have hPc := hP.sub (ws' := []) [] rfl
  have hDc := hD.sub (ws' := []) [] (by decide) rfl
  have hFc := va_free (wc := []) hD hS hA [] rfl
  refine va_calll (va_runS (As := [.ref (sa 7)]) (rest := []) ⟨hx, hb, hml, hown, hts⟩ (c_packed l D cA sa 7 ([111, 114]) H.size (by decide +kernel)) (va_cwS 1 hts gX5_markKeywords_X8_packed rfl rfl rfl (by decide +kernel) ⟨(Nat.le_of_ble_eq_true rfl), (Nat.le_of_ble_eq_true rfl)⟩) ⟨Wd.blind, fun U hU hW => ⟨rfl, Wd.call hPc hDc hK hC hZ hS hFc U hU hW⟩⟩ rfl rfl hl.1 rfl (lv_room (Nat.le_of_ble_eq_true rfl)) dX5_markKeywords_13 ⟨(Nat.le_of_ble_eq_true rfl), (Nat.le_of_ble_eq_true rfl)⟩) hS (fun q _ h => hFc q h) hFc (fun rn38 u t H1 locs ht hvm hw hB hz1 hk1 hS => ?_)
  obtain ⟨hP1, hD1⟩ := hB
  rw [ht] at hP1
  obtain ⟨hP, hD⟩ := va_join (wr := [(r1, .inr (9, [.ref g1, .ref g2, .ref g3, .int 1])), (g1, .inl (cA 0, 701, .inl fk))]) (w1 := []) hP hD [] [0, 1] rfl rfl (by decide) (by decide) hk1 hFc hP1 hD1
  generalize H1 = H at hP hS ⊢
  have hP : va_P D vwCl [(r1, .inr (9, [.ref g1, .ref g2, .ref g3, .int 1])), (g1, .inl (cA 0, 701, .inl fk))] H := hP
  have hD : va_D A [(r1, .inr (9, [.ref g1, .ref g2, .ref g3, .int 1])), (g1, .inl (cA 0, 701, .inl fk))] := hD
  refine lv_lstore_n (lv' := [(2, .long rn38), (1, .int 14), (4, .int 1), (0, .ref r1)]) hx hb dX5_markKeywords_16 rfl hl (by decide) rfl (fun ls hl => ?_)
  refine lv_iconst (v := 0) hx hb dX5_markKeywords_17 (by decide) ?_
  refine lv_istore (lv' := [(4, .int 0), (2, .long rn38), (1, .int 14), (0, .ref r1)]) hx hb dX5_markKeywords_18 hl (by decide) rfl (fun ls hl => ?_)
  refine lv_iload hx hb dX5_markKeywords_20 (lv_at hl 0 rfl) ?_
  refine lv_aload_n hx hb dX5_markKeywords_22 rfl (lv_at hl 3 rfl) ?_
  refine va_get (D := D) (ci := 9) (v := .int 1) (C := RX5) (T := TX5) (N := 4) hx hb hts inX5 hown hK hP 0 rfl rfl 3 (by decide) (hts (.fieldLink RX5 22 "EscrowDesk$Scanner" "count" "I") (by decide +kernel)) (fun _ h9 => h9) rfl dX5_markKeywords_23 ?_
  refine lv_icmp_ge (tgt := 66) hx hb dX5_markKeywords_26 (by decide) (fun c9 => absurd c9 (by decide)) (fun c39 => ?_)
  refine lv_aload_n hx hb dX5_markKeywords_29 rfl (lv_at hl 3 rfl) ?_
  refine va_get (D := D) (ci := 9) (v := .ref g1) (C := RX5) (T := TX5) (N := 4) hx hb hts inX5 hown hK hP 0 rfl rfl 0 (by decide) (hts (.fieldLink RX5 9 "EscrowDesk$Scanner" "kinds" "[I") (by decide +kernel)) (fun _ h9 => h9) rfl dX5_markKeywords_30 ?_
  refine lv_iload hx hb dX5_markKeywords_33 (lv_at hl 0 rfl) ?_
  refine va_iald hx hb hK hP 1 0 rfl rfl (vp_in_iff.mpr (by decide)) dX5_markKeywords_35 ?_
  refine lv_topi (fun yn40 eyn40 => ?_)
  obtain rfl : yn40 = 1 := eyn40.trans hk
  refine lv_iconst (v := 4) hx hb dX5_markKeywords_36 (by decide) ?_
  refine lv_icmp_ne (tgt := 60) hx hb dX5_markKeywords_37 (by decide) (fun c41 => ?_) (fun c9 => absurd c9 (by decide))
  refine lv_iinc (v := 1) (lv' := [(4, .int 1), (2, .long rn38), (1, .int 14), (0, .ref r1)]) hx hb dX5_markKeywords_60 hl (k := 0) rfl (by first | rfl | decide +kernel) (by decide) rfl (fun ls hl => ?_)
  refine lv_goto (tgt := 20) hx hb dX5_markKeywords_63 (by decide) ?_
  refine lv_iload hx hb dX5_markKeywords_20 (lv_at hl 0 rfl) ?_
  refine lv_aload_n hx hb dX5_markKeywords_22 rfl (lv_at hl 3 rfl) ?_
  refine va_get (D := D) (ci := 9) (v := .int 1) (C := RX5) (T := TX5) (N := 4) hx hb hts inX5 hown hK hP 0 rfl rfl 3 (by decide) (hts (.fieldLink RX5 22 "EscrowDesk$Scanner" "count" "I") (by decide +kernel)) (fun _ h9 => h9) rfl dX5_markKeywords_23 ?_
  refine lv_icmp_ge (tgt := 66) hx hb dX5_markKeywords_26 (by decide) (fun c42 => ?_) (fun c9 => absurd c9 (by decide))
  refine lv_iinc (v := 15) (lv' := [(1, .int 15), (4, .int 1), (2, .long rn38), (0, .ref r1)]) hx hb dX5_markKeywords_66 hl (k := 2) rfl (by first | rfl | decide +kernel) (by decide) rfl (fun ls hl => ?_)
  refine lv_goto (tgt := 3) hx hb dX5_markKeywords_69 (by decide) ?_
  refine lv_iload_n hx hb dX5_markKeywords_3 rfl (lv_at hl 0 rfl) ?_
  refine lv_bipush (v := 22) hx hb dX5_markKeywords_4 (by decide) ?_
  refine lv_icmp_gt (tgt := 72) hx hb dX5_markKeywords_6 (by decide) (fun c9 => absurd c9 (by decide)) (fun c43 => ?_)
  refine lv_iload_n hx hb dX5_markKeywords_9 rfl (lv_at hl 0 rfl) ?_
  have hPc := hP.sub (ws' := []) [] rfl
  have hDc := hD.sub (ws' := []) [] (by decide) rfl
  have hFc := va_free (wc := []) hD hS hA [] rfl
  refine va_callr (va_runS (As := [.int 15]) (rest := []) ⟨hx, hb, hml, hown, hts⟩ (c_spell_15 l D cA sa  H.size) (va_cwS 1 hts gX5_markKeywords_X7_spelling rfl rfl rfl (by decide +kernel) ⟨(Nat.le_of_ble_eq_true rfl), (Nat.le_of_ble_eq_true rfl)⟩) ⟨Wd.blind, fun U hU hW => ⟨rfl, Wd.call hPc hDc hK hC hZ hS hFc U hU hW⟩⟩ rfl rfl hl.1 rfl (lv_room (Nat.le_of_ble_eq_true rfl)) dX5_markKeywords_10 ⟨(Nat.le_of_ble_eq_true rfl), (Nat.le_of_ble_eq_true rfl)⟩) hS (fun q _ h => hFc q h) hFc (fun u ra t H1 locs ht hvm hw hB hz1 hk1 hS => ?_)
  obtain ⟨rfl, hP1, hD1⟩ := hB
  rw [ht] at hP1
  obtain ⟨hP, hD⟩ := va_join (wr := [(r1, .inr (9, [.ref g1, .ref g2, .ref g3, .int 1])), (g1, .inl (cA 0, 701, .inl fk))]) (w1 := []) hP hD [] [0, 1] rfl rfl (by decide) (by decide) hk1 hFc hP1 hD1
  generalize H1 = H at hP hS ⊢
  have hP : va_P D vwCl [(r1, .inr (9, [.ref g1, .ref g2, .ref g3, .int 1])), (g1, .inl (cA 0, 701, .inl fk))] H := hP
  have hD : va_D A [(r1, .inr (9, [.ref g1, .ref g2, .ref g3, .int 1])), (g1, .inl (cA 0, 701, .inl fk))] := hD
  have hPc := hP.sub (ws' := []) [] rfl
  have hDc := hD.sub (ws' := []) [] (by decide) rfl
  have hFc := va_free (wc := []) hD hS hA [] rfl
  refine va_calll (va_runS (As := [.ref (sa 8)]) (rest := []) ⟨hx, hb, hml, hown, hts⟩ (c_packed l D cA sa 8 ([97, 110, 100]) H.size (by decide +kernel)) (va_cwS 1 hts gX5_markKeywords_X8_packed rfl rfl rfl (by decide +kernel) ⟨(Nat.le_of_ble_eq_true rfl), (Nat.le_of_ble_eq_true rfl)⟩) ⟨Wd.blind, fun U hU hW => ⟨rfl, Wd.call hPc hDc hK hC hZ hS hFc U hU hW⟩⟩ rfl rfl hl.1 rfl (lv_room (Nat.le_of_ble_eq_true rfl)) dX5_markKeywords_13 ⟨(Nat.le_of_ble_eq_true rfl), (Nat.le_of_ble_eq_true rfl)⟩) hS (fun q _ h => hFc q h) hFc (fun rn44 u t H1 locs ht hvm hw hB hz1 hk1 hS => ?_)
  obtain ⟨hP1, hD1⟩ := hB
  rw [ht] at hP1
  obtain ⟨hP, hD⟩ := va_join (wr := [(r1, .inr (9, [.ref g1, .ref g2, .ref g3, .int 1])), (g1, .inl (cA 0, 701, .inl fk))]) (w1 := []) hP hD [] [0, 1] rfl rfl (by decide) (by decide) hk1 hFc hP1 hD1
  generalize H1 = H at hP hS ⊢
  have hP : va_P D vwCl [(r1, .inr (9, [.ref g1, .ref g2, .ref g3, .int 1])), (g1, .inl (cA 0, 701, .inl fk))] H := hP
  have hD : va_D A [(r1, .inr (9, [.ref g1, .ref g2, .ref g3, .int 1])), (g1, .inl (cA 0, 701, .inl fk))] := hD
  refine lv_lstore_n (lv' := [(2, .long rn44), (1, .int 15), (4, .int 1), (0, .ref r1)]) hx hb dX5_markKeywords_16 rfl hl (by decide) rfl (fun ls hl => ?_)
  refine lv_iconst (v := 0) hx hb dX5_markKeywords_17 (by decide) ?_
  refine lv_istore (lv' := [(4, .int 0), (2, .long rn44), (1, .int 15), (0, .ref r1)]) hx hb dX5_markKeywords_18 hl (by decide) rfl (fun ls hl => ?_)
  refine lv_iload hx hb dX5_markKeywords_20 (lv_at hl 0 rfl) ?_
  refine lv_aload_n hx hb dX5_markKeywords_22 rfl (lv_at hl 3 rfl) ?_
  refine va_get (D := D) (ci := 9) (v := .int 1) (C := RX5) (T := TX5) (N := 4) hx hb hts inX5 hown hK hP 0 rfl rfl 3 (by decide) (hts (.fieldLink RX5 22 "EscrowDesk$Scanner" "count" "I") (by decide +kernel)) (fun _ h9 => h9) rfl dX5_markKeywords_23 ?_
  refine lv_icmp_ge (tgt := 66) hx hb dX5_markKeywords_26 (by decide) (fun c9 => absurd c9 (by decide)) (fun c45 => ?_)
  refine lv_aload_n hx hb dX5_markKeywords_29 rfl (lv_at hl 3 rfl) ?_
  refine va_get (D := D) (ci := 9) (v := .ref g1) (C := RX5) (T := TX5) (N := 4) hx hb hts inX5 hown hK hP 0 rfl rfl 0 (by decide) (hts (.fieldLink RX5 9 "EscrowDesk$Scanner" "kinds" "[I") (by decide +kernel)) (fun _ h9 => h9) rfl dX5_markKeywords_30 ?_
  refine lv_iload hx hb dX5_markKeywords_33 (lv_at hl 0 rfl) ?_
  refine va_iald hx hb hK hP 1 0 rfl rfl (vp_in_iff.mpr (by decide)) dX5_markKeywords_35 ?_
  refine lv_topi (fun yn46 eyn46 => ?_)
  obtain rfl : yn46 = 1 := eyn46.trans hk
  refine lv_iconst (v := 4) hx hb dX5_markKeywords_36 (by decide) ?_
  refine lv_icmp_ne (tgt := 60) hx hb dX5_markKeywords_37 (by decide) (fun c47 => ?_) (fun c9 => absurd c9 (by decide))
  refine lv_iinc (v := 1) (lv' := [(4, .int 1), (2, .long rn44), (1, .int 15), (0, .ref r1)]) hx hb dX5_markKeywords_60 hl (k := 0) rfl (by first | rfl | decide +kernel) (by decide) rfl (fun ls hl => ?_)
  refine lv_goto (tgt := 20) hx hb dX5_markKeywords_63 (by decide) ?_
  refine lv_iload hx hb dX5_markKeywords_20 (lv_at hl 0 rfl) ?_
  refine lv_aload_n hx hb dX5_markKeywords_22 rfl (lv_at hl 3 rfl) ?_
  refine va_get (D := D) (ci := 9) (v := .int 1) (C := RX5) (T := TX5) (N := 4) hx hb hts inX5 hown hK hP 0 rfl rfl 3 (by decide) (hts (.fieldLink RX5 22 "EscrowDesk$Scanner" "count" "I") (by decide +kernel)) (fun _ h9 => h9) rfl dX5_markKeywords_23 ?_
  refine lv_icmp_ge (tgt := 66) hx hb dX5_markKeywords_26 (by decide) (fun c48 => ?_) (fun c9 => absurd c9 (by decide))
  refine lv_iinc (v := 16) (lv' := [(1, .int 16), (4, .int 1), (2, .long rn44), (0, .ref r1)]) hx hb dX5_markKeywords_66 hl (k := 2) rfl (by first | rfl | decide +kernel) (by decide) rfl (fun ls hl => ?_)
  refine lv_goto (tgt := 3) hx hb dX5_markKeywords_69 (by decide) ?_
  refine lv_iload_n hx hb dX5_markKeywords_3 rfl (lv_at hl 0 rfl) ?_
  refine lv_bipush (v := 22) hx hb dX5_markKeywords_4 (by decide) ?_
  refine lv_icmp_gt (tgt := 72) hx hb dX5_markKeywords_6 (by decide) (fun c9 => absurd c9 (by decide)) (fun c49 => ?_)
  refine lv_iload_n hx hb dX5_markKeywords_9 rfl (lv_at hl 0 rfl) ?_
  have hPc := hP.sub (ws' := []) [] rfl
  have hDc := hD.sub (ws' := []) [] (by decide) rfl
  have hFc := va_free (wc := []) hD hS hA [] rfl
  refine va_callr (va_runS (As := [.int 16]) (rest := []) ⟨hx, hb, hml, hown, hts⟩ (c_spell_16 l D cA sa  H.size) (va_cwS 1 hts gX5_markKeywords_X7_spelling rfl rfl rfl (by decide +kernel) ⟨(Nat.le_of_ble_eq_true rfl), (Nat.le_of_ble_eq_true rfl)⟩) ⟨Wd.blind, fun U hU hW => ⟨rfl, Wd.call hPc hDc hK hC hZ hS hFc U hU hW⟩⟩ rfl rfl hl.1 rfl (lv_room (Nat.le_of_ble_eq_true rfl)) dX5_markKeywords_10 ⟨(Nat.le_of_ble_eq_true rfl), (Nat.le_of_ble_eq_true rfl)⟩) hS (fun q _ h => hFc q h) hFc (fun u ra t H1 locs ht hvm hw hB hz1 hk1 hS => ?_)
  obtain ⟨rfl, hP1, hD1⟩ := hB
  rw [ht] at hP1
  obtain ⟨hP, hD⟩ := va_join (wr := [(r1, .inr (9, [.ref g1, .ref g2, .ref g3, .int 1])), (g1, .inl (cA 0, 701, .inl fk))]) (w1 := []) hP hD [] [0, 1] rfl rfl (by decide) (by decide) hk1 hFc hP1 hD1
  generalize H1 = H at hP hS ⊢
  have hP : va_P D vwCl [(r1, .inr (9, [.ref g1, .ref g2, .ref g3, .int 1])), (g1, .inl (cA 0, 701, .inl fk))] H := hP
  have hD : va_D A [(r1, .inr (9, [.ref g1, .ref g2, .ref g3, .int 1])), (g1, .inl (cA 0, 701, .inl fk))] := hD
  have hPc := hP.sub (ws' := []) [] rfl
  have hDc := hD.sub (ws' := []) [] (by decide) rfl
  have hFc := va_free (wc := []) hD hS hA [] rfl
  refine va_calll (va_runS (As := [.ref (sa 9)]) (rest := []) ⟨hx, hb, hml, hown, hts⟩ (c_packed l D cA sa 9 ([110, 111, 116]) H.size (by decide +kernel)) (va_cwS 1 hts gX5_markKeywords_X8_packed rfl rfl rfl (by decide +kernel) ⟨(Nat.le_of_ble_eq_true rfl), (Nat.le_of_ble_eq_true rfl)⟩) ⟨Wd.blind, fun U hU hW => ⟨rfl, Wd.call hPc hDc hK hC hZ hS hFc U hU hW⟩⟩ rfl rfl hl.1 rfl (lv_room (Nat.le_of_ble_eq_true rfl)) dX5_markKeywords_13 ⟨(Nat.le_of_ble_eq_true rfl), (Nat.le_of_ble_eq_true rfl)⟩) hS (fun q _ h => hFc q h) hFc (fun rn50 u t H1 locs ht hvm hw hB hz1 hk1 hS => ?_)
  obtain ⟨hP1, hD1⟩ := hB
  rw [ht] at hP1
  obtain ⟨hP, hD⟩ := va_join (wr := [(r1, .inr (9, [.ref g1, .ref g2, .ref g3, .int 1])), (g1, .inl (cA 0, 701, .inl fk))]) (w1 := []) hP hD [] [0, 1] rfl rfl (by decide) (by decide) hk1 hFc hP1 hD1
  generalize H1 = H at hP hS ⊢
  have hP : va_P D vwCl [(r1, .inr (9, [.ref g1, .ref g2, .ref g3, .int 1])), (g1, .inl (cA 0, 701, .inl fk))] H := hP
  have hD : va_D A [(r1, .inr (9, [.ref g1, .ref g2, .ref g3, .int 1])), (g1, .inl (cA 0, 701, .inl fk))] := hD
  refine lv_lstore_n (lv' := [(2, .long rn50), (1, .int 16), (4, .int 1), (0, .ref r1)]) hx hb dX5_markKeywords_16 rfl hl (by decide) rfl (fun ls hl => ?_)
  refine lv_iconst (v := 0) hx hb dX5_markKeywords_17 (by decide) ?_
  refine lv_istore (lv' := [(4, .int 0), (2, .long rn50), (1, .int 16), (0, .ref r1)]) hx hb dX5_markKeywords_18 hl (by decide) rfl (fun ls hl => ?_)
  refine lv_iload hx hb dX5_markKeywords_20 (lv_at hl 0 rfl) ?_
  refine lv_aload_n hx hb dX5_markKeywords_22 rfl (lv_at hl 3 rfl) ?_
  refine va_get (D := D) (ci := 9) (v := .int 1) (C := RX5) (T := TX5) (N := 4) hx hb hts inX5 hown hK hP 0 rfl rfl 3 (by decide) (hts (.fieldLink RX5 22 "EscrowDesk$Scanner" "count" "I") (by decide +kernel)) (fun _ h9 => h9) rfl dX5_markKeywords_23 ?_
  refine lv_icmp_ge (tgt := 66) hx hb dX5_markKeywords_26 (by decide) (fun c9 => absurd c9 (by decide)) (fun c51 => ?_)
  refine lv_aload_n hx hb dX5_markKeywords_29 rfl (lv_at hl 3 rfl) ?_
  refine va_get (D := D) (ci := 9) (v := .ref g1) (C := RX5) (T := TX5) (N := 4) hx hb hts inX5 hown hK hP 0 rfl rfl 0 (by decide) (hts (.fieldLink RX5 9 "EscrowDesk$Scanner" "kinds" "[I") (by decide +kernel)) (fun _ h9 => h9) rfl dX5_markKeywords_30 ?_
  refine lv_iload hx hb dX5_markKeywords_33 (lv_at hl 0 rfl) ?_
  refine va_iald hx hb hK hP 1 0 rfl rfl (vp_in_iff.mpr (by decide)) dX5_markKeywords_35 ?_
  refine lv_topi (fun yn52 eyn52 => ?_)
  obtain rfl : yn52 = 1 := eyn52.trans hk
  refine lv_iconst (v := 4) hx hb dX5_markKeywords_36 (by decide) ?_
  refine lv_icmp_ne (tgt := 60) hx hb dX5_markKeywords_37 (by decide) (fun c53 => ?_) (fun c9 => absurd c9 (by decide))
  refine lv_iinc (v := 1) (lv' := [(4, .int 1), (2, .long rn50), (1, .int 16), (0, .ref r1)]) hx hb dX5_markKeywords_60 hl (k := 0) rfl (by first | rfl | decide +kernel) (by decide) rfl (fun ls hl => ?_)
  refine lv_goto (tgt := 20) hx hb dX5_markKeywords_63 (by decide) ?_
  refine lv_iload hx hb dX5_markKeywords_20 (lv_at hl 0 rfl) ?_
  refine lv_aload_n hx hb dX5_markKeywords_22 rfl (lv_at hl 3 rfl) ?_
  refine va_get (D := D) (ci := 9) (v := .int 1) (C := RX5) (T := TX5) (N := 4) hx hb hts inX5 hown hK hP 0 rfl rfl 3 (by decide) (hts (.fieldLink RX5 22 "EscrowDesk$Scanner" "count" "I") (by decide +kernel)) (fun _ h9 => h9) rfl dX5_markKeywords_23 ?_
  refine lv_icmp_ge (tgt := 66) hx hb dX5_markKeywords_26 (by decide) (fun c54 => ?_) (fun c9 => absurd c9 (by decide))
  refine lv_iinc (v := 17) (lv' := [(1, .int 17), (4, .int 1), (2, .long rn50), (0, .ref r1)]) hx hb dX5_markKeywords_66 hl (k := 2) rfl (by first | rfl | decide +kernel) (by decide) rfl (fun ls hl => ?_)
  refine lv_goto (tgt := 3) hx hb dX5_markKeywords_69 (by decide) ?_
  refine lv_iload_n hx hb dX5_markKeywords_3 rfl (lv_at hl 0 rfl) ?_
  refine lv_bipush (v := 22) hx hb dX5_markKeywords_4 (by decide) ?_
  refine lv_icmp_gt (tgt := 72) hx hb dX5_markKeywords_6 (by decide) (fun c9 => absurd c9 (by decide)) (fun c55 => ?_)
  refine lv_iload_n hx hb dX5_markKeywords_9 rfl (lv_at hl 0 rfl) ?_
  have hPc := hP.sub (ws' := []) [] rfl
  have hDc := hD.sub (ws' := []) [] (by decide) rfl
  have hFc := va_free (wc := []) hD hS hA [] rfl
  refine va_callr (va_runS (As := [.int 17]) (rest := []) ⟨hx, hb, hml, hown, hts⟩ (c_spell_17 l D cA sa  H.size) (va_cwS 1 hts gX5_markKeywords_X7_spelling rfl rfl rfl (by decide +kernel) ⟨(Nat.le_of_ble_eq_true rfl), (Nat.le_of_ble_eq_true rfl)⟩) ⟨Wd.blind, fun U hU hW => ⟨rfl, Wd.call hPc hDc hK hC hZ hS hFc U hU hW⟩⟩ rfl rfl hl.1 rfl (lv_room (Nat.le_of_ble_eq_true rfl)) dX5_markKeywords_10 ⟨(Nat.le_of_ble_eq_true rfl), (Nat.le_of_ble_eq_true rfl)⟩) hS (fun q _ h => hFc q h) hFc (fun u ra t H1 locs ht hvm hw hB hz1 hk1 hS => ?_)
  obtain ⟨rfl, hP1, hD1⟩ := hB
  rw [ht] at hP1
  obtain ⟨hP, hD⟩ := va_join (wr := [(r1, .inr (9, [.ref g1, .ref g2, .ref g3, .int 1])), (g1, .inl (cA 0, 701, .inl fk))]) (w1 := []) hP hD [] [0, 1] rfl rfl (by decide) (by decide) hk1 hFc hP1 hD1
  generalize H1 = H at hP hS ⊢
  have hP : va_P D vwCl [(r1, .inr (9, [.ref g1, .ref g2, .ref g3, .int 1])), (g1, .inl (cA 0, 701, .inl fk))] H := hP
  have hD : va_D A [(r1, .inr (9, [.ref g1, .ref g2, .ref g3, .int 1])), (g1, .inl (cA 0, 701, .inl fk))] := hD
  have hPc := hP.sub (ws' := []) [] rfl
  have hDc := hD.sub (ws' := []) [] (by decide) rfl
  have hFc := va_free (wc := []) hD hS hA [] rfl
  refine va_calll (va_runS (As := [.ref (sa 10)]) (rest := []) ⟨hx, hb, hml, hown, hts⟩ (c_packed l D cA sa 10 ([100, 97, 121]) H.size (by decide +kernel)) (va_cwS 1 hts gX5_markKeywords_X8_packed rfl rfl rfl (by decide +kernel) ⟨(Nat.le_of_ble_eq_true rfl), (Nat.le_of_ble_eq_true rfl)⟩) ⟨Wd.blind, fun U hU hW => ⟨rfl, Wd.call hPc hDc hK hC hZ hS hFc U hU hW⟩⟩ rfl rfl hl.1 rfl (lv_room (Nat.le_of_ble_eq_true rfl)) dX5_markKeywords_13 ⟨(Nat.le_of_ble_eq_true rfl), (Nat.le_of_ble_eq_true rfl)⟩) hS (fun q _ h => hFc q h) hFc (fun rn56 u t H1 locs ht hvm hw hB hz1 hk1 hS => ?_)
  obtain ⟨hP1, hD1⟩ := hB
  rw [ht] at hP1
  obtain ⟨hP, hD⟩ := va_join (wr := [(r1, .inr (9, [.ref g1, .ref g2, .ref g3, .int 1])), (g1, .inl (cA 0, 701, .inl fk))]) (w1 := []) hP hD [] [0, 1] rfl rfl (by decide) (by decide) hk1 hFc hP1 hD1
  generalize H1 = H at hP hS ⊢
  have hP : va_P D vwCl [(r1, .inr (9, [.ref g1, .ref g2, .ref g3, .int 1])), (g1, .inl (cA 0, 701, .inl fk))] H := hP
  have hD : va_D A [(r1, .inr (9, [.ref g1, .ref g2, .ref g3, .int 1])), (g1, .inl (cA 0, 701, .inl fk))] := hD
  refine lv_lstore_n (lv' := [(2, .long rn56), (1, .int 17), (4, .int 1), (0, .ref r1)]) hx hb dX5_markKeywords_16 rfl hl (by decide) rfl (fun ls hl => ?_)
  refine lv_iconst (v := 0) hx hb dX5_markKeywords_17 (by decide) ?_
  refine lv_istore (lv' := [(4, .int 0), (2, .long rn56), (1, .int 17), (0, .ref r1)]) hx hb dX5_markKeywords_18 hl (by decide) rfl (fun ls hl => ?_)
  refine lv_iload hx hb dX5_markKeywords_20 (lv_at hl 0 rfl) ?_
  refine lv_aload_n hx hb dX5_markKeywords_22 rfl (lv_at hl 3 rfl) ?_
  refine va_get (D := D) (ci := 9) (v := .int 1) (C := RX5) (T := TX5) (N := 4) hx hb hts inX5 hown hK hP 0 rfl rfl 3 (by decide) (hts (.fieldLink RX5 22 "EscrowDesk$Scanner" "count" "I") (by decide +kernel)) (fun _ h9 => h9) rfl dX5_markKeywords_23 ?_
  refine lv_icmp_ge (tgt := 66) hx hb dX5_markKeywords_26 (by decide) (fun c9 => absurd c9 (by decide)) (fun c57 => ?_)
  refine lv_aload_n hx hb dX5_markKeywords_29 rfl (lv_at hl 3 rfl) ?_
  refine va_get (D := D) (ci := 9) (v := .ref g1) (C := RX5) (T := TX5) (N := 4) hx hb hts inX5 hown hK hP 0 rfl rfl 0 (by decide) (hts (.fieldLink RX5 9 "EscrowDesk$Scanner" "kinds" "[I") (by decide +kernel)) (fun _ h9 => h9) rfl dX5_markKeywords_30 ?_
  refine lv_iload hx hb dX5_markKeywords_33 (lv_at hl 0 rfl) ?_
  refine va_iald hx hb hK hP 1 0 rfl rfl (vp_in_iff.mpr (by decide)) dX5_markKeywords_35 ?_
  refine lv_topi (fun yn58 eyn58 => ?_)
  obtain rfl : yn58 = 1 := eyn58.trans hk
  refine lv_iconst (v := 4) hx hb dX5_markKeywords_36 (by decide) ?_
  refine lv_icmp_ne (tgt := 60) hx hb dX5_markKeywords_37 (by decide) (fun c59 => ?_) (fun c9 => absurd c9 (by decide))
  refine lv_iinc (v := 1) (lv' := [(4, .int 1), (2, .long rn56), (1, .int 17), (0, .ref r1)]) hx hb dX5_markKeywords_60 hl (k := 0) rfl (by first | rfl | decide +kernel) (by decide) rfl (fun ls hl => ?_)
  refine lv_goto (tgt := 20) hx hb dX5_markKeywords_63 (by decide) ?_
  refine lv_iload hx hb dX5_markKeywords_20 (lv_at hl 0 rfl) ?_
  refine lv_aload_n hx hb dX5_markKeywords_22 rfl (lv_at hl 3 rfl) ?_
  refine va_get (D := D) (ci := 9) (v := .int 1) (C := RX5) (T := TX5) (N := 4) hx hb hts inX5 hown hK hP 0 rfl rfl 3 (by decide) (hts (.fieldLink RX5 22 "EscrowDesk$Scanner" "count" "I") (by decide +kernel)) (fun _ h9 => h9) rfl dX5_markKeywords_23 ?_
  refine lv_icmp_ge (tgt := 66) hx hb dX5_markKeywords_26 (by decide) (fun c60 => ?_) (fun c9 => absurd c9 (by decide))
  refine lv_iinc (v := 18) (lv' := [(1, .int 18), (4, .int 1), (2, .long rn56), (0, .ref r1)]) hx hb dX5_markKeywords_66 hl (k := 2) rfl (by first | rfl | decide +kernel) (by decide) rfl (fun ls hl => ?_)
  refine lv_goto (tgt := 3) hx hb dX5_markKeywords_69 (by decide) ?_
  refine lv_iload_n hx hb dX5_markKeywords_3 rfl (lv_at hl 0 rfl) ?_
  refine lv_bipush (v := 22) hx hb dX5_markKeywords_4 (by decide) ?_
  refine lv_icmp_gt (tgt := 72) hx hb dX5_markKeywords_6 (by decide) (fun c9 => absurd c9 (by decide)) (fun c61 => ?_)
  refine lv_iload_n hx hb dX5_markKeywords_9 rfl (lv_at hl 0 rfl) ?_
  have hPc := hP.sub (ws' := []) [] rfl
  have hDc := hD.sub (ws' := []) [] (by decide) rfl
  have hFc := va_free (wc := []) hD hS hA [] rfl
  refine va_callr (va_runS (As := [.int 18]) (rest := []) ⟨hx, hb, hml, hown, hts⟩ (c_spell_18 l D cA sa  H.size) (va_cwS 1 hts gX5_markKeywords_X7_spelling rfl rfl rfl (by decide +kernel) ⟨(Nat.le_of_ble_eq_true rfl), (Nat.le_of_ble_eq_true rfl)⟩) ⟨Wd.blind, fun U hU hW => ⟨rfl, Wd.call hPc hDc hK hC hZ hS hFc U hU hW⟩⟩ rfl rfl hl.1 rfl (lv_room (Nat.le_of_ble_eq_true rfl)) dX5_markKeywords_10 ⟨(Nat.le_of_ble_eq_true rfl), (Nat.le_of_ble_eq_true rfl)⟩) hS (fun q _ h => hFc q h) hFc (fun u ra t H1 locs ht hvm hw hB hz1 hk1 hS => ?_)
  obtain ⟨rfl, hP1, hD1⟩ := hB
  rw [ht] at hP1
  obtain ⟨hP, hD⟩ := va_join (wr := [(r1, .inr (9, [.ref g1, .ref g2, .ref g3, .int 1])), (g1, .inl (cA 0, 701, .inl fk))]) (w1 := []) hP hD [] [0, 1] rfl rfl (by decide) (by decide) hk1 hFc hP1 hD1
  generalize H1 = H at hP hS ⊢
  have hP : va_P D vwCl [(r1, .inr (9, [.ref g1, .ref g2, .ref g3, .int 1])), (g1, .inl (cA 0, 701, .inl fk))] H := hP
  have hD : va_D A [(r1, .inr (9, [.ref g1, .ref g2, .ref g3, .int 1])), (g1, .inl (cA 0, 701, .inl fk))] := hD
  have hPc := hP.sub (ws' := []) [] rfl
  have hDc := hD.sub (ws' := []) [] (by decide) rfl
  have hFc := va_free (wc := []) hD hS hA [] rfl
  refine va_calll (va_runS (As := [.ref (sa 11)]) (rest := []) ⟨hx, hb, hml, hown, hts⟩ (c_packed l D cA sa 11 ([112, 114, 111, 111, 102]) H.size (by decide +kernel)) (va_cwS 1 hts gX5_markKeywords_X8_packed rfl rfl rfl (by decide +kernel) ⟨(Nat.le_of_ble_eq_true rfl), (Nat.le_of_ble_eq_true rfl)⟩) ⟨Wd.blind, fun U hU hW => ⟨rfl, Wd.call hPc hDc hK hC hZ hS hFc U hU hW⟩⟩ rfl rfl hl.1 rfl (lv_room (Nat.le_of_ble_eq_true rfl)) dX5_markKeywords_13 ⟨(Nat.le_of_ble_eq_true rfl), (Nat.le_of_ble_eq_true rfl)⟩) hS (fun q _ h => hFc q h) hFc (fun rn62 u t H1 locs ht hvm hw hB hz1 hk1 hS => ?_)
  obtain ⟨hP1, hD1⟩ := hB
  rw [ht] at hP1
  obtain ⟨hP, hD⟩ := va_join (wr := [(r1, .inr (9, [.ref g1, .ref g2, .ref g3, .int 1])), (g1, .inl (cA 0, 701, .inl fk))]) (w1 := []) hP hD [] [0, 1] rfl rfl (by decide) (by decide) hk1 hFc hP1 hD1
  generalize H1 = H at hP hS ⊢
  have hP : va_P D vwCl [(r1, .inr (9, [.ref g1, .ref g2, .ref g3, .int 1])), (g1, .inl (cA 0, 701, .inl fk))] H := hP
  have hD : va_D A [(r1, .inr (9, [.ref g1, .ref g2, .ref g3, .int 1])), (g1, .inl (cA 0, 701, .inl fk))] := hD
  refine lv_lstore_n (lv' := [(2, .long rn62), (1, .int 18), (4, .int 1), (0, .ref r1)]) hx hb dX5_markKeywords_16 rfl hl (by decide) rfl (fun ls hl => ?_)
  refine lv_iconst (v := 0) hx hb dX5_markKeywords_17 (by decide) ?_
  refine lv_istore (lv' := [(4, .int 0), (2, .long rn62), (1, .int 18), (0, .ref r1)]) hx hb dX5_markKeywords_18 hl (by decide) rfl (fun ls hl => ?_)
  refine lv_iload hx hb dX5_markKeywords_20 (lv_at hl 0 rfl) ?_
  refine lv_aload_n hx hb dX5_markKeywords_22 rfl (lv_at hl 3 rfl) ?_
  refine va_get (D := D) (ci := 9) (v := .int 1) (C := RX5) (T := TX5) (N := 4) hx hb hts inX5 hown hK hP 0 rfl rfl 3 (by decide) (hts (.fieldLink RX5 22 "EscrowDesk$Scanner" "count" "I") (by decide +kernel)) (fun _ h9 => h9) rfl dX5_markKeywords_23 ?_
  refine lv_icmp_ge (tgt := 66) hx hb dX5_markKeywords_26 (by decide) (fun c9 => absurd c9 (by decide)) (fun c63 => ?_)
  refine lv_aload_n hx hb dX5_markKeywords_29 rfl (lv_at hl 3 rfl) ?_
  refine va_get (D := D) (ci := 9) (v := .ref g1) (C := RX5) (T := TX5) (N := 4) hx hb hts inX5 hown hK hP 0 rfl rfl 0 (by decide) (hts (.fieldLink RX5 9 "EscrowDesk$Scanner" "kinds" "[I") (by decide +kernel)) (fun _ h9 => h9) rfl dX5_markKeywords_30 ?_
  refine lv_iload hx hb dX5_markKeywords_33 (lv_at hl 0 rfl) ?_
  refine va_iald hx hb hK hP 1 0 rfl rfl (vp_in_iff.mpr (by decide)) dX5_markKeywords_35 ?_
  refine lv_topi (fun yn64 eyn64 => ?_)
  obtain rfl : yn64 = 1 := eyn64.trans hk
  refine lv_iconst (v := 4) hx hb dX5_markKeywords_36 (by decide) ?_
  refine lv_icmp_ne (tgt := 60) hx hb dX5_markKeywords_37 (by decide) (fun c65 => ?_) (fun c9 => absurd c9 (by decide))
  refine lv_iinc (v := 1) (lv' := [(4, .int 1), (2, .long rn62), (1, .int 18), (0, .ref r1)]) hx hb dX5_markKeywords_60 hl (k := 0) rfl (by first | rfl | decide +kernel) (by decide) rfl (fun ls hl => ?_)
  refine lv_goto (tgt := 20) hx hb dX5_markKeywords_63 (by decide) ?_
  refine lv_iload hx hb dX5_markKeywords_20 (lv_at hl 0 rfl) ?_
  refine lv_aload_n hx hb dX5_markKeywords_22 rfl (lv_at hl 3 rfl) ?_
  refine va_get (D := D) (ci := 9) (v := .int 1) (C := RX5) (T := TX5) (N := 4) hx hb hts inX5 hown hK hP 0 rfl rfl 3 (by decide) (hts (.fieldLink RX5 22 "EscrowDesk$Scanner" "count" "I") (by decide +kernel)) (fun _ h9 => h9) rfl dX5_markKeywords_23 ?_
  refine lv_icmp_ge (tgt := 66) hx hb dX5_markKeywords_26 (by decide) (fun c66 => ?_) (fun c9 => absurd c9 (by decide))
  refine lv_iinc (v := 19) (lv' := [(1, .int 19), (4, .int 1), (2, .long rn62), (0, .ref r1)]) hx hb dX5_markKeywords_66 hl (k := 2) rfl (by first | rfl | decide +kernel) (by decide) rfl (fun ls hl => ?_)
  refine lv_goto (tgt := 3) hx hb dX5_markKeywords_69 (by decide) ?_
  refine lv_iload_n hx hb dX5_markKeywords_3 rfl (lv_at hl 0 rfl) ?_
  refine lv_bipush (v := 22) hx hb dX5_markKeywords_4 (by decide) ?_
  refine lv_icmp_gt (tgt := 72) hx hb dX5_markKeywords_6 (by decide) (fun c9 => absurd c9 (by decide)) (fun c67 => ?_)
  refine lv_iload_n hx hb dX5_markKeywords_9 rfl (lv_at hl 0 rfl) ?_
  have hPc := hP.sub (ws' := []) [] rfl
  have hDc := hD.sub (ws' := []) [] (by decide) rfl
  have hFc := va_free (wc := []) hD hS hA [] rfl
  refine va_callr (va_runS (As := [.int 19]) (rest := []) ⟨hx, hb, hml, hown, hts⟩ (c_spell_19 l D cA sa  H.size) (va_cwS 1 hts gX5_markKeywords_X7_spelling rfl rfl rfl (by decide +kernel) ⟨(Nat.le_of_ble_eq_true rfl), (Nat.le_of_ble_eq_true rfl)⟩) ⟨Wd.blind, fun U hU hW => ⟨rfl, Wd.call hPc hDc hK hC hZ hS hFc U hU hW⟩⟩ rfl rfl hl.1 rfl (lv_room (Nat.le_of_ble_eq_true rfl)) dX5_markKeywords_10 ⟨(Nat.le_of_ble_eq_true rfl), (Nat.le_of_ble_eq_true rfl)⟩) hS (fun q _ h => hFc q h) hFc (fun u ra t H1 locs ht hvm hw hB hz1 hk1 hS => ?_)
  obtain ⟨rfl, hP1, hD1⟩ := hB
  rw [ht] at hP1
  obtain ⟨hP, hD⟩ := va_join (wr := [(r1, .inr (9, [.ref g1, .ref g2, .ref g3, .int 1])), (g1, .inl (cA 0, 701, .inl fk))]) (w1 := []) hP hD [] [0, 1] rfl rfl (by decide) (by decide) hk1 hFc hP1 hD1
  generalize H1 = H at hP hS ⊢
  have hP : va_P D vwCl [(r1, .inr (9, [.ref g1, .ref g2, .ref g3, .int 1])), (g1, .inl (cA 0, 701, .inl fk))] H := hP
  have hD : va_D A [(r1, .inr (9, [.ref g1, .ref g2, .ref g3, .int 1])), (g1, .inl (cA 0, 701, .inl fk))] := hD
  have hPc := hP.sub (ws' := []) [] rfl
  have hDc := hD.sub (ws' := []) [] (by decide) rfl
  have hFc := va_free (wc := []) hD hS hA [] rfl
  refine va_calll (va_runS (As := [.ref (sa 12)]) (rest := []) ⟨hx, hb, hml, hown, hts⟩ (c_packed l D cA sa 12 ([100, 111, 110, 101]) H.size (by decide +kernel)) (va_cwS 1 hts gX5_markKeywords_X8_packed rfl rfl rfl (by decide +kernel) ⟨(Nat.le_of_ble_eq_true rfl), (Nat.le_of_ble_eq_true rfl)⟩) ⟨Wd.blind, fun U hU hW => ⟨rfl, Wd.call hPc hDc hK hC hZ hS hFc U hU hW⟩⟩ rfl rfl hl.1 rfl (lv_room (Nat.le_of_ble_eq_true rfl)) dX5_markKeywords_13 ⟨(Nat.le_of_ble_eq_true rfl), (Nat.le_of_ble_eq_true rfl)⟩) hS (fun q _ h => hFc q h) hFc (fun rn68 u t H1 locs ht hvm hw hB hz1 hk1 hS => ?_)
  obtain ⟨hP1, hD1⟩ := hB
  rw [ht] at hP1
  obtain ⟨hP, hD⟩ := va_join (wr := [(r1, .inr (9, [.ref g1, .ref g2, .ref g3, .int 1])), (g1, .inl (cA 0, 701, .inl fk))]) (w1 := []) hP hD [] [0, 1] rfl rfl (by decide) (by decide) hk1 hFc hP1 hD1
  generalize H1 = H at hP hS ⊢
  have hP : va_P D vwCl [(r1, .inr (9, [.ref g1, .ref g2, .ref g3, .int 1])), (g1, .inl (cA 0, 701, .inl fk))] H := hP
  have hD : va_D A [(r1, .inr (9, [.ref g1, .ref g2, .ref g3, .int 1])), (g1, .inl (cA 0, 701, .inl fk))] := hD
  refine lv_lstore_n (lv' := [(2, .long rn68), (1, .int 19), (4, .int 1), (0, .ref r1)]) hx hb dX5_markKeywords_16 rfl hl (by decide) rfl (fun ls hl => ?_)
  refine lv_iconst (v := 0) hx hb dX5_markKeywords_17 (by decide) ?_
  refine lv_istore (lv' := [(4, .int 0), (2, .long rn68), (1, .int 19), (0, .ref r1)]) hx hb dX5_markKeywords_18 hl (by decide) rfl (fun ls hl => ?_)
  refine lv_iload hx hb dX5_markKeywords_20 (lv_at hl 0 rfl) ?_
  refine lv_aload_n hx hb dX5_markKeywords_22 rfl (lv_at hl 3 rfl) ?_
  refine va_get (D := D) (ci := 9) (v := .int 1) (C := RX5) (T := TX5) (N := 4) hx hb hts inX5 hown hK hP 0 rfl rfl 3 (by decide) (hts (.fieldLink RX5 22 "EscrowDesk$Scanner" "count" "I") (by decide +kernel)) (fun _ h9 => h9) rfl dX5_markKeywords_23 ?_
  refine lv_icmp_ge (tgt := 66) hx hb dX5_markKeywords_26 (by decide) (fun c9 => absurd c9 (by decide)) (fun c69 => ?_)
  refine lv_aload_n hx hb dX5_markKeywords_29 rfl (lv_at hl 3 rfl) ?_
  refine va_get (D := D) (ci := 9) (v := .ref g1) (C := RX5) (T := TX5) (N := 4) hx hb hts inX5 hown hK hP 0 rfl rfl 0 (by decide) (hts (.fieldLink RX5 9 "EscrowDesk$Scanner" "kinds" "[I") (by decide +kernel)) (fun _ h9 => h9) rfl dX5_markKeywords_30 ?_
  refine lv_iload hx hb dX5_markKeywords_33 (lv_at hl 0 rfl) ?_
  refine va_iald hx hb hK hP 1 0 rfl rfl (vp_in_iff.mpr (by decide)) dX5_markKeywords_35 ?_
  refine lv_topi (fun yn70 eyn70 => ?_)
  obtain rfl : yn70 = 1 := eyn70.trans hk
  refine lv_iconst (v := 4) hx hb dX5_markKeywords_36 (by decide) ?_
  refine lv_icmp_ne (tgt := 60) hx hb dX5_markKeywords_37 (by decide) (fun c71 => ?_) (fun c9 => absurd c9 (by decide))
  refine lv_iinc (v := 1) (lv' := [(4, .int 1), (2, .long rn68), (1, .int 19), (0, .ref r1)]) hx hb dX5_markKeywords_60 hl (k := 0) rfl (by first | rfl | decide +kernel) (by decide) rfl (fun ls hl => ?_)
  refine lv_goto (tgt := 20) hx hb dX5_markKeywords_63 (by decide) ?_
  refine lv_iload hx hb dX5_markKeywords_20 (lv_at hl 0 rfl) ?_
  refine lv_aload_n hx hb dX5_markKeywords_22 rfl (lv_at hl 3 rfl) ?_
  refine va_get (D := D) (ci := 9) (v := .int 1) (C := RX5) (T := TX5) (N := 4) hx hb hts inX5 hown hK hP 0 rfl rfl 3 (by decide) (hts (.fieldLink RX5 22 "EscrowDesk$Scanner" "count" "I") (by decide +kernel)) (fun _ h9 => h9) rfl dX5_markKeywords_23 ?_
  refine lv_icmp_ge (tgt := 66) hx hb dX5_markKeywords_26 (by decide) (fun c72 => ?_) (fun c9 => absurd c9 (by decide))
  refine lv_iinc (v := 20) (lv' := [(1, .int 20), (4, .int 1), (2, .long rn68), (0, .ref r1)]) hx hb dX5_markKeywords_66 hl (k := 2) rfl (by first | rfl | decide +kernel) (by decide) rfl (fun ls hl => ?_)
  refine lv_goto (tgt := 3) hx hb dX5_markKeywords_69 (by decide) ?_
  refine lv_iload_n hx hb dX5_markKeywords_3 rfl (lv_at hl 0 rfl) ?_
  refine lv_bipush (v := 22) hx hb dX5_markKeywords_4 (by decide) ?_
  refine lv_icmp_gt (tgt := 72) hx hb dX5_markKeywords_6 (by decide) (fun c9 => absurd c9 (by decide)) (fun c73 => ?_)
  refine lv_iload_n hx hb dX5_markKeywords_9 rfl (lv_at hl 0 rfl) ?_
  have hPc := hP.sub (ws' := []) [] rfl
  have hDc := hD.sub (ws' := []) [] (by decide) rfl
  have hFc := va_free (wc := []) hD hS hA [] rfl
  refine va_callr (va_runS (As := [.int 20]) (rest := []) ⟨hx, hb, hml, hown, hts⟩ (c_spell_20 l D cA sa  H.size) (va_cwS 1 hts gX5_markKeywords_X7_spelling rfl rfl rfl (by decide +kernel) ⟨(Nat.le_of_ble_eq_true rfl), (Nat.le_of_ble_eq_true rfl)⟩) ⟨Wd.blind, fun U hU hW => ⟨rfl, Wd.call hPc hDc hK hC hZ hS hFc U hU hW⟩⟩ rfl rfl hl.1 rfl (lv_room (Nat.le_of_ble_eq_true rfl)) dX5_markKeywords_10 ⟨(Nat.le_of_ble_eq_true rfl), (Nat.le_of_ble_eq_true rfl)⟩) hS (fun q _ h => hFc q h) hFc (fun u ra t H1 locs ht hvm hw hB hz1 hk1 hS => ?_)
  obtain ⟨rfl, hP1, hD1⟩ := hB
  rw [ht] at hP1
  obtain ⟨hP, hD⟩ := va_join (wr := [(r1, .inr (9, [.ref g1, .ref g2, .ref g3, .int 1])), (g1, .inl (cA 0, 701, .inl fk))]) (w1 := []) hP hD [] [0, 1] rfl rfl (by decide) (by decide) hk1 hFc hP1 hD1
  generalize H1 = H at hP hS ⊢
  have hP : va_P D vwCl [(r1, .inr (9, [.ref g1, .ref g2, .ref g3, .int 1])), (g1, .inl (cA 0, 701, .inl fk))] H := hP
  have hD : va_D A [(r1, .inr (9, [.ref g1, .ref g2, .ref g3, .int 1])), (g1, .inl (cA 0, 701, .inl fk))] := hD
  have hPc := hP.sub (ws' := []) [] rfl
  have hDc := hD.sub (ws' := []) [] (by decide) rfl
  have hFc := va_free (wc := []) hD hS hA [] rfl
  refine va_calll (va_runS (As := [.ref (sa 13)]) (rest := []) ⟨hx, hb, hml, hown, hts⟩ (c_packed l D cA sa 13 ([115, 117, 109]) H.size (by decide +kernel)) (va_cwS 1 hts gX5_markKeywords_X8_packed rfl rfl rfl (by decide +kernel) ⟨(Nat.le_of_ble_eq_true rfl), (Nat.le_of_ble_eq_true rfl)⟩) ⟨Wd.blind, fun U hU hW => ⟨rfl, Wd.call hPc hDc hK hC hZ hS hFc U hU hW⟩⟩ rfl rfl hl.1 rfl (lv_room (Nat.le_of_ble_eq_true rfl)) dX5_markKeywords_13 ⟨(Nat.le_of_ble_eq_true rfl), (Nat.le_of_ble_eq_true rfl)⟩) hS (fun q _ h => hFc q h) hFc (fun rn74 u t H1 locs ht hvm hw hB hz1 hk1 hS => ?_)
  obtain ⟨hP1, hD1⟩ := hB
  rw [ht] at hP1
  obtain ⟨hP, hD⟩ := va_join (wr := [(r1, .inr (9, [.ref g1, .ref g2, .ref g3, .int 1])), (g1, .inl (cA 0, 701, .inl fk))]) (w1 := []) hP hD [] [0, 1] rfl rfl (by decide) (by decide) hk1 hFc hP1 hD1
  generalize H1 = H at hP hS ⊢
  have hP : va_P D vwCl [(r1, .inr (9, [.ref g1, .ref g2, .ref g3, .int 1])), (g1, .inl (cA 0, 701, .inl fk))] H := hP
  have hD : va_D A [(r1, .inr (9, [.ref g1, .ref g2, .ref g3, .int 1])), (g1, .inl (cA 0, 701, .inl fk))] := hD
  refine lv_lstore_n (lv' := [(2, .long rn74), (1, .int 20), (4, .int 1), (0, .ref r1)]) hx hb dX5_markKeywords_16 rfl hl (by decide) rfl (fun ls hl => ?_)
  refine lv_iconst (v := 0) hx hb dX5_markKeywords_17 (by decide) ?_
  refine lv_istore (lv' := [(4, .int 0), (2, .long rn74), (1, .int 20), (0, .ref r1)]) hx hb dX5_markKeywords_18 hl (by decide) rfl (fun ls hl => ?_)
  refine lv_iload hx hb dX5_markKeywords_20 (lv_at hl 0 rfl) ?_
  refine lv_aload_n hx hb dX5_markKeywords_22 rfl (lv_at hl 3 rfl) ?_
  refine va_get (D := D) (ci := 9) (v := .int 1) (C := RX5) (T := TX5) (N := 4) hx hb hts inX5 hown hK hP 0 rfl rfl 3 (by decide) (hts (.fieldLink RX5 22 "EscrowDesk$Scanner" "count" "I") (by decide +kernel)) (fun _ h9 => h9) rfl dX5_markKeywords_23 ?_
  refine lv_icmp_ge (tgt := 66) hx hb dX5_markKeywords_26 (by decide) (fun c9 => absurd c9 (by decide)) (fun c75 => ?_)
  refine lv_aload_n hx hb dX5_markKeywords_29 rfl (lv_at hl 3 rfl) ?_
  refine va_get (D := D) (ci := 9) (v := .ref g1) (C := RX5) (T := TX5) (N := 4) hx hb hts inX5 hown hK hP 0 rfl rfl 0 (by decide) (hts (.fieldLink RX5 9 "EscrowDesk$Scanner" "kinds" "[I") (by decide +kernel)) (fun _ h9 => h9) rfl dX5_markKeywords_30 ?_
  refine lv_iload hx hb dX5_markKeywords_33 (lv_at hl 0 rfl) ?_
  refine va_iald hx hb hK hP 1 0 rfl rfl (vp_in_iff.mpr (by decide)) dX5_markKeywords_35 ?_
  refine lv_topi (fun yn76 eyn76 => ?_)
  obtain rfl : yn76 = 1 := eyn76.trans hk
  refine lv_iconst (v := 4) hx hb dX5_markKeywords_36 (by decide) ?_
  refine lv_icmp_ne (tgt := 60) hx hb dX5_markKeywords_37 (by decide) (fun c77 => ?_) (fun c9 => absurd c9 (by decide))
  refine lv_iinc (v := 1) (lv' := [(4, .int 1), (2, .long rn74), (1, .int 20), (0, .ref r1)]) hx hb dX5_markKeywords_60 hl (k := 0) rfl (by first | rfl | decide +kernel) (by decide) rfl (fun ls hl => ?_)
  refine lv_goto (tgt := 20) hx hb dX5_markKeywords_63 (by decide) ?_
  refine lv_iload hx hb dX5_markKeywords_20 (lv_at hl 0 rfl) ?_
  refine lv_aload_n hx hb dX5_markKeywords_22 rfl (lv_at hl 3 rfl) ?_
  refine va_get (D := D) (ci := 9) (v := .int 1) (C := RX5) (T := TX5) (N := 4) hx hb hts inX5 hown hK hP 0 rfl rfl 3 (by decide) (hts (.fieldLink RX5 22 "EscrowDesk$Scanner" "count" "I") (by decide +kernel)) (fun _ h9 => h9) rfl dX5_markKeywords_23 ?_
  refine lv_icmp_ge (tgt := 66) hx hb dX5_markKeywords_26 (by decide) (fun c78 => ?_) (fun c9 => absurd c9 (by decide))
  refine lv_iinc (v := 21) (lv' := [(1, .int 21), (4, .int 1), (2, .long rn74), (0, .ref r1)]) hx hb dX5_markKeywords_66 hl (k := 2) rfl (by first | rfl | decide +kernel) (by decide) rfl (fun ls hl => ?_)
  refine lv_goto (tgt := 3) hx hb dX5_markKeywords_69 (by decide) ?_
  refine lv_iload_n hx hb dX5_markKeywords_3 rfl (lv_at hl 0 rfl) ?_
  refine lv_bipush (v := 22) hx hb dX5_markKeywords_4 (by decide) ?_
  refine lv_icmp_gt (tgt := 72) hx hb dX5_markKeywords_6 (by decide) (fun c9 => absurd c9 (by decide)) (fun c79 => ?_)
  refine lv_iload_n hx hb dX5_markKeywords_9 rfl (lv_at hl 0 rfl) ?_
  have hPc := hP.sub (ws' := []) [] rfl
  have hDc := hD.sub (ws' := []) [] (by decide) rfl
  have hFc := va_free (wc := []) hD hS hA [] rfl
  refine va_callr (va_runS (As := [.int 21]) (rest := []) ⟨hx, hb, hml, hown, hts⟩ (c_spell_21 l D cA sa  H.size) (va_cwS 1 hts gX5_markKeywords_X7_spelling rfl rfl rfl (by decide +kernel) ⟨(Nat.le_of_ble_eq_true rfl), (Nat.le_of_ble_eq_true rfl)⟩) ⟨Wd.blind, fun U hU hW => ⟨rfl, Wd.call hPc hDc hK hC hZ hS hFc U hU hW⟩⟩ rfl rfl hl.1 rfl (lv_room (Nat.le_of_ble_eq_true rfl)) dX5_markKeywords_10 ⟨(Nat.le_of_ble_eq_true rfl), (Nat.le_of_ble_eq_true rfl)⟩) hS (fun q _ h => hFc q h) hFc (fun u ra t H1 locs ht hvm hw hB hz1 hk1 hS => ?_)
  obtain ⟨rfl, hP1, hD1⟩ := hB
  rw [ht] at hP1
  obtain ⟨hP, hD⟩ := va_join (wr := [(r1, .inr (9, [.ref g1, .ref g2, .ref g3, .int 1])), (g1, .inl (cA 0, 701, .inl fk))]) (w1 := []) hP hD [] [0, 1] rfl rfl (by decide) (by decide) hk1 hFc hP1 hD1
  generalize H1 = H at hP hS ⊢
  have hP : va_P D vwCl [(r1, .inr (9, [.ref g1, .ref g2, .ref g3, .int 1])), (g1, .inl (cA 0, 701, .inl fk))] H := hP
  have hD : va_D A [(r1, .inr (9, [.ref g1, .ref g2, .ref g3, .int 1])), (g1, .inl (cA 0, 701, .inl fk))] := hD
  have hPc := hP.sub (ws' := []) [] rfl
  have hDc := hD.sub (ws' := []) [] (by decide) rfl
  have hFc := va_free (wc := []) hD hS hA [] rfl
  refine va_calll (va_runS (As := [.ref (sa 14)]) (rest := []) ⟨hx, hb, hml, hown, hts⟩ (c_packed l D cA sa 14 ([97, 112, 112, 114, 111, 118, 101, 100]) H.size (by decide +kernel)) (va_cwS 1 hts gX5_markKeywords_X8_packed rfl rfl rfl (by decide +kernel) ⟨(Nat.le_of_ble_eq_true rfl), (Nat.le_of_ble_eq_true rfl)⟩) ⟨Wd.blind, fun U hU hW => ⟨rfl, Wd.call hPc hDc hK hC hZ hS hFc U hU hW⟩⟩ rfl rfl hl.1 rfl (lv_room (Nat.le_of_ble_eq_true rfl)) dX5_markKeywords_13 ⟨(Nat.le_of_ble_eq_true rfl), (Nat.le_of_ble_eq_true rfl)⟩) hS (fun q _ h => hFc q h) hFc (fun rn80 u t H1 locs ht hvm hw hB hz1 hk1 hS => ?_)
  obtain ⟨hP1, hD1⟩ := hB
  rw [ht] at hP1
  obtain ⟨hP, hD⟩ := va_join (wr := [(r1, .inr (9, [.ref g1, .ref g2, .ref g3, .int 1])), (g1, .inl (cA 0, 701, .inl fk))]) (w1 := []) hP hD [] [0, 1] rfl rfl (by decide) (by decide) hk1 hFc hP1 hD1
  generalize H1 = H at hP hS ⊢
  have hP : va_P D vwCl [(r1, .inr (9, [.ref g1, .ref g2, .ref g3, .int 1])), (g1, .inl (cA 0, 701, .inl fk))] H := hP
  have hD : va_D A [(r1, .inr (9, [.ref g1, .ref g2, .ref g3, .int 1])), (g1, .inl (cA 0, 701, .inl fk))] := hD
  refine lv_lstore_n (lv' := [(2, .long rn80), (1, .int 21), (4, .int 1), (0, .ref r1)]) hx hb dX5_markKeywords_16 rfl hl (by decide) rfl (fun ls hl => ?_)
  refine lv_iconst (v := 0) hx hb dX5_markKeywords_17 (by decide) ?_
  refine lv_istore (lv' := [(4, .int 0), (2, .long rn80), (1, .int 21), (0, .ref r1)]) hx hb dX5_markKeywords_18 hl (by decide) rfl (fun ls hl => ?_)
  refine lv_iload hx hb dX5_markKeywords_20 (lv_at hl 0 rfl) ?_
  refine lv_aload_n hx hb dX5_markKeywords_22 rfl (lv_at hl 3 rfl) ?_
  refine va_get (D := D) (ci := 9) (v := .int 1) (C := RX5) (T := TX5) (N := 4) hx hb hts inX5 hown hK hP 0 rfl rfl 3 (by decide) (hts (.fieldLink RX5 22 "EscrowDesk$Scanner" "count" "I") (by decide +kernel)) (fun _ h9 => h9) rfl dX5_markKeywords_23 ?_
  refine lv_icmp_ge (tgt := 66) hx hb dX5_markKeywords_26 (by decide) (fun c9 => absurd c9 (by decide)) (fun c81 => ?_)
  refine lv_aload_n hx hb dX5_markKeywords_29 rfl (lv_at hl 3 rfl) ?_
  refine va_get (D := D) (ci := 9) (v := .ref g1) (C := RX5) (T := TX5) (N := 4) hx hb hts inX5 hown hK hP 0 rfl rfl 0 (by decide) (hts (.fieldLink RX5 9 "EscrowDesk$Scanner" "kinds" "[I") (by decide +kernel)) (fun _ h9 => h9) rfl dX5_markKeywords_30 ?_
  refine lv_iload hx hb dX5_markKeywords_33 (lv_at hl 0 rfl) ?_
  refine va_iald hx hb hK hP 1 0 rfl rfl (vp_in_iff.mpr (by decide)) dX5_markKeywords_35 ?_
  refine lv_topi (fun yn82 eyn82 => ?_)
  obtain rfl : yn82 = 1 := eyn82.trans hk
  refine lv_iconst (v := 4) hx hb dX5_markKeywords_36 (by decide) ?_
  refine lv_icmp_ne (tgt := 60) hx hb dX5_markKeywords_37 (by decide) (fun c83 => ?_) (fun c9 => absurd c9 (by decide))
  refine lv_iinc (v := 1) (lv' := [(4, .int 1), (2, .long rn80), (1, .int 21), (0, .ref r1)]) hx hb dX5_markKeywords_60 hl (k := 0) rfl (by first | rfl | decide +kernel) (by decide) rfl (fun ls hl => ?_)
  refine lv_goto (tgt := 20) hx hb dX5_markKeywords_63 (by decide) ?_
  refine lv_iload hx hb dX5_markKeywords_20 (lv_at hl 0 rfl) ?_
  refine lv_aload_n hx hb dX5_markKeywords_22 rfl (lv_at hl 3 rfl) ?_
  refine va_get (D := D) (ci := 9) (v := .int 1) (C := RX5) (T := TX5) (N := 4) hx hb hts inX5 hown hK hP 0 rfl rfl 3 (by decide) (hts (.fieldLink RX5 22 "EscrowDesk$Scanner" "count" "I") (by decide +kernel)) (fun _ h9 => h9) rfl dX5_markKeywords_23 ?_
  refine lv_icmp_ge (tgt := 66) hx hb dX5_markKeywords_26 (by decide) (fun c84 => ?_) (fun c9 => absurd c9 (by decide))
  refine lv_iinc (v := 22) (lv' := [(1, .int 22), (4, .int 1), (2, .long rn80), (0, .ref r1)]) hx hb dX5_markKeywords_66 hl (k := 2) rfl (by first | rfl | decide +kernel) (by decide) rfl (fun ls hl => ?_)
  refine lv_goto (tgt := 3) hx hb dX5_markKeywords_69 (by decide) ?_
  refine lv_iload_n hx hb dX5_markKeywords_3 rfl (lv_at hl 0 rfl) ?_
  refine lv_bipush (v := 22) hx hb dX5_markKeywords_4 (by decide) ?_
  refine lv_icmp_gt (tgt := 72) hx hb dX5_markKeywords_6 (by decide) (fun c9 => absurd c9 (by decide)) (fun c85 => ?_)
  refine lv_iload_n hx hb dX5_markKeywords_9 rfl (lv_at hl 0 rfl) ?_
  have hPc := hP.sub (ws' := []) [] rfl
  have hDc := hD.sub (ws' := []) [] (by decide) rfl
  have hFc := va_free (wc := []) hD hS hA [] rfl
  refine va_callr (va_runS (As := [.int 22]) (rest := []) ⟨hx, hb, hml, hown, hts⟩ (c_spell_22 l D cA sa  H.size) (va_cwS 1 hts gX5_markKeywords_X7_spelling rfl rfl rfl (by decide +kernel) ⟨(Nat.le_of_ble_eq_true rfl), (Nat.le_of_ble_eq_true rfl)⟩) ⟨Wd.blind, fun U hU hW => ⟨rfl, Wd.call hPc hDc hK hC hZ hS hFc U hU hW⟩⟩ rfl rfl hl.1 rfl (lv_room (Nat.le_of_ble_eq_true rfl)) dX5_markKeywords_10 ⟨(Nat.le_of_ble_eq_true rfl), (Nat.le_of_ble_eq_true rfl)⟩) hS (fun q _ h => hFc q h) hFc (fun u ra t H1 locs ht hvm hw hB hz1 hk1 hS => ?_)
  obtain ⟨rfl, hP1, hD1⟩ := hB
  rw [ht] at hP1
  obtain ⟨hP, hD⟩ := va_join (wr := [(r1, .inr (9, [.ref g1, .ref g2, .ref g3, .int 1])), (g1, .inl (cA 0, 701, .inl fk))]) (w1 := []) hP hD [] [0, 1] rfl rfl (by decide) (by decide) hk1 hFc hP1 hD1
  generalize H1 = H at hP hS ⊢
  have hP : va_P D vwCl [(r1, .inr (9, [.ref g1, .ref g2, .ref g3, .int 1])), (g1, .inl (cA 0, 701, .inl fk))] H := hP
  have hD : va_D A [(r1, .inr (9, [.ref g1, .ref g2, .ref g3, .int 1])), (g1, .inl (cA 0, 701, .inl fk))] := hD
  have hPc := hP.sub (ws' := []) [] rfl
  have hDc := hD.sub (ws' := []) [] (by decide) rfl
  have hFc := va_free (wc := []) hD hS hA [] rfl
  refine va_calll (va_runS (As := [.ref (sa 15)]) (rest := []) ⟨hx, hb, hml, hown, hts⟩ (c_packed l D cA sa 15 ([97, 108, 119, 97, 121, 115]) H.size (by decide +kernel)) (va_cwS 1 hts gX5_markKeywords_X8_packed rfl rfl rfl (by decide +kernel) ⟨(Nat.le_of_ble_eq_true rfl), (Nat.le_of_ble_eq_true rfl)⟩) ⟨Wd.blind, fun U hU hW => ⟨rfl, Wd.call hPc hDc hK hC hZ hS hFc U hU hW⟩⟩ rfl rfl hl.1 rfl (lv_room (Nat.le_of_ble_eq_true rfl)) dX5_markKeywords_13 ⟨(Nat.le_of_ble_eq_true rfl), (Nat.le_of_ble_eq_true rfl)⟩) hS (fun q _ h => hFc q h) hFc (fun rn86 u t H1 locs ht hvm hw hB hz1 hk1 hS => ?_)
  obtain ⟨hP1, hD1⟩ := hB
  rw [ht] at hP1
  obtain ⟨hP, hD⟩ := va_join (wr := [(r1, .inr (9, [.ref g1, .ref g2, .ref g3, .int 1])), (g1, .inl (cA 0, 701, .inl fk))]) (w1 := []) hP hD [] [0, 1] rfl rfl (by decide) (by decide) hk1 hFc hP1 hD1
  generalize H1 = H at hP hS ⊢
  have hP : va_P D vwCl [(r1, .inr (9, [.ref g1, .ref g2, .ref g3, .int 1])), (g1, .inl (cA 0, 701, .inl fk))] H := hP
  have hD : va_D A [(r1, .inr (9, [.ref g1, .ref g2, .ref g3, .int 1])), (g1, .inl (cA 0, 701, .inl fk))] := hD
  refine lv_lstore_n (lv' := [(2, .long rn86), (1, .int 22), (4, .int 1), (0, .ref r1)]) hx hb dX5_markKeywords_16 rfl hl (by decide) rfl (fun ls hl => ?_)
  refine lv_iconst (v := 0) hx hb dX5_markKeywords_17 (by decide) ?_
  refine lv_istore (lv' := [(4, .int 0), (2, .long rn86), (1, .int 22), (0, .ref r1)]) hx hb dX5_markKeywords_18 hl (by decide) rfl (fun ls hl => ?_)
  refine lv_iload hx hb dX5_markKeywords_20 (lv_at hl 0 rfl) ?_
  refine lv_aload_n hx hb dX5_markKeywords_22 rfl (lv_at hl 3 rfl) ?_
  refine va_get (D := D) (ci := 9) (v := .int 1) (C := RX5) (T := TX5) (N := 4) hx hb hts inX5 hown hK hP 0 rfl rfl 3 (by decide) (hts (.fieldLink RX5 22 "EscrowDesk$Scanner" "count" "I") (by decide +kernel)) (fun _ h9 => h9) rfl dX5_markKeywords_23 ?_
  refine lv_icmp_ge (tgt := 66) hx hb dX5_markKeywords_26 (by decide) (fun c9 => absurd c9 (by decide)) (fun c87 => ?_)
  refine lv_aload_n hx hb dX5_markKeywords_29 rfl (lv_at hl 3 rfl) ?_
  refine va_get (D := D) (ci := 9) (v := .ref g1) (C := RX5) (T := TX5) (N := 4) hx hb hts inX5 hown hK hP 0 rfl rfl 0 (by decide) (hts (.fieldLink RX5 9 "EscrowDesk$Scanner" "kinds" "[I") (by decide +kernel)) (fun _ h9 => h9) rfl dX5_markKeywords_30 ?_
  refine lv_iload hx hb dX5_markKeywords_33 (lv_at hl 0 rfl) ?_
  refine va_iald hx hb hK hP 1 0 rfl rfl (vp_in_iff.mpr (by decide)) dX5_markKeywords_35 ?_
  refine lv_topi (fun yn88 eyn88 => ?_)
  obtain rfl : yn88 = 1 := eyn88.trans hk
  refine lv_iconst (v := 4) hx hb dX5_markKeywords_36 (by decide) ?_
  refine lv_icmp_ne (tgt := 60) hx hb dX5_markKeywords_37 (by decide) (fun c89 => ?_) (fun c9 => absurd c9 (by decide))
  refine lv_iinc (v := 1) (lv' := [(4, .int 1), (2, .long rn86), (1, .int 22), (0, .ref r1)]) hx hb dX5_markKeywords_60 hl (k := 0) rfl (by first | rfl | decide +kernel) (by decide) rfl (fun ls hl => ?_)
  refine lv_goto (tgt := 20) hx hb dX5_markKeywords_63 (by decide) ?_
  refine lv_iload hx hb dX5_markKeywords_20 (lv_at hl 0 rfl) ?_
  refine lv_aload_n hx hb dX5_markKeywords_22 rfl (lv_at hl 3 rfl) ?_
  refine va_get (D := D) (ci := 9) (v := .int 1) (C := RX5) (T := TX5) (N := 4) hx hb hts inX5 hown hK hP 0 rfl rfl 3 (by decide) (hts (.fieldLink RX5 22 "EscrowDesk$Scanner" "count" "I") (by decide +kernel)) (fun _ h9 => h9) rfl dX5_markKeywords_23 ?_
  refine lv_icmp_ge (tgt := 66) hx hb dX5_markKeywords_26 (by decide) (fun c90 => ?_) (fun c9 => absurd c9 (by decide))
  refine lv_iinc (v := 23) (lv' := [(1, .int 23), (4, .int 1), (2, .long rn86), (0, .ref r1)]) hx hb dX5_markKeywords_66 hl (k := 2) rfl (by first | rfl | decide +kernel) (by decide) rfl (fun ls hl => ?_)
  refine lv_goto (tgt := 3) hx hb dX5_markKeywords_69 (by decide) ?_
  refine lv_iload_n hx hb dX5_markKeywords_3 rfl (lv_at hl 0 rfl) ?_
  refine lv_bipush (v := 22) hx hb dX5_markKeywords_4 (by decide) ?_
  refine lv_icmp_gt (tgt := 72) hx hb dX5_markKeywords_6 (by decide) (fun c91 => ?_) (fun c9 => absurd c9 (by decide))
  have hP9 := hP.sub (ws' := [(r1, .inr (9, [.ref g1, .ref g2, .ref g3, .int 1])), (g1, .inl (cA 0, 701, .inl fk))]) [0, 1] rfl
  have hD9 := hD.sub (ws' := [(r1, .inr (9, [.ref g1, .ref g2, .ref g3, .int 1])), (g1, .inl (cA 0, 701, .inl fk))]) [0, 1] (by decide) rfl
  refine W.widen (k := 0) (n := 0) (Nat.le_of_ble_eq_true rfl) (Nat.le_of_ble_eq_true rfl) ?_
  exact W.vret hx hb hr (fun t ht hW => ⟨⟨(), rfl, trivial, by rw [ht]; exact hP9, hD9⟩, hS.F ht⟩) hS.2.2 dX5_markKeywords_72

set_option maxHeartbeats 4000000 in
set_option maxRecDepth 100000 in
/-- add: the END -/
theorem c_addEnd (l : Launch) (D : va_G) (cA : Nat → ClassId) (sa : Nat → Nat) (r1 g1 g2 g3 : Nat) (fk ft : Nat → Int32) (fv : Nat → Int64) (sz : Nat) : Met l yX5_add wsX5_add ({ frames := 0, cells := 0, slots := 0, locals := 0 }) (va_Pc [.ref r1, .int 1, .int 0, .long 0] (Wd D cA sa [(r1, .inr (9, [.ref g1, .ref g2, .ref g3, .int 0])), (g1, .inl (cA 0, 701, .inl fk)), (g2, .inl (cA 0, 701, .inl ft)), (g3, .inl (cA 1, 701, .inr (.inl fv)))] sz)) (va_Qv (fun _ : Unit => True) (fun (_ : Unit) t => ∃ fn2 : Nat → Int32, ∃ fn4 : Nat → Int32, ∃ fn5 : Nat → Int64, At0 1 fn2 ∧ Wq D (va_A [(r1, .inr (9, [.ref g1, .ref g2, .ref g3, .int 0])), (g1, .inl (cA 0, 701, .inl fk)), (g2, .inl (cA 0, 701, .inl ft)), (g3, .inl (cA 1, 701, .inr (.inl fv)))] sz) [(r1, .inr (9, [.ref g1, .ref g2, .ref g3, .int 1])), (g1, .inl (cA 0, 701, .inl fn2)), (g2, .inl (cA 0, 701, .inl fn4)), (g3, .inl (cA 1, 701, .inr (.inl fn5)))] t) (va_A [(r1, .inr (9, [.ref g1, .ref g2, .ref g3, .int 0])), (g1, .inl (cA 0, 701, .inl fk)), (g2, .inl (cA 0, 701, .inl ft)), (g3, .inl (cA 1, 701, .inr (.inl fv)))] sz)) 0 0 (va_A [(r1, .inr (9, [.ref g1, .ref g2, .ref g3, .int 0])), (g1, .inl (cA 0, 701, .inl fk)), (g2, .inl (cA 0, 701, .inl ft)), (g3, .inl (cA 1, 701, .inr (.inl fv)))] sz) := by
  refine Met.ofW (cc := cX5_add) (maxL := 5) (ret := none) (by decide) rfl ?_
  intro p e s m args below meth c s₁ B hml hv
  obtain ⟨rfl, hsz, hP, hK, hD0, hC, hZ⟩ := hv
  have hx := B.exec
  have hb := B.bytes
  have hr := B.returns
  have hts := atoms_spec (ws := wsX5_add) B.pre
  have hown : s.vm.findClass RX5 = some m.cls := findClass_of_methodNamed B.named
  have hlocks := B.notSynchronized
  subst hsz
  have hD := hD0.self (sz := s.heap.size)
  generalize hAe : va_A [(r1, .inr (9, [.ref g1, .ref g2, .ref g3, .int 0])), (g1, .inl (cA 0, 701, .inl fk)), (g2, .inl (cA 0, 701, .inl ft)), (g3, .inl (cA 1, 701, .inr (.inl fv)))] s.heap.size = A at hD hZ ⊢
  have hA : ∀ q : Nat, s.heap.size ≤ q → A q := fun q h => by rw [← hAe]; exact Or.inr h
  have hS : va_S A s.heap s.heap [] := va_S.rf
  have hP : va_P D vwCl [(r1, .inr (9, [.ref g1, .ref g2, .ref g3, .int 0])), (g1, .inl (cA 0, 701, .inl fk)), (g2, .inl (cA 0, 701, .inl ft)), (g3, .inl (cA 1, 701, .inr (.inl fv)))] s.heap := hP
  have hl := lv_entry ([.ref r1, .int 1, .int 0, .long 0]) (n := 5) (Nat.le_of_ble_eq_true rfl)
  rw [lg_entry_eq]
  generalize (lg_sl ([.ref r1, .int 1, .int 0, .long 0]) ++ List.replicate (5 - (lg_sl ([.ref r1, .int 1, .int 0, .long 0])).length) Slot.unset).toArray = ls at hl ⊢
  have hl : lv_has ls 5 [(0, .ref r1), (1, .int 1), (2, .int 0), (3, .long 0)] := hl
  have inX5 : ∀ w ∈ u_ws RX5 TX5 4, w ∈ wsX5_add := by decide +kernel
  refine lv_aload_n hx hb dX5_add_0 rfl (lv_at hl 0 rfl) ?_
  refine va_get (D := D) (ci := 9) (v := .int 0) (C := RX5) (T := TX5) (N := 4) hx hb hts inX5 hown hK hP 0 rfl rfl 3 (by decide) (hts (.fieldLink RX5 22 "EscrowDesk$Scanner" "count" "I") (by decide +kernel)) (fun _ h9 => h9) rfl dX5_add_1 ?_
  refine lv_aload_n hx hb dX5_add_4 rfl (lv_at hl 0 rfl) ?_
  refine va_get (D := D) (ci := 9) (v := .ref g1) (C := RX5) (T := TX5) (N := 4) hx hb hts inX5 hown hK hP 0 rfl rfl 0 (by decide) (hts (.fieldLink RX5 9 "EscrowDesk$Scanner" "kinds" "[I") (by decide +kernel)) (fun _ h9 => h9) rfl dX5_add_5 ?_
  refine va_alen (v := 701) hx hb hK hP 1 0 rfl rfl rfl dX5_add_8 ?_
  refine lv_icmp_ge (tgt := 52) hx hb dX5_add_9 (by decide) (fun c9 => absurd c9 (by decide)) (fun c1 => ?_)
  refine lv_aload_n hx hb dX5_add_12 rfl (lv_at hl 0 rfl) ?_
  refine va_get (D := D) (ci := 9) (v := .ref g1) (C := RX5) (T := TX5) (N := 4) hx hb hts inX5 hown hK hP 0 rfl rfl 0 (by decide) (hts (.fieldLink RX5 9 "EscrowDesk$Scanner" "kinds" "[I") (by decide +kernel)) (fun _ h9 => h9) rfl dX5_add_13 ?_
  refine lv_aload_n hx hb dX5_add_16 rfl (lv_at hl 0 rfl) ?_
  refine va_get (D := D) (ci := 9) (v := .int 0) (C := RX5) (T := TX5) (N := 4) hx hb hts inX5 hown hK hP 0 rfl rfl 3 (by decide) (hts (.fieldLink RX5 22 "EscrowDesk$Scanner" "count" "I") (by decide +kernel)) (fun _ h9 => h9) rfl dX5_add_17 ?_
  refine lv_iload_n hx hb dX5_add_20 rfl (lv_at hl 1 rfl) ?_
  refine va_iast hx hb hK hP hD hS 1 0 rfl rfl (vp_in_iff.mpr (by decide)) dX5_add_21 (fun H locs hP hD hS => ?_)
  have hP : va_P D vwCl [(r1, .inr (9, [.ref g1, .ref g2, .ref g3, .int 0])), (g1, .inl (cA 0, 701, .inl (upd fk 0 1))), (g2, .inl (cA 0, 701, .inl ft)), (g3, .inl (cA 1, 701, .inr (.inl fv)))] H := hP
  have hD : va_D A [(r1, .inr (9, [.ref g1, .ref g2, .ref g3, .int 0])), (g1, .inl (cA 0, 701, .inl (upd fk 0 1))), (g2, .inl (cA 0, 701, .inl ft)), (g3, .inl (cA 1, 701, .inr (.inl fv)))] := hD
  have hn3 : At0 1 (upd fk 0 1) := At0.us
  generalize (upd fk 0 1) = fn2 at hP hD hn3
  have hP : va_P D vwCl [(r1, .inr (9, [.ref g1, .ref g2, .ref g3, .int 0])), (g1, .inl (cA 0, 701, .inl fn2)), (g2, .inl (cA 0, 701, .inl ft)), (g3, .inl (cA 1, 701, .inr (.inl fv)))] H := hP
  have hD : va_D A [(r1, .inr (9, [.ref g1, .ref g2, .ref g3, .int 0])), (g1, .inl (cA 0, 701, .inl fn2)), (g2, .inl (cA 0, 701, .inl ft)), (g3, .inl (cA 1, 701, .inr (.inl fv)))] := hD
  refine lv_aload_n hx hb dX5_add_22 rfl (lv_at hl 0 rfl) ?_
  refine va_get (D := D) (ci := 9) (v := .ref g2) (C := RX5) (T := TX5) (N := 4) hx hb hts inX5 hown hK hP 0 rfl rfl 1 (by decide) (hts (.fieldLink RX5 15 "EscrowDesk$Scanner" "starts" "[I") (by decide +kernel)) (fun _ h9 => h9) rfl dX5_add_23 ?_
  refine lv_aload_n hx hb dX5_add_26 rfl (lv_at hl 0 rfl) ?_
  refine va_get (D := D) (ci := 9) (v := .int 0) (C := RX5) (T := TX5) (N := 4) hx hb hts inX5 hown hK hP 0 rfl rfl 3 (by decide) (hts (.fieldLink RX5 22 "EscrowDesk$Scanner" "count" "I") (by decide +kernel)) (fun _ h9 => h9) rfl dX5_add_27 ?_
  refine lv_iload_n hx hb dX5_add_30 rfl (lv_at hl 2 rfl) ?_
  refine va_iast hx hb hK hP hD hS 2 0 rfl rfl (vp_in_iff.mpr (by decide)) dX5_add_31 (fun H locs hP hD hS => ?_)
  have hP : va_P D vwCl [(r1, .inr (9, [.ref g1, .ref g2, .ref g3, .int 0])), (g1, .inl (cA 0, 701, .inl fn2)), (g2, .inl (cA 0, 701, .inl (upd ft 0 0))), (g3, .inl (cA 1, 701, .inr (.inl fv)))] H := hP
  have hD : va_D A [(r1, .inr (9, [.ref g1, .ref g2, .ref g3, .int 0])), (g1, .inl (cA 0, 701, .inl fn2)), (g2, .inl (cA 0, 701, .inl (upd ft 0 0))), (g3, .inl (cA 1, 701, .inr (.inl fv)))] := hD
  generalize (upd ft 0 0) = fn4 at hP hD
  have hP : va_P D vwCl [(r1, .inr (9, [.ref g1, .ref g2, .ref g3, .int 0])), (g1, .inl (cA 0, 701, .inl fn2)), (g2, .inl (cA 0, 701, .inl fn4)), (g3, .inl (cA 1, 701, .inr (.inl fv)))] H := hP
  have hD : va_D A [(r1, .inr (9, [.ref g1, .ref g2, .ref g3, .int 0])), (g1, .inl (cA 0, 701, .inl fn2)), (g2, .inl (cA 0, 701, .inl fn4)), (g3, .inl (cA 1, 701, .inr (.inl fv)))] := hD
  refine lv_aload_n hx hb dX5_add_32 rfl (lv_at hl 0 rfl) ?_
  refine va_get (D := D) (ci := 9) (v := .ref g3) (C := RX5) (T := TX5) (N := 4) hx hb hts inX5 hown hK hP 0 rfl rfl 2 (by decide) (hts (.fieldLink RX5 18 "EscrowDesk$Scanner" "values" "[J") (by decide +kernel)) (fun _ h9 => h9) rfl dX5_add_33 ?_
  refine lv_aload_n hx hb dX5_add_36 rfl (lv_at hl 0 rfl) ?_
  refine va_get (D := D) (ci := 9) (v := .int 0) (C := RX5) (T := TX5) (N := 4) hx hb hts inX5 hown hK hP 0 rfl rfl 3 (by decide) (hts (.fieldLink RX5 22 "EscrowDesk$Scanner" "count" "I") (by decide +kernel)) (fun _ h9 => h9) rfl dX5_add_37 ?_
  refine lv_lload_n hx hb dX5_add_40 rfl (lv_at hl 3 rfl) ?_
  refine va_last hx hb hK hP hD hS 3 1 rfl rfl (vp_in_iff.mpr (by decide)) dX5_add_41 (fun H locs hP hD hS => ?_)
  have hP : va_P D vwCl [(r1, .inr (9, [.ref g1, .ref g2, .ref g3, .int 0])), (g1, .inl (cA 0, 701, .inl fn2)), (g2, .inl (cA 0, 701, .inl fn4)), (g3, .inl (cA 1, 701, .inr (.inl (vp_updL fv 0 0))))] H := hP
  have hD : va_D A [(r1, .inr (9, [.ref g1, .ref g2, .ref g3, .int 0])), (g1, .inl (cA 0, 701, .inl fn2)), (g2, .inl (cA 0, 701, .inl fn4)), (g3, .inl (cA 1, 701, .inr (.inl (vp_updL fv 0 0))))] := hD
  generalize (vp_updL fv 0 0) = fn5 at hP hD
  have hP : va_P D vwCl [(r1, .inr (9, [.ref g1, .ref g2, .ref g3, .int 0])), (g1, .inl (cA 0, 701, .inl fn2)), (g2, .inl (cA 0, 701, .inl fn4)), (g3, .inl (cA 1, 701, .inr (.inl fn5)))] H := hP
  have hD : va_D A [(r1, .inr (9, [.ref g1, .ref g2, .ref g3, .int 0])), (g1, .inl (cA 0, 701, .inl fn2)), (g2, .inl (cA 0, 701, .inl fn4)), (g3, .inl (cA 1, 701, .inr (.inl fn5)))] := hD
  refine lv_aload_n hx hb dX5_add_42 rfl (lv_at hl 0 rfl) ?_
  refine lv_dup hx hb dX5_add_43 rfl ?_
  refine va_get (D := D) (ci := 9) (v := .int 0) (C := RX5) (T := TX5) (N := 4) hx hb hts inX5 hown hK hP 0 rfl rfl 3 (by decide) (hts (.fieldLink RX5 22 "EscrowDesk$Scanner" "count" "I") (by decide +kernel)) (fun _ h9 => h9) rfl dX5_add_44 ?_
  refine lv_iconst (v := 1) hx hb dX5_add_47 (by decide) ?_
  refine lv_iadd hx hb dX5_add_48 ?_
  refine lv_topi (fun yn6 eyn6 => ?_)
  obtain rfl : yn6 = 1 := eyn6.trans (by first | rfl | decide +kernel)
  refine va_put (D := D) (ci := 9) (v := .int 1) (ty := .int) (C := RX5) (T := TX5) (N := 4) hx hb hts inX5 tyX5 tyX5_ok nmX5 hown hK hP hD hS 0 rfl rfl 3 (by decide) (hts (.fieldLink RX5 22 "EscrowDesk$Scanner" "count" "I") (by decide +kernel)) (fun _ h9 => h9) rfl (by decide +kernel) rfl rfl (Nat.le_of_ble_eq_true rfl) dX5_add_49 (fun H locs hP hD hS => ?_)
  have hP : va_P D vwCl [(r1, .inr (9, [.ref g1, .ref g2, .ref g3, .int 1])), (g1, .inl (cA 0, 701, .inl fn2)), (g2, .inl (cA 0, 701, .inl fn4)), (g3, .inl (cA 1, 701, .inr (.inl fn5)))] H := hP
  have hD : va_D A [(r1, .inr (9, [.ref g1, .ref g2, .ref g3, .int 1])), (g1, .inl (cA 0, 701, .inl fn2)), (g2, .inl (cA 0, 701, .inl fn4)), (g3, .inl (cA 1, 701, .inr (.inl fn5)))] := hD
  have hP9 := hP.sub (ws' := [(r1, .inr (9, [.ref g1, .ref g2, .ref g3, .int 1])), (g1, .inl (cA 0, 701, .inl fn2)), (g2, .inl (cA 0, 701, .inl fn4)), (g3, .inl (cA 1, 701, .inr (.inl fn5)))]) [0, 1, 2, 3] rfl
  have hD9 := hD.sub (ws' := [(r1, .inr (9, [.ref g1, .ref g2, .ref g3, .int 1])), (g1, .inl (cA 0, 701, .inl fn2)), (g2, .inl (cA 0, 701, .inl fn4)), (g3, .inl (cA 1, 701, .inr (.inl fn5)))]) [0, 1, 2, 3] (by decide) rfl
  refine W.widen (k := 0) (n := 0) (Nat.le_of_ble_eq_true rfl) (Nat.le_of_ble_eq_true rfl) ?_
  exact W.vret hx hb hr (fun t ht hW => ⟨⟨(), rfl, trivial, fn2, fn4, fn5, hn3, by rw [ht]; exact hP9, hD9⟩, hS.F ht⟩) hS.2.2 dX5_add_52

set_option maxHeartbeats 4000000 in
set_option maxRecDepth 100000 in
/-- split: no bytes -/
theorem c_split (l : Launch) (D : va_G) (cA : Nat → ClassId) (sa : Nat → Nat) (r1 g1 g2 g3 b0 : Nat) (fk ft : Nat → Int32) (fv : Nat → Int64) (sz : Nat) : Met l yX5_split wsX5_split ({ frames := 6, cells := 0, slots := 0, locals := 132 }) (va_Pc [.ref r1, .ref b0, .int 0] (Wd D cA sa [(r1, .inr (9, [.ref g1, .ref g2, .ref g3, .int 0])), (g1, .inl (cA 0, 701, .inl fk)), (g2, .inl (cA 0, 701, .inl ft)), (g3, .inl (cA 1, 701, .inr (.inl fv)))] sz)) (va_Qv (fun _ : Unit => True) (fun (_ : Unit) t => ∃ fn2 : Nat → Int32, ∃ fn3 : Nat → Int32, ∃ fn4 : Nat → Int64, At0 1 fn2 ∧ Wq D (va_A [(r1, .inr (9, [.ref g1, .ref g2, .ref g3, .int 0])), (g1, .inl (cA 0, 701, .inl fk)), (g2, .inl (cA 0, 701, .inl ft)), (g3, .inl (cA 1, 701, .inr (.inl fv)))] sz) [(r1, .inr (9, [.ref g1, .ref g2, .ref g3, .int 1])), (g1, .inl (cA 0, 701, .inl fn2)), (g2, .inl (cA 0, 701, .inl fn3)), (g3, .inl (cA 1, 701, .inr (.inl fn4)))] t) (va_A [(r1, .inr (9, [.ref g1, .ref g2, .ref g3, .int 0])), (g1, .inl (cA 0, 701, .inl fk)), (g2, .inl (cA 0, 701, .inl ft)), (g3, .inl (cA 1, 701, .inr (.inl fv)))] sz)) 0 0 (va_A [(r1, .inr (9, [.ref g1, .ref g2, .ref g3, .int 0])), (g1, .inl (cA 0, 701, .inl fk)), (g2, .inl (cA 0, 701, .inl ft)), (g3, .inl (cA 1, 701, .inr (.inl fv)))] sz) := by
  refine Met.ofW (cc := cX5_split) (maxL := 8) (ret := none) (by decide) rfl ?_
  intro p e s m args below meth c s₁ B hml hv
  obtain ⟨rfl, hsz, hP, hK, hD0, hC, hZ⟩ := hv
  have hx := B.exec
  have hb := B.bytes
  have hr := B.returns
  have hts := atoms_spec (ws := wsX5_split) B.pre
  have hown : s.vm.findClass RX5 = some m.cls := findClass_of_methodNamed B.named
  have hlocks := B.notSynchronized
  subst hsz
  have hD := hD0.self (sz := s.heap.size)
  generalize hAe : va_A [(r1, .inr (9, [.ref g1, .ref g2, .ref g3, .int 0])), (g1, .inl (cA 0, 701, .inl fk)), (g2, .inl (cA 0, 701, .inl ft)), (g3, .inl (cA 1, 701, .inr (.inl fv)))] s.heap.size = A at hD hZ ⊢
  have hA : ∀ q : Nat, s.heap.size ≤ q → A q := fun q h => by rw [← hAe]; exact Or.inr h
  have hS : va_S A s.heap s.heap [] := va_S.rf
  have hP : va_P D vwCl [(r1, .inr (9, [.ref g1, .ref g2, .ref g3, .int 0])), (g1, .inl (cA 0, 701, .inl fk)), (g2, .inl (cA 0, 701, .inl ft)), (g3, .inl (cA 1, 701, .inr (.inl fv)))] s.heap := hP
  have hl := lv_entry ([.ref r1, .ref b0, .int 0]) (n := 8) (Nat.le_of_ble_eq_true rfl)
  rw [lg_entry_eq]
  generalize (lg_sl ([.ref r1, .ref b0, .int 0]) ++ List.replicate (8 - (lg_sl ([.ref r1, .ref b0, .int 0])).length) Slot.unset).toArray = ls at hl ⊢
  have hl : lv_has ls 8 [(0, .ref r1), (1, .ref b0), (2, .int 0)] := hl
  have inX5 : ∀ w ∈ u_ws RX5 TX5 4, w ∈ wsX5_split := by decide +kernel
  refine lv_aload_n hx hb dX5_split_0 rfl (lv_at hl 0 rfl) ?_
  refine lv_iconst (v := 0) hx hb dX5_split_1 (by decide) ?_
  refine va_put (D := D) (ci := 9) (v := .int 0) (ty := .int) (C := RX5) (T := TX5) (N := 4) hx hb hts inX5 tyX5 tyX5_ok nmX5 hown hK hP hD hS 0 rfl rfl 3 (by decide) (hts (.fieldLink RX5 22 "EscrowDesk$Scanner" "count" "I") (by decide +kernel)) (fun _ h9 => h9) rfl (by decide +kernel) rfl rfl (Nat.le_of_ble_eq_true rfl) dX5_split_2 (fun H locs hP hD hS => ?_)
  have hP : va_P D vwCl [(r1, .inr (9, [.ref g1, .ref g2, .ref g3, .int 0])), (g1, .inl (cA 0, 701, .inl fk)), (g2, .inl (cA 0, 701, .inl ft)), (g3, .inl (cA 1, 701, .inr (.inl fv)))] H := hP
  have hD : va_D A [(r1, .inr (9, [.ref g1, .ref g2, .ref g3, .int 0])), (g1, .inl (cA 0, 701, .inl fk)), (g2, .inl (cA 0, 701, .inl ft)), (g3, .inl (cA 1, 701, .inr (.inl fv)))] := hD
  refine lv_iconst (v := 0) hx hb dX5_split_5 (by decide) ?_
  refine lv_istore_n (lv' := [(3, .int 0), (0, .ref r1), (1, .ref b0), (2, .int 0)]) hx hb dX5_split_6 rfl hl (by decide) rfl (fun ls hl => ?_)
  refine lv_iconst (v := 0) hx hb dX5_split_7 (by decide) ?_
  refine lv_istore (lv' := [(4, .int 0), (3, .int 0), (0, .ref r1), (1, .ref b0), (2, .int 0)]) hx hb dX5_split_8 hl (by decide) rfl (fun ls hl => ?_)
  refine lv_iconst (v := 0) hx hb dX5_split_10 (by decide) ?_
  refine lv_istore (lv' := [(5, .int 0), (4, .int 0), (3, .int 0), (0, .ref r1), (1, .ref b0), (2, .int 0)]) hx hb dX5_split_11 hl (by decide) rfl (fun ls hl => ?_)
  refine lv_iload hx hb dX5_split_13 (lv_at hl 0 rfl) ?_
  refine lv_iload_n hx hb dX5_split_15 rfl (lv_at hl 5 rfl) ?_
  refine lv_icmp_ge (tgt := 126) hx hb dX5_split_16 (by decide) (fun c1 => ?_) (fun c9 => absurd c9 (by decide))
  refine lv_aload_n hx hb dX5_split_126 rfl (lv_at hl 3 rfl) ?_
  refine lv_iconst (v := 1) hx hb dX5_split_127 (by decide) ?_
  refine lv_iload_n hx hb dX5_split_128 rfl (lv_at hl 5 rfl) ?_
  refine lv_lconst (v := 0) hx hb dX5_split_129 (by decide) ?_
  have hPc := hP.sub (ws' := [(r1, .inr (9, [.ref g1, .ref g2, .ref g3, .int 0])), (g1, .inl (cA 0, 701, .inl fk)), (g2, .inl (cA 0, 701, .inl ft)), (g3, .inl (cA 1, 701, .inr (.inl fv)))]) [0, 1, 2, 3] rfl
  have hDc := hD.sub (ws' := [(r1, .inr (9, [.ref g1, .ref g2, .ref g3, .int 0])), (g1, .inl (cA 0, 701, .inl fk)), (g2, .inl (cA 0, 701, .inl ft)), (g3, .inl (cA 1, 701, .inr (.inl fv)))]) [0, 1, 2, 3] (by decide) rfl
  have hFc := va_free (wc := [(r1, .inr (9, [.ref g1, .ref g2, .ref g3, .int 0])), (g1, .inl (cA 0, 701, .inl fk)), (g2, .inl (cA 0, 701, .inl ft)), (g3, .inl (cA 1, 701, .inr (.inl fv)))]) hD hS hA [0, 1, 2, 3] rfl
  refine va_callv (va_runV (As := [.int 1, .int 0, .long 0]) (rest := []) ⟨hx, hb, hml, hown, hts⟩ (c_addEnd l D cA sa r1 g1 g2 g3 fk ft fv H.size) (cwV 3 hts gX5_split_X5_add rfl rfl rfl (by decide +kernel) ⟨(Nat.le_of_ble_eq_true rfl), (Nat.le_of_ble_eq_true rfl)⟩) ⟨Wd.blind, va_recv hK hPc (ci := 9) (q0 := 0) rfl rfl, fun U hU hW => ⟨rfl, Wd.call hPc hDc hK hC hZ hS hFc U hU hW⟩⟩ rfl rfl hl.1 rfl (lv_room (Nat.le_of_ble_eq_true rfl)) dX5_split_130 ⟨(Nat.le_of_ble_eq_true rfl), (Nat.le_of_ble_eq_true rfl)⟩) hS (fun q _ h => hFc q h) hFc (fun u t H1 locs ht hvm hw hB hz1 hk1 hS => ?_)
  obtain ⟨fn2, fn3, fn4, hn5, hP1, hD1⟩ := hB
  rw [ht] at hP1
  obtain ⟨hP, hD⟩ := va_join (wr := []) (w1 := [(r1, .inr (9, [.ref g1, .ref g2, .ref g3, .int 1])), (g1, .inl (cA 0, 701, .inl fn2)), (g2, .inl (cA 0, 701, .inl fn3)), (g3, .inl (cA 1, 701, .inr (.inl fn4)))]) hP hD [0, 1, 2, 3] [] rfl rfl (by decide) (by decide) hk1 hFc hP1 hD1
  generalize H1 = H at hP hS ⊢
  have hP : va_P D vwCl [(r1, .inr (9, [.ref g1, .ref g2, .ref g3, .int 1])), (g1, .inl (cA 0, 701, .inl fn2)), (g2, .inl (cA 0, 701, .inl fn3)), (g3, .inl (cA 1, 701, .inr (.inl fn4)))] H := hP
  have hD : va_D A [(r1, .inr (9, [.ref g1, .ref g2, .ref g3, .int 1])), (g1, .inl (cA 0, 701, .inl fn2)), (g2, .inl (cA 0, 701, .inl fn3)), (g3, .inl (cA 1, 701, .inr (.inl fn4)))] := hD
  refine lv_aload_n hx hb dX5_split_133 rfl (lv_at hl 3 rfl) ?_
  have hPc := hP.sub (ws' := [(r1, .inr (9, [.ref g1, .ref g2, .ref g3, .int 1])), (g1, .inl (cA 0, 701, .inl fn2))]) [0, 1] rfl
  have hDc := hD.sub (ws' := [(r1, .inr (9, [.ref g1, .ref g2, .ref g3, .int 1])), (g1, .inl (cA 0, 701, .inl fn2))]) [0, 1] (by decide) rfl
  have hFc := va_free (wc := [(r1, .inr (9, [.ref g1, .ref g2, .ref g3, .int 1])), (g1, .inl (cA 0, 701, .inl fn2))]) hD hS hA [0, 1] rfl
  refine va_callv (va_runV (As := []) (rest := []) ⟨hx, hb, hml, hown, hts⟩ (c_markKeywords l D cA sa r1 g1 g2 g3 fn2 H.size hn5) (cwV 0 hts gX5_split_X5_markKeywords rfl rfl rfl (by decide +kernel) ⟨(Nat.le_of_ble_eq_true rfl), (Nat.le_of_ble_eq_true rfl)⟩) ⟨Wd.blind, va_recv hK hPc (ci := 9) (q0 := 0) rfl rfl, fun U hU hW => ⟨rfl, Wd.call hPc hDc hK hC hZ hS hFc U hU hW⟩⟩ rfl rfl hl.1 rfl (lv_room (Nat.le_of_ble_eq_true rfl)) dX5_split_134 ⟨(Nat.le_of_ble_eq_true rfl), (Nat.le_of_ble_eq_true rfl)⟩) hS (fun q _ h => hFc q h) hFc (fun u t H1 locs ht hvm hw hB hz1 hk1 hS => ?_)
  obtain ⟨hP1, hD1⟩ := hB
  rw [ht] at hP1
  obtain ⟨hP, hD⟩ := va_join (wr := [(g2, .inl (cA 0, 701, .inl fn3)), (g3, .inl (cA 1, 701, .inr (.inl fn4)))]) (w1 := [(r1, .inr (9, [.ref g1, .ref g2, .ref g3, .int 1])), (g1, .inl (cA 0, 701, .inl fn2))]) hP hD [0, 1] [2, 3] rfl rfl (by decide) (by decide) hk1 hFc hP1 hD1
  generalize H1 = H at hP hS ⊢
  have hP : va_P D vwCl [(g2, .inl (cA 0, 701, .inl fn3)), (g3, .inl (cA 1, 701, .inr (.inl fn4))), (r1, .inr (9, [.ref g1, .ref g2, .ref g3, .int 1])), (g1, .inl (cA 0, 701, .inl fn2))] H := hP
  have hD : va_D A [(g2, .inl (cA 0, 701, .inl fn3)), (g3, .inl (cA 1, 701, .inr (.inl fn4))), (r1, .inr (9, [.ref g1, .ref g2, .ref g3, .int 1])), (g1, .inl (cA 0, 701, .inl fn2))] := hD
  have hP9 := hP.sub (ws' := [(r1, .inr (9, [.ref g1, .ref g2, .ref g3, .int 1])), (g1, .inl (cA 0, 701, .inl fn2)), (g2, .inl (cA 0, 701, .inl fn3)), (g3, .inl (cA 1, 701, .inr (.inl fn4)))]) [2, 3, 0, 1] rfl
  have hD9 := hD.sub (ws' := [(r1, .inr (9, [.ref g1, .ref g2, .ref g3, .int 1])), (g1, .inl (cA 0, 701, .inl fn2)), (g2, .inl (cA 0, 701, .inl fn3)), (g3, .inl (cA 1, 701, .inr (.inl fn4)))]) [2, 3, 0, 1] (by decide) rfl
  refine W.widen (k := 0) (n := 0) (Nat.le_of_ble_eq_true rfl) (Nat.le_of_ble_eq_true rfl) ?_
  exact W.vret hx hb hr (fun t ht hW => ⟨⟨(), rfl, trivial, fn2, fn3, fn4, hn5, by rw [ht]; exact hP9, hD9⟩, hS.F ht⟩) hS.2.2 dX5_split_137

set_option maxHeartbeats 4000000 in
set_option maxRecDepth 100000 in
/-- lookAt(0): the END -/
theorem c_lookAt (l : Launch) (D : va_G) (cA : Nat → ClassId) (sa : Nat → Nat) (r0 u0 r1 g1 g2 g3 : Nat) (fk ft : Nat → Int32) (fv : Nat → Int64) (sz : Nat) (hk : At0 1 fk) : Met l yX4_lookAt wsX4_lookAt ({ frames := 0, cells := 0, slots := 0, locals := 0 }) (va_Pc [.ref r0, .int 0] (Wd D cA sa [(r0, .inr (8, [.ref r1, .ref u0, .int 0, .int 0, .int 0, .long 0, .int 0, .int 0, .int (-1)])), (r1, .inr (9, [.ref g1, .ref g2, .ref g3, .int 1])), (g1, .inl (cA 0, 701, .inl fk)), (g2, .inl (cA 0, 701, .inl ft)), (g3, .inl (cA 1, 701, .inr (.inl fv)))] sz)) (va_Qv (fun _ : Unit => True) (fun (_ : Unit) t => ∃ yn4 : Int32, ∃ yn5 : Int64, Wq D (va_A [(r0, .inr (8, [.ref r1, .ref u0, .int 0, .int 0, .int 0, .long 0, .int 0, .int 0, .int (-1)])), (r1, .inr (9, [.ref g1, .ref g2, .ref g3, .int 1])), (g1, .inl (cA 0, 701, .inl fk)), (g2, .inl (cA 0, 701, .inl ft)), (g3, .inl (cA 1, 701, .inr (.inl fv)))] sz) [(r0, .inr (8, [.ref r1, .ref u0, .int 0, .int 1, .int yn4, .long yn5, .int 0, .int 0, .int (-1)])), (r1, .inr (9, [.ref g1, .ref g2, .ref g3, .int 1])), (g1, .inl (cA 0, 701, .inl fk)), (g2, .inl (cA 0, 701, .inl ft)), (g3, .inl (cA 1, 701, .inr (.inl fv)))] t) (va_A [(r0, .inr (8, [.ref r1, .ref u0, .int 0, .int 0, .int 0, .long 0, .int 0, .int 0, .int (-1)])), (r1, .inr (9, [.ref g1, .ref g2, .ref g3, .int 1])), (g1, .inl (cA 0, 701, .inl fk)), (g2, .inl (cA 0, 701, .inl ft)), (g3, .inl (cA 1, 701, .inr (.inl fv)))] sz)) 0 0 (va_A [(r0, .inr (8, [.ref r1, .ref u0, .int 0, .int 0, .int 0, .long 0, .int 0, .int 0, .int (-1)])), (r1, .inr (9, [.ref g1, .ref g2, .ref g3, .int 1])), (g1, .inl (cA 0, 701, .inl fk)), (g2, .inl (cA 0, 701, .inl ft)), (g3, .inl (cA 1, 701, .inr (.inl fv)))] sz) := by
  refine Met.ofW (cc := cX4_lookAt) (maxL := 2) (ret := none) (by decide) rfl ?_
  intro p e s m args below meth c s₁ B hml hv
  obtain ⟨rfl, hsz, hP, hK, hD0, hC, hZ⟩ := hv
  have hx := B.exec
  have hb := B.bytes
  have hr := B.returns
  have hts := atoms_spec (ws := wsX4_lookAt) B.pre
  have hown : s.vm.findClass RX4 = some m.cls := findClass_of_methodNamed B.named
  have hlocks := B.notSynchronized
  subst hsz
  have hD := hD0.self (sz := s.heap.size)
  generalize hAe : va_A [(r0, .inr (8, [.ref r1, .ref u0, .int 0, .int 0, .int 0, .long 0, .int 0, .int 0, .int (-1)])), (r1, .inr (9, [.ref g1, .ref g2, .ref g3, .int 1])), (g1, .inl (cA 0, 701, .inl fk)), (g2, .inl (cA 0, 701, .inl ft)), (g3, .inl (cA 1, 701, .inr (.inl fv)))] s.heap.size = A at hD hZ ⊢
  have hA : ∀ q : Nat, s.heap.size ≤ q → A q := fun q h => by rw [← hAe]; exact Or.inr h
  have hS : va_S A s.heap s.heap [] := va_S.rf
  have hP : va_P D vwCl [(r0, .inr (8, [.ref r1, .ref u0, .int 0, .int 0, .int 0, .long 0, .int 0, .int 0, .int (-1)])), (r1, .inr (9, [.ref g1, .ref g2, .ref g3, .int 1])), (g1, .inl (cA 0, 701, .inl fk)), (g2, .inl (cA 0, 701, .inl ft)), (g3, .inl (cA 1, 701, .inr (.inl fv)))] s.heap := hP
  have hl := lv_entry ([.ref r0, .int 0]) (n := 2) (Nat.le_of_ble_eq_true rfl)
  rw [lg_entry_eq]
  generalize (lg_sl ([.ref r0, .int 0]) ++ List.replicate (2 - (lg_sl ([.ref r0, .int 0])).length) Slot.unset).toArray = ls at hl ⊢
  have hl : lv_has ls 2 [(0, .ref r0), (1, .int 0)] := hl
  have inX4 : ∀ w ∈ u_ws RX4 TX4 9, w ∈ wsX4_lookAt := by decide +kernel
  have inX5 : ∀ w ∈ u_ws RX5 TX5 4, w ∈ wsX4_lookAt := by decide +kernel
  refine lv_iload_n hx hb dX4_lookAt_0 rfl (lv_at hl 1 rfl) ?_
  refine lv_if_lt (tgt := 59) hx hb dX4_lookAt_1 (by decide) (fun c9 => absurd c9 (by decide)) (fun c1 => ?_)
  refine lv_iload_n hx hb dX4_lookAt_4 rfl (lv_at hl 1 rfl) ?_
  refine lv_aload_n hx hb dX4_lookAt_5 rfl (lv_at hl 0 rfl) ?_
  refine va_get (D := D) (ci := 8) (v := .ref r1) (C := RX4) (T := TX4) (N := 9) hx hb hts inX4 hown hK hP 0 rfl rfl 0 (by decide) (hts (.fieldLink RX4 12 "EscrowDesk$Reader" "scanner" "LEscrowDesk$Scanner;") (by decide +kernel)) (fun _ h9 => h9) rfl dX4_lookAt_6 ?_
  refine va_getN (D := D) (ci := 9) (v := .int 1) (C := RX5) (T := TX5) (N := 4) hx hb hts inX5 hown hK hP 1 rfl rfl 3 (by decide) (hC.f (A := _) (a := RX4) (i := 67) (b := "EscrowDesk$Scanner") (n := "count") (d := "I") (x := "EscrowDesk") (by decide +kernel)) (fun _ h9 => h9) rfl dX4_lookAt_9 ?_
  refine lv_icmp_ge (tgt := 59) hx hb dX4_lookAt_12 (by decide) (fun c9 => absurd c9 (by decide)) (fun c2 => ?_)
  refine lv_aload_n hx hb dX4_lookAt_15 rfl (lv_at hl 0 rfl) ?_
  refine lv_iload_n hx hb dX4_lookAt_16 rfl (lv_at hl 1 rfl) ?_
  refine va_put (D := D) (ci := 8) (v := .int 0) (ty := .int) (C := RX4) (T := TX4) (N := 9) hx hb hts inX4 tyX4 tyX4_ok nmX4 hown hK hP hD hS 0 rfl rfl 2 (by decide) (hts (.fieldLink RX4 70 "EscrowDesk$Reader" "token" "I") (by decide +kernel)) (fun _ h9 => h9) rfl (by decide +kernel) rfl rfl (Nat.le_of_ble_eq_true rfl) dX4_lookAt_17 (fun H locs hP hD hS => ?_)
  have hP : va_P D vwCl [(r0, .inr (8, [.ref r1, .ref u0, .int 0, .int 0, .int 0, .long 0, .int 0, .int 0, .int (-1)])), (r1, .inr (9, [.ref g1, .ref g2, .ref g3, .int 1])), (g1, .inl (cA 0, 701, .inl fk)), (g2, .inl (cA 0, 701, .inl ft)), (g3, .inl (cA 1, 701, .inr (.inl fv)))] H := hP
  have hD : va_D A [(r0, .inr (8, [.ref r1, .ref u0, .int 0, .int 0, .int 0, .long 0, .int 0, .int 0, .int (-1)])), (r1, .inr (9, [.ref g1, .ref g2, .ref g3, .int 1])), (g1, .inl (cA 0, 701, .inl fk)), (g2, .inl (cA 0, 701, .inl ft)), (g3, .inl (cA 1, 701, .inr (.inl fv)))] := hD
  refine lv_aload_n hx hb dX4_lookAt_20 rfl (lv_at hl 0 rfl) ?_
  refine lv_aload_n hx hb dX4_lookAt_21 rfl (lv_at hl 0 rfl) ?_
  refine va_get (D := D) (ci := 8) (v := .ref r1) (C := RX4) (T := TX4) (N := 9) hx hb hts inX4 hown hK hP 0 rfl rfl 0 (by decide) (hts (.fieldLink RX4 12 "EscrowDesk$Reader" "scanner" "LEscrowDesk$Scanner;") (by decide +kernel)) (fun _ h9 => h9) rfl dX4_lookAt_22 ?_
  refine va_getN (D := D) (ci := 9) (v := .ref g1) (C := RX5) (T := TX5) (N := 4) hx hb hts inX5 hown hK hP 1 rfl rfl 0 (by decide) (hC.f (A := _) (a := RX4) (i := 73) (b := "EscrowDesk$Scanner") (n := "kinds") (d := "[I") (x := "EscrowDesk") (by decide +kernel)) (fun _ h9 => h9) rfl dX4_lookAt_25 ?_
  refine lv_iload_n hx hb dX4_lookAt_28 rfl (lv_at hl 1 rfl) ?_
  refine va_iald hx hb hK hP 2 0 rfl rfl (vp_in_iff.mpr (by decide)) dX4_lookAt_29 ?_
  refine lv_topi (fun yn3 eyn3 => ?_)
  obtain rfl : yn3 = 1 := eyn3.trans hk
  refine va_put (D := D) (ci := 8) (v := .int 1) (ty := .int) (C := RX4) (T := TX4) (N := 9) hx hb hts inX4 tyX4 tyX4_ok nmX4 hown hK hP hD hS 0 rfl rfl 3 (by decide) (hts (.fieldLink RX4 42 "EscrowDesk$Reader" "kind" "I") (by decide +kernel)) (fun _ h9 => h9) rfl (by decide +kernel) rfl rfl (Nat.le_of_ble_eq_true rfl) dX4_lookAt_30 (fun H locs hP hD hS => ?_)
  have hP : va_P D vwCl [(r0, .inr (8, [.ref r1, .ref u0, .int 0, .int 1, .int 0, .long 0, .int 0, .int 0, .int (-1)])), (r1, .inr (9, [.ref g1, .ref g2, .ref g3, .int 1])), (g1, .inl (cA 0, 701, .inl fk)), (g2, .inl (cA 0, 701, .inl ft)), (g3, .inl (cA 1, 701, .inr (.inl fv)))] H := hP
  have hD : va_D A [(r0, .inr (8, [.ref r1, .ref u0, .int 0, .int 1, .int 0, .long 0, .int 0, .int 0, .int (-1)])), (r1, .inr (9, [.ref g1, .ref g2, .ref g3, .int 1])), (g1, .inl (cA 0, 701, .inl fk)), (g2, .inl (cA 0, 701, .inl ft)), (g3, .inl (cA 1, 701, .inr (.inl fv)))] := hD
  refine lv_aload_n hx hb dX4_lookAt_33 rfl (lv_at hl 0 rfl) ?_
  refine lv_aload_n hx hb dX4_lookAt_34 rfl (lv_at hl 0 rfl) ?_
  refine va_get (D := D) (ci := 8) (v := .ref r1) (C := RX4) (T := TX4) (N := 9) hx hb hts inX4 hown hK hP 0 rfl rfl 0 (by decide) (hts (.fieldLink RX4 12 "EscrowDesk$Reader" "scanner" "LEscrowDesk$Scanner;") (by decide +kernel)) (fun _ h9 => h9) rfl dX4_lookAt_35 ?_
  refine va_getN (D := D) (ci := 9) (v := .ref g2) (C := RX5) (T := TX5) (N := 4) hx hb hts inX5 hown hK hP 1 rfl rfl 1 (by decide) (hC.f (A := _) (a := RX4) (i := 77) (b := "EscrowDesk$Scanner") (n := "starts") (d := "[I") (x := "EscrowDesk") (by decide +kernel)) (fun _ h9 => h9) rfl dX4_lookAt_38 ?_
  refine lv_iload_n hx hb dX4_lookAt_41 rfl (lv_at hl 1 rfl) ?_
  refine va_iald hx hb hK hP 3 0 rfl rfl (vp_in_iff.mpr (by decide)) dX4_lookAt_42 ?_
  refine lv_topi (fun yn4 eyn4 => ?_)
  refine va_put (D := D) (ci := 8) (v := .int yn4) (ty := .int) (C := RX4) (T := TX4) (N := 9) hx hb hts inX4 tyX4 tyX4_ok nmX4 hown hK hP hD hS 0 rfl rfl 4 (by decide) (hts (.fieldLink RX4 80 "EscrowDesk$Reader" "start" "I") (by decide +kernel)) (fun _ h9 => h9) rfl (by decide +kernel) rfl rfl (Nat.le_of_ble_eq_true rfl) dX4_lookAt_43 (fun H locs hP hD hS => ?_)
  have hP : va_P D vwCl [(r0, .inr (8, [.ref r1, .ref u0, .int 0, .int 1, .int yn4, .long 0, .int 0, .int 0, .int (-1)])), (r1, .inr (9, [.ref g1, .ref g2, .ref g3, .int 1])), (g1, .inl (cA 0, 701, .inl fk)), (g2, .inl (cA 0, 701, .inl ft)), (g3, .inl (cA 1, 701, .inr (.inl fv)))] H := hP
  have hD : va_D A [(r0, .inr (8, [.ref r1, .ref u0, .int 0, .int 1, .int yn4, .long 0, .int 0, .int 0, .int (-1)])), (r1, .inr (9, [.ref g1, .ref g2, .ref g3, .int 1])), (g1, .inl (cA 0, 701, .inl fk)), (g2, .inl (cA 0, 701, .inl ft)), (g3, .inl (cA 1, 701, .inr (.inl fv)))] := hD
  refine lv_aload_n hx hb dX4_lookAt_46 rfl (lv_at hl 0 rfl) ?_
  refine lv_aload_n hx hb dX4_lookAt_47 rfl (lv_at hl 0 rfl) ?_
  refine va_get (D := D) (ci := 8) (v := .ref r1) (C := RX4) (T := TX4) (N := 9) hx hb hts inX4 hown hK hP 0 rfl rfl 0 (by decide) (hts (.fieldLink RX4 12 "EscrowDesk$Reader" "scanner" "LEscrowDesk$Scanner;") (by decide +kernel)) (fun _ h9 => h9) rfl dX4_lookAt_48 ?_
  refine va_getN (D := D) (ci := 9) (v := .ref g3) (C := RX5) (T := TX5) (N := 4) hx hb hts inX5 hown hK hP 1 rfl rfl 2 (by decide) (hC.f (A := _) (a := RX4) (i := 83) (b := "EscrowDesk$Scanner") (n := "values") (d := "[J") (x := "EscrowDesk") (by decide +kernel)) (fun _ h9 => h9) rfl dX4_lookAt_51 ?_
  refine lv_iload_n hx hb dX4_lookAt_54 rfl (lv_at hl 1 rfl) ?_
  refine va_lald hx hb hK hP 4 1 rfl rfl (vp_in_iff.mpr (by decide)) dX4_lookAt_55 ?_
  refine lv_topl (fun yn5 eyn5 => ?_)
  refine va_put (D := D) (ci := 8) (v := .long yn5) (ty := .long) (C := RX4) (T := TX4) (N := 9) hx hb hts inX4 tyX4 tyX4_ok nmX4 hown hK hP hD hS 0 rfl rfl 5 (by decide) (hts (.fieldLink RX4 87 "EscrowDesk$Reader" "value" "J") (by decide +kernel)) (fun _ h9 => h9) rfl (by decide +kernel) rfl rfl (Nat.le_of_ble_eq_true rfl) dX4_lookAt_56 (fun H locs hP hD hS => ?_)
  have hP : va_P D vwCl [(r0, .inr (8, [.ref r1, .ref u0, .int 0, .int 1, .int yn4, .long yn5, .int 0, .int 0, .int (-1)])), (r1, .inr (9, [.ref g1, .ref g2, .ref g3, .int 1])), (g1, .inl (cA 0, 701, .inl fk)), (g2, .inl (cA 0, 701, .inl ft)), (g3, .inl (cA 1, 701, .inr (.inl fv)))] H := hP
  have hD : va_D A [(r0, .inr (8, [.ref r1, .ref u0, .int 0, .int 1, .int yn4, .long yn5, .int 0, .int 0, .int (-1)])), (r1, .inr (9, [.ref g1, .ref g2, .ref g3, .int 1])), (g1, .inl (cA 0, 701, .inl fk)), (g2, .inl (cA 0, 701, .inl ft)), (g3, .inl (cA 1, 701, .inr (.inl fv)))] := hD
  have hP9 := hP.sub (ws' := [(r0, .inr (8, [.ref r1, .ref u0, .int 0, .int 1, .int yn4, .long yn5, .int 0, .int 0, .int (-1)])), (r1, .inr (9, [.ref g1, .ref g2, .ref g3, .int 1])), (g1, .inl (cA 0, 701, .inl fk)), (g2, .inl (cA 0, 701, .inl ft)), (g3, .inl (cA 1, 701, .inr (.inl fv)))]) [0, 1, 2, 3, 4] rfl
  have hD9 := hD.sub (ws' := [(r0, .inr (8, [.ref r1, .ref u0, .int 0, .int 1, .int yn4, .long yn5, .int 0, .int 0, .int (-1)])), (r1, .inr (9, [.ref g1, .ref g2, .ref g3, .int 1])), (g1, .inl (cA 0, 701, .inl fk)), (g2, .inl (cA 0, 701, .inl ft)), (g3, .inl (cA 1, 701, .inr (.inl fv)))]) [0, 1, 2, 3, 4] (by decide) rfl
  refine W.widen (k := 0) (n := 0) (Nat.le_of_ble_eq_true rfl) (Nat.le_of_ble_eq_true rfl) ?_
  exact W.vret hx hb hr (fun t ht hW => ⟨⟨(), rfl, trivial, yn4, yn5, by rw [ht]; exact hP9, hD9⟩, hS.F ht⟩) hS.2.2 dX4_lookAt_59

set_option maxHeartbeats 4000000 in
set_option maxRecDepth 100000 in
/-- clear() -/
theorem c_X3_clear (l : Launch) (D : va_G) (cA : Nat → ClassId) (sa : Nat → Nat) (u0 u1 u2 u3 u4 u5 u6 u7 u8 u9 : Nat) (sz : Nat) : Met l yX3_clear wsX3_clear ({ frames := 0, cells := 0, slots := 0, locals := 0 }) (va_Pc [.ref u0] (Wd D cA sa [(u0, .inr (7, [.int 0, .int 365, .int 0, .int 0, .ref u1, .int 0, .ref u2, .ref u3, .ref u4, .ref u5, .int 0, .ref u6, .int 0, .ref u7, .ref u8, .ref u9, .int 0]))] sz)) (va_Qv (fun _ : Unit => True) (fun (_ : Unit) t => Wq D (va_A [(u0, .inr (7, [.int 0, .int 365, .int 0, .int 0, .ref u1, .int 0, .ref u2, .ref u3, .ref u4, .ref u5, .int 0, .ref u6, .int 0, .ref u7, .ref u8, .ref u9, .int 0]))] sz) [(u0, .inr (7, [.int 0, .int 365, .int 0, .int 0, .ref u1, .int 0, .ref u2, .ref u3, .ref u4, .ref u5, .int 0, .ref u6, .int 0, .ref u7, .ref u8, .ref u9, .int 0]))] t) (va_A [(u0, .inr (7, [.int 0, .int 365, .int 0, .int 0, .ref u1, .int 0, .ref u2, .ref u3, .ref u4, .ref u5, .int 0, .ref u6, .int 0, .ref u7, .ref u8, .ref u9, .int 0]))] sz)) 0 0 (va_A [(u0, .inr (7, [.int 0, .int 365, .int 0, .int 0, .ref u1, .int 0, .ref u2, .ref u3, .ref u4, .ref u5, .int 0, .ref u6, .int 0, .ref u7, .ref u8, .ref u9, .int 0]))] sz) := by
  refine Met.ofW (cc := cX3_clear) (maxL := 1) (ret := none) (by decide) rfl ?_
  intro p e s m args below meth c s₁ B hml hv
  obtain ⟨rfl, hsz, hP, hK, hD0, hC, hZ⟩ := hv
  have hx := B.exec
  have hb := B.bytes
  have hr := B.returns
  have hts := atoms_spec (ws := wsX3_clear) B.pre
  have hown : s.vm.findClass RX3 = some m.cls := findClass_of_methodNamed B.named
  have hlocks := B.notSynchronized
  subst hsz
  have hD := hD0.self (sz := s.heap.size)
  generalize hAe : va_A [(u0, .inr (7, [.int 0, .int 365, .int 0, .int 0, .ref u1, .int 0, .ref u2, .ref u3, .ref u4, .ref u5, .int 0, .ref u6, .int 0, .ref u7, .ref u8, .ref u9, .int 0]))] s.heap.size = A at hD hZ ⊢
  have hA : ∀ q : Nat, s.heap.size ≤ q → A q := fun q h => by rw [← hAe]; exact Or.inr h
  have hS : va_S A s.heap s.heap [] := va_S.rf
  have hP : va_P D vwCl [(u0, .inr (7, [.int 0, .int 365, .int 0, .int 0, .ref u1, .int 0, .ref u2, .ref u3, .ref u4, .ref u5, .int 0, .ref u6, .int 0, .ref u7, .ref u8, .ref u9, .int 0]))] s.heap := hP
  have hl := lv_entry ([.ref u0]) (n := 1) (Nat.le_of_ble_eq_true rfl)
  rw [lg_entry_eq]
  generalize (lg_sl ([.ref u0]) ++ List.replicate (1 - (lg_sl ([.ref u0])).length) Slot.unset).toArray = ls at hl ⊢
  have hl : lv_has ls 1 [(0, .ref u0)] := hl
  have inX3 : ∀ w ∈ u_ws RX3 TX3 17, w ∈ wsX3_clear := by decide +kernel
  refine lv_aload_n hx hb dX3_clear_0 rfl (lv_at hl 0 rfl) ?_
  refine lv_iconst (v := 0) hx hb dX3_clear_1 (by decide) ?_
  refine va_put (D := D) (ci := 7) (v := .int 0) (ty := .int) (C := RX3) (T := TX3) (N := 17) hx hb hts inX3 tyX3 tyX3_ok nmX3 hown hK hP hD hS 0 rfl rfl 0 (by decide) (hts (.fieldLink RX3 44 "EscrowDesk$Plan" "rate" "I") (by decide +kernel)) (fun _ h9 => h9) rfl (by decide +kernel) rfl rfl (Nat.le_of_ble_eq_true rfl) dX3_clear_2 (fun H locs hP hD hS => ?_)
  have hP : va_P D vwCl [(u0, .inr (7, [.int 0, .int 365, .int 0, .int 0, .ref u1, .int 0, .ref u2, .ref u3, .ref u4, .ref u5, .int 0, .ref u6, .int 0, .ref u7, .ref u8, .ref u9, .int 0]))] H := hP
  have hD : va_D A [(u0, .inr (7, [.int 0, .int 365, .int 0, .int 0, .ref u1, .int 0, .ref u2, .ref u3, .ref u4, .ref u5, .int 0, .ref u6, .int 0, .ref u7, .ref u8, .ref u9, .int 0]))] := hD
  refine lv_aload_n hx hb dX3_clear_5 rfl (lv_at hl 0 rfl) ?_
  refine lv_sipush (v := 365) hx hb dX3_clear_6 (by decide) ?_
  refine va_put (D := D) (ci := 7) (v := .int 365) (ty := .int) (C := RX3) (T := TX3) (N := 17) hx hb hts inX3 tyX3 tyX3_ok nmX3 hown hK hP hD hS 0 rfl rfl 1 (by decide) (hts (.fieldLink RX3 9 "EscrowDesk$Plan" "basis" "I") (by decide +kernel)) (fun _ h9 => h9) rfl (by decide +kernel) rfl rfl (Nat.le_of_ble_eq_true rfl) dX3_clear_9 (fun H locs hP hD hS => ?_)
  have hP : va_P D vwCl [(u0, .inr (7, [.int 0, .int 365, .int 0, .int 0, .ref u1, .int 0, .ref u2, .ref u3, .ref u4, .ref u5, .int 0, .ref u6, .int 0, .ref u7, .ref u8, .ref u9, .int 0]))] H := hP
  have hD : va_D A [(u0, .inr (7, [.int 0, .int 365, .int 0, .int 0, .ref u1, .int 0, .ref u2, .ref u3, .ref u4, .ref u5, .int 0, .ref u6, .int 0, .ref u7, .ref u8, .ref u9, .int 0]))] := hD
  refine lv_aload_n hx hb dX3_clear_12 rfl (lv_at hl 0 rfl) ?_
  refine lv_iconst (v := 0) hx hb dX3_clear_13 (by decide) ?_
  refine va_put (D := D) (ci := 7) (v := .int 0) (ty := .int) (C := RX3) (T := TX3) (N := 17) hx hb hts inX3 tyX3 tyX3_ok nmX3 hown hK hP hD hS 0 rfl rfl 2 (by decide) (hts (.fieldLink RX3 47 "EscrowDesk$Plan" "fee" "I") (by decide +kernel)) (fun _ h9 => h9) rfl (by decide +kernel) rfl rfl (Nat.le_of_ble_eq_true rfl) dX3_clear_14 (fun H locs hP hD hS => ?_)
  have hP : va_P D vwCl [(u0, .inr (7, [.int 0, .int 365, .int 0, .int 0, .ref u1, .int 0, .ref u2, .ref u3, .ref u4, .ref u5, .int 0, .ref u6, .int 0, .ref u7, .ref u8, .ref u9, .int 0]))] H := hP
  have hD : va_D A [(u0, .inr (7, [.int 0, .int 365, .int 0, .int 0, .ref u1, .int 0, .ref u2, .ref u3, .ref u4, .ref u5, .int 0, .ref u6, .int 0, .ref u7, .ref u8, .ref u9, .int 0]))] := hD
  refine lv_aload_n hx hb dX3_clear_17 rfl (lv_at hl 0 rfl) ?_
  refine lv_iconst (v := 0) hx hb dX3_clear_18 (by decide) ?_
  refine va_put (D := D) (ci := 7) (v := .int 0) (ty := .int) (C := RX3) (T := TX3) (N := 17) hx hb hts inX3 tyX3 tyX3_ok nmX3 hown hK hP hD hS 0 rfl rfl 3 (by decide) (hts (.fieldLink RX3 50 "EscrowDesk$Plan" "grace" "I") (by decide +kernel)) (fun _ h9 => h9) rfl (by decide +kernel) rfl rfl (Nat.le_of_ble_eq_true rfl) dX3_clear_19 (fun H locs hP hD hS => ?_)
  have hP : va_P D vwCl [(u0, .inr (7, [.int 0, .int 365, .int 0, .int 0, .ref u1, .int 0, .ref u2, .ref u3, .ref u4, .ref u5, .int 0, .ref u6, .int 0, .ref u7, .ref u8, .ref u9, .int 0]))] H := hP
  have hD : va_D A [(u0, .inr (7, [.int 0, .int 365, .int 0, .int 0, .ref u1, .int 0, .ref u2, .ref u3, .ref u4, .ref u5, .int 0, .ref u6, .int 0, .ref u7, .ref u8, .ref u9, .int 0]))] := hD
  refine lv_aload_n hx hb dX3_clear_22 rfl (lv_at hl 0 rfl) ?_
  refine lv_iconst (v := 0) hx hb dX3_clear_23 (by decide) ?_
  refine va_put (D := D) (ci := 7) (v := .int 0) (ty := .int) (C := RX3) (T := TX3) (N := 17) hx hb hts inX3 tyX3 tyX3_ok nmX3 hown hK hP hD hS 0 rfl rfl 5 (by decide) (hts (.fieldLink RX3 53 "EscrowDesk$Plan" "depositCount" "I") (by decide +kernel)) (fun _ h9 => h9) rfl (by decide +kernel) rfl rfl (Nat.le_of_ble_eq_true rfl) dX3_clear_24 (fun H locs hP hD hS => ?_)
  have hP : va_P D vwCl [(u0, .inr (7, [.int 0, .int 365, .int 0, .int 0, .ref u1, .int 0, .ref u2, .ref u3, .ref u4, .ref u5, .int 0, .ref u6, .int 0, .ref u7, .ref u8, .ref u9, .int 0]))] H := hP
  have hD : va_D A [(u0, .inr (7, [.int 0, .int 365, .int 0, .int 0, .ref u1, .int 0, .ref u2, .ref u3, .ref u4, .ref u5, .int 0, .ref u6, .int 0, .ref u7, .ref u8, .ref u9, .int 0]))] := hD
  refine lv_aload_n hx hb dX3_clear_27 rfl (lv_at hl 0 rfl) ?_
  refine lv_iconst (v := 0) hx hb dX3_clear_28 (by decide) ?_
  refine va_put (D := D) (ci := 7) (v := .int 0) (ty := .int) (C := RX3) (T := TX3) (N := 17) hx hb hts inX3 tyX3 tyX3_ok nmX3 hown hK hP hD hS 0 rfl rfl 10 (by decide) (hts (.fieldLink RX3 56 "EscrowDesk$Plan" "milestoneCount" "I") (by decide +kernel)) (fun _ h9 => h9) rfl (by decide +kernel) rfl rfl (Nat.le_of_ble_eq_true rfl) dX3_clear_29 (fun H locs hP hD hS => ?_)
  have hP : va_P D vwCl [(u0, .inr (7, [.int 0, .int 365, .int 0, .int 0, .ref u1, .int 0, .ref u2, .ref u3, .ref u4, .ref u5, .int 0, .ref u6, .int 0, .ref u7, .ref u8, .ref u9, .int 0]))] H := hP
  have hD : va_D A [(u0, .inr (7, [.int 0, .int 365, .int 0, .int 0, .ref u1, .int 0, .ref u2, .ref u3, .ref u4, .ref u5, .int 0, .ref u6, .int 0, .ref u7, .ref u8, .ref u9, .int 0]))] := hD
  refine lv_aload_n hx hb dX3_clear_32 rfl (lv_at hl 0 rfl) ?_
  refine lv_iconst (v := 0) hx hb dX3_clear_33 (by decide) ?_
  refine va_put (D := D) (ci := 7) (v := .int 0) (ty := .int) (C := RX3) (T := TX3) (N := 17) hx hb hts inX3 tyX3 tyX3_ok nmX3 hown hK hP hD hS 0 rfl rfl 12 (by decide) (hts (.fieldLink RX3 59 "EscrowDesk$Plan" "proofCount" "I") (by decide +kernel)) (fun _ h9 => h9) rfl (by decide +kernel) rfl rfl (Nat.le_of_ble_eq_true rfl) dX3_clear_34 (fun H locs hP hD hS => ?_)
  have hP : va_P D vwCl [(u0, .inr (7, [.int 0, .int 365, .int 0, .int 0, .ref u1, .int 0, .ref u2, .ref u3, .ref u4, .ref u5, .int 0, .ref u6, .int 0, .ref u7, .ref u8, .ref u9, .int 0]))] H := hP
  have hD : va_D A [(u0, .inr (7, [.int 0, .int 365, .int 0, .int 0, .ref u1, .int 0, .ref u2, .ref u3, .ref u4, .ref u5, .int 0, .ref u6, .int 0, .ref u7, .ref u8, .ref u9, .int 0]))] := hD
  refine lv_aload_n hx hb dX3_clear_37 rfl (lv_at hl 0 rfl) ?_
  refine lv_iconst (v := 0) hx hb dX3_clear_38 (by decide) ?_
  refine va_put (D := D) (ci := 7) (v := .int 0) (ty := .int) (C := RX3) (T := TX3) (N := 17) hx hb hts inX3 tyX3 tyX3_ok nmX3 hown hK hP hD hS 0 rfl rfl 16 (by decide) (hts (.fieldLink RX3 62 "EscrowDesk$Plan" "stepCount" "I") (by decide +kernel)) (fun _ h9 => h9) rfl (by decide +kernel) rfl rfl (Nat.le_of_ble_eq_true rfl) dX3_clear_39 (fun H locs hP hD hS => ?_)
  have hP : va_P D vwCl [(u0, .inr (7, [.int 0, .int 365, .int 0, .int 0, .ref u1, .int 0, .ref u2, .ref u3, .ref u4, .ref u5, .int 0, .ref u6, .int 0, .ref u7, .ref u8, .ref u9, .int 0]))] H := hP
  have hD : va_D A [(u0, .inr (7, [.int 0, .int 365, .int 0, .int 0, .ref u1, .int 0, .ref u2, .ref u3, .ref u4, .ref u5, .int 0, .ref u6, .int 0, .ref u7, .ref u8, .ref u9, .int 0]))] := hD
  have hP9 := hP.sub (ws' := [(u0, .inr (7, [.int 0, .int 365, .int 0, .int 0, .ref u1, .int 0, .ref u2, .ref u3, .ref u4, .ref u5, .int 0, .ref u6, .int 0, .ref u7, .ref u8, .ref u9, .int 0]))]) [0] rfl
  have hD9 := hD.sub (ws' := [(u0, .inr (7, [.int 0, .int 365, .int 0, .int 0, .ref u1, .int 0, .ref u2, .ref u3, .ref u4, .ref u5, .int 0, .ref u6, .int 0, .ref u7, .ref u8, .ref u9, .int 0]))]) [0] (by decide) rfl
  refine W.widen (k := 0) (n := 0) (Nat.le_of_ble_eq_true rfl) (Nat.le_of_ble_eq_true rfl) ?_
  exact W.vret hx hb hr (fun t ht hW => ⟨⟨(), rfl, trivial, by rw [ht]; exact hP9, hD9⟩, hS.F ht⟩) hS.2.2 dX3_clear_42

set_option maxHeartbeats 4000000 in
set_option maxRecDepth 100000 in
/-- readText: nothing to read -/
theorem c_readText (l : Launch) (D : va_G) (cA : Nat → ClassId) (sa : Nat → Nat) (r0 u0 u1 u2 u3 u4 u5 u6 u7 u8 u9 r1 g1 g2 g3 b0 : Nat) (fk ft : Nat → Int32) (fv : Nat → Int64) (sz : Nat) : Met l yX4_readText wsX4_readText ({ frames := 7, cells := 0, slots := 0, locals := 159 }) (va_Pc [.ref r0, .ref b0, .int 0, .ref u0] (Wd D cA sa [(r0, .inr (8, [.ref r1, .ref u0, .int 0, .int 0, .int 0, .long 0, .int 0, .int 0, .int (-1)])), (r1, .inr (9, [.ref g1, .ref g2, .ref g3, .int 0])), (g1, .inl (cA 0, 701, .inl fk)), (g2, .inl (cA 0, 701, .inl ft)), (g3, .inl (cA 1, 701, .inr (.inl fv))), (u0, .inr (7, [.int 0, .int 365, .int 0, .int 0, .ref u1, .int 0, .ref u2, .ref u3, .ref u4, .ref u5, .int 0, .ref u6, .int 0, .ref u7, .ref u8, .ref u9, .int 0]))] sz)) (va_Qi (fun (r : Int32) (_ : Unit) => r = 1) (fun (_ : Unit) t => Wq D (va_A [(r0, .inr (8, [.ref r1, .ref u0, .int 0, .int 0, .int 0, .long 0, .int 0, .int 0, .int (-1)])), (r1, .inr (9, [.ref g1, .ref g2, .ref g3, .int 0])), (g1, .inl (cA 0, 701, .inl fk)), (g2, .inl (cA 0, 701, .inl ft)), (g3, .inl (cA 1, 701, .inr (.inl fv))), (u0, .inr (7, [.int 0, .int 365, .int 0, .int 0, .ref u1, .int 0, .ref u2, .ref u3, .ref u4, .ref u5, .int 0, .ref u6, .int 0, .ref u7, .ref u8, .ref u9, .int 0]))] sz) [(u0, .inr (7, [.int 0, .int 365, .int 0, .int 0, .ref u1, .int 0, .ref u2, .ref u3, .ref u4, .ref u5, .int 0, .ref u6, .int 0, .ref u7, .ref u8, .ref u9, .int 0]))] t) (va_A [(r0, .inr (8, [.ref r1, .ref u0, .int 0, .int 0, .int 0, .long 0, .int 0, .int 0, .int (-1)])), (r1, .inr (9, [.ref g1, .ref g2, .ref g3, .int 0])), (g1, .inl (cA 0, 701, .inl fk)), (g2, .inl (cA 0, 701, .inl ft)), (g3, .inl (cA 1, 701, .inr (.inl fv))), (u0, .inr (7, [.int 0, .int 365, .int 0, .int 0, .ref u1, .int 0, .ref u2, .ref u3, .ref u4, .ref u5, .int 0, .ref u6, .int 0, .ref u7, .ref u8, .ref u9, .int 0]))] sz)) 0 0 (va_A [(r0, .inr (8, [.ref r1, .ref u0, .int 0, .int 0, .int 0, .long 0, .int 0, .int 0, .int (-1)])), (r1, .inr (9, [.ref g1, .ref g2, .ref g3, .int 0])), (g1, .inl (cA 0, 701, .inl fk)), (g2, .inl (cA 0, 701, .inl ft)), (g3, .inl (cA 1, 701, .inr (.inl fv))), (u0, .inr (7, [.int 0, .int 365, .int 0, .int 0, .ref u1, .int 0, .ref u2, .ref u3, .ref u4, .ref u5, .int 0, .ref u6, .int 0, .ref u7, .ref u8, .ref u9, .int 0]))] sz) := by
  refine Met.ofW (cc := cX4_readText) (maxL := 6) (ret := (some .boolean)) (by decide) rfl ?_
  intro p e s m args below meth c s₁ B hml hv
  obtain ⟨rfl, hsz, hP, hK, hD0, hC, hZ⟩ := hv
  have hx := B.exec
  have hb := B.bytes
  have hr := B.returns
  have hts := atoms_spec (ws := wsX4_readText) B.pre
  have hown : s.vm.findClass RX4 = some m.cls := findClass_of_methodNamed B.named
  have hlocks := B.notSynchronized
  subst hsz
  have hD := hD0.self (sz := s.heap.size)
  generalize hAe : va_A [(r0, .inr (8, [.ref r1, .ref u0, .int 0, .int 0, .int 0, .long 0, .int 0, .int 0, .int (-1)])), (r1, .inr (9, [.ref g1, .ref g2, .ref g3, .int 0])), (g1, .inl (cA 0, 701, .inl fk)), (g2, .inl (cA 0, 701, .inl ft)), (g3, .inl (cA 1, 701, .inr (.inl fv))), (u0, .inr (7, [.int 0, .int 365, .int 0, .int 0, .ref u1, .int 0, .ref u2, .ref u3, .ref u4, .ref u5, .int 0, .ref u6, .int 0, .ref u7, .ref u8, .ref u9, .int 0]))] s.heap.size = A at hD hZ ⊢
  have hA : ∀ q : Nat, s.heap.size ≤ q → A q := fun q h => by rw [← hAe]; exact Or.inr h
  have hS : va_S A s.heap s.heap [] := va_S.rf
  have hP : va_P D vwCl [(r0, .inr (8, [.ref r1, .ref u0, .int 0, .int 0, .int 0, .long 0, .int 0, .int 0, .int (-1)])), (r1, .inr (9, [.ref g1, .ref g2, .ref g3, .int 0])), (g1, .inl (cA 0, 701, .inl fk)), (g2, .inl (cA 0, 701, .inl ft)), (g3, .inl (cA 1, 701, .inr (.inl fv))), (u0, .inr (7, [.int 0, .int 365, .int 0, .int 0, .ref u1, .int 0, .ref u2, .ref u3, .ref u4, .ref u5, .int 0, .ref u6, .int 0, .ref u7, .ref u8, .ref u9, .int 0]))] s.heap := hP
  have hl := lv_entry ([.ref r0, .ref b0, .int 0, .ref u0]) (n := 6) (Nat.le_of_ble_eq_true rfl)
  rw [lg_entry_eq]
  generalize (lg_sl ([.ref r0, .ref b0, .int 0, .ref u0]) ++ List.replicate (6 - (lg_sl ([.ref r0, .ref b0, .int 0, .ref u0])).length) Slot.unset).toArray = ls at hl ⊢
  have hl : lv_has ls 6 [(0, .ref r0), (1, .ref b0), (2, .int 0), (3, .ref u0)] := hl
  have inX4 : ∀ w ∈ u_ws RX4 TX4 9, w ∈ wsX4_readText := by decide +kernel
  refine lv_aload_n hx hb dX4_readText_0 rfl (lv_at hl 0 rfl) ?_
  refine va_get (D := D) (ci := 8) (v := .ref r1) (C := RX4) (T := TX4) (N := 9) hx hb hts inX4 hown hK hP 0 rfl rfl 0 (by decide) (hts (.fieldLink RX4 12 "EscrowDesk$Reader" "scanner" "LEscrowDesk$Scanner;") (by decide +kernel)) (fun _ h9 => h9) rfl dX4_readText_1 ?_
  refine lv_aload_n hx hb dX4_readText_4 rfl (lv_at hl 1 rfl) ?_
  refine lv_iload_n hx hb dX4_readText_5 rfl (lv_at hl 2 rfl) ?_
  have hPc := hP.sub (ws' := [(r1, .inr (9, [.ref g1, .ref g2, .ref g3, .int 0])), (g1, .inl (cA 0, 701, .inl fk)), (g2, .inl (cA 0, 701, .inl ft)), (g3, .inl (cA 1, 701, .inr (.inl fv)))]) [1, 2, 3, 4] rfl
  have hDc := hD.sub (ws' := [(r1, .inr (9, [.ref g1, .ref g2, .ref g3, .int 0])), (g1, .inl (cA 0, 701, .inl fk)), (g2, .inl (cA 0, 701, .inl ft)), (g3, .inl (cA 1, 701, .inr (.inl fv)))]) [1, 2, 3, 4] (by decide) rfl
  have hFc := va_free (wc := [(r1, .inr (9, [.ref g1, .ref g2, .ref g3, .int 0])), (g1, .inl (cA 0, 701, .inl fk)), (g2, .inl (cA 0, 701, .inl ft)), (g3, .inl (cA 1, 701, .inr (.inl fv)))]) hD hS hA [1, 2, 3, 4] rfl
  refine va_callv (va_runV (As := [.ref b0, .int 0]) (rest := []) ⟨hx, hb, hml, hown, hts⟩ (c_split l D cA sa r1 g1 g2 g3 b0 fk ft fv s.heap.size) (cwV 2 hts gX4_readText_X5_split rfl rfl rfl (by decide +kernel) ⟨(Nat.le_of_ble_eq_true rfl), (Nat.le_of_ble_eq_true rfl)⟩) ⟨Wd.blind, va_recv hK hPc (ci := 9) (q0 := 0) rfl rfl, fun U hU hW => ⟨rfl, Wd.call hPc hDc hK hC hZ hS hFc U hU hW⟩⟩ rfl rfl hl.1 rfl (lv_room (Nat.le_of_ble_eq_true rfl)) dX4_readText_6 ⟨(Nat.le_of_ble_eq_true rfl), (Nat.le_of_ble_eq_true rfl)⟩) hS (fun q _ h => hFc q h) hFc (fun u t H1 locs ht hvm hw hB hz1 hk1 hS => ?_)
  obtain ⟨fn1, fn2, fn3, hn4, hP1, hD1⟩ := hB
  rw [ht] at hP1
  obtain ⟨hP, hD⟩ := va_join (wr := [(r0, .inr (8, [.ref r1, .ref u0, .int 0, .int 0, .int 0, .long 0, .int 0, .int 0, .int (-1)])), (u0, .inr (7, [.int 0, .int 365, .int 0, .int 0, .ref u1, .int 0, .ref u2, .ref u3, .ref u4, .ref u5, .int 0, .ref u6, .int 0, .ref u7, .ref u8, .ref u9, .int 0]))]) (w1 := [(r1, .inr (9, [.ref g1, .ref g2, .ref g3, .int 1])), (g1, .inl (cA 0, 701, .inl fn1)), (g2, .inl (cA 0, 701, .inl fn2)), (g3, .inl (cA 1, 701, .inr (.inl fn3)))]) hP hD [1, 2, 3, 4] [0, 5] rfl rfl (by decide) (by decide) hk1 hFc hP1 hD1
  generalize H1 = H at hP hS ⊢
  have hP : va_P D vwCl [(r0, .inr (8, [.ref r1, .ref u0, .int 0, .int 0, .int 0, .long 0, .int 0, .int 0, .int (-1)])), (u0, .inr (7, [.int 0, .int 365, .int 0, .int 0, .ref u1, .int 0, .ref u2, .ref u3, .ref u4, .ref u5, .int 0, .ref u6, .int 0, .ref u7, .ref u8, .ref u9, .int 0])), (r1, .inr (9, [.ref g1, .ref g2, .ref g3, .int 1])), (g1, .inl (cA 0, 701, .inl fn1)), (g2, .inl (cA 0, 701, .inl fn2)), (g3, .inl (cA 1, 701, .inr (.inl fn3)))] H := hP
  have hD : va_D A [(r0, .inr (8, [.ref r1, .ref u0, .int 0, .int 0, .int 0, .long 0, .int 0, .int 0, .int (-1)])), (u0, .inr (7, [.int 0, .int 365, .int 0, .int 0, .ref u1, .int 0, .ref u2, .ref u3, .ref u4, .ref u5, .int 0, .ref u6, .int 0, .ref u7, .ref u8, .ref u9, .int 0])), (r1, .inr (9, [.ref g1, .ref g2, .ref g3, .int 1])), (g1, .inl (cA 0, 701, .inl fn1)), (g2, .inl (cA 0, 701, .inl fn2)), (g3, .inl (cA 1, 701, .inr (.inl fn3)))] := hD
  refine lv_aload_n hx hb dX4_readText_9 rfl (lv_at hl 0 rfl) ?_
  refine lv_aload_n hx hb dX4_readText_10 rfl (lv_at hl 3 rfl) ?_
  refine va_put (D := D) (ci := 8) (v := .ref u0) (ty := (.object "EscrowDesk$Plan")) (C := RX4) (T := TX4) (N := 9) hx hb hts inX4 tyX4 tyX4_ok nmX4 hown hK hP hD hS 0 rfl rfl 1 (by decide) (hts (.fieldLink RX4 25 "EscrowDesk$Reader" "plan" "LEscrowDesk$Plan;") (by decide +kernel)) (fun _ h9 => h9) rfl (by decide +kernel) rfl rfl (Nat.le_of_ble_eq_true rfl) dX4_readText_11 (fun H locs hP hD hS => ?_)
  have hP : va_P D vwCl [(r0, .inr (8, [.ref r1, .ref u0, .int 0, .int 0, .int 0, .long 0, .int 0, .int 0, .int (-1)])), (u0, .inr (7, [.int 0, .int 365, .int 0, .int 0, .ref u1, .int 0, .ref u2, .ref u3, .ref u4, .ref u5, .int 0, .ref u6, .int 0, .ref u7, .ref u8, .ref u9, .int 0])), (r1, .inr (9, [.ref g1, .ref g2, .ref g3, .int 1])), (g1, .inl (cA 0, 701, .inl fn1)), (g2, .inl (cA 0, 701, .inl fn2)), (g3, .inl (cA 1, 701, .inr (.inl fn3)))] H := hP
  have hD : va_D A [(r0, .inr (8, [.ref r1, .ref u0, .int 0, .int 0, .int 0, .long 0, .int 0, .int 0, .int (-1)])), (u0, .inr (7, [.int 0, .int 365, .int 0, .int 0, .ref u1, .int 0, .ref u2, .ref u3, .ref u4, .ref u5, .int 0, .ref u6, .int 0, .ref u7, .ref u8, .ref u9, .int 0])), (r1, .inr (9, [.ref g1, .ref g2, .ref g3, .int 1])), (g1, .inl (cA 0, 701, .inl fn1)), (g2, .inl (cA 0, 701, .inl fn2)), (g3, .inl (cA 1, 701, .inr (.inl fn3)))] := hD
  refine lv_aload_n hx hb dX4_readText_14 rfl (lv_at hl 0 rfl) ?_
  refine va_get (D := D) (ci := 8) (v := .ref u0) (C := RX4) (T := TX4) (N := 9) hx hb hts inX4 hown hK hP 0 rfl rfl 1 (by decide) (hts (.fieldLink RX4 25 "EscrowDesk$Reader" "plan" "LEscrowDesk$Plan;") (by decide +kernel)) (fun _ h9 => h9) rfl dX4_readText_15 ?_
  have hPc := hP.sub (ws' := [(u0, .inr (7, [.int 0, .int 365, .int 0, .int 0, .ref u1, .int 0, .ref u2, .ref u3, .ref u4, .ref u5, .int 0, .ref u6, .int 0, .ref u7, .ref u8, .ref u9, .int 0]))]) [1] rfl
  have hDc := hD.sub (ws' := [(u0, .inr (7, [.int 0, .int 365, .int 0, .int 0, .ref u1, .int 0, .ref u2, .ref u3, .ref u4, .ref u5, .int 0, .ref u6, .int 0, .ref u7, .ref u8, .ref u9, .int 0]))]) [1] (by decide) rfl
  have hFc := va_free (wc := [(u0, .inr (7, [.int 0, .int 365, .int 0, .int 0, .ref u1, .int 0, .ref u2, .ref u3, .ref u4, .ref u5, .int 0, .ref u6, .int 0, .ref u7, .ref u8, .ref u9, .int 0]))]) hD hS hA [1] rfl
  refine va_callv (va_runV (As := []) (rest := []) ⟨hx, hb, hml, hown, hts⟩ (c_X3_clear l D cA sa u0 u1 u2 u3 u4 u5 u6 u7 u8 u9 H.size) (cwV 0 hts gX4_readText_X3_clear rfl rfl rfl (by decide +kernel) ⟨(Nat.le_of_ble_eq_true rfl), (Nat.le_of_ble_eq_true rfl)⟩) ⟨Wd.blind, va_recv hK hPc (ci := 7) (q0 := 0) rfl rfl, fun U hU hW => ⟨rfl, Wd.call hPc hDc hK hC hZ hS hFc U hU hW⟩⟩ rfl rfl hl.1 rfl (lv_room (Nat.le_of_ble_eq_true rfl)) dX4_readText_18 ⟨(Nat.le_of_ble_eq_true rfl), (Nat.le_of_ble_eq_true rfl)⟩) hS (fun q _ h => hFc q h) hFc (fun u t H1 locs ht hvm hw hB hz1 hk1 hS => ?_)
  obtain ⟨hP1, hD1⟩ := hB
  rw [ht] at hP1
  obtain ⟨hP, hD⟩ := va_join (wr := [(r0, .inr (8, [.ref r1, .ref u0, .int 0, .int 0, .int 0, .long 0, .int 0, .int 0, .int (-1)])), (r1, .inr (9, [.ref g1, .ref g2, .ref g3, .int 1])), (g1, .inl (cA 0, 701, .inl fn1)), (g2, .inl (cA 0, 701, .inl fn2)), (g3, .inl (cA 1, 701, .inr (.inl fn3)))]) (w1 := [(u0, .inr (7, [.int 0, .int 365, .int 0, .int 0, .ref u1, .int 0, .ref u2, .ref u3, .ref u4, .ref u5, .int 0, .ref u6, .int 0, .ref u7, .ref u8, .ref u9, .int 0]))]) hP hD [1] [0, 2, 3, 4, 5] rfl rfl (by decide) (by decide) hk1 hFc hP1 hD1
  generalize H1 = H at hP hS ⊢
  have hP : va_P D vwCl [(r0, .inr (8, [.ref r1, .ref u0, .int 0, .int 0, .int 0, .long 0, .int 0, .int 0, .int (-1)])), (r1, .inr (9, [.ref g1, .ref g2, .ref g3, .int 1])), (g1, .inl (cA 0, 701, .inl fn1)), (g2, .inl (cA 0, 701, .inl fn2)), (g3, .inl (cA 1, 701, .inr (.inl fn3))), (u0, .inr (7, [.int 0, .int 365, .int 0, .int 0, .ref u1, .int 0, .ref u2, .ref u3, .ref u4, .ref u5, .int 0, .ref u6, .int 0, .ref u7, .ref u8, .ref u9, .int 0]))] H := hP
  have hD : va_D A [(r0, .inr (8, [.ref r1, .ref u0, .int 0, .int 0, .int 0, .long 0, .int 0, .int 0, .int (-1)])), (r1, .inr (9, [.ref g1, .ref g2, .ref g3, .int 1])), (g1, .inl (cA 0, 701, .inl fn1)), (g2, .inl (cA 0, 701, .inl fn2)), (g3, .inl (cA 1, 701, .inr (.inl fn3))), (u0, .inr (7, [.int 0, .int 365, .int 0, .int 0, .ref u1, .int 0, .ref u2, .ref u3, .ref u4, .ref u5, .int 0, .ref u6, .int 0, .ref u7, .ref u8, .ref u9, .int 0]))] := hD
  refine lv_aload_n hx hb dX4_readText_21 rfl (lv_at hl 0 rfl) ?_
  refine lv_iconst (v := 0) hx hb dX4_readText_22 (by decide) ?_
  refine va_put (D := D) (ci := 8) (v := .int 0) (ty := .int) (C := RX4) (T := TX4) (N := 9) hx hb hts inX4 tyX4 tyX4_ok nmX4 hown hK hP hD hS 0 rfl rfl 7 (by decide) (hts (.fieldLink RX4 18 "EscrowDesk$Reader" "errorKind" "I") (by decide +kernel)) (fun _ h9 => h9) rfl (by decide +kernel) rfl rfl (Nat.le_of_ble_eq_true rfl) dX4_readText_23 (fun H locs hP hD hS => ?_)
  have hP : va_P D vwCl [(r0, .inr (8, [.ref r1, .ref u0, .int 0, .int 0, .int 0, .long 0, .int 0, .int 0, .int (-1)])), (r1, .inr (9, [.ref g1, .ref g2, .ref g3, .int 1])), (g1, .inl (cA 0, 701, .inl fn1)), (g2, .inl (cA 0, 701, .inl fn2)), (g3, .inl (cA 1, 701, .inr (.inl fn3))), (u0, .inr (7, [.int 0, .int 365, .int 0, .int 0, .ref u1, .int 0, .ref u2, .ref u3, .ref u4, .ref u5, .int 0, .ref u6, .int 0, .ref u7, .ref u8, .ref u9, .int 0]))] H := hP
  have hD : va_D A [(r0, .inr (8, [.ref r1, .ref u0, .int 0, .int 0, .int 0, .long 0, .int 0, .int 0, .int (-1)])), (r1, .inr (9, [.ref g1, .ref g2, .ref g3, .int 1])), (g1, .inl (cA 0, 701, .inl fn1)), (g2, .inl (cA 0, 701, .inl fn2)), (g3, .inl (cA 1, 701, .inr (.inl fn3))), (u0, .inr (7, [.int 0, .int 365, .int 0, .int 0, .ref u1, .int 0, .ref u2, .ref u3, .ref u4, .ref u5, .int 0, .ref u6, .int 0, .ref u7, .ref u8, .ref u9, .int 0]))] := hD
  refine lv_aload_n hx hb dX4_readText_26 rfl (lv_at hl 0 rfl) ?_
  refine lv_iconst (v := (-1)) hx hb dX4_readText_27 (by decide) ?_
  refine va_put (D := D) (ci := 8) (v := .int (-1)) (ty := .int) (C := RX4) (T := TX4) (N := 9) hx hb hts inX4 tyX4 tyX4_ok nmX4 hown hK hP hD hS 0 rfl rfl 8 (by decide) (hts (.fieldLink RX4 22 "EscrowDesk$Reader" "errorPosition" "I") (by decide +kernel)) (fun _ h9 => h9) rfl (by decide +kernel) rfl rfl (Nat.le_of_ble_eq_true rfl) dX4_readText_28 (fun H locs hP hD hS => ?_)
  have hP : va_P D vwCl [(r0, .inr (8, [.ref r1, .ref u0, .int 0, .int 0, .int 0, .long 0, .int 0, .int 0, .int (-1)])), (r1, .inr (9, [.ref g1, .ref g2, .ref g3, .int 1])), (g1, .inl (cA 0, 701, .inl fn1)), (g2, .inl (cA 0, 701, .inl fn2)), (g3, .inl (cA 1, 701, .inr (.inl fn3))), (u0, .inr (7, [.int 0, .int 365, .int 0, .int 0, .ref u1, .int 0, .ref u2, .ref u3, .ref u4, .ref u5, .int 0, .ref u6, .int 0, .ref u7, .ref u8, .ref u9, .int 0]))] H := hP
  have hD : va_D A [(r0, .inr (8, [.ref r1, .ref u0, .int 0, .int 0, .int 0, .long 0, .int 0, .int 0, .int (-1)])), (r1, .inr (9, [.ref g1, .ref g2, .ref g3, .int 1])), (g1, .inl (cA 0, 701, .inl fn1)), (g2, .inl (cA 0, 701, .inl fn2)), (g3, .inl (cA 1, 701, .inr (.inl fn3))), (u0, .inr (7, [.int 0, .int 365, .int 0, .int 0, .ref u1, .int 0, .ref u2, .ref u3, .ref u4, .ref u5, .int 0, .ref u6, .int 0, .ref u7, .ref u8, .ref u9, .int 0]))] := hD
  refine lv_aload_n hx hb dX4_readText_31 rfl (lv_at hl 0 rfl) ?_
  refine lv_iconst (v := 0) hx hb dX4_readText_32 (by decide) ?_
  have hPc := hP.sub (ws' := [(r0, .inr (8, [.ref r1, .ref u0, .int 0, .int 0, .int 0, .long 0, .int 0, .int 0, .int (-1)])), (r1, .inr (9, [.ref g1, .ref g2, .ref g3, .int 1])), (g1, .inl (cA 0, 701, .inl fn1)), (g2, .inl (cA 0, 701, .inl fn2)), (g3, .inl (cA 1, 701, .inr (.inl fn3)))]) [0, 1, 2, 3, 4] rfl
  have hDc := hD.sub (ws' := [(r0, .inr (8, [.ref r1, .ref u0, .int 0, .int 0, .int 0, .long 0, .int 0, .int 0, .int (-1)])), (r1, .inr (9, [.ref g1, .ref g2, .ref g3, .int 1])), (g1, .inl (cA 0, 701, .inl fn1)), (g2, .inl (cA 0, 701, .inl fn2)), (g3, .inl (cA 1, 701, .inr (.inl fn3)))]) [0, 1, 2, 3, 4] (by decide) rfl
  have hFc := va_free (wc := [(r0, .inr (8, [.ref r1, .ref u0, .int 0, .int 0, .int 0, .long 0, .int 0, .int 0, .int (-1)])), (r1, .inr (9, [.ref g1, .ref g2, .ref g3, .int 1])), (g1, .inl (cA 0, 701, .inl fn1)), (g2, .inl (cA 0, 701, .inl fn2)), (g3, .inl (cA 1, 701, .inr (.inl fn3)))]) hD hS hA [0, 1, 2, 3, 4] rfl
  refine va_callv (va_runV (As := [.int 0]) (rest := []) ⟨hx, hb, hml, hown, hts⟩ (c_lookAt l D cA sa r0 u0 r1 g1 g2 g3 fn1 fn2 fn3 H.size hn4) (cwV 1 hts gX4_readText_X4_lookAt rfl rfl rfl (by decide +kernel) ⟨(Nat.le_of_ble_eq_true rfl), (Nat.le_of_ble_eq_true rfl)⟩) ⟨Wd.blind, va_recv hK hPc (ci := 8) (q0 := 0) rfl rfl, fun U hU hW => ⟨rfl, Wd.call hPc hDc hK hC hZ hS hFc U hU hW⟩⟩ rfl rfl hl.1 rfl (lv_room (Nat.le_of_ble_eq_true rfl)) dX4_readText_33 ⟨(Nat.le_of_ble_eq_true rfl), (Nat.le_of_ble_eq_true rfl)⟩) hS (fun q _ h => hFc q h) hFc (fun u t H1 locs ht hvm hw hB hz1 hk1 hS => ?_)
  obtain ⟨zn5, zn6, hP1, hD1⟩ := hB
  rw [ht] at hP1
  obtain ⟨hP, hD⟩ := va_join (wr := [(u0, .inr (7, [.int 0, .int 365, .int 0, .int 0, .ref u1, .int 0, .ref u2, .ref u3, .ref u4, .ref u5, .int 0, .ref u6, .int 0, .ref u7, .ref u8, .ref u9, .int 0]))]) (w1 := [(r0, .inr (8, [.ref r1, .ref u0, .int 0, .int 1, .int zn5, .long zn6, .int 0, .int 0, .int (-1)])), (r1, .inr (9, [.ref g1, .ref g2, .ref g3, .int 1])), (g1, .inl (cA 0, 701, .inl fn1)), (g2, .inl (cA 0, 701, .inl fn2)), (g3, .inl (cA 1, 701, .inr (.inl fn3)))]) hP hD [0, 1, 2, 3, 4] [5] rfl rfl (by decide) (by decide) hk1 hFc hP1 hD1
  generalize H1 = H at hP hS ⊢
  have hP : va_P D vwCl [(u0, .inr (7, [.int 0, .int 365, .int 0, .int 0, .ref u1, .int 0, .ref u2, .ref u3, .ref u4, .ref u5, .int 0, .ref u6, .int 0, .ref u7, .ref u8, .ref u9, .int 0])), (r0, .inr (8, [.ref r1, .ref u0, .int 0, .int 1, .int zn5, .long zn6, .int 0, .int 0, .int (-1)])), (r1, .inr (9, [.ref g1, .ref g2, .ref g3, .int 1])), (g1, .inl (cA 0, 701, .inl fn1)), (g2, .inl (cA 0, 701, .inl fn2)), (g3, .inl (cA 1, 701, .inr (.inl fn3)))] H := hP
  have hD : va_D A [(u0, .inr (7, [.int 0, .int 365, .int 0, .int 0, .ref u1, .int 0, .ref u2, .ref u3, .ref u4, .ref u5, .int 0, .ref u6, .int 0, .ref u7, .ref u8, .ref u9, .int 0])), (r0, .inr (8, [.ref r1, .ref u0, .int 0, .int 1, .int zn5, .long zn6, .int 0, .int 0, .int (-1)])), (r1, .inr (9, [.ref g1, .ref g2, .ref g3, .int 1])), (g1, .inl (cA 0, 701, .inl fn1)), (g2, .inl (cA 0, 701, .inl fn2)), (g3, .inl (cA 1, 701, .inr (.inl fn3)))] := hD
  refine lv_iconst (v := 1) hx hb dX4_readText_36 (by decide) ?_
  refine lv_istore (lv' := [(4, .int 1), (0, .ref r0), (1, .ref b0), (2, .int 0), (3, .ref u0)]) hx hb dX4_readText_37 hl (by decide) rfl (fun ls hl => ?_)
  refine lv_iconst (v := 0) hx hb dX4_readText_39 (by decide) ?_
  refine lv_istore (lv' := [(5, .int 0), (4, .int 1), (0, .ref r0), (1, .ref b0), (2, .int 0), (3, .ref u0)]) hx hb dX4_readText_40 hl (by decide) rfl (fun ls hl => ?_)
  refine lv_iload hx hb dX4_readText_42 (lv_at hl 1 rfl) ?_
  refine lv_if_eq (tgt := 158) hx hb dX4_readText_44 (by decide) (fun c9 => absurd c9 (by decide)) (fun c7 => ?_)
  refine lv_iload hx hb dX4_readText_47 (lv_at hl 0 rfl) ?_
  refine lv_sipush (v := 700) hx hb dX4_readText_49 (by decide) ?_
  refine lv_icmp_ge (tgt := 158) hx hb dX4_readText_52 (by decide) (fun c9 => absurd c9 (by decide)) (fun c8 => ?_)
  refine lv_aload_n hx hb dX4_readText_55 rfl (lv_at hl 2 rfl) ?_
  refine va_get (D := D) (ci := 8) (v := .int 1) (C := RX4) (T := TX4) (N := 9) hx hb hts inX4 hown hK hP 1 rfl rfl 3 (by decide) (hts (.fieldLink RX4 42 "EscrowDesk$Reader" "kind" "I") (by decide +kernel)) (fun _ h9 => h9) rfl dX4_readText_56 ?_
  refine lv_iconst (v := 1) hx hb dX4_readText_59 (by decide) ?_
  refine lv_icmp_eq (tgt := 158) hx hb dX4_readText_60 (by decide) (fun c9 => ?_) (fun c9 => absurd c9 (by decide))
  refine lv_iload hx hb dX4_readText_158 (lv_at hl 1 rfl) ?_
  have hP9 := hP.sub (ws' := [(u0, .inr (7, [.int 0, .int 365, .int 0, .int 0, .ref u1, .int 0, .ref u2, .ref u3, .ref u4, .ref u5, .int 0, .ref u6, .int 0, .ref u7, .ref u8, .ref u9, .int 0]))]) [0] rfl
  have hD9 := hD.sub (ws' := [(u0, .inr (7, [.int 0, .int 365, .int 0, .int 0, .ref u1, .int 0, .ref u2, .ref u3, .ref u4, .ref u5, .int 0, .ref u6, .int 0, .ref u7, .ref u8, .ref u9, .int 0]))]) [0] (by decide) rfl
  refine W.widen (k := 0) (n := 0) (Nat.le_of_ble_eq_true rfl) (Nat.le_of_ble_eq_true rfl) ?_
  exact W.zret (v := 1) hx hb hr (by first | rfl | decide) (fun t ht hW => ⟨⟨1, (), rfl, rfl, by rw [ht]; exact hP9, hD9⟩, hS.F ht⟩) hS.2.2 dX4_readText_160

set_option maxHeartbeats 4000000 in
set_option maxRecDepth 100000 in
/-- forgetAll -/
theorem c_forgetAll (l : Launch) (D : va_G) (cA : Nat → ClassId) (sa : Nat → Nat) (s0 s1 : Nat) (sz : Nat) : Met l yX1_forgetAll wsX1_forgetAll ({ frames := 0, cells := 0, slots := 0, locals := 0 }) (va_Pc [.ref s0] (Wd D cA sa [(s0, .inr (5, [.ref s1, .int 0, .int 0]))] sz)) (va_Qv (fun _ : Unit => True) (fun (_ : Unit) t => Wq D (va_A [(s0, .inr (5, [.ref s1, .int 0, .int 0]))] sz) [] t) (va_A [(s0, .inr (5, [.ref s1, .int 0, .int 0]))] sz)) 0 0 (va_A [(s0, .inr (5, [.ref s1, .int 0, .int 0]))] sz) := by
  refine Met.ofW (cc := cX1_forgetAll) (maxL := 1) (ret := none) (by decide) rfl ?_
  intro p e s m args below meth c s₁ B hml hv
  obtain ⟨rfl, hsz, hP, hK, hD0, hC, hZ⟩ := hv
  have hx := B.exec
  have hb := B.bytes
  have hr := B.returns
  have hts := atoms_spec (ws := wsX1_forgetAll) B.pre
  have hown : s.vm.findClass RX1 = some m.cls := findClass_of_methodNamed B.named
  have hlocks := B.notSynchronized
  subst hsz
  have hD := hD0.self (sz := s.heap.size)
  generalize hAe : va_A [(s0, .inr (5, [.ref s1, .int 0, .int 0]))] s.heap.size = A at hD hZ ⊢
  have hA : ∀ q : Nat, s.heap.size ≤ q → A q := fun q h => by rw [← hAe]; exact Or.inr h
  have hS : va_S A s.heap s.heap [] := va_S.rf
  have hP : va_P D vwCl [(s0, .inr (5, [.ref s1, .int 0, .int 0]))] s.heap := hP
  have hl := lv_entry ([.ref s0]) (n := 1) (Nat.le_of_ble_eq_true rfl)
  rw [lg_entry_eq]
  generalize (lg_sl ([.ref s0]) ++ List.replicate (1 - (lg_sl ([.ref s0])).length) Slot.unset).toArray = ls at hl ⊢
  have hl : lv_has ls 1 [(0, .ref s0)] := hl
  have inX1 : ∀ w ∈ u_ws RX1 TX1 3, w ∈ wsX1_forgetAll := by decide +kernel
  refine lv_aload_n hx hb dX1_forgetAll_0 rfl (lv_at hl 0 rfl) ?_
  refine lv_iconst (v := 0) hx hb dX1_forgetAll_1 (by decide) ?_
  refine va_put (D := D) (ci := 5) (v := .int 0) (ty := .int) (C := RX1) (T := TX1) (N := 3) hx hb hts inX1 tyX1 tyX1_ok nmX1 hown hK hP hD hS 0 rfl rfl 2 (by decide) (hts (.fieldLink RX1 28 "EscrowDesk$History" "count" "I") (by decide +kernel)) (fun _ h9 => h9) rfl (by decide +kernel) rfl rfl (Nat.le_of_ble_eq_true rfl) dX1_forgetAll_2 (fun H locs hP hD hS => ?_)
  have hP : va_P D vwCl [(s0, .inr (5, [.ref s1, .int 0, .int 0]))] H := hP
  have hD : va_D A [(s0, .inr (5, [.ref s1, .int 0, .int 0]))] := hD
  have hP9 := hP.sub (ws' := []) [] rfl
  have hD9 := hD.sub (ws' := []) [] (by decide) rfl
  refine W.widen (k := 0) (n := 0) (Nat.le_of_ble_eq_true rfl) (Nat.le_of_ble_eq_true rfl) ?_
  exact W.vret hx hb hr (fun t ht hW => ⟨⟨(), rfl, trivial, by rw [ht]; exact hP9, hD9⟩, hS.F ht⟩) hS.2.2 dX1_forgetAll_5

set_option maxHeartbeats 4000000 in
set_option maxRecDepth 100000 in
/-- load(0) -/
theorem c_load_ret (l : Launch) (D : va_G) (cA : Nat → ClassId) (sa : Nat → Nat) (h0 b0 p0 u0 r0 a0 t0 s0 o0 u1 u2 u3 u4 u5 u6 u7 u8 u9 r1 g1 g2 g3 s1 a1 a2 a3 a4 a5 a6 : Nat) (fk ft e3 e4 e5 e6 : Nat → Int32) (fv : Nat → Int64) (sz : Nat) : Met l yX9_load wsX9_load ({ frames := 8, cells := 0, slots := 0, locals := 184 }) (va_Pc [.ref h0, .int 0] (Wd D cA sa [(h0, .inr (10, [.ref b0, .int 0, .ref p0, .ref u0, .ref r0, .ref a0, .ref t0, .ref s0, .ref o0])), (r0, .inr (8, [.ref r1, .ref u0, .int 0, .int 0, .int 0, .long 0, .int 0, .int 0, .int (-1)])), (r1, .inr (9, [.ref g1, .ref g2, .ref g3, .int 0])), (g1, .inl (cA 0, 701, .inl fk)), (g2, .inl (cA 0, 701, .inl ft)), (g3, .inl (cA 1, 701, .inr (.inl fv))), (u0, .inr (7, [.int 0, .int 365, .int 0, .int 0, .ref u1, .int 0, .ref u2, .ref u3, .ref u4, .ref u5, .int 0, .ref u6, .int 0, .ref u7, .ref u8, .ref u9, .int 0])), (a0, .inr (4, [.ref p0, .ref a1, .ref a3, .ref a4, .ref a5, .ref a6, .int 0, .int 0, .int 0, .long 0, .long 0, .long 0, .int 0, .int 0, .int 0, .int 0, .int 365, .int 0, .int 0, .int 0])), (a1, .inr (6, [.ref a2, .int 0, .int 0])), (a3, .inl (cA 0, 10, .inl e3)), (a4, .inl (cA 0, 10, .inl e4)), (a5, .inl (cA 0, 10, .inl e5)), (a6, .inl (cA 0, 10, .inl e6)), (s0, .inr (5, [.ref s1, .int 0, .int 0]))] sz)) (va_Qi (fun (r : Int32) (_ : Unit) => r = 0) (fun (_ : Unit) t => Wq D (va_A [(h0, .inr (10, [.ref b0, .int 0, .ref p0, .ref u0, .ref r0, .ref a0, .ref t0, .ref s0, .ref o0])), (r0, .inr (8, [.ref r1, .ref u0, .int 0, .int 0, .int 0, .long 0, .int 0, .int 0, .int (-1)])), (r1, .inr (9, [.ref g1, .ref g2, .ref g3, .int 0])), (g1, .inl (cA 0, 701, .inl fk)), (g2, .inl (cA 0, 701, .inl ft)), (g3, .inl (cA 1, 701, .inr (.inl fv))), (u0, .inr (7, [.int 0, .int 365, .int 0, .int 0, .ref u1, .int 0, .ref u2, .ref u3, .ref u4, .ref u5, .int 0, .ref u6, .int 0, .ref u7, .ref u8, .ref u9, .int 0])), (a0, .inr (4, [.ref p0, .ref a1, .ref a3, .ref a4, .ref a5, .ref a6, .int 0, .int 0, .int 0, .long 0, .long 0, .long 0, .int 0, .int 0, .int 0, .int 0, .int 365, .int 0, .int 0, .int 0])), (a1, .inr (6, [.ref a2, .int 0, .int 0])), (a3, .inl (cA 0, 10, .inl e3)), (a4, .inl (cA 0, 10, .inl e4)), (a5, .inl (cA 0, 10, .inl e5)), (a6, .inl (cA 0, 10, .inl e6)), (s0, .inr (5, [.ref s1, .int 0, .int 0]))] sz) [] t) (va_A [(h0, .inr (10, [.ref b0, .int 0, .ref p0, .ref u0, .ref r0, .ref a0, .ref t0, .ref s0, .ref o0])), (r0, .inr (8, [.ref r1, .ref u0, .int 0, .int 0, .int 0, .long 0, .int 0, .int 0, .int (-1)])), (r1, .inr (9, [.ref g1, .ref g2, .ref g3, .int 0])), (g1, .inl (cA 0, 701, .inl fk)), (g2, .inl (cA 0, 701, .inl ft)), (g3, .inl (cA 1, 701, .inr (.inl fv))), (u0, .inr (7, [.int 0, .int 365, .int 0, .int 0, .ref u1, .int 0, .ref u2, .ref u3, .ref u4, .ref u5, .int 0, .ref u6, .int 0, .ref u7, .ref u8, .ref u9, .int 0])), (a0, .inr (4, [.ref p0, .ref a1, .ref a3, .ref a4, .ref a5, .ref a6, .int 0, .int 0, .int 0, .long 0, .long 0, .long 0, .int 0, .int 0, .int 0, .int 0, .int 365, .int 0, .int 0, .int 0])), (a1, .inr (6, [.ref a2, .int 0, .int 0])), (a3, .inl (cA 0, 10, .inl e3)), (a4, .inl (cA 0, 10, .inl e4)), (a5, .inl (cA 0, 10, .inl e5)), (a6, .inl (cA 0, 10, .inl e6)), (s0, .inr (5, [.ref s1, .int 0, .int 0]))] sz)) 0 0 (va_A [(h0, .inr (10, [.ref b0, .int 0, .ref p0, .ref u0, .ref r0, .ref a0, .ref t0, .ref s0, .ref o0])), (r0, .inr (8, [.ref r1, .ref u0, .int 0, .int 0, .int 0, .long 0, .int 0, .int 0, .int (-1)])), (r1, .inr (9, [.ref g1, .ref g2, .ref g3, .int 0])), (g1, .inl (cA 0, 701, .inl fk)), (g2, .inl (cA 0, 701, .inl ft)), (g3, .inl (cA 1, 701, .inr (.inl fv))), (u0, .inr (7, [.int 0, .int 365, .int 0, .int 0, .ref u1, .int 0, .ref u2, .ref u3, .ref u4, .ref u5, .int 0, .ref u6, .int 0, .ref u7, .ref u8, .ref u9, .int 0])), (a0, .inr (4, [.ref p0, .ref a1, .ref a3, .ref a4, .ref a5, .ref a6, .int 0, .int 0, .int 0, .long 0, .long 0, .long 0, .int 0, .int 0, .int 0, .int 0, .int 365, .int 0, .int 0, .int 0])), (a1, .inr (6, [.ref a2, .int 0, .int 0])), (a3, .inl (cA 0, 10, .inl e3)), (a4, .inl (cA 0, 10, .inl e4)), (a5, .inl (cA 0, 10, .inl e5)), (a6, .inl (cA 0, 10, .inl e6)), (s0, .inr (5, [.ref s1, .int 0, .int 0]))] sz) := by
  refine Met.ofW (cc := cX9_load) (maxL := 4) (ret := (some .int)) (by decide) rfl ?_
  intro p e s m args below meth c s₁ B hml hv
  obtain ⟨rfl, hsz, hP, hK, hD0, hC, hZ⟩ := hv
  have hx := B.exec
  have hb := B.bytes
  have hr := B.returns
  have hts := atoms_spec (ws := wsX9_load) B.pre
  have hown : s.vm.findClass RX9 = some m.cls := findClass_of_methodNamed B.named
  have hlocks := B.notSynchronized
  subst hsz
  have hD := hD0.self (sz := s.heap.size)
  generalize hAe : va_A [(h0, .inr (10, [.ref b0, .int 0, .ref p0, .ref u0, .ref r0, .ref a0, .ref t0, .ref s0, .ref o0])), (r0, .inr (8, [.ref r1, .ref u0, .int 0, .int 0, .int 0, .long 0, .int 0, .int 0, .int (-1)])), (r1, .inr (9, [.ref g1, .ref g2, .ref g3, .int 0])), (g1, .inl (cA 0, 701, .inl fk)), (g2, .inl (cA 0, 701, .inl ft)), (g3, .inl (cA 1, 701, .inr (.inl fv))), (u0, .inr (7, [.int 0, .int 365, .int 0, .int 0, .ref u1, .int 0, .ref u2, .ref u3, .ref u4, .ref u5, .int 0, .ref u6, .int 0, .ref u7, .ref u8, .ref u9, .int 0])), (a0, .inr (4, [.ref p0, .ref a1, .ref a3, .ref a4, .ref a5, .ref a6, .int 0, .int 0, .int 0, .long 0, .long 0, .long 0, .int 0, .int 0, .int 0, .int 0, .int 365, .int 0, .int 0, .int 0])), (a1, .inr (6, [.ref a2, .int 0, .int 0])), (a3, .inl (cA 0, 10, .inl e3)), (a4, .inl (cA 0, 10, .inl e4)), (a5, .inl (cA 0, 10, .inl e5)), (a6, .inl (cA 0, 10, .inl e6)), (s0, .inr (5, [.ref s1, .int 0, .int 0]))] s.heap.size = A at hD hZ ⊢
  have hA : ∀ q : Nat, s.heap.size ≤ q → A q := fun q h => by rw [← hAe]; exact Or.inr h
  have hS : va_S A s.heap s.heap [] := va_S.rf
  have hP : va_P D vwCl [(h0, .inr (10, [.ref b0, .int 0, .ref p0, .ref u0, .ref r0, .ref a0, .ref t0, .ref s0, .ref o0])), (r0, .inr (8, [.ref r1, .ref u0, .int 0, .int 0, .int 0, .long 0, .int 0, .int 0, .int (-1)])), (r1, .inr (9, [.ref g1, .ref g2, .ref g3, .int 0])), (g1, .inl (cA 0, 701, .inl fk)), (g2, .inl (cA 0, 701, .inl ft)), (g3, .inl (cA 1, 701, .inr (.inl fv))), (u0, .inr (7, [.int 0, .int 365, .int 0, .int 0, .ref u1, .int 0, .ref u2, .ref u3, .ref u4, .ref u5, .int 0, .ref u6, .int 0, .ref u7, .ref u8, .ref u9, .int 0])), (a0, .inr (4, [.ref p0, .ref a1, .ref a3, .ref a4, .ref a5, .ref a6, .int 0, .int 0, .int 0, .long 0, .long 0, .long 0, .int 0, .int 0, .int 0, .int 0, .int 365, .int 0, .int 0, .int 0])), (a1, .inr (6, [.ref a2, .int 0, .int 0])), (a3, .inl (cA 0, 10, .inl e3)), (a4, .inl (cA 0, 10, .inl e4)), (a5, .inl (cA 0, 10, .inl e5)), (a6, .inl (cA 0, 10, .inl e6)), (s0, .inr (5, [.ref s1, .int 0, .int 0]))] s.heap := hP
  have hl := lv_entry ([.ref h0, .int 0]) (n := 4) (Nat.le_of_ble_eq_true rfl)
  rw [lg_entry_eq]
  generalize (lg_sl ([.ref h0, .int 0]) ++ List.replicate (4 - (lg_sl ([.ref h0, .int 0])).length) Slot.unset).toArray = ls at hl ⊢
  have hl : lv_has ls 4 [(0, .ref h0), (1, .int 0)] := hl
  have inX3 : ∀ w ∈ u_ws RX3 TX3 17, w ∈ wsX9_load := by decide +kernel
  have inX9 : ∀ w ∈ u_ws RX9 TX9 9, w ∈ wsX9_load := by decide +kernel
  refine lv_iload_n hx hb dX9_load_0 rfl (lv_at hl 1 rfl) ?_
  refine lv_iconst (v := 0) hx hb dX9_load_1 (by decide) ?_
  refine lv_aload_n hx hb dX9_load_2 rfl (lv_at hl 0 rfl) ?_
  refine va_get (D := D) (ci := 10) (v := .int 0) (C := RX9) (T := TX9) (N := 9) hx hb hts inX9 hown hK hP 0 rfl rfl 1 (by decide) (hts (.fieldLink RX9 59 "EscrowDesk" "buffered" "I") (by decide +kernel)) (fun _ h9 => h9) rfl dX9_load_3 ?_
  have hPc := hP.sub (ws' := []) [] rfl
  have hDc := hD.sub (ws' := []) [] (by decide) rfl
  have hFc := va_free (wc := []) hD hS hA [] rfl
  refine va_callv (va_runS (As := [.int 0, .int 0, .int 0]) (rest := []) ⟨hx, hb, hml, hown, hts⟩ (c_needRange_ret l D cA sa 0 0 0 s.heap.size (by decide) (by decide)) (va_cwS 3 hts gX9_load_X9_needRange rfl rfl rfl (by decide +kernel) ⟨(Nat.le_of_ble_eq_true rfl), (Nat.le_of_ble_eq_true rfl)⟩) ⟨Wd.blind, fun U hU hW => ⟨rfl, Wd.call hPc hDc hK hC hZ hS hFc U hU hW⟩⟩ rfl rfl hl.1 rfl (lv_room (Nat.le_of_ble_eq_true rfl)) dX9_load_6 ⟨(Nat.le_of_ble_eq_true rfl), (Nat.le_of_ble_eq_true rfl)⟩) hS (fun q _ h => hFc q h) hFc (fun u t H1 locs ht hvm hw hB hz1 hk1 hS => ?_)
  obtain ⟨hP1, hD1⟩ := hB
  rw [ht] at hP1
  obtain ⟨hP, hD⟩ := va_join (wr := [(h0, .inr (10, [.ref b0, .int 0, .ref p0, .ref u0, .ref r0, .ref a0, .ref t0, .ref s0, .ref o0])), (r0, .inr (8, [.ref r1, .ref u0, .int 0, .int 0, .int 0, .long 0, .int 0, .int 0, .int (-1)])), (r1, .inr (9, [.ref g1, .ref g2, .ref g3, .int 0])), (g1, .inl (cA 0, 701, .inl fk)), (g2, .inl (cA 0, 701, .inl ft)), (g3, .inl (cA 1, 701, .inr (.inl fv))), (u0, .inr (7, [.int 0, .int 365, .int 0, .int 0, .ref u1, .int 0, .ref u2, .ref u3, .ref u4, .ref u5, .int 0, .ref u6, .int 0, .ref u7, .ref u8, .ref u9, .int 0])), (a0, .inr (4, [.ref p0, .ref a1, .ref a3, .ref a4, .ref a5, .ref a6, .int 0, .int 0, .int 0, .long 0, .long 0, .long 0, .int 0, .int 0, .int 0, .int 0, .int 365, .int 0, .int 0, .int 0])), (a1, .inr (6, [.ref a2, .int 0, .int 0])), (a3, .inl (cA 0, 10, .inl e3)), (a4, .inl (cA 0, 10, .inl e4)), (a5, .inl (cA 0, 10, .inl e5)), (a6, .inl (cA 0, 10, .inl e6)), (s0, .inr (5, [.ref s1, .int 0, .int 0]))]) (w1 := []) hP hD [] [0, 1, 2, 3, 4, 5, 6, 7, 8, 9, 10, 11, 12, 13] rfl rfl (by decide) (by decide) hk1 hFc hP1 hD1
  generalize H1 = H at hP hS ⊢
  have hP : va_P D vwCl [(h0, .inr (10, [.ref b0, .int 0, .ref p0, .ref u0, .ref r0, .ref a0, .ref t0, .ref s0, .ref o0])), (r0, .inr (8, [.ref r1, .ref u0, .int 0, .int 0, .int 0, .long 0, .int 0, .int 0, .int (-1)])), (r1, .inr (9, [.ref g1, .ref g2, .ref g3, .int 0])), (g1, .inl (cA 0, 701, .inl fk)), (g2, .inl (cA 0, 701, .inl ft)), (g3, .inl (cA 1, 701, .inr (.inl fv))), (u0, .inr (7, [.int 0, .int 365, .int 0, .int 0, .ref u1, .int 0, .ref u2, .ref u3, .ref u4, .ref u5, .int 0, .ref u6, .int 0, .ref u7, .ref u8, .ref u9, .int 0])), (a0, .inr (4, [.ref p0, .ref a1, .ref a3, .ref a4, .ref a5, .ref a6, .int 0, .int 0, .int 0, .long 0, .long 0, .long 0, .int 0, .int 0, .int 0, .int 0, .int 365, .int 0, .int 0, .int 0])), (a1, .inr (6, [.ref a2, .int 0, .int 0])), (a3, .inl (cA 0, 10, .inl e3)), (a4, .inl (cA 0, 10, .inl e4)), (a5, .inl (cA 0, 10, .inl e5)), (a6, .inl (cA 0, 10, .inl e6)), (s0, .inr (5, [.ref s1, .int 0, .int 0]))] H := hP
  have hD : va_D A [(h0, .inr (10, [.ref b0, .int 0, .ref p0, .ref u0, .ref r0, .ref a0, .ref t0, .ref s0, .ref o0])), (r0, .inr (8, [.ref r1, .ref u0, .int 0, .int 0, .int 0, .long 0, .int 0, .int 0, .int (-1)])), (r1, .inr (9, [.ref g1, .ref g2, .ref g3, .int 0])), (g1, .inl (cA 0, 701, .inl fk)), (g2, .inl (cA 0, 701, .inl ft)), (g3, .inl (cA 1, 701, .inr (.inl fv))), (u0, .inr (7, [.int 0, .int 365, .int 0, .int 0, .ref u1, .int 0, .ref u2, .ref u3, .ref u4, .ref u5, .int 0, .ref u6, .int 0, .ref u7, .ref u8, .ref u9, .int 0])), (a0, .inr (4, [.ref p0, .ref a1, .ref a3, .ref a4, .ref a5, .ref a6, .int 0, .int 0, .int 0, .long 0, .long 0, .long 0, .int 0, .int 0, .int 0, .int 0, .int 365, .int 0, .int 0, .int 0])), (a1, .inr (6, [.ref a2, .int 0, .int 0])), (a3, .inl (cA 0, 10, .inl e3)), (a4, .inl (cA 0, 10, .inl e4)), (a5, .inl (cA 0, 10, .inl e5)), (a6, .inl (cA 0, 10, .inl e6)), (s0, .inr (5, [.ref s1, .int 0, .int 0]))] := hD
  refine lv_aload_n hx hb dX9_load_9 rfl (lv_at hl 0 rfl) ?_
  refine va_get (D := D) (ci := 10) (v := .ref r0) (C := RX9) (T := TX9) (N := 9) hx hb hts inX9 hown hK hP 0 rfl rfl 4 (by decide) (hts (.fieldLink RX9 28 "EscrowDesk" "reader" "LEscrowDesk$Reader;") (by decide +kernel)) (fun _ h9 => h9) rfl dX9_load_10 ?_
  refine lv_aload_n hx hb dX9_load_13 rfl (lv_at hl 0 rfl) ?_
  refine va_get (D := D) (ci := 10) (v := .ref b0) (C := RX9) (T := TX9) (N := 9) hx hb hts inX9 hown hK hP 0 rfl rfl 0 (by decide) (hts (.fieldLink RX9 9 "EscrowDesk" "buffer" "[C") (by decide +kernel)) (fun _ h9 => h9) rfl dX9_load_14 ?_
  refine lv_iload_n hx hb dX9_load_17 rfl (lv_at hl 1 rfl) ?_
  refine lv_aload_n hx hb dX9_load_18 rfl (lv_at hl 0 rfl) ?_
  refine va_get (D := D) (ci := 10) (v := .ref u0) (C := RX9) (T := TX9) (N := 9) hx hb hts inX9 hown hK hP 0 rfl rfl 3 (by decide) (hts (.fieldLink RX9 20 "EscrowDesk" "sparePlan" "LEscrowDesk$Plan;") (by decide +kernel)) (fun _ h9 => h9) rfl dX9_load_19 ?_
  have hPc := hP.sub (ws' := [(r0, .inr (8, [.ref r1, .ref u0, .int 0, .int 0, .int 0, .long 0, .int 0, .int 0, .int (-1)])), (r1, .inr (9, [.ref g1, .ref g2, .ref g3, .int 0])), (g1, .inl (cA 0, 701, .inl fk)), (g2, .inl (cA 0, 701, .inl ft)), (g3, .inl (cA 1, 701, .inr (.inl fv))), (u0, .inr (7, [.int 0, .int 365, .int 0, .int 0, .ref u1, .int 0, .ref u2, .ref u3, .ref u4, .ref u5, .int 0, .ref u6, .int 0, .ref u7, .ref u8, .ref u9, .int 0]))]) [1, 2, 3, 4, 5, 6] rfl
  have hDc := hD.sub (ws' := [(r0, .inr (8, [.ref r1, .ref u0, .int 0, .int 0, .int 0, .long 0, .int 0, .int 0, .int (-1)])), (r1, .inr (9, [.ref g1, .ref g2, .ref g3, .int 0])), (g1, .inl (cA 0, 701, .inl fk)), (g2, .inl (cA 0, 701, .inl ft)), (g3, .inl (cA 1, 701, .inr (.inl fv))), (u0, .inr (7, [.int 0, .int 365, .int 0, .int 0, .ref u1, .int 0, .ref u2, .ref u3, .ref u4, .ref u5, .int 0, .ref u6, .int 0, .ref u7, .ref u8, .ref u9, .int 0]))]) [1, 2, 3, 4, 5, 6] (by decide) rfl
  have hFc := va_free (wc := [(r0, .inr (8, [.ref r1, .ref u0, .int 0, .int 0, .int 0, .long 0, .int 0, .int 0, .int (-1)])), (r1, .inr (9, [.ref g1, .ref g2, .ref g3, .int 0])), (g1, .inl (cA 0, 701, .inl fk)), (g2, .inl (cA 0, 701, .inl ft)), (g3, .inl (cA 1, 701, .inr (.inl fv))), (u0, .inr (7, [.int 0, .int 365, .int 0, .int 0, .ref u1, .int 0, .ref u2, .ref u3, .ref u4, .ref u5, .int 0, .ref u6, .int 0, .ref u7, .ref u8, .ref u9, .int 0]))]) hD hS hA [1, 2, 3, 4, 5, 6] rfl
  refine va_calli (va_runV (As := [.ref b0, .int 0, .ref u0]) (rest := []) ⟨hx, hb, hml, hown, hts⟩ (c_readText l D cA sa r0 u0 u1 u2 u3 u4 u5 u6 u7 u8 u9 r1 g1 g2 g3 b0 fk ft fv H.size) (cwV 3 hts gX9_load_X4_readText rfl rfl rfl (by decide +kernel) ⟨(Nat.le_of_ble_eq_true rfl), (Nat.le_of_ble_eq_true rfl)⟩) ⟨Wd.blind, va_recv hK hPc (ci := 8) (q0 := 0) rfl rfl, fun U hU hW => ⟨rfl, Wd.call hPc hDc hK hC hZ hS hFc U hU hW⟩⟩ rfl rfl hl.1 rfl (lv_room (Nat.le_of_ble_eq_true rfl)) dX9_load_22 ⟨(Nat.le_of_ble_eq_true rfl), (Nat.le_of_ble_eq_true rfl)⟩) hS (fun q _ h => hFc q h) hFc (fun rn1 u t H1 locs ht hvm hw hB hz1 hk1 hS => ?_)
  obtain ⟨hP1, hD1⟩ := hB
  rw [ht] at hP1
  obtain ⟨hP, hD⟩ := va_join (wr := [(h0, .inr (10, [.ref b0, .int 0, .ref p0, .ref u0, .ref r0, .ref a0, .ref t0, .ref s0, .ref o0])), (a0, .inr (4, [.ref p0, .ref a1, .ref a3, .ref a4, .ref a5, .ref a6, .int 0, .int 0, .int 0, .long 0, .long 0, .long 0, .int 0, .int 0, .int 0, .int 0, .int 365, .int 0, .int 0, .int 0])), (a1, .inr (6, [.ref a2, .int 0, .int 0])), (a3, .inl (cA 0, 10, .inl e3)), (a4, .inl (cA 0, 10, .inl e4)), (a5, .inl (cA 0, 10, .inl e5)), (a6, .inl (cA 0, 10, .inl e6)), (s0, .inr (5, [.ref s1, .int 0, .int 0]))]) (w1 := [(u0, .inr (7, [.int 0, .int 365, .int 0, .int 0, .ref u1, .int 0, .ref u2, .ref u3, .ref u4, .ref u5, .int 0, .ref u6, .int 0, .ref u7, .ref u8, .ref u9, .int 0]))]) hP hD [1, 2, 3, 4, 5, 6] [0, 7, 8, 9, 10, 11, 12, 13] rfl rfl (by decide) (by decide) hk1 hFc hP1 hD1
  generalize H1 = H at hP hS ⊢
  have hP : va_P D vwCl [(h0, .inr (10, [.ref b0, .int 0, .ref p0, .ref u0, .ref r0, .ref a0, .ref t0, .ref s0, .ref o0])), (a0, .inr (4, [.ref p0, .ref a1, .ref a3, .ref a4, .ref a5, .ref a6, .int 0, .int 0, .int 0, .long 0, .long 0, .long 0, .int 0, .int 0, .int 0, .int 0, .int 365, .int 0, .int 0, .int 0])), (a1, .inr (6, [.ref a2, .int 0, .int 0])), (a3, .inl (cA 0, 10, .inl e3)), (a4, .inl (cA 0, 10, .inl e4)), (a5, .inl (cA 0, 10, .inl e5)), (a6, .inl (cA 0, 10, .inl e6)), (s0, .inr (5, [.ref s1, .int 0, .int 0])), (u0, .inr (7, [.int 0, .int 365, .int 0, .int 0, .ref u1, .int 0, .ref u2, .ref u3, .ref u4, .ref u5, .int 0, .ref u6, .int 0, .ref u7, .ref u8, .ref u9, .int 0]))] H := hP
  have hD : va_D A [(h0, .inr (10, [.ref b0, .int 0, .ref p0, .ref u0, .ref r0, .ref a0, .ref t0, .ref s0, .ref o0])), (a0, .inr (4, [.ref p0, .ref a1, .ref a3, .ref a4, .ref a5, .ref a6, .int 0, .int 0, .int 0, .long 0, .long 0, .long 0, .int 0, .int 0, .int 0, .int 0, .int 365, .int 0, .int 0, .int 0])), (a1, .inr (6, [.ref a2, .int 0, .int 0])), (a3, .inl (cA 0, 10, .inl e3)), (a4, .inl (cA 0, 10, .inl e4)), (a5, .inl (cA 0, 10, .inl e5)), (a6, .inl (cA 0, 10, .inl e6)), (s0, .inr (5, [.ref s1, .int 0, .int 0])), (u0, .inr (7, [.int 0, .int 365, .int 0, .int 0, .ref u1, .int 0, .ref u2, .ref u3, .ref u4, .ref u5, .int 0, .ref u6, .int 0, .ref u7, .ref u8, .ref u9, .int 0]))] := hD
  obtain rfl : rn1 = 1 := hw
  refine lv_istore_n (lv' := [(2, .int 1), (0, .ref h0), (1, .int 0)]) hx hb dX9_load_25 rfl hl (by decide) rfl (fun ls hl => ?_)
  refine lv_aload_n hx hb dX9_load_26 rfl (lv_at hl 1 rfl) ?_
  refine lv_iconst (v := 0) hx hb dX9_load_27 (by decide) ?_
  refine va_put (D := D) (ci := 10) (v := .int 0) (ty := .int) (C := RX9) (T := TX9) (N := 9) hx hb hts inX9 tyX9 tyX9_ok nmX9 hown hK hP hD hS 0 rfl rfl 1 (by decide) (hts (.fieldLink RX9 59 "EscrowDesk" "buffered" "I") (by decide +kernel)) (fun _ h9 => h9) rfl (by decide +kernel) rfl rfl (Nat.le_of_ble_eq_true rfl) dX9_load_28 (fun H locs hP hD hS => ?_)
  have hP : va_P D vwCl [(h0, .inr (10, [.ref b0, .int 0, .ref p0, .ref u0, .ref r0, .ref a0, .ref t0, .ref s0, .ref o0])), (a0, .inr (4, [.ref p0, .ref a1, .ref a3, .ref a4, .ref a5, .ref a6, .int 0, .int 0, .int 0, .long 0, .long 0, .long 0, .int 0, .int 0, .int 0, .int 0, .int 365, .int 0, .int 0, .int 0])), (a1, .inr (6, [.ref a2, .int 0, .int 0])), (a3, .inl (cA 0, 10, .inl e3)), (a4, .inl (cA 0, 10, .inl e4)), (a5, .inl (cA 0, 10, .inl e5)), (a6, .inl (cA 0, 10, .inl e6)), (s0, .inr (5, [.ref s1, .int 0, .int 0])), (u0, .inr (7, [.int 0, .int 365, .int 0, .int 0, .ref u1, .int 0, .ref u2, .ref u3, .ref u4, .ref u5, .int 0, .ref u6, .int 0, .ref u7, .ref u8, .ref u9, .int 0]))] H := hP
  have hD : va_D A [(h0, .inr (10, [.ref b0, .int 0, .ref p0, .ref u0, .ref r0, .ref a0, .ref t0, .ref s0, .ref o0])), (a0, .inr (4, [.ref p0, .ref a1, .ref a3, .ref a4, .ref a5, .ref a6, .int 0, .int 0, .int 0, .long 0, .long 0, .long 0, .int 0, .int 0, .int 0, .int 0, .int 365, .int 0, .int 0, .int 0])), (a1, .inr (6, [.ref a2, .int 0, .int 0])), (a3, .inl (cA 0, 10, .inl e3)), (a4, .inl (cA 0, 10, .inl e4)), (a5, .inl (cA 0, 10, .inl e5)), (a6, .inl (cA 0, 10, .inl e6)), (s0, .inr (5, [.ref s1, .int 0, .int 0])), (u0, .inr (7, [.int 0, .int 365, .int 0, .int 0, .ref u1, .int 0, .ref u2, .ref u3, .ref u4, .ref u5, .int 0, .ref u6, .int 0, .ref u7, .ref u8, .ref u9, .int 0]))] := hD
  refine lv_iload_n hx hb dX9_load_31 rfl (lv_at hl 0 rfl) ?_
  refine lv_if_ne (tgt := 38) hx hb dX9_load_32 (by decide) (fun c2 => ?_) (fun c9 => absurd c9 (by decide))
  refine lv_aload_n hx hb dX9_load_38 rfl (lv_at hl 1 rfl) ?_
  refine va_get (D := D) (ci := 10) (v := .ref u0) (C := RX9) (T := TX9) (N := 9) hx hb hts inX9 hown hK hP 0 rfl rfl 3 (by decide) (hts (.fieldLink RX9 20 "EscrowDesk" "sparePlan" "LEscrowDesk$Plan;") (by decide +kernel)) (fun _ h9 => h9) rfl dX9_load_39 ?_
  refine lv_astore_n (lv' := [(3, .ref u0), (2, .int 1), (0, .ref h0), (1, .int 0)]) hx hb dX9_load_42 rfl hl (by decide) rfl (fun ls hl => ?_)
  refine lv_aload_n hx hb dX9_load_43 rfl (lv_at hl 2 rfl) ?_
  refine lv_aload_n hx hb dX9_load_44 rfl (lv_at hl 2 rfl) ?_
  refine va_get (D := D) (ci := 10) (v := .ref p0) (C := RX9) (T := TX9) (N := 9) hx hb hts inX9 hown hK hP 0 rfl rfl 2 (by decide) (hts (.fieldLink RX9 16 "EscrowDesk" "plan" "LEscrowDesk$Plan;") (by decide +kernel)) (fun _ h9 => h9) rfl dX9_load_45 ?_
  refine va_put (D := D) (ci := 10) (v := .ref p0) (ty := (.object "EscrowDesk$Plan")) (C := RX9) (T := TX9) (N := 9) hx hb hts inX9 tyX9 tyX9_ok nmX9 hown hK hP hD hS 0 rfl rfl 3 (by decide) (hts (.fieldLink RX9 20 "EscrowDesk" "sparePlan" "LEscrowDesk$Plan;") (by decide +kernel)) (fun _ h9 => h9) rfl (by decide +kernel) rfl rfl (Nat.le_of_ble_eq_true rfl) dX9_load_48 (fun H locs hP hD hS => ?_)
  have hP : va_P D vwCl [(h0, .inr (10, [.ref b0, .int 0, .ref p0, .ref p0, .ref r0, .ref a0, .ref t0, .ref s0, .ref o0])), (a0, .inr (4, [.ref p0, .ref a1, .ref a3, .ref a4, .ref a5, .ref a6, .int 0, .int 0, .int 0, .long 0, .long 0, .long 0, .int 0, .int 0, .int 0, .int 0, .int 365, .int 0, .int 0, .int 0])), (a1, .inr (6, [.ref a2, .int 0, .int 0])), (a3, .inl (cA 0, 10, .inl e3)), (a4, .inl (cA 0, 10, .inl e4)), (a5, .inl (cA 0, 10, .inl e5)), (a6, .inl (cA 0, 10, .inl e6)), (s0, .inr (5, [.ref s1, .int 0, .int 0])), (u0, .inr (7, [.int 0, .int 365, .int 0, .int 0, .ref u1, .int 0, .ref u2, .ref u3, .ref u4, .ref u5, .int 0, .ref u6, .int 0, .ref u7, .ref u8, .ref u9, .int 0]))] H := hP
  have hD : va_D A [(h0, .inr (10, [.ref b0, .int 0, .ref p0, .ref p0, .ref r0, .ref a0, .ref t0, .ref s0, .ref o0])), (a0, .inr (4, [.ref p0, .ref a1, .ref a3, .ref a4, .ref a5, .ref a6, .int 0, .int 0, .int 0, .long 0, .long 0, .long 0, .int 0, .int 0, .int 0, .int 0, .int 365, .int 0, .int 0, .int 0])), (a1, .inr (6, [.ref a2, .int 0, .int 0])), (a3, .inl (cA 0, 10, .inl e3)), (a4, .inl (cA 0, 10, .inl e4)), (a5, .inl (cA 0, 10, .inl e5)), (a6, .inl (cA 0, 10, .inl e6)), (s0, .inr (5, [.ref s1, .int 0, .int 0])), (u0, .inr (7, [.int 0, .int 365, .int 0, .int 0, .ref u1, .int 0, .ref u2, .ref u3, .ref u4, .ref u5, .int 0, .ref u6, .int 0, .ref u7, .ref u8, .ref u9, .int 0]))] := hD
  refine lv_aload_n hx hb dX9_load_51 rfl (lv_at hl 2 rfl) ?_
  refine lv_aload_n hx hb dX9_load_52 rfl (lv_at hl 0 rfl) ?_
  refine va_put (D := D) (ci := 10) (v := .ref u0) (ty := (.object "EscrowDesk$Plan")) (C := RX9) (T := TX9) (N := 9) hx hb hts inX9 tyX9 tyX9_ok nmX9 hown hK hP hD hS 0 rfl rfl 2 (by decide) (hts (.fieldLink RX9 16 "EscrowDesk" "plan" "LEscrowDesk$Plan;") (by decide +kernel)) (fun _ h9 => h9) rfl (by decide +kernel) rfl rfl (Nat.le_of_ble_eq_true rfl) dX9_load_53 (fun H locs hP hD hS => ?_)
  have hP : va_P D vwCl [(h0, .inr (10, [.ref b0, .int 0, .ref u0, .ref p0, .ref r0, .ref a0, .ref t0, .ref s0, .ref o0])), (a0, .inr (4, [.ref p0, .ref a1, .ref a3, .ref a4, .ref a5, .ref a6, .int 0, .int 0, .int 0, .long 0, .long 0, .long 0, .int 0, .int 0, .int 0, .int 0, .int 365, .int 0, .int 0, .int 0])), (a1, .inr (6, [.ref a2, .int 0, .int 0])), (a3, .inl (cA 0, 10, .inl e3)), (a4, .inl (cA 0, 10, .inl e4)), (a5, .inl (cA 0, 10, .inl e5)), (a6, .inl (cA 0, 10, .inl e6)), (s0, .inr (5, [.ref s1, .int 0, .int 0])), (u0, .inr (7, [.int 0, .int 365, .int 0, .int 0, .ref u1, .int 0, .ref u2, .ref u3, .ref u4, .ref u5, .int 0, .ref u6, .int 0, .ref u7, .ref u8, .ref u9, .int 0]))] H := hP
  have hD : va_D A [(h0, .inr (10, [.ref b0, .int 0, .ref u0, .ref p0, .ref r0, .ref a0, .ref t0, .ref s0, .ref o0])), (a0, .inr (4, [.ref p0, .ref a1, .ref a3, .ref a4, .ref a5, .ref a6, .int 0, .int 0, .int 0, .long 0, .long 0, .long 0, .int 0, .int 0, .int 0, .int 0, .int 365, .int 0, .int 0, .int 0])), (a1, .inr (6, [.ref a2, .int 0, .int 0])), (a3, .inl (cA 0, 10, .inl e3)), (a4, .inl (cA 0, 10, .inl e4)), (a5, .inl (cA 0, 10, .inl e5)), (a6, .inl (cA 0, 10, .inl e6)), (s0, .inr (5, [.ref s1, .int 0, .int 0])), (u0, .inr (7, [.int 0, .int 365, .int 0, .int 0, .ref u1, .int 0, .ref u2, .ref u3, .ref u4, .ref u5, .int 0, .ref u6, .int 0, .ref u7, .ref u8, .ref u9, .int 0]))] := hD
  refine lv_aload_n hx hb dX9_load_56 rfl (lv_at hl 2 rfl) ?_
  refine va_get (D := D) (ci := 10) (v := .ref a0) (C := RX9) (T := TX9) (N := 9) hx hb hts inX9 hown hK hP 0 rfl rfl 5 (by decide) (hts (.fieldLink RX9 35 "EscrowDesk" "account" "LEscrowDesk$Account;") (by decide +kernel)) (fun _ h9 => h9) rfl dX9_load_57 ?_
  refine lv_aload_n hx hb dX9_load_60 rfl (lv_at hl 2 rfl) ?_
  refine va_get (D := D) (ci := 10) (v := .ref u0) (C := RX9) (T := TX9) (N := 9) hx hb hts inX9 hown hK hP 0 rfl rfl 2 (by decide) (hts (.fieldLink RX9 16 "EscrowDesk" "plan" "LEscrowDesk$Plan;") (by decide +kernel)) (fun _ h9 => h9) rfl dX9_load_61 ?_
  have hPc := hP.sub (ws' := [(a0, .inr (4, [.ref p0, .ref a1, .ref a3, .ref a4, .ref a5, .ref a6, .int 0, .int 0, .int 0, .long 0, .long 0, .long 0, .int 0, .int 0, .int 0, .int 0, .int 365, .int 0, .int 0, .int 0])), (a1, .inr (6, [.ref a2, .int 0, .int 0])), (a3, .inl (cA 0, 10, .inl e3)), (a4, .inl (cA 0, 10, .inl e4)), (a5, .inl (cA 0, 10, .inl e5)), (a6, .inl (cA 0, 10, .inl e6)), (u0, .inr (7, [.int 0, .int 365, .int 0, .int 0, .ref u1, .int 0, .ref u2, .ref u3, .ref u4, .ref u5, .int 0, .ref u6, .int 0, .ref u7, .ref u8, .ref u9, .int 0]))]) [1, 2, 3, 4, 5, 6, 8] rfl
  have hDc := hD.sub (ws' := [(a0, .inr (4, [.ref p0, .ref a1, .ref a3, .ref a4, .ref a5, .ref a6, .int 0, .int 0, .int 0, .long 0, .long 0, .long 0, .int 0, .int 0, .int 0, .int 0, .int 365, .int 0, .int 0, .int 0])), (a1, .inr (6, [.ref a2, .int 0, .int 0])), (a3, .inl (cA 0, 10, .inl e3)), (a4, .inl (cA 0, 10, .inl e4)), (a5, .inl (cA 0, 10, .inl e5)), (a6, .inl (cA 0, 10, .inl e6)), (u0, .inr (7, [.int 0, .int 365, .int 0, .int 0, .ref u1, .int 0, .ref u2, .ref u3, .ref u4, .ref u5, .int 0, .ref u6, .int 0, .ref u7, .ref u8, .ref u9, .int 0]))]) [1, 2, 3, 4, 5, 6, 8] (by decide) rfl
  have hFc := va_free (wc := [(a0, .inr (4, [.ref p0, .ref a1, .ref a3, .ref a4, .ref a5, .ref a6, .int 0, .int 0, .int 0, .long 0, .long 0, .long 0, .int 0, .int 0, .int 0, .int 0, .int 365, .int 0, .int 0, .int 0])), (a1, .inr (6, [.ref a2, .int 0, .int 0])), (a3, .inl (cA 0, 10, .inl e3)), (a4, .inl (cA 0, 10, .inl e4)), (a5, .inl (cA 0, 10, .inl e5)), (a6, .inl (cA 0, 10, .inl e6)), (u0, .inr (7, [.int 0, .int 365, .int 0, .int 0, .ref u1, .int 0, .ref u2, .ref u3, .ref u4, .ref u5, .int 0, .ref u6, .int 0, .ref u7, .ref u8, .ref u9, .int 0]))]) hD hS hA [1, 2, 3, 4, 5, 6, 8] rfl
  refine va_callv (va_runV (As := [.ref u0]) (rest := []) ⟨hx, hb, hml, hown, hts⟩ (c_X0_openWith l D cA sa a0 a1 a2 a3 a4 a5 a6 u0 u1 u2 u3 u4 u5 u6 u7 u8 u9 (.ref p0) (.int 0) (.int 0) (.int 0) (.long 0) (.long 0) (.long 0) (.int 0) (.int 0) (.int 0) (.int 0) (.int 365) (.int 0) (.int 0) (.int 0) 0 0 e3 e4 e5 e6 H.size) (cwV 1 hts gX9_load_X0_openWith rfl rfl rfl (by decide +kernel) ⟨(Nat.le_of_ble_eq_true rfl), (Nat.le_of_ble_eq_true rfl)⟩) ⟨Wd.blind, va_recv hK hPc (ci := 4) (q0 := 0) rfl rfl, fun U hU hW => ⟨rfl, Wd.call hPc hDc hK hC hZ hS hFc U hU hW⟩⟩ rfl rfl hl.1 rfl (lv_room (Nat.le_of_ble_eq_true rfl)) dX9_load_64 ⟨(Nat.le_of_ble_eq_true rfl), (Nat.le_of_ble_eq_true rfl)⟩) hS (fun q _ h => hFc q h) hFc (fun u t H1 locs ht hvm hw hB hz1 hk1 hS => ?_)
  obtain ⟨fn3, fn4, fn5, fn6, hP1, hD1⟩ := hB
  rw [ht] at hP1
  obtain ⟨hP, hD⟩ := va_join (wr := [(h0, .inr (10, [.ref b0, .int 0, .ref u0, .ref p0, .ref r0, .ref a0, .ref t0, .ref s0, .ref o0])), (s0, .inr (5, [.ref s1, .int 0, .int 0]))]) (w1 := [(a0, .inr (4, [.ref u0, .ref a1, .ref a3, .ref a4, .ref a5, .ref a6, .int 0, .int 0, .int 0, .long 0, .long 0, .long 0, .int 0, .int 0, .int 0, .int 0, .int 365, .int 0, .int 0, .int 0])), (a1, .inr (6, [.ref a2, .int 0, .int 0])), (a3, .inl (cA 0, 10, .inl fn3)), (a4, .inl (cA 0, 10, .inl fn4)), (a5, .inl (cA 0, 10, .inl fn5)), (a6, .inl (cA 0, 10, .inl fn6)), (u0, .inr (7, [.int 0, .int 365, .int 0, .int 0, .ref u1, .int 0, .ref u2, .ref u3, .ref u4, .ref u5, .int 0, .ref u6, .int 0, .ref u7, .ref u8, .ref u9, .int 0]))]) hP hD [1, 2, 3, 4, 5, 6, 8] [0, 7] rfl rfl (by decide) (by decide) hk1 hFc hP1 hD1
  generalize H1 = H at hP hS ⊢
  have hP : va_P D vwCl [(h0, .inr (10, [.ref b0, .int 0, .ref u0, .ref p0, .ref r0, .ref a0, .ref t0, .ref s0, .ref o0])), (s0, .inr (5, [.ref s1, .int 0, .int 0])), (a0, .inr (4, [.ref u0, .ref a1, .ref a3, .ref a4, .ref a5, .ref a6, .int 0, .int 0, .int 0, .long 0, .long 0, .long 0, .int 0, .int 0, .int 0, .int 0, .int 365, .int 0, .int 0, .int 0])), (a1, .inr (6, [.ref a2, .int 0, .int 0])), (a3, .inl (cA 0, 10, .inl fn3)), (a4, .inl (cA 0, 10, .inl fn4)), (a5, .inl (cA 0, 10, .inl fn5)), (a6, .inl (cA 0, 10, .inl fn6)), (u0, .inr (7, [.int 0, .int 365, .int 0, .int 0, .ref u1, .int 0, .ref u2, .ref u3, .ref u4, .ref u5, .int 0, .ref u6, .int 0, .ref u7, .ref u8, .ref u9, .int 0]))] H := hP
  have hD : va_D A [(h0, .inr (10, [.ref b0, .int 0, .ref u0, .ref p0, .ref r0, .ref a0, .ref t0, .ref s0, .ref o0])), (s0, .inr (5, [.ref s1, .int 0, .int 0])), (a0, .inr (4, [.ref u0, .ref a1, .ref a3, .ref a4, .ref a5, .ref a6, .int 0, .int 0, .int 0, .long 0, .long 0, .long 0, .int 0, .int 0, .int 0, .int 0, .int 365, .int 0, .int 0, .int 0])), (a1, .inr (6, [.ref a2, .int 0, .int 0])), (a3, .inl (cA 0, 10, .inl fn3)), (a4, .inl (cA 0, 10, .inl fn4)), (a5, .inl (cA 0, 10, .inl fn5)), (a6, .inl (cA 0, 10, .inl fn6)), (u0, .inr (7, [.int 0, .int 365, .int 0, .int 0, .ref u1, .int 0, .ref u2, .ref u3, .ref u4, .ref u5, .int 0, .ref u6, .int 0, .ref u7, .ref u8, .ref u9, .int 0]))] := hD
  refine lv_aload_n hx hb dX9_load_67 rfl (lv_at hl 2 rfl) ?_
  refine va_get (D := D) (ci := 10) (v := .ref s0) (C := RX9) (T := TX9) (N := 9) hx hb hts inX9 hown hK hP 0 rfl rfl 7 (by decide) (hts (.fieldLink RX9 45 "EscrowDesk" "history" "LEscrowDesk$History;") (by decide +kernel)) (fun _ h9 => h9) rfl dX9_load_68 ?_
  have hPc := hP.sub (ws' := [(s0, .inr (5, [.ref s1, .int 0, .int 0]))]) [1] rfl
  have hDc := hD.sub (ws' := [(s0, .inr (5, [.ref s1, .int 0, .int 0]))]) [1] (by decide) rfl
  have hFc := va_free (wc := [(s0, .inr (5, [.ref s1, .int 0, .int 0]))]) hD hS hA [1] rfl
  refine va_callv (va_runV (As := []) (rest := []) ⟨hx, hb, hml, hown, hts⟩ (c_forgetAll l D cA sa s0 s1 H.size) (cwV 0 hts gX9_load_X1_forgetAll rfl rfl rfl (by decide +kernel) ⟨(Nat.le_of_ble_eq_true rfl), (Nat.le_of_ble_eq_true rfl)⟩) ⟨Wd.blind, va_recv hK hPc (ci := 5) (q0 := 0) rfl rfl, fun U hU hW => ⟨rfl, Wd.call hPc hDc hK hC hZ hS hFc U hU hW⟩⟩ rfl rfl hl.1 rfl (lv_room (Nat.le_of_ble_eq_true rfl)) dX9_load_71 ⟨(Nat.le_of_ble_eq_true rfl), (Nat.le_of_ble_eq_true rfl)⟩) hS (fun q _ h => hFc q h) hFc (fun u t H1 locs ht hvm hw hB hz1 hk1 hS => ?_)
  obtain ⟨hP1, hD1⟩ := hB
  rw [ht] at hP1
  obtain ⟨hP, hD⟩ := va_join (wr := [(h0, .inr (10, [.ref b0, .int 0, .ref u0, .ref p0, .ref r0, .ref a0, .ref t0, .ref s0, .ref o0])), (a0, .inr (4, [.ref u0, .ref a1, .ref a3, .ref a4, .ref a5, .ref a6, .int 0, .int 0, .int 0, .long 0, .long 0, .long 0, .int 0, .int 0, .int 0, .int 0, .int 365, .int 0, .int 0, .int 0])), (a1, .inr (6, [.ref a2, .int 0, .int 0])), (a3, .inl (cA 0, 10, .inl fn3)), (a4, .inl (cA 0, 10, .inl fn4)), (a5, .inl (cA 0, 10, .inl fn5)), (a6, .inl (cA 0, 10, .inl fn6)), (u0, .inr (7, [.int 0, .int 365, .int 0, .int 0, .ref u1, .int 0, .ref u2, .ref u3, .ref u4, .ref u5, .int 0, .ref u6, .int 0, .ref u7, .ref u8, .ref u9, .int 0]))]) (w1 := []) hP hD [1] [0, 2, 3, 4, 5, 6, 7, 8] rfl rfl (by decide) (by decide) hk1 hFc hP1 hD1
  generalize H1 = H at hP hS ⊢
  have hP : va_P D vwCl [(h0, .inr (10, [.ref b0, .int 0, .ref u0, .ref p0, .ref r0, .ref a0, .ref t0, .ref s0, .ref o0])), (a0, .inr (4, [.ref u0, .ref a1, .ref a3, .ref a4, .ref a5, .ref a6, .int 0, .int 0, .int 0, .long 0, .long 0, .long 0, .int 0, .int 0, .int 0, .int 0, .int 365, .int 0, .int 0, .int 0])), (a1, .inr (6, [.ref a2, .int 0, .int 0])), (a3, .inl (cA 0, 10, .inl fn3)), (a4, .inl (cA 0, 10, .inl fn4)), (a5, .inl (cA 0, 10, .inl fn5)), (a6, .inl (cA 0, 10, .inl fn6)), (u0, .inr (7, [.int 0, .int 365, .int 0, .int 0, .ref u1, .int 0, .ref u2, .ref u3, .ref u4, .ref u5, .int 0, .ref u6, .int 0, .ref u7, .ref u8, .ref u9, .int 0]))] H := hP
  have hD : va_D A [(h0, .inr (10, [.ref b0, .int 0, .ref u0, .ref p0, .ref r0, .ref a0, .ref t0, .ref s0, .ref o0])), (a0, .inr (4, [.ref u0, .ref a1, .ref a3, .ref a4, .ref a5, .ref a6, .int 0, .int 0, .int 0, .long 0, .long 0, .long 0, .int 0, .int 0, .int 0, .int 0, .int 365, .int 0, .int 0, .int 0])), (a1, .inr (6, [.ref a2, .int 0, .int 0])), (a3, .inl (cA 0, 10, .inl fn3)), (a4, .inl (cA 0, 10, .inl fn4)), (a5, .inl (cA 0, 10, .inl fn5)), (a6, .inl (cA 0, 10, .inl fn6)), (u0, .inr (7, [.int 0, .int 365, .int 0, .int 0, .ref u1, .int 0, .ref u2, .ref u3, .ref u4, .ref u5, .int 0, .ref u6, .int 0, .ref u7, .ref u8, .ref u9, .int 0]))] := hD
  refine lv_aload_n hx hb dX9_load_74 rfl (lv_at hl 2 rfl) ?_
  refine va_get (D := D) (ci := 10) (v := .ref u0) (C := RX9) (T := TX9) (N := 9) hx hb hts inX9 hown hK hP 0 rfl rfl 2 (by decide) (hts (.fieldLink RX9 16 "EscrowDesk" "plan" "LEscrowDesk$Plan;") (by decide +kernel)) (fun _ h9 => h9) rfl dX9_load_75 ?_
  refine va_getN (D := D) (ci := 7) (v := .int 0) (C := RX3) (T := TX3) (N := 17) hx hb hts inX3 hown hK hP 7 rfl rfl 10 (by decide) (hC.f (A := _) (a := RX9) (i := 78) (b := "EscrowDesk$Plan") (n := "milestoneCount") (d := "I") (x := "EscrowDesk") (by decide +kernel)) (fun _ h9 => h9) rfl dX9_load_78 ?_
  have hP9 := hP.sub (ws' := []) [] rfl
  have hD9 := hD.sub (ws' := []) [] (by decide) rfl
  refine W.widen (k := 0) (n := 0) (Nat.le_of_ble_eq_true rfl) (Nat.le_of_ble_eq_true rfl) ?_
  exact W.iret (v := 0) hx hb hr (fun t ht hW => ⟨⟨0, (), rfl, rfl, by rw [ht]; exact hP9, hD9⟩, hS.F ht⟩) hS.2.2 dX9_load_81

set_option maxHeartbeats 4000000 in
set_option maxRecDepth 100000 in
/-- load outside -/
theorem c_load_thr (l : Launch) (D : va_G) (cA : Nat → ClassId) (sa : Nat → Nat) (h0 b0 p0 u0 r0 a0 t0 s0 o0 : Nat) (i : Int32) (sz : Nat) (hl9 : l.stackTraces = false) (h : i < 0 ∨ 0 < i) : vx_Met l yX9_load wsX9_load ({ frames := 7, cells := 1, slots := 6, locals := 112 }) (va_Pc [.ref h0, .int i] (Wd D cA sa [(h0, .inr (10, [.ref b0, .int 0, .ref p0, .ref u0, .ref r0, .ref a0, .ref t0, .ref s0, .ref o0]))] sz)) (va_Qi (fun (_ : Int32) (_ : Unit) => False) (fun (_ : Unit) _ => True) (va_A [(h0, .inr (10, [.ref b0, .int 0, .ref p0, .ref u0, .ref r0, .ref a0, .ref t0, .ref s0, .ref o0]))] sz)) (vx_X (fun _ : Unit => True) (fun E _ _ => E = "java/lang/IllegalArgumentException") (va_A [(h0, .inr (10, [.ref b0, .int 0, .ref p0, .ref u0, .ref r0, .ref a0, .ref t0, .ref s0, .ref o0]))] sz)) 1 6 (va_A [(h0, .inr (10, [.ref b0, .int 0, .ref p0, .ref u0, .ref r0, .ref a0, .ref t0, .ref s0, .ref o0]))] sz) := by
  refine vx_ofW (cc := cX9_load) (maxL := 4) (ret := (some .int)) (by decide) rfl ?_
  intro p e s m args below meth c s₁ B hml hno hv
  obtain ⟨rfl, hsz, hP, hK, hD0, hC, hZ⟩ := hv
  have hx := B.exec
  have hb := B.bytes
  have hr := B.returns
  have hts := atoms_spec (ws := wsX9_load) B.pre
  have hown : s.vm.findClass RX9 = some m.cls := findClass_of_methodNamed B.named
  have hlocks := B.notSynchronized
  subst hsz
  have hD := hD0.self (sz := s.heap.size)
  generalize hAe : va_A [(h0, .inr (10, [.ref b0, .int 0, .ref p0, .ref u0, .ref r0, .ref a0, .ref t0, .ref s0, .ref o0]))] s.heap.size = A at hD hZ ⊢
  have hA : ∀ q : Nat, s.heap.size ≤ q → A q := fun q h => by rw [← hAe]; exact Or.inr h
  have hS : va_S A s.heap s.heap [] := va_S.rf
  have hP : va_P D vwCl [(h0, .inr (10, [.ref b0, .int 0, .ref p0, .ref u0, .ref r0, .ref a0, .ref t0, .ref s0, .ref o0]))] s.heap := hP
  have hl := lv_entry ([.ref h0, .int i]) (n := 4) (Nat.le_of_ble_eq_true rfl)
  rw [lg_entry_eq]
  generalize (lg_sl ([.ref h0, .int i]) ++ List.replicate (4 - (lg_sl ([.ref h0, .int i])).length) Slot.unset).toArray = ls at hl ⊢
  have hl : lv_has ls 4 [(0, .ref h0), (1, .int i)] := hl
  have inX9 : ∀ w ∈ u_ws RX9 TX9 9, w ∈ wsX9_load := by decide +kernel
  refine lv_iload_n hx hb dX9_load_0 rfl (lv_at hl 1 rfl) ?_
  refine lv_iconst (v := 0) hx hb dX9_load_1 (by decide) ?_
  refine lv_aload_n hx hb dX9_load_2 rfl (lv_at hl 0 rfl) ?_
  refine va_get (D := D) (ci := 10) (v := .int 0) (C := RX9) (T := TX9) (N := 9) hx hb hts inX9 hown hK hP 0 rfl rfl 1 (by decide) (hts (.fieldLink RX9 59 "EscrowDesk" "buffered" "I") (by decide +kernel)) (fun _ h9 => h9) rfl dX9_load_3 ?_
  have hPc := hP.sub (ws' := []) [] rfl
  have hDc := hD.sub (ws' := []) [] (by decide) rfl
  have hFc := va_free (wc := []) hD hS hA [] rfl
  refine vx_callv (vx_runS (As := [.int i, .int 0, .int 0]) (rest := []) ⟨hx, hb, hml, hown, hts⟩ (c_needRange_thr l D cA sa i 0 0 s.heap.size hl9 h) (va_cwS 3 hts gX9_load_X9_needRange rfl rfl rfl (by decide +kernel) ⟨(Nat.le_of_ble_eq_true rfl), (Nat.le_of_ble_eq_true rfl)⟩) ⟨Wd.blind, fun U hU hW => ⟨rfl, Wd.call hPc hDc hK hC hZ hS hFc U hU hW⟩⟩ rfl rfl hl.1 rfl (lv_room (Nat.le_of_ble_eq_true rfl)) dX9_load_6 ⟨(Nat.le_of_ble_eq_true rfl), (Nat.le_of_ble_eq_true rfl)⟩) hS (fun q _ h => hFc q h) hFc (fun q _ h => hFc q h) (fun E ce q9 u t H1 locs ht hvm hpx hE hz1 hk1 hS hcell hv9 hcl => ?_) (fun u t H1 locs ht hvm hw hB hz1 hk1 hS => hw.elim)
  exact vx_out (fun x h => (hno x h).elim) hlocks hcell hv9 hcl (fun t ht hvm => ⟨(), trivial, hE, hS.F ht⟩) hS.2.2 (Nat.le_of_ble_eq_true rfl) (Nat.le_of_ble_eq_true rfl)

set_option maxHeartbeats 4000000 in
set_option maxRecDepth 100000 in
/-- AbstractStringBuilder.length -/
theorem c_J5_length (l : Launch) (D : va_G) (cA : Nat → ClassId) (sa : Nat → Nat) (o0 o1 : Nat) (sz : Nat) : Met l yJ5_length_8abf5 wsJ5_length_8abf5 ({ frames := 0, cells := 0, slots := 0, locals := 0 }) (va_Pc [.ref o0] (Wd D cA sa [(o0, .inr (1, [.ref o1, .int 0, .int 0, .int 0]))] sz)) (va_Qi (fun (r : Int32) (_ : Unit) => r = 0) (fun (_ : Unit) t => Wq D (va_A [(o0, .inr (1, [.ref o1, .int 0, .int 0, .int 0]))] sz) [(o0, .inr (1, [.ref o1, .int 0, .int 0, .int 0]))] t) (va_A [(o0, .inr (1, [.ref o1, .int 0, .int 0, .int 0]))] sz)) 0 0 (va_A [(o0, .inr (1, [.ref o1, .int 0, .int 0, .int 0]))] sz) := by
  refine Met.ofW (cc := cJ5_length_8abf5) (maxL := 1) (ret := (some .int)) (by decide) rfl ?_
  intro p e s m args below meth c s₁ B hml hv
  obtain ⟨rfl, hsz, hP, hK, hD0, hC, hZ⟩ := hv
  have hx := B.exec
  have hb := B.bytes
  have hr := B.returns
  have hts := atoms_spec (ws := wsJ5_length_8abf5) B.pre
  have hown : s.vm.findClass RJ5 = some m.cls := findClass_of_methodNamed B.named
  have hlocks := B.notSynchronized
  subst hsz
  have hD := hD0.self (sz := s.heap.size)
  generalize hAe : va_A [(o0, .inr (1, [.ref o1, .int 0, .int 0, .int 0]))] s.heap.size = A at hD hZ ⊢
  have hA : ∀ q : Nat, s.heap.size ≤ q → A q := fun q h => by rw [← hAe]; exact Or.inr h
  have hS : va_S A s.heap s.heap [] := va_S.rf
  have hP : va_P D vwCl [(o0, .inr (1, [.ref o1, .int 0, .int 0, .int 0]))] s.heap := hP
  have hl := lv_entry ([.ref o0]) (n := 1) (Nat.le_of_ble_eq_true rfl)
  rw [lg_entry_eq]
  generalize (lg_sl ([.ref o0]) ++ List.replicate (1 - (lg_sl ([.ref o0])).length) Slot.unset).toArray = ls at hl ⊢
  have hl : lv_has ls 1 [(0, .ref o0)] := hl
  have inJ4 : ∀ w ∈ u_ws RJ4 TJ4 4, w ∈ wsJ5_length_8abf5 := by decide +kernel
  refine lv_aload_n hx hb dJ5_length_8abf5_0 rfl (lv_at hl 0 rfl) ?_
  refine va_get (D := D) (ci := 1) (v := .int 0) (C := RJ4) (T := TJ4) (N := 4) hx hb hts inJ4 hown hK hP 0 rfl rfl 3 (by decide) (hts (.fieldLink RJ5 79 "java/lang/AbstractStringBuilder" "count" "I") (by decide +kernel)) (fun _ h9 => h9) rfl dJ5_length_8abf5_1 ?_
  have hP9 := hP.sub (ws' := [(o0, .inr (1, [.ref o1, .int 0, .int 0, .int 0]))]) [0] rfl
  have hD9 := hD.sub (ws' := [(o0, .inr (1, [.ref o1, .int 0, .int 0, .int 0]))]) [0] (by decide) rfl
  refine W.widen (k := 0) (n := 0) (Nat.le_of_ble_eq_true rfl) (Nat.le_of_ble_eq_true rfl) ?_
  exact W.iret (v := 0) hx hb hr (fun t ht hW => ⟨⟨0, (), rfl, rfl, by rw [ht]; exact hP9, hD9⟩, hS.F ht⟩) hS.2.2 dJ5_length_8abf5_4

set_option maxHeartbeats 4000000 in
set_option maxRecDepth 100000 in
/-- StringBuilder.length -/
theorem c_J4_length (l : Launch) (D : va_G) (cA : Nat → ClassId) (sa : Nat → Nat) (o0 o1 : Nat) (sz : Nat) : Met l yJ4_length_8abf5 wsJ4_length_8abf5 ({ frames := 1, cells := 0, slots := 0, locals := 20 }) (va_Pc [.ref o0] (Wd D cA sa [(o0, .inr (1, [.ref o1, .int 0, .int 0, .int 0]))] sz)) (va_Qi (fun (r : Int32) (_ : Unit) => r = 0) (fun (_ : Unit) t => Wq D (va_A [(o0, .inr (1, [.ref o1, .int 0, .int 0, .int 0]))] sz) [(o0, .inr (1, [.ref o1, .int 0, .int 0, .int 0]))] t) (va_A [(o0, .inr (1, [.ref o1, .int 0, .int 0, .int 0]))] sz)) 0 0 (va_A [(o0, .inr (1, [.ref o1, .int 0, .int 0, .int 0]))] sz) := by
  refine Met.ofW (cc := cJ4_length_8abf5) (maxL := 1) (ret := (some .int)) (by decide) rfl ?_
  intro p e s m args below meth c s₁ B hml hv
  obtain ⟨rfl, hsz, hP, hK, hD0, hC, hZ⟩ := hv
  have hx := B.exec
  have hb := B.bytes
  have hr := B.returns
  have hts := atoms_spec (ws := wsJ4_length_8abf5) B.pre
  have hown : s.vm.findClass RJ4 = some m.cls := findClass_of_methodNamed B.named
  have hlocks := B.notSynchronized
  subst hsz
  have hD := hD0.self (sz := s.heap.size)
  generalize hAe : va_A [(o0, .inr (1, [.ref o1, .int 0, .int 0, .int 0]))] s.heap.size = A at hD hZ ⊢
  have hA : ∀ q : Nat, s.heap.size ≤ q → A q := fun q h => by rw [← hAe]; exact Or.inr h
  have hS : va_S A s.heap s.heap [] := va_S.rf
  have hP : va_P D vwCl [(o0, .inr (1, [.ref o1, .int 0, .int 0, .int 0]))] s.heap := hP
  have hl := lv_entry ([.ref o0]) (n := 1) (Nat.le_of_ble_eq_true rfl)
  rw [lg_entry_eq]
  generalize (lg_sl ([.ref o0]) ++ List.replicate (1 - (lg_sl ([.ref o0])).length) Slot.unset).toArray = ls at hl ⊢
  have hl : lv_has ls 1 [(0, .ref o0)] := hl
  refine lv_aload_n hx hb dJ4_length_8abf5_0 rfl (lv_at hl 0 rfl) ?_
  have hPc := hP.sub (ws' := [(o0, .inr (1, [.ref o1, .int 0, .int 0, .int 0]))]) [0] rfl
  have hDc := hD.sub (ws' := [(o0, .inr (1, [.ref o1, .int 0, .int 0, .int 0]))]) [0] (by decide) rfl
  have hFc := va_free (wc := [(o0, .inr (1, [.ref o1, .int 0, .int 0, .int 0]))]) hD hS hA [0] rfl
  refine va_calli (va_runSU (As := []) (rest := []) (hK.1 1 _ rfl).2 ⟨hx, hb, hml, hown, hts⟩ (c_J5_length l D cA sa o0 o1 s.heap.size) (va_cwSU 0 hts gJ4_length_8abf5_J5_length_8abf5_s343 rfl rfl rfl (by decide +kernel) ⟨(Nat.le_of_ble_eq_true rfl), (Nat.le_of_ble_eq_true rfl)⟩) ⟨Wd.blind, va_recv hK hPc (ci := 1) (q0 := 0) rfl rfl, fun U hU hW => ⟨rfl, Wd.call hPc hDc hK hC hZ hS hFc U hU hW⟩⟩ rfl rfl hl.1 rfl (lv_room (Nat.le_of_ble_eq_true rfl)) dJ4_length_8abf5_1 ⟨(Nat.le_of_ble_eq_true rfl), (Nat.le_of_ble_eq_true rfl)⟩) hS (fun q _ h => hFc q h) hFc (fun rn1 u t H1 locs ht hvm hw hB hz1 hk1 hS => ?_)
  obtain ⟨hP1, hD1⟩ := hB
  rw [ht] at hP1
  obtain ⟨hP, hD⟩ := va_join (wr := []) (w1 := [(o0, .inr (1, [.ref o1, .int 0, .int 0, .int 0]))]) hP hD [0] [] rfl rfl (by decide) (by decide) hk1 hFc hP1 hD1
  generalize H1 = H at hP hS ⊢
  have hP : va_P D vwCl [(o0, .inr (1, [.ref o1, .int 0, .int 0, .int 0]))] H := hP
  have hD : va_D A [(o0, .inr (1, [.ref o1, .int 0, .int 0, .int 0]))] := hD
  obtain rfl : rn1 = 0 := hw
  have hP9 := hP.sub (ws' := [(o0, .inr (1, [.ref o1, .int 0, .int 0, .int 0]))]) [0] rfl
  have hD9 := hD.sub (ws' := [(o0, .inr (1, [.ref o1, .int 0, .int 0, .int 0]))]) [0] (by decide) rfl
  refine W.widen (k := 0) (n := 0) (Nat.le_of_ble_eq_true rfl) (Nat.le_of_ble_eq_true rfl) ?_
  exact W.iret (v := 0) hx hb hr (fun t ht hW => ⟨⟨0, (), rfl, rfl, by rw [ht]; exact hP9, hD9⟩, hS.F ht⟩) hS.2.2 dJ4_length_8abf5_4

set_option maxHeartbeats 4000000 in
set_option maxRecDepth 100000 in
/-- written: there is none -/
theorem c_written_thr (l : Launch) (D : va_G) (cA : Nat → ClassId) (sa : Nat → Nat) (h0 b0 p0 u0 r0 a0 t0 s0 o0 o1 : Nat) (i : Int32) (sz : Nat) (hl9 : l.stackTraces = false) : vx_Met l yX9_written wsX9_written ({ frames := 7, cells := 1, slots := 6, locals := 111 }) (va_Pc [.ref h0, .int i] (Wd D cA sa [(h0, .inr (10, [.ref b0, .int 0, .ref p0, .ref u0, .ref r0, .ref a0, .ref t0, .ref s0, .ref o0])), (o0, .inr (1, [.ref o1, .int 0, .int 0, .int 0]))] sz)) (va_Qi (fun (_ : Int32) (_ : Unit) => False) (fun (_ : Unit) _ => True) (va_A [(h0, .inr (10, [.ref b0, .int 0, .ref p0, .ref u0, .ref r0, .ref a0, .ref t0, .ref s0, .ref o0])), (o0, .inr (1, [.ref o1, .int 0, .int 0, .int 0]))] sz)) (vx_X (fun _ : Unit => True) (fun E _ _ => E = "java/lang/IndexOutOfBoundsException") (va_A [(h0, .inr (10, [.ref b0, .int 0, .ref p0, .ref u0, .ref r0, .ref a0, .ref t0, .ref s0, .ref o0])), (o0, .inr (1, [.ref o1, .int 0, .int 0, .int 0]))] sz)) 1 6 (va_A [(h0, .inr (10, [.ref b0, .int 0, .ref p0, .ref u0, .ref r0, .ref a0, .ref t0, .ref s0, .ref o0])), (o0, .inr (1, [.ref o1, .int 0, .int 0, .int 0]))] sz) := by
  refine vx_ofW (cc := cX9_written) (maxL := 2) (ret := (some .char)) (by decide) rfl ?_
  intro p e s m args below meth c s₁ B hml hno hv
  obtain ⟨rfl, hsz, hP, hK, hD0, hC, hZ⟩ := hv
  have hx := B.exec
  have hb := B.bytes
  have hr := B.returns
  have hts := atoms_spec (ws := wsX9_written) B.pre
  have hown : s.vm.findClass RX9 = some m.cls := findClass_of_methodNamed B.named
  have hlocks := B.notSynchronized
  subst hsz
  have hD := hD0.self (sz := s.heap.size)
  generalize hAe : va_A [(h0, .inr (10, [.ref b0, .int 0, .ref p0, .ref u0, .ref r0, .ref a0, .ref t0, .ref s0, .ref o0])), (o0, .inr (1, [.ref o1, .int 0, .int 0, .int 0]))] s.heap.size = A at hD hZ ⊢
  have hA : ∀ q : Nat, s.heap.size ≤ q → A q := fun q h => by rw [← hAe]; exact Or.inr h
  have hS : va_S A s.heap s.heap [] := va_S.rf
  have hP : va_P D vwCl [(h0, .inr (10, [.ref b0, .int 0, .ref p0, .ref u0, .ref r0, .ref a0, .ref t0, .ref s0, .ref o0])), (o0, .inr (1, [.ref o1, .int 0, .int 0, .int 0]))] s.heap := hP
  have hl := lv_entry ([.ref h0, .int i]) (n := 2) (Nat.le_of_ble_eq_true rfl)
  rw [lg_entry_eq]
  generalize (lg_sl ([.ref h0, .int i]) ++ List.replicate (2 - (lg_sl ([.ref h0, .int i])).length) Slot.unset).toArray = ls at hl ⊢
  have hl : lv_has ls 2 [(0, .ref h0), (1, .int i)] := hl
  have inX9 : ∀ w ∈ u_ws RX9 TX9 9, w ∈ wsX9_written := by decide +kernel
  refine lv_iload_n hx hb dX9_written_0 rfl (lv_at hl 1 rfl) ?_
  refine lv_aload_n hx hb dX9_written_1 rfl (lv_at hl 0 rfl) ?_
  refine va_get (D := D) (ci := 10) (v := .ref o0) (C := RX9) (T := TX9) (N := 9) hx hb hts inX9 hown hK hP 0 rfl rfl 8 (by decide) (hts (.fieldLink RX9 52 "EscrowDesk" "output" "Ljava/lang/StringBuilder;") (by decide +kernel)) (fun _ h9 => h9) rfl dX9_written_2 ?_
  have hPc := hP.sub (ws' := [(o0, .inr (1, [.ref o1, .int 0, .int 0, .int 0]))]) [1] rfl
  have hDc := hD.sub (ws' := [(o0, .inr (1, [.ref o1, .int 0, .int 0, .int 0]))]) [1] (by decide) rfl
  have hFc := va_free (wc := [(o0, .inr (1, [.ref o1, .int 0, .int 0, .int 0]))]) hD hS hA [1] rfl
  refine va_calli (va_runV (As := []) (rest := [.int i]) ⟨hx, hb, hml, hown, hts⟩ (c_J4_length l D cA sa o0 o1 s.heap.size) (cwV 0 hts gX9_written_J4_length_8abf5 rfl rfl rfl (by decide +kernel) ⟨(Nat.le_of_ble_eq_true rfl), (Nat.le_of_ble_eq_true rfl)⟩) ⟨Wd.blind, va_recv hK hPc (ci := 1) (q0 := 0) rfl rfl, fun U hU hW => ⟨rfl, Wd.call hPc hDc hK hC hZ hS hFc U hU hW⟩⟩ rfl rfl hl.1 rfl (lv_room (Nat.le_of_ble_eq_true rfl)) dX9_written_5 ⟨(Nat.le_of_ble_eq_true rfl), (Nat.le_of_ble_eq_true rfl)⟩) hS (fun q _ h => hFc q h) hFc (fun rn1 u t H1 locs ht hvm hw hB hz1 hk1 hS => ?_)
  obtain ⟨hP1, hD1⟩ := hB
  rw [ht] at hP1
  obtain ⟨hP, hD⟩ := va_join (wr := [(h0, .inr (10, [.ref b0, .int 0, .ref p0, .ref u0, .ref r0, .ref a0, .ref t0, .ref s0, .ref o0]))]) (w1 := [(o0, .inr (1, [.ref o1, .int 0, .int 0, .int 0]))]) hP hD [1] [0] rfl rfl (by decide) (by decide) hk1 hFc hP1 hD1
  generalize H1 = H at hP hS ⊢
  have hP : va_P D vwCl [(h0, .inr (10, [.ref b0, .int 0, .ref p0, .ref u0, .ref r0, .ref a0, .ref t0, .ref s0, .ref o0])), (o0, .inr (1, [.ref o1, .int 0, .int 0, .int 0]))] H := hP
  have hD : va_D A [(h0, .inr (10, [.ref b0, .int 0, .ref p0, .ref u0, .ref r0, .ref a0, .ref t0, .ref s0, .ref o0])), (o0, .inr (1, [.ref o1, .int 0, .int 0, .int 0]))] := hD
  obtain rfl : rn1 = 0 := hw
  have hPc := hP.sub (ws' := []) [] rfl
  have hDc := hD.sub (ws' := []) [] (by decide) rfl
  have hFc := va_free (wc := []) hD hS hA [] rfl
  refine vx_callv (vx_runS (As := [.int i, .int 0]) (rest := []) ⟨hx, hb, hml, hown, hts⟩ (c_needIndex_thr l D cA sa i H.size hl9) (va_cwS 2 hts gX9_written_X9_needIndex rfl rfl rfl (by decide +kernel) ⟨(Nat.le_of_ble_eq_true rfl), (Nat.le_of_ble_eq_true rfl)⟩) ⟨Wd.blind, fun U hU hW => ⟨rfl, Wd.call hPc hDc hK hC hZ hS hFc U hU hW⟩⟩ rfl rfl hl.1 rfl (lv_room (Nat.le_of_ble_eq_true rfl)) dX9_written_8 ⟨(Nat.le_of_ble_eq_true rfl), (Nat.le_of_ble_eq_true rfl)⟩) hS (fun q _ h => hFc q h) hFc (fun q _ h => hFc q h) (fun E ce q9 u t H1 locs ht hvm hpx hE hz1 hk1 hS hcell hv9 hcl => ?_) (fun u t H1 locs ht hvm hw hB hz1 hk1 hS => hw.elim)
  exact vx_out (fun x h => (hno x h).elim) hlocks hcell hv9 hcl (fun t ht hvm => ⟨(), trivial, hE, hS.F ht⟩) hS.2.2 (Nat.le_of_ble_eq_true rfl) (Nat.le_of_ble_eq_true rfl)
