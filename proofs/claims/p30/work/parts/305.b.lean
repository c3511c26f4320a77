set_option maxHeartbeats 4000000 in
set_option maxRecDepth 100000 in
/-- readMilestone -/
theorem x_readMilestone (l : Launch) (D : va_G) (cA : Nat → ClassId) (sa : Nat → Nat) (r0 : Nat) (p0 : Nat) (ti : Nat) (ln : Nat) (inb : Int32) (iek : Int32) (iep : Int32) (r1 : Nat) (k1 : Nat) (k2 : Nat) (k3 : Nat) (ct : Nat) (fk : Nat → Int32) (ft : Nat → Int32) (fv : Nat → Int64) (fb : Nat → Int32) (gP : Nat → Nat) (gR : Nat → Nat) (p1 : Nat) (p2 : Nat) (p3 : Nat) (p4 : Nat) (p5 : Nat) (p6 : Nat) (p7 : Nat) (p8 : Nat) (p9 : Nat) (cn : Nat) (pq : Nat) (nd : Nat) (sc : Nat) (pr : Int32) (pb : Int32) (pe : Int32) (pg : Int32) (fna : Nat → Int64) (fpn : Nat → Int64) (fst : Nat → Int32) (fop : Nat → Int32) (fam : Nat → Int32) (fpi : Nat → Int32) (fby : Nat → Int32) (fen : Nat → Int32) (ml : List Int64) (pl : List Int64) (sz : Nat) (hct : ct ≤ 701) (hln : ln ≤ 700) (hti : ti < ct) (hTX : TX fb ln ct gP gR ft fv fk) (hsl : 2 * sc ≤ gP ti) (hcn : cn ≤ 10) (hpq : pq ≤ 8) (hnd : nd ≤ 6) (hsc : sc ≤ 350) (hNM : NL ml cn fna) (hNP : NL pl pq fpn) (hby : Rng 10 10 fby) (hen : Rng 10 351 fen) (hk : fk ti = 12) : Met l yX4_readMilestone wsX4_readMilestone ({ frames := 47, cells := 0, slots := 0, locals := 967 }) (va_Pc [.ref r0] (Wd D cA sa [(oX4 r0 r1 p0 (nI ti) (fk ti) (ft ti) (fv ti) inb iek iep), (oX5 r1 k1 k2 k3 (nI ct)), (k1, .inl (cA 0, 701, .inl fk)), (k2, .inl (cA 0, 701, .inl ft)), (k3, .inl (cA 1, 701, .inr (.inl fv))), (oX3 p0 pr pb pe pg p1 (nI nd) p2 p3 p4 p5 (nI cn) p6 (nI pq) p7 p8 p9 (nI sc)), (p2, .inl (cA 1, 10, .inr (.inl fna))), (p6, .inl (cA 1, 8, .inr (.inl fpn))), (p7, .inl (cA 0, 350, .inl fst)), (p8, .inl (cA 0, 350, .inl fop)), (p3, .inl (cA 0, 10, .inl fam)), (p4, .inl (cA 0, 10, .inl fpi)), (p5, .inl (cA 0, 10, .inl fby)), (p9, .inl (cA 0, 10, .inl fen))] sz)) (va_Qi (fun (r : Int32) (u9 : Int32) => u9 = r ∧ (r = 0 ∨ r = 1)) (fun (u9 : Int32) t => ∃ tj : Nat, ∃ znr : Int32, ∃ zek : Int32, ∃ zep : Int32, ∃ cm : Nat, ∃ qm : Nat, ∃ sm : Nat, ∃ zna : Nat → Int64, ∃ zpn : Nat → Int64, ∃ zst : Nat → Int32, ∃ zop : Nat → Int32, ∃ zam : Nat → Int32, ∃ zpi : Nat → Int32, ∃ zby : Nat → Int32, ∃ zen : Nat → Int32, ∃ zml : List Int64, ∃ zpl : List Int64, tj < ct ∧ gP tj ≤ ln ∧ cm ≤ 10 ∧ qm ≤ 8 ∧ sm ≤ 350 ∧ NL zml cm zna ∧ NL zpl qm zpn ∧ Rng 10 10 zby ∧ Rng 10 351 zen ∧ (u9 = 1 → zek = iek) ∧ (u9 = 1 → zep = iep) ∧ (u9 = 1 → ti + 2 ≤ tj) ∧ (u9 = 1 → 2 * sm ≤ gP tj) ∧ (u9 = 1 → ST9 fk ft fv ti nd ml pl tj nd zml zpl) ∧ (u9 = 0 → SE9 fk ft fv ti nd ml pl zek zep) ∧ Wq D (va_A [(oX4 r0 r1 p0 (nI ti) (fk ti) (ft ti) (fv ti) inb iek iep), (oX5 r1 k1 k2 k3 (nI ct)), (k1, .inl (cA 0, 701, .inl fk)), (k2, .inl (cA 0, 701, .inl ft)), (k3, .inl (cA 1, 701, .inr (.inl fv))), (oX3 p0 pr pb pe pg p1 (nI nd) p2 p3 p4 p5 (nI cn) p6 (nI pq) p7 p8 p9 (nI sc)), (p2, .inl (cA 1, 10, .inr (.inl fna))), (p6, .inl (cA 1, 8, .inr (.inl fpn))), (p7, .inl (cA 0, 350, .inl fst)), (p8, .inl (cA 0, 350, .inl fop)), (p3, .inl (cA 0, 10, .inl fam)), (p4, .inl (cA 0, 10, .inl fpi)), (p5, .inl (cA 0, 10, .inl fby)), (p9, .inl (cA 0, 10, .inl fen))] sz) [(oX4 r0 r1 p0 (nI tj) (fk tj) (ft tj) (fv tj) znr zek zep), (oX5 r1 k1 k2 k3 (nI ct)), (k1, .inl (cA 0, 701, .inl fk)), (k2, .inl (cA 0, 701, .inl ft)), (k3, .inl (cA 1, 701, .inr (.inl fv))), (oX3 p0 pr pb pe pg p1 (nI nd) p2 p3 p4 p5 (nI cm) p6 (nI qm) p7 p8 p9 (nI sm)), (p2, .inl (cA 1, 10, .inr (.inl zna))), (p6, .inl (cA 1, 8, .inr (.inl zpn))), (p7, .inl (cA 0, 350, .inl zst)), (p8, .inl (cA 0, 350, .inl zop)), (p3, .inl (cA 0, 10, .inl zam)), (p4, .inl (cA 0, 10, .inl zpi)), (p5, .inl (cA 0, 10, .inl zby)), (p9, .inl (cA 0, 10, .inl zen))] t) (va_A [(oX4 r0 r1 p0 (nI ti) (fk ti) (ft ti) (fv ti) inb iek iep), (oX5 r1 k1 k2 k3 (nI ct)), (k1, .inl (cA 0, 701, .inl fk)), (k2, .inl (cA 0, 701, .inl ft)), (k3, .inl (cA 1, 701, .inr (.inl fv))), (oX3 p0 pr pb pe pg p1 (nI nd) p2 p3 p4 p5 (nI cn) p6 (nI pq) p7 p8 p9 (nI sc)), (p2, .inl (cA 1, 10, .inr (.inl fna))), (p6, .inl (cA 1, 8, .inr (.inl fpn))), (p7, .inl (cA 0, 350, .inl fst)), (p8, .inl (cA 0, 350, .inl fop)), (p3, .inl (cA 0, 10, .inl fam)), (p4, .inl (cA 0, 10, .inl fpi)), (p5, .inl (cA 0, 10, .inl fby)), (p9, .inl (cA 0, 10, .inl fen))] sz)) 0 0 (va_A [(oX4 r0 r1 p0 (nI ti) (fk ti) (ft ti) (fv ti) inb iek iep), (oX5 r1 k1 k2 k3 (nI ct)), (k1, .inl (cA 0, 701, .inl fk)), (k2, .inl (cA 0, 701, .inl ft)), (k3, .inl (cA 1, 701, .inr (.inl fv))), (oX3 p0 pr pb pe pg p1 (nI nd) p2 p3 p4 p5 (nI cn) p6 (nI pq) p7 p8 p9 (nI sc)), (p2, .inl (cA 1, 10, .inr (.inl fna))), (p6, .inl (cA 1, 8, .inr (.inl fpn))), (p7, .inl (cA 0, 350, .inl fst)), (p8, .inl (cA 0, 350, .inl fop)), (p3, .inl (cA 0, 10, .inl fam)), (p4, .inl (cA 0, 10, .inl fpi)), (p5, .inl (cA 0, 10, .inl fby)), (p9, .inl (cA 0, 10, .inl fen))] sz) := by
  refine Met.ofW (cc := cX4_readMilestone) (maxL := 5) (ret := (some .boolean)) (by decide) rfl ?_
  intro p e s m args below meth c s₁ B hml hv
  obtain ⟨rfl, hsz, hP, hK, hD0, hC, hZ⟩ := hv
  have hx := B.exec
  have hb := B.bytes
  have hr := B.returns
  have hts := atoms_spec (ws := wsX4_readMilestone) B.pre
  have hown : s.vm.findClass RX4 = some m.cls := findClass_of_methodNamed B.named
  have hlocks := B.notSynchronized
  subst hsz
  have hD := hD0.self (sz := s.heap.size)
  generalize hAe : va_A [(oX4 r0 r1 p0 (nI ti) (fk ti) (ft ti) (fv ti) inb iek iep), (oX5 r1 k1 k2 k3 (nI ct)), (k1, .inl (cA 0, 701, .inl fk)), (k2, .inl (cA 0, 701, .inl ft)), (k3, .inl (cA 1, 701, .inr (.inl fv))), (oX3 p0 pr pb pe pg p1 (nI nd) p2 p3 p4 p5 (nI cn) p6 (nI pq) p7 p8 p9 (nI sc)), (p2, .inl (cA 1, 10, .inr (.inl fna))), (p6, .inl (cA 1, 8, .inr (.inl fpn))), (p7, .inl (cA 0, 350, .inl fst)), (p8, .inl (cA 0, 350, .inl fop)), (p3, .inl (cA 0, 10, .inl fam)), (p4, .inl (cA 0, 10, .inl fpi)), (p5, .inl (cA 0, 10, .inl fby)), (p9, .inl (cA 0, 10, .inl fen))] s.heap.size = A at hD hZ ⊢
  have hA : ∀ q : Nat, s.heap.size ≤ q → A q := fun q h => by rw [← hAe]; exact Or.inr h
  have hS : va_S A s.heap s.heap [] := va_S.rf
  have hP : va_P D vwCl [(oX4 r0 r1 p0 (nI ti) (fk ti) (ft ti) (fv ti) inb iek iep), (oX5 r1 k1 k2 k3 (nI ct)), (k1, .inl (cA 0, 701, .inl fk)), (k2, .inl (cA 0, 701, .inl ft)), (k3, .inl (cA 1, 701, .inr (.inl fv))), (oX3 p0 pr pb pe pg p1 (nI nd) p2 p3 p4 p5 (nI cn) p6 (nI pq) p7 p8 p9 (nI sc)), (p2, .inl (cA 1, 10, .inr (.inl fna))), (p6, .inl (cA 1, 8, .inr (.inl fpn))), (p7, .inl (cA 0, 350, .inl fst)), (p8, .inl (cA 0, 350, .inl fop)), (p3, .inl (cA 0, 10, .inl fam)), (p4, .inl (cA 0, 10, .inl fpi)), (p5, .inl (cA 0, 10, .inl fby)), (p9, .inl (cA 0, 10, .inl fen))] s.heap := hP
  have hl := lv_entry ([.ref r0]) (n := 5) (Nat.le_of_ble_eq_true rfl)
  rw [lg_entry_eq]
  generalize (lg_sl ([.ref r0]) ++ List.replicate (5 - (lg_sl ([.ref r0])).length) Slot.unset).toArray = ls at hl ⊢
  have hl : lv_has ls 5 [(0, .ref r0)] := hl
  have inX4 : ∀ w ∈ u_ws RX4 TX4 9, w ∈ wsX4_readMilestone := by decide +kernel
  have hle9 := TX.le hTX hti
  have hn1 := TX.go2 hTX hti (by rw [hk]; decide)
  refine lv_aload_n hx hb dX4_readMilestone_0 rfl (lv_at hl 0 rfl) ?_
  refine va_get (D := D) (ci := 8) (v := .ref p0) (C := RX4) (T := TX4) (N := 9) hx hb hts inX4 hown hK hP 0 rfl rfl 1 (by decide) (hts (.fieldLink RX4 25 "EscrowDesk$Reader" "plan" "LEscrowDesk$Plan;") (by decide +kernel)) (fun _ h9 => h9) rfl dX4_readMilestone_1 ?_
  obtain ⟨hPc, hDc, hFc⟩ := PDq.cut (wc := [(oX3 p0 pr pb pe pg p1 (nI nd) p2 p3 p4 p5 (nI cn) p6 (nI pq) p7 p8 p9 (nI sc))]) hP hD hS hA [5] (by decide) rfl
  refine va_calli (va_runV (As := []) (rest := []) ⟨hx, hb, hml, hown, hts⟩ (x_roomMil l D cA sa p0 p1 p2 p3 p4 p5 p6 p7 p8 p9 cn pq nd sc pr pb pe pg s.heap.size hcn hpq hnd hsc) (cwV 0 hts gX4_readMilestone_X3_hasRoomForMilestone rfl rfl rfl (by decide +kernel) ⟨(Nat.le_of_ble_eq_true rfl), (Nat.le_of_ble_eq_true rfl)⟩) ⟨Wd.blind, va_recv hK hPc (ci := 7) (q0 := 0) rfl rfl, fun U hU hW => ⟨rfl, Wd.call hPc hDc hK hC hZ hS hFc U hU hW⟩⟩ rfl rfl hl.1 rfl (lv_room (Nat.le_of_ble_eq_true rfl)) dX4_readMilestone_4 ⟨(Nat.le_of_ble_eq_true rfl), (Nat.le_of_ble_eq_true rfl)⟩) hS (fun q _ h => hFc q h) hFc (fun rn2 u t H1 locs ht hvm hw hB hz1 hk1 hS => ?_)
  obtain ⟨hP1, hD1⟩ := hB
  rw [ht] at hP1
  obtain ⟨hP, hD⟩ := PDq.join (w := [(oX4 r0 r1 p0 (nI ti) (fk ti) (ft ti) (fv ti) inb iek iep), (oX5 r1 k1 k2 k3 (nI ct)), (k1, .inl (cA 0, 701, .inl fk)), (k2, .inl (cA 0, 701, .inl ft)), (k3, .inl (cA 1, 701, .inr (.inl fv))), (p2, .inl (cA 1, 10, .inr (.inl fna))), (p6, .inl (cA 1, 8, .inr (.inl fpn))), (p7, .inl (cA 0, 350, .inl fst)), (p8, .inl (cA 0, 350, .inl fop)), (p3, .inl (cA 0, 10, .inl fam)), (p4, .inl (cA 0, 10, .inl fpi)), (p5, .inl (cA 0, 10, .inl fby)), (p9, .inl (cA 0, 10, .inl fen)), (oX3 p0 pr pb pe pg p1 (nI nd) p2 p3 p4 p5 (nI cn) p6 (nI pq) p7 p8 p9 (nI sc))]) 13 hP hD [5] [0, 1, 2, 3, 4, 6, 7, 8, 9, 10, 11, 12, 13] rfl rfl (by decide +kernel) (by decide +kernel) hk1 hFc hP1 hD1 rfl
  generalize H1 = H at hP hS ⊢
  rcases hw with ⟨hr9, hn3⟩ | ⟨hr9, hn3⟩
  · skip
    subst hr9
    refine lv_if_ne (tgt := 16) hx hb dX4_readMilestone_7 (by decide) (fun c4 => ?_) (fun c9 => absurd c9 (by decide))
    refine lv_aload_n hx hb dX4_readMilestone_16 rfl (lv_at hl 0 rfl) ?_
    refine lv_aload_n hx hb dX4_readMilestone_17 rfl (lv_at hl 0 rfl) ?_
    refine va_get (D := D) (ci := 8) (v := .int (nI ti)) (C := RX4) (T := TX4) (N := 9) hx hb hts inX4 hown hK hP 0 rfl rfl 2 (by decide) (hts (.fieldLink RX4 70 "EscrowDesk$Reader" "token" "I") (by decide +kernel)) (fun _ h9 => h9) rfl dX4_readMilestone_18 ?_
    refine lv_iconst (v := 1) hx hb dX4_readMilestone_21 (by decide) ?_
    refine lv_iadd hx hb dX4_readMilestone_22 ?_
    refine lv_topi (fun yn5 eyn5 => ?_)
    obtain rfl : yn5 = (nI (ti + 1)) := eyn5.trans (nI_add ti 1)
    obtain ⟨hPc, hDc, hFc⟩ := PDq.cut (wc := [(oX4 r0 r1 p0 (nI ti) (fk ti) (ft ti) (fv ti) inb iek iep), (oX5 r1 k1 k2 k3 (nI ct)), (k1, .inl (cA 0, 701, .inl fk)), (k2, .inl (cA 0, 701, .inl ft)), (k3, .inl (cA 1, 701, .inr (.inl fv)))]) hP hD hS hA [0, 1, 2, 3, 4] (by decide) rfl
    refine va_callv (va_runV (As := [.int (nI (ti + 1))]) (rest := []) ⟨hx, hb, hml, hown, hts⟩ (x_lookAt l D cA sa r0 p0 (ti + 1) (nI ti) (fk ti) (ft ti) inb iek iep (fv ti) r1 k1 k2 k3 ct fk ft fv H.size hct hn1.1) (cwV 1 hts gX4_readMilestone_X4_lookAt rfl rfl rfl (by decide +kernel) ⟨(Nat.le_of_ble_eq_true rfl), (Nat.le_of_ble_eq_true rfl)⟩) ⟨Wd.blind, va_recv hK hPc (ci := 8) (q0 := 0) rfl rfl, fun U hU hW => ⟨rfl, Wd.call hPc hDc hK hC hZ hS hFc U hU hW⟩⟩ rfl rfl hl.1 rfl (lv_room (Nat.le_of_ble_eq_true rfl)) dX4_readMilestone_23 ⟨(Nat.le_of_ble_eq_true rfl), (Nat.le_of_ble_eq_true rfl)⟩) hS (fun q _ h => hFc q h) hFc (fun u t H1 locs ht hvm hw hB hz1 hk1 hS => ?_)
    obtain ⟨hP1, hD1⟩ := hB
    rw [ht] at hP1
    obtain ⟨hP, hD⟩ := PDq.join (w := [(p2, .inl (cA 1, 10, .inr (.inl fna))), (p6, .inl (cA 1, 8, .inr (.inl fpn))), (p7, .inl (cA 0, 350, .inl fst)), (p8, .inl (cA 0, 350, .inl fop)), (p3, .inl (cA 0, 10, .inl fam)), (p4, .inl (cA 0, 10, .inl fpi)), (p5, .inl (cA 0, 10, .inl fby)), (p9, .inl (cA 0, 10, .inl fen)), (oX3 p0 pr pb pe pg p1 (nI nd) p2 p3 p4 p5 (nI cn) p6 (nI pq) p7 p8 p9 (nI sc)), (oX4 r0 r1 p0 (nI (ti + 1)) (fk (ti + 1)) (ft (ti + 1)) (fv (ti + 1)) inb iek iep), (oX5 r1 k1 k2 k3 (nI ct)), (k1, .inl (cA 0, 701, .inl fk)), (k2, .inl (cA 0, 701, .inl ft)), (k3, .inl (cA 1, 701, .inr (.inl fv)))]) 9 hP hD [0, 1, 2, 3, 4] [5, 6, 7, 8, 9, 10, 11, 12, 13] rfl rfl (by decide +kernel) (by decide +kernel) hk1 hFc hP1 hD1 rfl
    generalize H1 = H at hP hS ⊢
    refine lv_aload_n hx hb dX4_readMilestone_26 rfl (lv_at hl 0 rfl) ?_
    refine va_get (D := D) (ci := 8) (v := .long (fv (ti + 1))) (C := RX4) (T := TX4) (N := 9) hx hb hts inX4 hown hK hP 9 rfl rfl 5 (by decide) (hts (.fieldLink RX4 87 "EscrowDesk$Reader" "value" "J") (by decide +kernel)) (fun _ h9 => h9) rfl dX4_readMilestone_27 ?_
    refine lv_lstore_n (lv' := [(1, .long (fv (ti + 1))), (0, .ref r0)]) hx hb dX4_readMilestone_30 rfl hl (by decide) rfl (fun ls hl => ?_)
    refine lv_aload_n hx hb dX4_readMilestone_31 rfl (lv_at hl 1 rfl) ?_
    refine va_get (D := D) (ci := 8) (v := .int (fk (ti + 1))) (C := RX4) (T := TX4) (N := 9) hx hb hts inX4 hown hK hP 9 rfl rfl 3 (by decide) (hts (.fieldLink RX4 42 "EscrowDesk$Reader" "kind" "I") (by decide +kernel)) (fun _ h9 => h9) rfl dX4_readMilestone_32 ?_
    refine lv_iconst (v := 4) hx hb dX4_readMilestone_35 (by decide) ?_
    refine lv_icmp_ne (tgt := 57) hx hb dX4_readMilestone_36 (by decide) (fun c6 => ?_) (fun c6 => ?_)
    · skip
      refine lv_aload_n hx hb dX4_readMilestone_57 rfl (lv_at hl 1 rfl) ?_
      refine lv_iconst (v := 4) hx hb dX4_readMilestone_58 (by decide) ?_
      obtain ⟨hPc, hDc, hFc⟩ := PDq.cut (wc := [(oX4 r0 r1 p0 (nI (ti + 1)) (fk (ti + 1)) (ft (ti + 1)) (fv (ti + 1)) inb iek iep), (oX5 r1 k1 k2 k3 (nI ct)), (k1, .inl (cA 0, 701, .inl fk)), (k2, .inl (cA 0, 701, .inl ft)), (k3, .inl (cA 1, 701, .inr (.inl fv)))]) hP hD hS hA [9, 10, 11, 12, 13] (by decide) rfl
      refine va_calli (va_runV (As := [.int 4]) (rest := []) ⟨hx, hb, hml, hown, hts⟩ (x_take l D cA sa r0 p0 (ti + 1) ln inb iek iep r1 k1 k2 k3 ct fk ft fv fb gP gR 4 H.size hct hln hn1.1 hTX (by decide)) (cwV 1 hts gX4_readMilestone_X4_take rfl rfl rfl (by decide +kernel) ⟨(Nat.le_of_ble_eq_true rfl), (Nat.le_of_ble_eq_true rfl)⟩) ⟨Wd.blind, va_recv hK hPc (ci := 8) (q0 := 0) rfl rfl, fun U hU hW => ⟨rfl, Wd.call hPc hDc hK hC hZ hS hFc U hU hW⟩⟩ rfl rfl hl.1 rfl (lv_room (Nat.le_of_ble_eq_true rfl)) dX4_readMilestone_59 ⟨(Nat.le_of_ble_eq_true rfl), (Nat.le_of_ble_eq_true rfl)⟩) hS (fun q _ h => hFc q h) hFc (fun rn7 u t H1 locs ht hvm hw hB hz1 hk1 hS => ?_)
      obtain ⟨qn8, zn9, zn10, hn11, hn12, hn13, hn14, hn15, hn16, hn17, hn18, hn19, hn20, hn21, hP1, hD1⟩ := hB
      rw [ht] at hP1
      obtain ⟨hP, hD⟩ := PDq.join (w := [(p2, .inl (cA 1, 10, .inr (.inl fna))), (p6, .inl (cA 1, 8, .inr (.inl fpn))), (p7, .inl (cA 0, 350, .inl fst)), (p8, .inl (cA 0, 350, .inl fop)), (p3, .inl (cA 0, 10, .inl fam)), (p4, .inl (cA 0, 10, .inl fpi)), (p5, .inl (cA 0, 10, .inl fby)), (p9, .inl (cA 0, 10, .inl fen)), (oX3 p0 pr pb pe pg p1 (nI nd) p2 p3 p4 p5 (nI cn) p6 (nI pq) p7 p8 p9 (nI sc)), (oX4 r0 r1 p0 (nI qn8) (fk qn8) (ft qn8) (fv qn8) inb zn9 zn10), (oX5 r1 k1 k2 k3 (nI ct)), (k1, .inl (cA 0, 701, .inl fk)), (k2, .inl (cA 0, 701, .inl ft)), (k3, .inl (cA 1, 701, .inr (.inl fv)))]) 9 hP hD [9, 10, 11, 12, 13] [0, 1, 2, 3, 4, 5, 6, 7, 8] rfl rfl (by decide +kernel) (by decide +kernel) hk1 hFc hP1 hD1 rfl
      generalize H1 = H at hP hS ⊢
      rcases hw.2 with hr9 | hr9
      · skip
        have hn19 := hn19 (hw.1.trans hr9)
        have hn20 := hn20 (hw.1.trans hr9)
        have hn21 := hn21 (hw.1.trans hr9)
        subst hr9
        refine lv_if_eq (tgt := 75) hx hb dX4_readMilestone_62 (by decide) (fun c22 => ?_) (fun c9 => absurd c9 (by decide))
        refine lv_iconst (v := 0) hx hb dX4_readMilestone_75 (by decide) ?_
        obtain ⟨hP9, hD9⟩ := PDq.sub (ws' := [(oX4 r0 r1 p0 (nI qn8) (fk qn8) (ft qn8) (fv qn8) inb zn9 zn10), (oX5 r1 k1 k2 k3 (nI ct)), (k1, .inl (cA 0, 701, .inl fk)), (k2, .inl (cA 0, 701, .inl ft)), (k3, .inl (cA 1, 701, .inr (.inl fv))), (oX3 p0 pr pb pe pg p1 (nI nd) p2 p3 p4 p5 (nI cn) p6 (nI pq) p7 p8 p9 (nI sc)), (p2, .inl (cA 1, 10, .inr (.inl fna))), (p6, .inl (cA 1, 8, .inr (.inl fpn))), (p7, .inl (cA 0, 350, .inl fst)), (p8, .inl (cA 0, 350, .inl fop)), (p3, .inl (cA 0, 10, .inl fam)), (p4, .inl (cA 0, 10, .inl fpi)), (p5, .inl (cA 0, 10, .inl fby)), (p9, .inl (cA 0, 10, .inl fen))]) hP hD [9, 10, 11, 12, 13, 8, 0, 1, 2, 3, 4, 5, 6, 7] (by decide +kernel) rfl
        refine W.widen (k := 0) (n := 0) (Nat.le_of_ble_eq_true rfl) (Nat.le_of_ble_eq_true rfl) ?_
        exact (W.zret (v := 0) hx hb hr (by first | rfl | decide) (fun t ht hW => ⟨⟨0, 0, rfl, ⟨rfl, by decide⟩, qn8, inb, zn9, zn10, cn, pq, sc, fna, fpn, fst, fop, fam, fpi, fby, fen, ml, pl, hn11, hn12, hcn, hpq, hsc, hNM, hNP, hby, hen, (fun h9 => absurd h9 (by decide)), (fun h9 => absurd h9 (by decide)), (fun h9 => absurd h9 (by decide)), (fun h9 => absurd h9 (by decide)), (fun h9 => absurd h9 (by decide)), (fun _ => (Or.inl (S_milNx hk (fun q9 => absurd (hNM.1.symm.trans q9) (by omega)) hn21 hn19 hn20))), by rw [ht]; exact hP9, hD9⟩, hS.F ht⟩) hS.2.2 dX4_readMilestone_76)
      · skip
        have hn14 := hn14 (hw.1.trans hr9)
        subst hn14
        obtain ⟨hP, hD⟩ : PDq D A [(p2, .inl (cA 1, 10, .inr (.inl fna))), (p6, .inl (cA 1, 8, .inr (.inl fpn))), (p7, .inl (cA 0, 350, .inl fst)), (p8, .inl (cA 0, 350, .inl fop)), (p3, .inl (cA 0, 10, .inl fam)), (p4, .inl (cA 0, 10, .inl fpi)), (p5, .inl (cA 0, 10, .inl fby)), (p9, .inl (cA 0, 10, .inl fen)), (oX3 p0 pr pb pe pg p1 (nI nd) p2 p3 p4 p5 (nI cn) p6 (nI pq) p7 p8 p9 (nI sc)), (oX4 r0 r1 p0 (nI ((ti + 1) + 1)) (fk ((ti + 1) + 1)) (ft ((ti + 1) + 1)) (fv ((ti + 1) + 1)) inb zn9 zn10), (oX5 r1 k1 k2 k3 (nI ct)), (k1, .inl (cA 0, 701, .inl fk)), (k2, .inl (cA 0, 701, .inl ft)), (k3, .inl (cA 1, 701, .inr (.inl fv)))] H := ⟨hP, hD⟩
        have hn15 := hn15 (hw.1.trans hr9)
        obtain rfl : iek = zn9 := hn15.symm
        obtain ⟨hP, hD⟩ : PDq D A [(p2, .inl (cA 1, 10, .inr (.inl fna))), (p6, .inl (cA 1, 8, .inr (.inl fpn))), (p7, .inl (cA 0, 350, .inl fst)), (p8, .inl (cA 0, 350, .inl fop)), (p3, .inl (cA 0, 10, .inl fam)), (p4, .inl (cA 0, 10, .inl fpi)), (p5, .inl (cA 0, 10, .inl fby)), (p9, .inl (cA 0, 10, .inl fen)), (oX3 p0 pr pb pe pg p1 (nI nd) p2 p3 p4 p5 (nI cn) p6 (nI pq) p7 p8 p9 (nI sc)), (oX4 r0 r1 p0 (nI ((ti + 1) + 1)) (fk ((ti + 1) + 1)) (ft ((ti + 1) + 1)) (fv ((ti + 1) + 1)) inb iek zn10), (oX5 r1 k1 k2 k3 (nI ct)), (k1, .inl (cA 0, 701, .inl fk)), (k2, .inl (cA 0, 701, .inl ft)), (k3, .inl (cA 1, 701, .inr (.inl fv)))] H := ⟨hP, hD⟩
        have hn16 := hn16 (hw.1.trans hr9)
        obtain rfl : iep = zn10 := hn16.symm
        obtain ⟨hP, hD⟩ : PDq D A [(p2, .inl (cA 1, 10, .inr (.inl fna))), (p6, .inl (cA 1, 8, .inr (.inl fpn))), (p7, .inl (cA 0, 350, .inl fst)), (p8, .inl (cA 0, 350, .inl fop)), (p3, .inl (cA 0, 10, .inl fam)), (p4, .inl (cA 0, 10, .inl fpi)), (p5, .inl (cA 0, 10, .inl fby)), (p9, .inl (cA 0, 10, .inl fen)), (oX3 p0 pr pb pe pg p1 (nI nd) p2 p3 p4 p5 (nI cn) p6 (nI pq) p7 p8 p9 (nI sc)), (oX4 r0 r1 p0 (nI ((ti + 1) + 1)) (fk ((ti + 1) + 1)) (ft ((ti + 1) + 1)) (fv ((ti + 1) + 1)) inb iek iep), (oX5 r1 k1 k2 k3 (nI ct)), (k1, .inl (cA 0, 701, .inl fk)), (k2, .inl (cA 0, 701, .inl ft)), (k3, .inl (cA 1, 701, .inr (.inl fv)))] H := ⟨hP, hD⟩
        have hn17 := hn17 (hw.1.trans hr9)
        have hn18 := hn18 (hw.1.trans hr9)
        subst hr9
        exact absurd hn18 c6
    · skip
      refine lv_aload_n hx hb dX4_readMilestone_39 rfl (lv_at hl 1 rfl) ?_
      refine va_get (D := D) (ci := 8) (v := .ref p0) (C := RX4) (T := TX4) (N := 9) hx hb hts inX4 hown hK hP 9 rfl rfl 1 (by decide) (hts (.fieldLink RX4 25 "EscrowDesk$Reader" "plan" "LEscrowDesk$Plan;") (by decide +kernel)) (fun _ h9 => h9) rfl dX4_readMilestone_40 ?_
      refine lv_lload_n hx hb dX4_readMilestone_43 rfl (lv_at hl 0 rfl) ?_
      obtain ⟨hPc, hDc, hFc⟩ := PDq.cut (wc := [(oX3 p0 pr pb pe pg p1 (nI nd) p2 p3 p4 p5 (nI cn) p6 (nI pq) p7 p8 p9 (nI sc)), (p2, .inl (cA 1, 10, .inr (.inl fna)))]) hP hD hS hA [8, 0] (by decide) rfl
      refine va_calli (va_runV (As := [.long (fv (ti + 1))]) (rest := []) ⟨hx, hb, hml, hown, hts⟩ (x_milNamed l D cA sa p0 p1 p2 p3 p4 p5 p6 p7 p8 p9 cn pq nd sc pr pb pe pg (fv (ti + 1)) fna H.size hcn hpq hnd hsc) (cwV 1 hts gX4_readMilestone_X3_milestoneNamed rfl rfl rfl (by decide +kernel) ⟨(Nat.le_of_ble_eq_true rfl), (Nat.le_of_ble_eq_true rfl)⟩) ⟨Wd.blind, va_recv hK hPc (ci := 7) (q0 := 0) rfl rfl, fun U hU hW => ⟨rfl, Wd.call hPc hDc hK hC hZ hS hFc U hU hW⟩⟩ rfl rfl hl.1 rfl (lv_room (Nat.le_of_ble_eq_true rfl)) dX4_readMilestone_44 ⟨(Nat.le_of_ble_eq_true rfl), (Nat.le_of_ble_eq_true rfl)⟩) hS (fun q _ h => hFc q h) hFc (fun rn23 u t H1 locs ht hvm hw hB hz1 hk1 hS => ?_)
      obtain ⟨hP1, hD1⟩ := hB
      rw [ht] at hP1
      obtain ⟨hP, hD⟩ := PDq.join (w := [(p6, .inl (cA 1, 8, .inr (.inl fpn))), (p7, .inl (cA 0, 350, .inl fst)), (p8, .inl (cA 0, 350, .inl fop)), (p3, .inl (cA 0, 10, .inl fam)), (p4, .inl (cA 0, 10, .inl fpi)), (p5, .inl (cA 0, 10, .inl fby)), (p9, .inl (cA 0, 10, .inl fen)), (oX4 r0 r1 p0 (nI (ti + 1)) (fk (ti + 1)) (ft (ti + 1)) (fv (ti + 1)) inb iek iep), (oX5 r1 k1 k2 k3 (nI ct)), (k1, .inl (cA 0, 701, .inl fk)), (k2, .inl (cA 0, 701, .inl ft)), (k3, .inl (cA 1, 701, .inr (.inl fv))), (oX3 p0 pr pb pe pg p1 (nI nd) p2 p3 p4 p5 (nI cn) p6 (nI pq) p7 p8 p9 (nI sc)), (p2, .inl (cA 1, 10, .inr (.inl fna)))]) 12 hP hD [8, 0] [1, 2, 3, 4, 5, 6, 7, 9, 10, 11, 12, 13] rfl rfl (by decide +kernel) (by decide +kernel) hk1 hFc hP1 hD1 rfl
      generalize H1 = H at hP hS ⊢
      rcases hw with ⟨hr9, hn24⟩ | ⟨kn25, hn26, hr9, hn24⟩
      · skip
        subst hr9
        have hn24 := NL.not hNM hn24
        refine lv_iconst (v := (-1)) hx hb dX4_readMilestone_47 (by decide) ?_
        refine lv_icmp_eq (tgt := 57) hx hb dX4_readMilestone_48 (by decide) (fun c27 => ?_) (fun c9 => absurd c9 (by decide))
        refine lv_aload_n hx hb dX4_readMilestone_57 rfl (lv_at hl 1 rfl) ?_
        refine lv_iconst (v := 4) hx hb dX4_readMilestone_58 (by decide) ?_
        obtain ⟨hPc, hDc, hFc⟩ := PDq.cut (wc := [(oX4 r0 r1 p0 (nI (ti + 1)) (fk (ti + 1)) (ft (ti + 1)) (fv (ti + 1)) inb iek iep), (oX5 r1 k1 k2 k3 (nI ct)), (k1, .inl (cA 0, 701, .inl fk)), (k2, .inl (cA 0, 701, .inl ft)), (k3, .inl (cA 1, 701, .inr (.inl fv)))]) hP hD hS hA [7, 8, 9, 10, 11] (by decide) rfl
        refine va_calli (va_runV (As := [.int 4]) (rest := []) ⟨hx, hb, hml, hown, hts⟩ (x_take l D cA sa r0 p0 (ti + 1) ln inb iek iep r1 k1 k2 k3 ct fk ft fv fb gP gR 4 H.size hct hln hn1.1 hTX (by decide)) (cwV 1 hts gX4_readMilestone_X4_take rfl rfl rfl (by decide +kernel) ⟨(Nat.le_of_ble_eq_true rfl), (Nat.le_of_ble_eq_true rfl)⟩) ⟨Wd.blind, va_recv hK hPc (ci := 8) (q0 := 0) rfl rfl, fun U hU hW => ⟨rfl, Wd.call hPc hDc hK hC hZ hS hFc U hU hW⟩⟩ rfl rfl hl.1 rfl (lv_room (Nat.le_of_ble_eq_true rfl)) dX4_readMilestone_59 ⟨(Nat.le_of_ble_eq_true rfl), (Nat.le_of_ble_eq_true rfl)⟩) hS (fun q _ h => hFc q h) hFc (fun rn28 u t H1 locs ht hvm hw hB hz1 hk1 hS => ?_)
        obtain ⟨qn29, zn30, zn31, hn32, hn33, hn34, hn35, hn36, hn37, hn38, hn39, hn40, hn41, hn42, hP1, hD1⟩ := hB
        rw [ht] at hP1
        obtain ⟨hP, hD⟩ := PDq.join (w := [(p6, .inl (cA 1, 8, .inr (.inl fpn))), (p7, .inl (cA 0, 350, .inl fst)), (p8, .inl (cA 0, 350, .inl fop)), (p3, .inl (cA 0, 10, .inl fam)), (p4, .inl (cA 0, 10, .inl fpi)), (p5, .inl (cA 0, 10, .inl fby)), (p9, .inl (cA 0, 10, .inl fen)), (oX3 p0 pr pb pe pg p1 (nI nd) p2 p3 p4 p5 (nI cn) p6 (nI pq) p7 p8 p9 (nI sc)), (p2, .inl (cA 1, 10, .inr (.inl fna))), (oX4 r0 r1 p0 (nI qn29) (fk qn29) (ft qn29) (fv qn29) inb zn30 zn31), (oX5 r1 k1 k2 k3 (nI ct)), (k1, .inl (cA 0, 701, .inl fk)), (k2, .inl (cA 0, 701, .inl ft)), (k3, .inl (cA 1, 701, .inr (.inl fv)))]) 9 hP hD [7, 8, 9, 10, 11] [0, 1, 2, 3, 4, 5, 6, 12, 13] rfl rfl (by decide +kernel) (by decide +kernel) hk1 hFc hP1 hD1 rfl
        generalize H1 = H at hP hS ⊢
        rcases hw.2 with hr9 | hr9
        · skip
          have hn40 := hn40 (hw.1.trans hr9)
          have hn41 := hn41 (hw.1.trans hr9)
          have hn42 := hn42 (hw.1.trans hr9)
          subst hr9
          refine lv_if_eq (tgt := 75) hx hb dX4_readMilestone_62 (by decide) (fun c43 => ?_) (fun c9 => absurd c9 (by decide))
          refine lv_iconst (v := 0) hx hb dX4_readMilestone_75 (by decide) ?_
          obtain ⟨hP9, hD9⟩ := PDq.sub (ws' := [(oX4 r0 r1 p0 (nI qn29) (fk qn29) (ft qn29) (fv qn29) inb zn30 zn31), (oX5 r1 k1 k2 k3 (nI ct)), (k1, .inl (cA 0, 701, .inl fk)), (k2, .inl (cA 0, 701, .inl ft)), (k3, .inl (cA 1, 701, .inr (.inl fv))), (oX3 p0 pr pb pe pg p1 (nI nd) p2 p3 p4 p5 (nI cn) p6 (nI pq) p7 p8 p9 (nI sc)), (p2, .inl (cA 1, 10, .inr (.inl fna))), (p6, .inl (cA 1, 8, .inr (.inl fpn))), (p7, .inl (cA 0, 350, .inl fst)), (p8, .inl (cA 0, 350, .inl fop)), (p3, .inl (cA 0, 10, .inl fam)), (p4, .inl (cA 0, 10, .inl fpi)), (p5, .inl (cA 0, 10, .inl fby)), (p9, .inl (cA 0, 10, .inl fen))]) hP hD [9, 10, 11, 12, 13, 7, 8, 0, 1, 2, 3, 4, 5, 6] (by decide +kernel) rfl
          refine W.widen (k := 0) (n := 0) (Nat.le_of_ble_eq_true rfl) (Nat.le_of_ble_eq_true rfl) ?_
          exact (W.zret (v := 0) hx hb hr (by first | rfl | decide) (fun t ht hW => ⟨⟨0, 0, rfl, ⟨rfl, by decide⟩, qn29, inb, zn30, zn31, cn, pq, sc, fna, fpn, fst, fop, fam, fpi, fby, fen, ml, pl, hn32, hn33, hcn, hpq, hsc, hNM, hNP, hby, hen, (fun h9 => absurd h9 (by decide)), (fun h9 => absurd h9 (by decide)), (fun h9 => absurd h9 (by decide)), (fun h9 => absurd h9 (by decide)), (fun h9 => absurd h9 (by decide)), (fun _ => (Or.inl (S_milNx hk (fun q9 => absurd (hNM.1.symm.trans q9) (by omega)) hn42 hn40 hn41))), by rw [ht]; exact hP9, hD9⟩, hS.F ht⟩) hS.2.2 dX4_readMilestone_76)
        · skip
          have hn35 := hn35 (hw.1.trans hr9)
          subst hn35
          obtain ⟨hP, hD⟩ : PDq D A [(p6, .inl (cA 1, 8, .inr (.inl fpn))), (p7, .inl (cA 0, 350, .inl fst)), (p8, .inl (cA 0, 350, .inl fop)), (p3, .inl (cA 0, 10, .inl fam)), (p4, .inl (cA 0, 10, .inl fpi)), (p5, .inl (cA 0, 10, .inl fby)), (p9, .inl (cA 0, 10, .inl fen)), (oX3 p0 pr pb pe pg p1 (nI nd) p2 p3 p4 p5 (nI cn) p6 (nI pq) p7 p8 p9 (nI sc)), (p2, .inl (cA 1, 10, .inr (.inl fna))), (oX4 r0 r1 p0 (nI ((ti + 1) + 1)) (fk ((ti + 1) + 1)) (ft ((ti + 1) + 1)) (fv ((ti + 1) + 1)) inb zn30 zn31), (oX5 r1 k1 k2 k3 (nI ct)), (k1, .inl (cA 0, 701, .inl fk)), (k2, .inl (cA 0, 701, .inl ft)), (k3, .inl (cA 1, 701, .inr (.inl fv)))] H := ⟨hP, hD⟩
          have hn36 := hn36 (hw.1.trans hr9)
          obtain rfl : iek = zn30 := hn36.symm
          obtain ⟨hP, hD⟩ : PDq D A [(p6, .inl (cA 1, 8, .inr (.inl fpn))), (p7, .inl (cA 0, 350, .inl fst)), (p8, .inl (cA 0, 350, .inl fop)), (p3, .inl (cA 0, 10, .inl fam)), (p4, .inl (cA 0, 10, .inl fpi)), (p5, .inl (cA 0, 10, .inl fby)), (p9, .inl (cA 0, 10, .inl fen)), (oX3 p0 pr pb pe pg p1 (nI nd) p2 p3 p4 p5 (nI cn) p6 (nI pq) p7 p8 p9 (nI sc)), (p2, .inl (cA 1, 10, .inr (.inl fna))), (oX4 r0 r1 p0 (nI ((ti + 1) + 1)) (fk ((ti + 1) + 1)) (ft ((ti + 1) + 1)) (fv ((ti + 1) + 1)) inb iek zn31), (oX5 r1 k1 k2 k3 (nI ct)), (k1, .inl (cA 0, 701, .inl fk)), (k2, .inl (cA 0, 701, .inl ft)), (k3, .inl (cA 1, 701, .inr (.inl fv)))] H := ⟨hP, hD⟩
          have hn37 := hn37 (hw.1.trans hr9)
          obtain rfl : iep = zn31 := hn37.symm
          obtain ⟨hP, hD⟩ : PDq D A [(p6, .inl (cA 1, 8, .inr (.inl fpn))), (p7, .inl (cA 0, 350, .inl fst)), (p8, .inl (cA 0, 350, .inl fop)), (p3, .inl (cA 0, 10, .inl fam)), (p4, .inl (cA 0, 10, .inl fpi)), (p5, .inl (cA 0, 10, .inl fby)), (p9, .inl (cA 0, 10, .inl fen)), (oX3 p0 pr pb pe pg p1 (nI nd) p2 p3 p4 p5 (nI cn) p6 (nI pq) p7 p8 p9 (nI sc)), (p2, .inl (cA 1, 10, .inr (.inl fna))), (oX4 r0 r1 p0 (nI ((ti + 1) + 1)) (fk ((ti + 1) + 1)) (ft ((ti + 1) + 1)) (fv ((ti + 1) + 1)) inb iek iep), (oX5 r1 k1 k2 k3 (nI ct)), (k1, .inl (cA 0, 701, .inl fk)), (k2, .inl (cA 0, 701, .inl ft)), (k3, .inl (cA 1, 701, .inr (.inl fv)))] H := ⟨hP, hD⟩
          have hn38 := hn38 (hw.1.trans hr9)
          have hn39 := hn39 (hw.1.trans hr9)
          subst hr9
          refine lv_if_eq (tgt := 75) hx hb dX4_readMilestone_62 (by decide) (fun c9 => absurd c9 (by decide)) (fun c44 => ?_)
          refine lv_aload_n hx hb dX4_readMilestone_65 rfl (lv_at hl 1 rfl) ?_
          refine lv_iconst (v := 1) hx hb dX4_readMilestone_66 (by decide) ?_
          refine lv_ldc (v := 99999) hx hb hown (hts (.constant RX4 120 99999) (by decide +kernel)) dX4_readMilestone_67 ?_
          obtain ⟨hPc, hDc, hFc⟩ := PDq.cut (wc := [(oX4 r0 r1 p0 (nI ((ti + 1) + 1)) (fk ((ti + 1) + 1)) (ft ((ti + 1) + 1)) (fv ((ti + 1) + 1)) inb iek iep), (oX5 r1 k1 k2 k3 (nI ct)), (k1, .inl (cA 0, 701, .inl fk)), (k2, .inl (cA 0, 701, .inl ft)), (k3, .inl (cA 1, 701, .inr (.inl fv)))]) hP hD hS hA [9, 10, 11, 12, 13] (by decide) rfl
          refine va_calli (va_runV (As := [.int 1, .int 99999]) (rest := []) ⟨hx, hb, hml, hown, hts⟩ (x_takeNumber l D cA sa r0 p0 ((ti + 1) + 1) ln inb iek iep r1 k1 k2 k3 ct fk ft fv fb gP gR 1 99999 H.size hct hln hn32 hTX (by omega) (by omega)) (cwV 2 hts gX4_readMilestone_X4_takeNumber rfl rfl rfl (by decide +kernel) ⟨(Nat.le_of_ble_eq_true rfl), (Nat.le_of_ble_eq_true rfl)⟩) ⟨Wd.blind, va_recv hK hPc (ci := 8) (q0 := 0) rfl rfl, fun U hU hW => ⟨rfl, Wd.call hPc hDc hK hC hZ hS hFc U hU hW⟩⟩ rfl rfl hl.1 rfl (lv_room (Nat.le_of_ble_eq_true rfl)) dX4_readMilestone_69 ⟨(Nat.le_of_ble_eq_true rfl), (Nat.le_of_ble_eq_true rfl)⟩) hS (fun q _ h => hFc q h) hFc (fun rn45 u t H1 locs ht hvm hw hB hz1 hk1 hS => ?_)
          obtain ⟨qn46, zn47, zn48, zn49, hn50, hn51, hn52, hn53, hn54, hn55, hn56, hn57, hn58, hn59, hP1, hD1⟩ := hB
          rw [ht] at hP1
          obtain ⟨hP, hD⟩ := PDq.join (w := [(p6, .inl (cA 1, 8, .inr (.inl fpn))), (p7, .inl (cA 0, 350, .inl fst)), (p8, .inl (cA 0, 350, .inl fop)), (p3, .inl (cA 0, 10, .inl fam)), (p4, .inl (cA 0, 10, .inl fpi)), (p5, .inl (cA 0, 10, .inl fby)), (p9, .inl (cA 0, 10, .inl fen)), (oX3 p0 pr pb pe pg p1 (nI nd) p2 p3 p4 p5 (nI cn) p6 (nI pq) p7 p8 p9 (nI sc)), (p2, .inl (cA 1, 10, .inr (.inl fna))), (oX4 r0 r1 p0 (nI qn46) (fk qn46) (ft qn46) (fv qn46) zn47 zn48 zn49), (oX5 r1 k1 k2 k3 (nI ct)), (k1, .inl (cA 0, 701, .inl fk)), (k2, .inl (cA 0, 701, .inl ft)), (k3, .inl (cA 1, 701, .inr (.inl fv)))]) 9 hP hD [9, 10, 11, 12, 13] [0, 1, 2, 3, 4, 5, 6, 7, 8] rfl rfl (by decide +kernel) (by decide +kernel) hk1 hFc hP1 hD1 rfl
          generalize H1 = H at hP hS ⊢
          rcases hw.2 with hr9 | hr9
          · skip
            have hn58 := hn58 (hw.1.trans hr9)
            have hn59 := hn59 (hw.1.trans hr9)
            subst hr9
            refine lv_if_ne (tgt := 77) hx hb dX4_readMilestone_72 (by decide) (fun c9 => absurd c9 (by decide)) (fun c60 => ?_)
            refine lv_iconst (v := 0) hx hb dX4_readMilestone_75 (by decide) ?_
            obtain ⟨hP9, hD9⟩ := PDq.sub (ws' := [(oX4 r0 r1 p0 (nI qn46) (fk qn46) (ft qn46) (fv qn46) zn47 zn48 zn49), (oX5 r1 k1 k2 k3 (nI ct)), (k1, .inl (cA 0, 701, .inl fk)), (k2, .inl (cA 0, 701, .inl ft)), (k3, .inl (cA 1, 701, .inr (.inl fv))), (oX3 p0 pr pb pe pg p1 (nI nd) p2 p3 p4 p5 (nI cn) p6 (nI pq) p7 p8 p9 (nI sc)), (p2, .inl (cA 1, 10, .inr (.inl fna))), (p6, .inl (cA 1, 8, .inr (.inl fpn))), (p7, .inl (cA 0, 350, .inl fst)), (p8, .inl (cA 0, 350, .inl fop)), (p3, .inl (cA 0, 10, .inl fam)), (p4, .inl (cA 0, 10, .inl fpi)), (p5, .inl (cA 0, 10, .inl fby)), (p9, .inl (cA 0, 10, .inl fen))]) hP hD [9, 10, 11, 12, 13, 7, 8, 0, 1, 2, 3, 4, 5, 6] (by decide +kernel) rfl
            refine W.widen (k := 0) (n := 0) (Nat.le_of_ble_eq_true rfl) (Nat.le_of_ble_eq_true rfl) ?_
            exact (W.zret (v := 0) hx hb hr (by first | rfl | decide) (fun t ht hW => ⟨⟨0, 0, rfl, ⟨rfl, by decide⟩, qn46, zn47, zn48, zn49, cn, pq, sc, fna, fpn, fst, fop, fam, fpi, fby, fen, ml, pl, hn50, hn51, hcn, hpq, hsc, hNM, hNP, hby, hen, (fun h9 => absurd h9 (by decide)), (fun h9 => absurd h9 (by decide)), (fun h9 => absurd h9 (by decide)), (fun h9 => absurd h9 (by decide)), (fun h9 => absurd h9 (by decide)), (fun _ => (Or.inl (S_milAx hk (fun q9 => absurd (hNM.1.symm.trans q9) (by omega)) hn39 hn24 hn58 hn59))), by rw [ht]; exact hP9, hD9⟩, hS.F ht⟩) hS.2.2 dX4_readMilestone_76)
          · skip
            have hn53 := hn53 (hw.1.trans hr9)
            subst hn53
            obtain ⟨hP, hD⟩ : PDq D A [(p6, .inl (cA 1, 8, .inr (.inl fpn))), (p7, .inl (cA 0, 350, .inl fst)), (p8, .inl (cA 0, 350, .inl fop)), (p3, .inl (cA 0, 10, .inl fam)), (p4, .inl (cA 0, 10, .inl fpi)), (p5, .inl (cA 0, 10, .inl fby)), (p9, .inl (cA 0, 10, .inl fen)), (oX3 p0 pr pb pe pg p1 (nI nd) p2 p3 p4 p5 (nI cn) p6 (nI pq) p7 p8 p9 (nI sc)), (p2, .inl (cA 1, 10, .inr (.inl fna))), (oX4 r0 r1 p0 (nI (((ti + 1) + 1) + 1)) (fk (((ti + 1) + 1) + 1)) (ft (((ti + 1) + 1) + 1)) (fv (((ti + 1) + 1) + 1)) zn47 zn48 zn49), (oX5 r1 k1 k2 k3 (nI ct)), (k1, .inl (cA 0, 701, .inl fk)), (k2, .inl (cA 0, 701, .inl ft)), (k3, .inl (cA 1, 701, .inr (.inl fv)))] H := ⟨hP, hD⟩
            have hn54 := hn54 (hw.1.trans hr9)
            obtain rfl : iek = zn48 := hn54.symm
            obtain ⟨hP, hD⟩ : PDq D A [(p6, .inl (cA 1, 8, .inr (.inl fpn))), (p7, .inl (cA 0, 350, .inl fst)), (p8, .inl (cA 0, 350, .inl fop)), (p3, .inl (cA 0, 10, .inl fam)), (p4, .inl (cA 0, 10, .inl fpi)), (p5, .inl (cA 0, 10, .inl fby)), (p9, .inl (cA 0, 10, .inl fen)), (oX3 p0 pr pb pe pg p1 (nI nd) p2 p3 p4 p5 (nI cn) p6 (nI pq) p7 p8 p9 (nI sc)), (p2, .inl (cA 1, 10, .inr (.inl fna))), (oX4 r0 r1 p0 (nI (((ti + 1) + 1) + 1)) (fk (((ti + 1) + 1) + 1)) (ft (((ti + 1) + 1) + 1)) (fv (((ti + 1) + 1) + 1)) zn47 iek zn49), (oX5 r1 k1 k2 k3 (nI ct)), (k1, .inl (cA 0, 701, .inl fk)), (k2, .inl (cA 0, 701, .inl ft)), (k3, .inl (cA 1, 701, .inr (.inl fv)))] H := ⟨hP, hD⟩
            have hn55 := hn55 (hw.1.trans hr9)
            obtain rfl : iep = zn49 := hn55.symm
            obtain ⟨hP, hD⟩ : PDq D A [(p6, .inl (cA 1, 8, .inr (.inl fpn))), (p7, .inl (cA 0, 350, .inl fst)), (p8, .inl (cA 0, 350, .inl fop)), (p3, .inl (cA 0, 10, .inl fam)), (p4, .inl (cA 0, 10, .inl fpi)), (p5, .inl (cA 0, 10, .inl fby)), (p9, .inl (cA 0, 10, .inl fen)), (oX3 p0 pr pb pe pg p1 (nI nd) p2 p3 p4 p5 (nI cn) p6 (nI pq) p7 p8 p9 (nI sc)), (p2, .inl (cA 1, 10, .inr (.inl fna))), (oX4 r0 r1 p0 (nI (((ti + 1) + 1) + 1)) (fk (((ti + 1) + 1) + 1)) (ft (((ti + 1) + 1) + 1)) (fv (((ti + 1) + 1) + 1)) zn47 iek iep), (oX5 r1 k1 k2 k3 (nI ct)), (k1, .inl (cA 0, 701, .inl fk)), (k2, .inl (cA 0, 701, .inl ft)), (k3, .inl (cA 1, 701, .inr (.inl fv)))] H := ⟨hP, hD⟩
            have hn56 := hn56 (hw.1.trans hr9)
            have hn57 := hn57 (hw.1.trans hr9)
            subst hr9
            refine lv_if_ne (tgt := 77) hx hb dX4_readMilestone_72 (by decide) (fun c61 => ?_) (fun c9 => absurd c9 (by decide))
            refine lv_aload_n hx hb dX4_readMilestone_77 rfl (lv_at hl 1 rfl) ?_
            refine va_get (D := D) (ci := 8) (v := .int zn47) (C := RX4) (T := TX4) (N := 9) hx hb hts inX4 hown hK hP 9 rfl rfl 6 (by decide) (hts (.fieldLink RX4 91 "EscrowDesk$Reader" "number" "I") (by decide +kernel)) (fun _ h9 => h9) rfl dX4_readMilestone_78 ?_
            refine lv_istore_n (lv' := [(3, .int zn47), (1, .long (fv (ti + 1))), (0, .ref r0)]) hx hb dX4_readMilestone_81 rfl hl (by decide) rfl (fun ls hl => ?_)
            refine lv_aload_n hx hb dX4_readMilestone_82 rfl (lv_at hl 2 rfl) ?_
            refine lv_iconst (v := 0) hx hb dX4_readMilestone_83 (by decide) ?_
            refine lv_bipush (v := 99) hx hb dX4_readMilestone_84 (by decide) ?_
            obtain ⟨hPc, hDc, hFc⟩ := PDq.cut (wc := [(oX4 r0 r1 p0 (nI (((ti + 1) + 1) + 1)) (fk (((ti + 1) + 1) + 1)) (ft (((ti + 1) + 1) + 1)) (fv (((ti + 1) + 1) + 1)) zn47 iek iep), (oX5 r1 k1 k2 k3 (nI ct)), (k1, .inl (cA 0, 701, .inl fk)), (k2, .inl (cA 0, 701, .inl ft)), (k3, .inl (cA 1, 701, .inr (.inl fv)))]) hP hD hS hA [9, 10, 11, 12, 13] (by decide) rfl
            refine va_calli (va_runV (As := [.int 0, .int 99]) (rest := []) ⟨hx, hb, hml, hown, hts⟩ (x_takeNumber l D cA sa r0 p0 (((ti + 1) + 1) + 1) ln zn47 iek iep r1 k1 k2 k3 ct fk ft fv fb gP gR 0 99 H.size hct hln hn50 hTX (by omega) (by omega)) (cwV 2 hts gX4_readMilestone_X4_takeNumber rfl rfl rfl (by decide +kernel) ⟨(Nat.le_of_ble_eq_true rfl), (Nat.le_of_ble_eq_true rfl)⟩) ⟨Wd.blind, va_recv hK hPc (ci := 8) (q0 := 0) rfl rfl, fun U hU hW => ⟨rfl, Wd.call hPc hDc hK hC hZ hS hFc U hU hW⟩⟩ rfl rfl hl.1 rfl (lv_room (Nat.le_of_ble_eq_true rfl)) dX4_readMilestone_86 ⟨(Nat.le_of_ble_eq_true rfl), (Nat.le_of_ble_eq_true rfl)⟩) hS (fun q _ h => hFc q h) hFc (fun rn62 u t H1 locs ht hvm hw hB hz1 hk1 hS => ?_)
            obtain ⟨qn63, zn64, zn65, zn66, hn67, hn68, hn69, hn70, hn71, hn72, hn73, hn74, hn75, hn76, hP1, hD1⟩ := hB
            rw [ht] at hP1
            obtain ⟨hP, hD⟩ := PDq.join (w := [(p6, .inl (cA 1, 8, .inr (.inl fpn))), (p7, .inl (cA 0, 350, .inl fst)), (p8, .inl (cA 0, 350, .inl fop)), (p3, .inl (cA 0, 10, .inl fam)), (p4, .inl (cA 0, 10, .inl fpi)), (p5, .inl (cA 0, 10, .inl fby)), (p9, .inl (cA 0, 10, .inl fen)), (oX3 p0 pr pb pe pg p1 (nI nd) p2 p3 p4 p5 (nI cn) p6 (nI pq) p7 p8 p9 (nI sc)), (p2, .inl (cA 1, 10, .inr (.inl fna))), (oX4 r0 r1 p0 (nI qn63) (fk qn63) (ft qn63) (fv qn63) zn64 zn65 zn66), (oX5 r1 k1 k2 k3 (nI ct)), (k1, .inl (cA 0, 701, .inl fk)), (k2, .inl (cA 0, 701, .inl ft)), (k3, .inl (cA 1, 701, .inr (.inl fv)))]) 9 hP hD [9, 10, 11, 12, 13] [0, 1, 2, 3, 4, 5, 6, 7, 8] rfl rfl (by decide +kernel) (by decide +kernel) hk1 hFc hP1 hD1 rfl
            generalize H1 = H at hP hS ⊢
            rcases hw.2 with hr9 | hr9
            · skip
              have hn75 := hn75 (hw.1.trans hr9)
              have hn76 := hn76 (hw.1.trans hr9)
              subst hr9
              refine lv_if_ne (tgt := 94) hx hb dX4_readMilestone_89 (by decide) (fun c9 => absurd c9 (by decide)) (fun c77 => ?_)
              refine lv_iconst (v := 0) hx hb dX4_readMilestone_92 (by decide) ?_
              obtain ⟨hP9, hD9⟩ := PDq.sub (ws' := [(oX4 r0 r1 p0 (nI qn63) (fk qn63) (ft qn63) (fv qn63) zn64 zn65 zn66), (oX5 r1 k1 k2 k3 (nI ct)), (k1, .inl (cA 0, 701, .inl fk)), (k2, .inl (cA 0, 701, .inl ft)), (k3, .inl (cA 1, 701, .inr (.inl fv))), (oX3 p0 pr pb pe pg p1 (nI nd) p2 p3 p4 p5 (nI cn) p6 (nI pq) p7 p8 p9 (nI sc)), (p2, .inl (cA 1, 10, .inr (.inl fna))), (p6, .inl (cA 1, 8, .inr (.inl fpn))), (p7, .inl (cA 0, 350, .inl fst)), (p8, .inl (cA 0, 350, .inl fop)), (p3, .inl (cA 0, 10, .inl fam)), (p4, .inl (cA 0, 10, .inl fpi)), (p5, .inl (cA 0, 10, .inl fby)), (p9, .inl (cA 0, 10, .inl fen))]) hP hD [9, 10, 11, 12, 13, 7, 8, 0, 1, 2, 3, 4, 5, 6] (by decide +kernel) rfl
              refine W.widen (k := 0) (n := 0) (Nat.le_of_ble_eq_true rfl) (Nat.le_of_ble_eq_true rfl) ?_
              exact (W.zret (v := 0) hx hb hr (by first | rfl | decide) (fun t ht hW => ⟨⟨0, 0, rfl, ⟨rfl, by decide⟩, qn63, zn64, zn65, zn66, cn, pq, sc, fna, fpn, fst, fop, fam, fpi, fby, fen, ml, pl, hn67, hn68, hcn, hpq, hsc, hNM, hNP, hby, hen, (fun h9 => absurd h9 (by decide)), (fun h9 => absurd h9 (by decide)), (fun h9 => absurd h9 (by decide)), (fun h9 => absurd h9 (by decide)), (fun h9 => absurd h9 (by decide)), (fun _ => (Or.inl (S_milPx hk (fun q9 => absurd (hNM.1.symm.trans q9) (by omega)) hn39 hn24 hn57 hn75 hn76))), by rw [ht]; exact hP9, hD9⟩, hS.F ht⟩) hS.2.2 dX4_readMilestone_93)
            · skip
              have hn70 := hn70 (hw.1.trans hr9)
              subst hn70
              obtain ⟨hP, hD⟩ : PDq D A [(p6, .inl (cA 1, 8, .inr (.inl fpn))), (p7, .inl (cA 0, 350, .inl fst)), (p8, .inl (cA 0, 350, .inl fop)), (p3, .inl (cA 0, 10, .inl fam)), (p4, .inl (cA 0, 10, .inl fpi)), (p5, .inl (cA 0, 10, .inl fby)), (p9, .inl (cA 0, 10, .inl fen)), (oX3 p0 pr pb pe pg p1 (nI nd) p2 p3 p4 p5 (nI cn) p6 (nI pq) p7 p8 p9 (nI sc)), (p2, .inl (cA 1, 10, .inr (.inl fna))), (oX4 r0 r1 p0 (nI ((((ti + 1) + 1) + 1) + 1)) (fk ((((ti + 1) + 1) + 1) + 1)) (ft ((((ti + 1) + 1) + 1) + 1)) (fv ((((ti + 1) + 1) + 1) + 1)) zn64 zn65 zn66), (oX5 r1 k1 k2 k3 (nI ct)), (k1, .inl (cA 0, 701, .inl fk)), (k2, .inl (cA 0, 701, .inl ft)), (k3, .inl (cA 1, 701, .inr (.inl fv)))] H := ⟨hP, hD⟩
              have hn71 := hn71 (hw.1.trans hr9)
              obtain rfl : iek = zn65 := hn71.symm
              obtain ⟨hP, hD⟩ : PDq D A [(p6, .inl (cA 1, 8, .inr (.inl fpn))), (p7, .inl (cA 0, 350, .inl fst)), (p8, .inl (cA 0, 350, .inl fop)), (p3, .inl (cA 0, 10, .inl fam)), (p4, .inl (cA 0, 10, .inl fpi)), (p5, .inl (cA 0, 10, .inl fby)), (p9, .inl (cA 0, 10, .inl fen)), (oX3 p0 pr pb pe pg p1 (nI nd) p2 p3 p4 p5 (nI cn) p6 (nI pq) p7 p8 p9 (nI sc)), (p2, .inl (cA 1, 10, .inr (.inl fna))), (oX4 r0 r1 p0 (nI ((((ti + 1) + 1) + 1) + 1)) (fk ((((ti + 1) + 1) + 1) + 1)) (ft ((((ti + 1) + 1) + 1) + 1)) (fv ((((ti + 1) + 1) + 1) + 1)) zn64 iek zn66), (oX5 r1 k1 k2 k3 (nI ct)), (k1, .inl (cA 0, 701, .inl fk)), (k2, .inl (cA 0, 701, .inl ft)), (k3, .inl (cA 1, 701, .inr (.inl fv)))] H := ⟨hP, hD⟩
              have hn72 := hn72 (hw.1.trans hr9)
              obtain rfl : iep = zn66 := hn72.symm
              obtain ⟨hP, hD⟩ : PDq D A [(p6, .inl (cA 1, 8, .inr (.inl fpn))), (p7, .inl (cA 0, 350, .inl fst)), (p8, .inl (cA 0, 350, .inl fop)), (p3, .inl (cA 0, 10, .inl fam)), (p4, .inl (cA 0, 10, .inl fpi)), (p5, .inl (cA 0, 10, .inl fby)), (p9, .inl (cA 0, 10, .inl fen)), (oX3 p0 pr pb pe pg p1 (nI nd) p2 p3 p4 p5 (nI cn) p6 (nI pq) p7 p8 p9 (nI sc)), (p2, .inl (cA 1, 10, .inr (.inl fna))), (oX4 r0 r1 p0 (nI ((((ti + 1) + 1) + 1) + 1)) (fk ((((ti + 1) + 1) + 1) + 1)) (ft ((((ti + 1) + 1) + 1) + 1)) (fv ((((ti + 1) + 1) + 1) + 1)) zn64 iek iep), (oX5 r1 k1 k2 k3 (nI ct)), (k1, .inl (cA 0, 701, .inl fk)), (k2, .inl (cA 0, 701, .inl ft)), (k3, .inl (cA 1, 701, .inr (.inl fv)))] H := ⟨hP, hD⟩
              have hn73 := hn73 (hw.1.trans hr9)
              have hn74 := hn74 (hw.1.trans hr9)
              subst hr9
              refine lv_if_ne (tgt := 94) hx hb dX4_readMilestone_89 (by decide) (fun c78 => ?_) (fun c9 => absurd c9 (by decide))
              refine lv_aload_n hx hb dX4_readMilestone_94 rfl (lv_at hl 2 rfl) ?_
              refine va_get (D := D) (ci := 8) (v := .int zn64) (C := RX4) (T := TX4) (N := 9) hx hb hts inX4 hown hK hP 9 rfl rfl 6 (by decide) (hts (.fieldLink RX4 91 "EscrowDesk$Reader" "number" "I") (by decide +kernel)) (fun _ h9 => h9) rfl dX4_readMilestone_95 ?_
              refine lv_istore (lv' := [(4, .int zn64), (3, .int zn47), (1, .long (fv (ti + 1))), (0, .ref r0)]) hx hb dX4_readMilestone_98 hl (by decide) rfl (fun ls hl => ?_)
              refine lv_aload_n hx hb dX4_readMilestone_100 rfl (lv_at hl 3 rfl) ?_
              refine lv_bipush (v := 13) hx hb dX4_readMilestone_101 (by decide) ?_
              obtain ⟨hPc, hDc, hFc⟩ := PDq.cut (wc := [(oX4 r0 r1 p0 (nI ((((ti + 1) + 1) + 1) + 1)) (fk ((((ti + 1) + 1) + 1) + 1)) (ft ((((ti + 1) + 1) + 1) + 1)) (fv ((((ti + 1) + 1) + 1) + 1)) zn64 iek iep), (oX5 r1 k1 k2 k3 (nI ct)), (k1, .inl (cA 0, 701, .inl fk)), (k2, .inl (cA 0, 701, .inl ft)), (k3, .inl (cA 1, 701, .inr (.inl fv)))]) hP hD hS hA [9, 10, 11, 12, 13] (by decide) rfl
              refine va_calli (va_runV (As := [.int 13]) (rest := []) ⟨hx, hb, hml, hown, hts⟩ (x_take l D cA sa r0 p0 ((((ti + 1) + 1) + 1) + 1) ln zn64 iek iep r1 k1 k2 k3 ct fk ft fv fb gP gR 13 H.size hct hln hn67 hTX (by decide)) (cwV 1 hts gX4_readMilestone_X4_take rfl rfl rfl (by decide +kernel) ⟨(Nat.le_of_ble_eq_true rfl), (Nat.le_of_ble_eq_true rfl)⟩) ⟨Wd.blind, va_recv hK hPc (ci := 8) (q0 := 0) rfl rfl, fun U hU hW => ⟨rfl, Wd.call hPc hDc hK hC hZ hS hFc U hU hW⟩⟩ rfl rfl hl.1 rfl (lv_room (Nat.le_of_ble_eq_true rfl)) dX4_readMilestone_103 ⟨(Nat.le_of_ble_eq_true rfl), (Nat.le_of_ble_eq_true rfl)⟩) hS (fun q _ h => hFc q h) hFc (fun rn79 u t H1 locs ht hvm hw hB hz1 hk1 hS => ?_)
              obtain ⟨qn80, zn81, zn82, hn83, hn84, hn85, hn86, hn87, hn88, hn89, hn90, hn91, hn92, hn93, hP1, hD1⟩ := hB
              rw [ht] at hP1
              obtain ⟨hP, hD⟩ := PDq.join (w := [(p6, .inl (cA 1, 8, .inr (.inl fpn))), (p7, .inl (cA 0, 350, .inl fst)), (p8, .inl (cA 0, 350, .inl fop)), (p3, .inl (cA 0, 10, .inl fam)), (p4, .inl (cA 0, 10, .inl fpi)), (p5, .inl (cA 0, 10, .inl fby)), (p9, .inl (cA 0, 10, .inl fen)), (oX3 p0 pr pb pe pg p1 (nI nd) p2 p3 p4 p5 (nI cn) p6 (nI pq) p7 p8 p9 (nI sc)), (p2, .inl (cA 1, 10, .inr (.inl fna))), (oX4 r0 r1 p0 (nI qn80) (fk qn80) (ft qn80) (fv qn80) zn64 zn81 zn82), (oX5 r1 k1 k2 k3 (nI ct)), (k1, .inl (cA 0, 701, .inl fk)), (k2, .inl (cA 0, 701, .inl ft)), (k3, .inl (cA 1, 701, .inr (.inl fv)))]) 9 hP hD [9, 10, 11, 12, 13] [0, 1, 2, 3, 4, 5, 6, 7, 8] rfl rfl (by decide +kernel) (by decide +kernel) hk1 hFc hP1 hD1 rfl
              generalize H1 = H at hP hS ⊢
              rcases hw.2 with hr9 | hr9
              · skip
                have hn91 := hn91 (hw.1.trans hr9)
                have hn92 := hn92 (hw.1.trans hr9)
                have hn93 := hn93 (hw.1.trans hr9)
                subst hr9
                refine lv_if_eq (tgt := 126) hx hb dX4_readMilestone_106 (by decide) (fun c94 => ?_) (fun c9 => absurd c9 (by decide))
                refine lv_iconst (v := 0) hx hb dX4_readMilestone_126 (by decide) ?_
                obtain ⟨hP9, hD9⟩ := PDq.sub (ws' := [(oX4 r0 r1 p0 (nI qn80) (fk qn80) (ft qn80) (fv qn80) zn64 zn81 zn82), (oX5 r1 k1 k2 k3 (nI ct)), (k1, .inl (cA 0, 701, .inl fk)), (k2, .inl (cA 0, 701, .inl ft)), (k3, .inl (cA 1, 701, .inr (.inl fv))), (oX3 p0 pr pb pe pg p1 (nI nd) p2 p3 p4 p5 (nI cn) p6 (nI pq) p7 p8 p9 (nI sc)), (p2, .inl (cA 1, 10, .inr (.inl fna))), (p6, .inl (cA 1, 8, .inr (.inl fpn))), (p7, .inl (cA 0, 350, .inl fst)), (p8, .inl (cA 0, 350, .inl fop)), (p3, .inl (cA 0, 10, .inl fam)), (p4, .inl (cA 0, 10, .inl fpi)), (p5, .inl (cA 0, 10, .inl fby)), (p9, .inl (cA 0, 10, .inl fen))]) hP hD [9, 10, 11, 12, 13, 7, 8, 0, 1, 2, 3, 4, 5, 6] (by decide +kernel) rfl
                refine W.widen (k := 0) (n := 0) (Nat.le_of_ble_eq_true rfl) (Nat.le_of_ble_eq_true rfl) ?_
                exact (W.zret (v := 0) hx hb hr (by first | rfl | decide) (fun t ht hW => ⟨⟨0, 0, rfl, ⟨rfl, by decide⟩, qn80, zn64, zn81, zn82, cn, pq, sc, fna, fpn, fst, fop, fam, fpi, fby, fen, ml, pl, hn83, hn84, hcn, hpq, hsc, hNM, hNP, hby, hen, (fun h9 => absurd h9 (by decide)), (fun h9 => absurd h9 (by decide)), (fun h9 => absurd h9 (by decide)), (fun h9 => absurd h9 (by decide)), (fun h9 => absurd h9 (by decide)), (fun _ => (Or.inl (S_milWx hk (fun q9 => absurd (hNM.1.symm.trans q9) (by omega)) hn39 hn24 hn57 hn74 hn93 hn91 hn92))), by rw [ht]; exact hP9, hD9⟩, hS.F ht⟩) hS.2.2 dX4_readMilestone_127)
              · skip
                have hn86 := hn86 (hw.1.trans hr9)
                subst hn86
                obtain ⟨hP, hD⟩ : PDq D A [(p6, .inl (cA 1, 8, .inr (.inl fpn))), (p7, .inl (cA 0, 350, .inl fst)), (p8, .inl (cA 0, 350, .inl fop)), (p3, .inl (cA 0, 10, .inl fam)), (p4, .inl (cA 0, 10, .inl fpi)), (p5, .inl (cA 0, 10, .inl fby)), (p9, .inl (cA 0, 10, .inl fen)), (oX3 p0 pr pb pe pg p1 (nI nd) p2 p3 p4 p5 (nI cn) p6 (nI pq) p7 p8 p9 (nI sc)), (p2, .inl (cA 1, 10, .inr (.inl fna))), (oX4 r0 r1 p0 (nI (((((ti + 1) + 1) + 1) + 1) + 1)) (fk (((((ti + 1) + 1) + 1) + 1) + 1)) (ft (((((ti + 1) + 1) + 1) + 1) + 1)) (fv (((((ti + 1) + 1) + 1) + 1) + 1)) zn64 zn81 zn82), (oX5 r1 k1 k2 k3 (nI ct)), (k1, .inl (cA 0, 701, .inl fk)), (k2, .inl (cA 0, 701, .inl ft)), (k3, .inl (cA 1, 701, .inr (.inl fv)))] H := ⟨hP, hD⟩
                have hn87 := hn87 (hw.1.trans hr9)
                obtain rfl : iek = zn81 := hn87.symm
                obtain ⟨hP, hD⟩ : PDq D A [(p6, .inl (cA 1, 8, .inr (.inl fpn))), (p7, .inl (cA 0, 350, .inl fst)), (p8, .inl (cA 0, 350, .inl fop)), (p3, .inl (cA 0, 10, .inl fam)), (p4, .inl (cA 0, 10, .inl fpi)), (p5, .inl (cA 0, 10, .inl fby)), (p9, .inl (cA 0, 10, .inl fen)), (oX3 p0 pr pb pe pg p1 (nI nd) p2 p3 p4 p5 (nI cn) p6 (nI pq) p7 p8 p9 (nI sc)), (p2, .inl (cA 1, 10, .inr (.inl fna))), (oX4 r0 r1 p0 (nI (((((ti + 1) + 1) + 1) + 1) + 1)) (fk (((((ti + 1) + 1) + 1) + 1) + 1)) (ft (((((ti + 1) + 1) + 1) + 1) + 1)) (fv (((((ti + 1) + 1) + 1) + 1) + 1)) zn64 iek zn82), (oX5 r1 k1 k2 k3 (nI ct)), (k1, .inl (cA 0, 701, .inl fk)), (k2, .inl (cA 0, 701, .inl ft)), (k3, .inl (cA 1, 701, .inr (.inl fv)))] H := ⟨hP, hD⟩
                have hn88 := hn88 (hw.1.trans hr9)
                obtain rfl : iep = zn82 := hn88.symm
                obtain ⟨hP, hD⟩ : PDq D A [(p6, .inl (cA 1, 8, .inr (.inl fpn))), (p7, .inl (cA 0, 350, .inl fst)), (p8, .inl (cA 0, 350, .inl fop)), (p3, .inl (cA 0, 10, .inl fam)), (p4, .inl (cA 0, 10, .inl fpi)), (p5, .inl (cA 0, 10, .inl fby)), (p9, .inl (cA 0, 10, .inl fen)), (oX3 p0 pr pb pe pg p1 (nI nd) p2 p3 p4 p5 (nI cn) p6 (nI pq) p7 p8 p9 (nI sc)), (p2, .inl (cA 1, 10, .inr (.inl fna))), (oX4 r0 r1 p0 (nI (((((ti + 1) + 1) + 1) + 1) + 1)) (fk (((((ti + 1) + 1) + 1) + 1) + 1)) (ft (((((ti + 1) + 1) + 1) + 1) + 1)) (fv (((((ti + 1) + 1) + 1) + 1) + 1)) zn64 iek iep), (oX5 r1 k1 k2 k3 (nI ct)), (k1, .inl (cA 0, 701, .inl fk)), (k2, .inl (cA 0, 701, .inl ft)), (k3, .inl (cA 1, 701, .inr (.inl fv)))] H := ⟨hP, hD⟩
                have hn89 := hn89 (hw.1.trans hr9)
                have hn90 := hn90 (hw.1.trans hr9)
                subst hr9
                refine lv_if_eq (tgt := 126) hx hb dX4_readMilestone_106 (by decide) (fun c9 => absurd c9 (by decide)) (fun c95 => ?_)
                refine lv_aload_n hx hb dX4_readMilestone_109 rfl (lv_at hl 3 rfl) ?_
                refine lv_iconst (v := 0) hx hb dX4_readMilestone_110 (by decide) ?_
                obtain ⟨hPc, hDc, hFc⟩ := PDq.cut (wc := [(oX4 r0 r1 p0 (nI (((((ti + 1) + 1) + 1) + 1) + 1)) (fk (((((ti + 1) + 1) + 1) + 1) + 1)) (ft (((((ti + 1) + 1) + 1) + 1) + 1)) (fv (((((ti + 1) + 1) + 1) + 1) + 1)) zn64 iek iep), (oX5 r1 k1 k2 k3 (nI ct)), (k1, .inl (cA 0, 701, .inl fk)), (k2, .inl (cA 0, 701, .inl ft)), (k3, .inl (cA 1, 701, .inr (.inl fv))), (oX3 p0 pr pb pe pg p1 (nI nd) p2 p3 p4 p5 (nI cn) p6 (nI pq) p7 p8 p9 (nI sc)), (p2, .inl (cA 1, 10, .inr (.inl fna))), (p6, .inl (cA 1, 8, .inr (.inl fpn))), (p7, .inl (cA 0, 350, .inl fst)), (p8, .inl (cA 0, 350, .inl fop))]) hP hD hS hA [9, 10, 11, 12, 13, 7, 8, 0, 1, 2] (by decide +kernel) rfl
                refine va_calli (va_runV (As := [.int 0]) (rest := []) ⟨hx, hb, hml, hown, hts⟩ (x_readCondition_0 l D cA sa r0 p0 (((((ti + 1) + 1) + 1) + 1) + 1) ln zn64 iek iep r1 k1 k2 k3 ct fk ft fv fb gP gR p1 p2 p3 p4 p5 p6 p7 p8 p9 cn pq nd sc pr pb pe pg fna fpn fst fop ml pl 0 H.size hct hln hn83 hTX hcn hpq hnd hsc hNM hNP (by omega)) (cwV 1 hts gX4_readMilestone_X4_readCondition rfl rfl rfl (by decide +kernel) ⟨(Nat.le_of_ble_eq_true rfl), (Nat.le_of_ble_eq_true rfl)⟩) ⟨Wd.blind, va_recv hK hPc (ci := 8) (q0 := 0) rfl rfl, fun U hU hW => ⟨rfl, Wd.call hPc hDc hK hC hZ hS hFc U hU hW⟩⟩ rfl rfl hl.1 rfl (lv_room (Nat.le_of_ble_eq_true rfl)) dX4_readMilestone_111 ⟨(Nat.le_of_ble_eq_true rfl), (Nat.le_of_ble_eq_true rfl)⟩) hS (fun q _ h => hFc q h) hFc (fun rn96 u t H1 locs ht hvm hw hB hz1 hk1 hS => ?_)
                obtain ⟨qn97, qn98, qn99, zn100, zn101, zn102, fn103, fn104, fn105, zn106, hn107, hn108, hn109, hn110, hn111, hn112, hn113, hn114, hn115, hn116, hn117, hn118, hP1, hD1⟩ := hB
                rw [ht] at hP1
                obtain ⟨hP, hD⟩ := PDq.join (w := [(p3, .inl (cA 0, 10, .inl fam)), (p4, .inl (cA 0, 10, .inl fpi)), (p5, .inl (cA 0, 10, .inl fby)), (p9, .inl (cA 0, 10, .inl fen)), (oX4 r0 r1 p0 (nI qn97) (fk qn97) (ft qn97) (fv qn97) zn100 zn101 zn102), (oX5 r1 k1 k2 k3 (nI ct)), (k1, .inl (cA 0, 701, .inl fk)), (k2, .inl (cA 0, 701, .inl ft)), (k3, .inl (cA 1, 701, .inr (.inl fv))), (oX3 p0 pr pb pe pg p1 (nI nd) p2 p3 p4 p5 (nI cn) p6 (nI qn98) p7 p8 p9 (nI qn99)), (p2, .inl (cA 1, 10, .inr (.inl fna))), (p6, .inl (cA 1, 8, .inr (.inl fn103))), (p7, .inl (cA 0, 350, .inl fn104)), (p8, .inl (cA 0, 350, .inl fn105))]) 4 hP hD [9, 10, 11, 12, 13, 7, 8, 0, 1, 2] [3, 4, 5, 6] rfl rfl (by decide) (by decide +kernel) hk1 hFc hP1 hD1 rfl
                generalize H1 = H at hP hS ⊢
                rcases hw.2 with hr9 | hr9
                · skip
                  have hn118 := hn118 (hw.1.trans hr9)
                  subst hr9
                  refine lv_if_eq (tgt := 126) hx hb dX4_readMilestone_114 (by decide) (fun c119 => ?_) (fun c9 => absurd c9 (by decide))
                  refine lv_iconst (v := 0) hx hb dX4_readMilestone_126 (by decide) ?_
                  obtain ⟨hP9, hD9⟩ := PDq.sub (ws' := [(oX4 r0 r1 p0 (nI qn97) (fk qn97) (ft qn97) (fv qn97) zn100 zn101 zn102), (oX5 r1 k1 k2 k3 (nI ct)), (k1, .inl (cA 0, 701, .inl fk)), (k2, .inl (cA 0, 701, .inl ft)), (k3, .inl (cA 1, 701, .inr (.inl fv))), (oX3 p0 pr pb pe pg p1 (nI nd) p2 p3 p4 p5 (nI cn) p6 (nI qn98) p7 p8 p9 (nI qn99)), (p2, .inl (cA 1, 10, .inr (.inl fna))), (p6, .inl (cA 1, 8, .inr (.inl fn103))), (p7, .inl (cA 0, 350, .inl fn104)), (p8, .inl (cA 0, 350, .inl fn105)), (p3, .inl (cA 0, 10, .inl fam)), (p4, .inl (cA 0, 10, .inl fpi)), (p5, .inl (cA 0, 10, .inl fby)), (p9, .inl (cA 0, 10, .inl fen))]) hP hD [4, 5, 6, 7, 8, 9, 10, 11, 12, 13, 0, 1, 2, 3] (by decide +kernel) rfl
                  refine W.widen (k := 0) (n := 0) (Nat.le_of_ble_eq_true rfl) (Nat.le_of_ble_eq_true rfl) ?_
                  exact (W.zret (v := 0) hx hb hr (by first | rfl | decide) (fun t ht hW => ⟨⟨0, 0, rfl, ⟨rfl, by decide⟩, qn97, zn100, zn101, zn102, cn, qn98, qn99, fna, fn103, fn104, fn105, fam, fpi, fby, fen, ml, zn106, hn107, hn108, hcn, hn110, hn111, hNM, hn112, hby, hen, (fun h9 => absurd h9 (by decide)), (fun h9 => absurd h9 (by decide)), (fun h9 => absurd h9 (by decide)), (fun h9 => absurd h9 (by decide)), (fun h9 => absurd h9 (by decide)), (fun _ => (Or.inl (S_milC hk (fun q9 => absurd (hNM.1.symm.trans q9) (by omega)) hn39 hn24 hn57 hn74 hn90 hn118))), by rw [ht]; exact hP9, hD9⟩, hS.F ht⟩) hS.2.2 dX4_readMilestone_127)
                · skip
                  have hn113 := hn113 (hw.1.trans hr9)
                  obtain rfl : iek = zn101 := hn113.symm
                  obtain ⟨hP, hD⟩ : PDq D A [(p3, .inl (cA 0, 10, .inl fam)), (p4, .inl (cA 0, 10, .inl fpi)), (p5, .inl (cA 0, 10, .inl fby)), (p9, .inl (cA 0, 10, .inl fen)), (oX4 r0 r1 p0 (nI qn97) (fk qn97) (ft qn97) (fv qn97) zn100 iek zn102), (oX5 r1 k1 k2 k3 (nI ct)), (k1, .inl (cA 0, 701, .inl fk)), (k2, .inl (cA 0, 701, .inl ft)), (k3, .inl (cA 1, 701, .inr (.inl fv))), (oX3 p0 pr pb pe pg p1 (nI nd) p2 p3 p4 p5 (nI cn) p6 (nI qn98) p7 p8 p9 (nI qn99)), (p2, .inl (cA 1, 10, .inr (.inl fna))), (p6, .inl (cA 1, 8, .inr (.inl fn103))), (p7, .inl (cA 0, 350, .inl fn104)), (p8, .inl (cA 0, 350, .inl fn105))] H := ⟨hP, hD⟩
                  have hn114 := hn114 (hw.1.trans hr9)
                  obtain rfl : iep = zn102 := hn114.symm
                  obtain ⟨hP, hD⟩ : PDq D A [(p3, .inl (cA 0, 10, .inl fam)), (p4, .inl (cA 0, 10, .inl fpi)), (p5, .inl (cA 0, 10, .inl fby)), (p9, .inl (cA 0, 10, .inl fen)), (oX4 r0 r1 p0 (nI qn97) (fk qn97) (ft qn97) (fv qn97) zn100 iek iep), (oX5 r1 k1 k2 k3 (nI ct)), (k1, .inl (cA 0, 701, .inl fk)), (k2, .inl (cA 0, 701, .inl ft)), (k3, .inl (cA 1, 701, .inr (.inl fv))), (oX3 p0 pr pb pe pg p1 (nI nd) p2 p3 p4 p5 (nI cn) p6 (nI qn98) p7 p8 p9 (nI qn99)), (p2, .inl (cA 1, 10, .inr (.inl fna))), (p6, .inl (cA 1, 8, .inr (.inl fn103))), (p7, .inl (cA 0, 350, .inl fn104)), (p8, .inl (cA 0, 350, .inl fn105))] H := ⟨hP, hD⟩
                  have hn115 := hn115 (hw.1.trans hr9)
                  have hn116 := hn116 (hw.1.trans hr9)
                  have hn117 := hn117 (hw.1.trans hr9)
                  subst hr9
                  refine lv_if_eq (tgt := 126) hx hb dX4_readMilestone_114 (by decide) (fun c9 => absurd c9 (by decide)) (fun c120 => ?_)
                  refine lv_aload_n hx hb dX4_readMilestone_117 rfl (lv_at hl 3 rfl) ?_
                  refine lv_bipush (v := 7) hx hb dX4_readMilestone_118 (by decide) ?_
                  obtain ⟨hPc, hDc, hFc⟩ := PDq.cut (wc := [(oX4 r0 r1 p0 (nI qn97) (fk qn97) (ft qn97) (fv qn97) zn100 iek iep), (oX5 r1 k1 k2 k3 (nI ct)), (k1, .inl (cA 0, 701, .inl fk)), (k2, .inl (cA 0, 701, .inl ft)), (k3, .inl (cA 1, 701, .inr (.inl fv)))]) hP hD hS hA [4, 5, 6, 7, 8] (by decide) rfl
                  refine va_calli (va_runV (As := [.int 7]) (rest := []) ⟨hx, hb, hml, hown, hts⟩ (x_take l D cA sa r0 p0 qn97 ln zn100 iek iep r1 k1 k2 k3 ct fk ft fv fb gP gR 7 H.size hct hln hn107 hTX (by decide)) (cwV 1 hts gX4_readMilestone_X4_take rfl rfl rfl (by decide +kernel) ⟨(Nat.le_of_ble_eq_true rfl), (Nat.le_of_ble_eq_true rfl)⟩) ⟨Wd.blind, va_recv hK hPc (ci := 8) (q0 := 0) rfl rfl, fun U hU hW => ⟨rfl, Wd.call hPc hDc hK hC hZ hS hFc U hU hW⟩⟩ rfl rfl hl.1 rfl (lv_room (Nat.le_of_ble_eq_true rfl)) dX4_readMilestone_120 ⟨(Nat.le_of_ble_eq_true rfl), (Nat.le_of_ble_eq_true rfl)⟩) hS (fun q _ h => hFc q h) hFc (fun rn121 u t H1 locs ht hvm hw hB hz1 hk1 hS => ?_)
                  obtain ⟨qn122, zn123, zn124, hn125, hn126, hn127, hn128, hn129, hn130, hn131, hn132, hn133, hn134, hn135, hP1, hD1⟩ := hB
                  rw [ht] at hP1
                  obtain ⟨hP, hD⟩ := PDq.join (w := [(p3, .inl (cA 0, 10, .inl fam)), (p4, .inl (cA 0, 10, .inl fpi)), (p5, .inl (cA 0, 10, .inl fby)), (p9, .inl (cA 0, 10, .inl fen)), (oX3 p0 pr pb pe pg p1 (nI nd) p2 p3 p4 p5 (nI cn) p6 (nI qn98) p7 p8 p9 (nI qn99)), (p2, .inl (cA 1, 10, .inr (.inl fna))), (p6, .inl (cA 1, 8, .inr (.inl fn103))), (p7, .inl (cA 0, 350, .inl fn104)), (p8, .inl (cA 0, 350, .inl fn105)), (oX4 r0 r1 p0 (nI qn122) (fk qn122) (ft qn122) (fv qn122) zn100 zn123 zn124), (oX5 r1 k1 k2 k3 (nI ct)), (k1, .inl (cA 0, 701, .inl fk)), (k2, .inl (cA 0, 701, .inl ft)), (k3, .inl (cA 1, 701, .inr (.inl fv)))]) 9 hP hD [4, 5, 6, 7, 8] [0, 1, 2, 3, 9, 10, 11, 12, 13] rfl rfl (by decide +kernel) (by decide +kernel) hk1 hFc hP1 hD1 rfl
                  generalize H1 = H at hP hS ⊢
                  rcases hw.2 with hr9 | hr9
                  · skip
                    have hn133 := hn133 (hw.1.trans hr9)
                    have hn134 := hn134 (hw.1.trans hr9)
                    have hn135 := hn135 (hw.1.trans hr9)
                    subst hr9
                    refine lv_if_ne (tgt := 128) hx hb dX4_readMilestone_123 (by decide) (fun c9 => absurd c9 (by decide)) (fun c136 => ?_)
                    refine lv_iconst (v := 0) hx hb dX4_readMilestone_126 (by decide) ?_
                    obtain ⟨hP9, hD9⟩ := PDq.sub (ws' := [(oX4 r0 r1 p0 (nI qn122) (fk qn122) (ft qn122) (fv qn122) zn100 zn123 zn124), (oX5 r1 k1 k2 k3 (nI ct)), (k1, .inl (cA 0, 701, .inl fk)), (k2, .inl (cA 0, 701, .inl ft)), (k3, .inl (cA 1, 701, .inr (.inl fv))), (oX3 p0 pr pb pe pg p1 (nI nd) p2 p3 p4 p5 (nI cn) p6 (nI qn98) p7 p8 p9 (nI qn99)), (p2, .inl (cA 1, 10, .inr (.inl fna))), (p6, .inl (cA 1, 8, .inr (.inl fn103))), (p7, .inl (cA 0, 350, .inl fn104)), (p8, .inl (cA 0, 350, .inl fn105)), (p3, .inl (cA 0, 10, .inl fam)), (p4, .inl (cA 0, 10, .inl fpi)), (p5, .inl (cA 0, 10, .inl fby)), (p9, .inl (cA 0, 10, .inl fen))]) hP hD [9, 10, 11, 12, 13, 4, 5, 6, 7, 8, 0, 1, 2, 3] (by decide +kernel) rfl
                    refine W.widen (k := 0) (n := 0) (Nat.le_of_ble_eq_true rfl) (Nat.le_of_ble_eq_true rfl) ?_
                    exact (W.zret (v := 0) hx hb hr (by first | rfl | decide) (fun t ht hW => ⟨⟨0, 0, rfl, ⟨rfl, by decide⟩, qn122, zn100, zn123, zn124, cn, qn98, qn99, fna, fn103, fn104, fn105, fam, fpi, fby, fen, ml, zn106, hn125, hn126, hcn, hn110, hn111, hNM, hn112, hby, hen, (fun h9 => absurd h9 (by decide)), (fun h9 => absurd h9 (by decide)), (fun h9 => absurd h9 (by decide)), (fun h9 => absurd h9 (by decide)), (fun h9 => absurd h9 (by decide)), (fun _ => (Or.inr ⟨_, _, _, _, S_mil hk (fun q9 => absurd (hNM.1.symm.trans q9) (by omega)) hn39 hn24 hn57 hn74 hn90 hn117, hn135, hn133, hn134⟩)), by rw [ht]; exact hP9, hD9⟩, hS.F ht⟩) hS.2.2 dX4_readMilestone_127)
                  · skip
                    have hn128 := hn128 (hw.1.trans hr9)
                    subst hn128
                    obtain ⟨hP, hD⟩ : PDq D A [(p3, .inl (cA 0, 10, .inl fam)), (p4, .inl (cA 0, 10, .inl fpi)), (p5, .inl (cA 0, 10, .inl fby)), (p9, .inl (cA 0, 10, .inl fen)), (oX3 p0 pr pb pe pg p1 (nI nd) p2 p3 p4 p5 (nI cn) p6 (nI qn98) p7 p8 p9 (nI qn99)), (p2, .inl (cA 1, 10, .inr (.inl fna))), (p6, .inl (cA 1, 8, .inr (.inl fn103))), (p7, .inl (cA 0, 350, .inl fn104)), (p8, .inl (cA 0, 350, .inl fn105)), (oX4 r0 r1 p0 (nI (qn97 + 1)) (fk (qn97 + 1)) (ft (qn97 + 1)) (fv (qn97 + 1)) zn100 zn123 zn124), (oX5 r1 k1 k2 k3 (nI ct)), (k1, .inl (cA 0, 701, .inl fk)), (k2, .inl (cA 0, 701, .inl ft)), (k3, .inl (cA 1, 701, .inr (.inl fv)))] H := ⟨hP, hD⟩
                    have hn129 := hn129 (hw.1.trans hr9)
                    obtain rfl : iek = zn123 := hn129.symm
                    obtain ⟨hP, hD⟩ : PDq D A [(p3, .inl (cA 0, 10, .inl fam)), (p4, .inl (cA 0, 10, .inl fpi)), (p5, .inl (cA 0, 10, .inl fby)), (p9, .inl (cA 0, 10, .inl fen)), (oX3 p0 pr pb pe pg p1 (nI nd) p2 p3 p4 p5 (nI cn) p6 (nI qn98) p7 p8 p9 (nI qn99)), (p2, .inl (cA 1, 10, .inr (.inl fna))), (p6, .inl (cA 1, 8, .inr (.inl fn103))), (p7, .inl (cA 0, 350, .inl fn104)), (p8, .inl (cA 0, 350, .inl fn105)), (oX4 r0 r1 p0 (nI (qn97 + 1)) (fk (qn97 + 1)) (ft (qn97 + 1)) (fv (qn97 + 1)) zn100 iek zn124), (oX5 r1 k1 k2 k3 (nI ct)), (k1, .inl (cA 0, 701, .inl fk)), (k2, .inl (cA 0, 701, .inl ft)), (k3, .inl (cA 1, 701, .inr (.inl fv)))] H := ⟨hP, hD⟩
                    have hn130 := hn130 (hw.1.trans hr9)
                    obtain rfl : iep = zn124 := hn130.symm
                    obtain ⟨hP, hD⟩ : PDq D A [(p3, .inl (cA 0, 10, .inl fam)), (p4, .inl (cA 0, 10, .inl fpi)), (p5, .inl (cA 0, 10, .inl fby)), (p9, .inl (cA 0, 10, .inl fen)), (oX3 p0 pr pb pe pg p1 (nI nd) p2 p3 p4 p5 (nI cn) p6 (nI qn98) p7 p8 p9 (nI qn99)), (p2, .inl (cA 1, 10, .inr (.inl fna))), (p6, .inl (cA 1, 8, .inr (.inl fn103))), (p7, .inl (cA 0, 350, .inl fn104)), (p8, .inl (cA 0, 350, .inl fn105)), (oX4 r0 r1 p0 (nI (qn97 + 1)) (fk (qn97 + 1)) (ft (qn97 + 1)) (fv (qn97 + 1)) zn100 iek iep), (oX5 r1 k1 k2 k3 (nI ct)), (k1, .inl (cA 0, 701, .inl fk)), (k2, .inl (cA 0, 701, .inl ft)), (k3, .inl (cA 1, 701, .inr (.inl fv)))] H := ⟨hP, hD⟩
                    have hn131 := hn131 (hw.1.trans hr9)
                    have hn132 := hn132 (hw.1.trans hr9)
                    subst hr9
                    refine lv_if_ne (tgt := 128) hx hb dX4_readMilestone_123 (by decide) (fun c137 => ?_) (fun c9 => absurd c9 (by decide))
                    refine lv_aload_n hx hb dX4_readMilestone_128 rfl (lv_at hl 3 rfl) ?_
                    refine va_get (D := D) (ci := 8) (v := .ref p0) (C := RX4) (T := TX4) (N := 9) hx hb hts inX4 hown hK hP 9 rfl rfl 1 (by decide) (hts (.fieldLink RX4 25 "EscrowDesk$Reader" "plan" "LEscrowDesk$Plan;") (by decide +kernel)) (fun _ h9 => h9) rfl dX4_readMilestone_129 ?_
                    refine lv_lload_n hx hb dX4_readMilestone_132 rfl (lv_at hl 2 rfl) ?_
                    refine lv_iload_n hx hb dX4_readMilestone_133 rfl (lv_at hl 1 rfl) ?_
                    refine lv_iload hx hb dX4_readMilestone_134 (lv_at hl 0 rfl) ?_
                    obtain ⟨hPc, hDc, hFc⟩ := PDq.cut (wc := [(oX3 p0 pr pb pe pg p1 (nI nd) p2 p3 p4 p5 (nI cn) p6 (nI qn98) p7 p8 p9 (nI qn99)), (p2, .inl (cA 1, 10, .inr (.inl fna))), (p3, .inl (cA 0, 10, .inl fam)), (p4, .inl (cA 0, 10, .inl fpi)), (p5, .inl (cA 0, 10, .inl fby)), (p9, .inl (cA 0, 10, .inl fen))]) hP hD hS hA [4, 5, 0, 1, 2, 3] (by decide) rfl
                    refine va_callv (va_runV (As := [.long (fv (ti + 1)), .int zn47, .int zn64]) (rest := []) ⟨hx, hb, hml, hown, hts⟩ (x_addMilestone l D cA sa p0 p1 p2 p3 p4 p5 p6 p7 p8 p9 cn qn98 nd qn99 pr pb pe pg (fv (ti + 1)) zn47 zn64 fam fpi fby fen fna ml H.size hcn hn110 hnd hn111 hby hen hNM hn3) (cwV 3 hts gX4_readMilestone_X3_addMilestone rfl rfl rfl (by decide +kernel) ⟨(Nat.le_of_ble_eq_true rfl), (Nat.le_of_ble_eq_true rfl)⟩) ⟨Wd.blind, va_recv hK hPc (ci := 7) (q0 := 0) rfl rfl, fun U hU hW => ⟨rfl, Wd.call hPc hDc hK hC hZ hS hFc U hU hW⟩⟩ rfl rfl hl.1 rfl (lv_room (Nat.le_of_ble_eq_true rfl)) dX4_readMilestone_136 ⟨(Nat.le_of_ble_eq_true rfl), (Nat.le_of_ble_eq_true rfl)⟩) hS (fun q _ h => hFc q h) hFc (fun u t H1 locs ht hvm hw hB hz1 hk1 hS => ?_)
                    obtain ⟨fn138, fn139, fn140, fn141, fn142, hn143, hn144, hn145, hP1, hD1⟩ := hB
                    rw [ht] at hP1
                    obtain ⟨hP, hD⟩ := PDq.join (w := [(p6, .inl (cA 1, 8, .inr (.inl fn103))), (p7, .inl (cA 0, 350, .inl fn104)), (p8, .inl (cA 0, 350, .inl fn105)), (oX4 r0 r1 p0 (nI (qn97 + 1)) (fk (qn97 + 1)) (ft (qn97 + 1)) (fv (qn97 + 1)) zn100 iek iep), (oX5 r1 k1 k2 k3 (nI ct)), (k1, .inl (cA 0, 701, .inl fk)), (k2, .inl (cA 0, 701, .inl ft)), (k3, .inl (cA 1, 701, .inr (.inl fv))), (oX3 p0 pr pb pe pg p1 (nI nd) p2 p3 p4 p5 (nI (cn + 1)) p6 (nI qn98) p7 p8 p9 (nI qn99)), (p2, .inl (cA 1, 10, .inr (.inl fn138))), (p3, .inl (cA 0, 10, .inl fn139)), (p4, .inl (cA 0, 10, .inl fn140)), (p5, .inl (cA 0, 10, .inl fn141)), (p9, .inl (cA 0, 10, .inl fn142))]) 8 hP hD [4, 5, 0, 1, 2, 3] [6, 7, 8, 9, 10, 11, 12, 13] rfl rfl (by decide) (by decide +kernel) hk1 hFc hP1 hD1 rfl
                    generalize H1 = H at hP hS ⊢
                    refine lv_iconst (v := 1) hx hb dX4_readMilestone_139 (by decide) ?_
                    obtain ⟨hP9, hD9⟩ := PDq.sub (ws' := [(oX4 r0 r1 p0 (nI (qn97 + 1)) (fk (qn97 + 1)) (ft (qn97 + 1)) (fv (qn97 + 1)) zn100 iek iep), (oX5 r1 k1 k2 k3 (nI ct)), (k1, .inl (cA 0, 701, .inl fk)), (k2, .inl (cA 0, 701, .inl ft)), (k3, .inl (cA 1, 701, .inr (.inl fv))), (oX3 p0 pr pb pe pg p1 (nI nd) p2 p3 p4 p5 (nI (cn + 1)) p6 (nI qn98) p7 p8 p9 (nI qn99)), (p2, .inl (cA 1, 10, .inr (.inl fn138))), (p6, .inl (cA 1, 8, .inr (.inl fn103))), (p7, .inl (cA 0, 350, .inl fn104)), (p8, .inl (cA 0, 350, .inl fn105)), (p3, .inl (cA 0, 10, .inl fn139)), (p4, .inl (cA 0, 10, .inl fn140)), (p5, .inl (cA 0, 10, .inl fn141)), (p9, .inl (cA 0, 10, .inl fn142))]) hP hD [3, 4, 5, 6, 7, 8, 9, 0, 1, 2, 10, 11, 12, 13] (by decide +kernel) rfl
                    refine W.widen (k := 0) (n := 0) (Nat.le_of_ble_eq_true rfl) (Nat.le_of_ble_eq_true rfl) ?_
                    exact (W.zret (v := 1) hx hb hr (by first | rfl | decide) (fun t ht hW => ⟨⟨1, 1, rfl, ⟨rfl, by decide⟩, (qn97 + 1), zn100, iek, iep, (cn + 1), qn98, qn99, fn138, fn103, fn104, fn105, fn139, fn140, fn141, fn142, (ml ++ [(fv (ti + 1))]), zn106, hn125, hn126, (by omega), hn110, hn111, hn143, hn112, hn144, hn145, (fun _ => rfl), (fun _ => rfl), (fun _ => (by omega)), (fun _ => (by omega)), (fun _ => ⟨_, S_mil hk (fun q9 => absurd (hNM.1.symm.trans q9) (by omega)) hn39 hn24 hn57 hn74 hn90 hn117, hn132, rfl⟩), (fun h9 => absurd h9 (by decide)), by rw [ht]; exact hP9, hD9⟩, hS.F ht⟩) hS.2.2 dX4_readMilestone_140)
      · skip
        subst hr9
        have hn24 := NL.mem hNM hn26 hn24
        refine lv_iconst (v := (-1)) hx hb dX4_readMilestone_47 (by decide) ?_
        refine lv_icmp_eq (tgt := 57) hx hb dX4_readMilestone_48 (by decide) (fun c9 => absurd c9 (nI_neg (n := kn25) (by omega) (by decide))) (fun c146 => ?_)
        refine lv_aload_n hx hb dX4_readMilestone_51 rfl (lv_at hl 1 rfl) ?_
        refine lv_iconst (v := 4) hx hb dX4_readMilestone_52 (by decide) ?_
        obtain ⟨hPc, hDc, hFc⟩ := PDq.cut (wc := [(oX4 r0 r1 p0 (nI (ti + 1)) (fk (ti + 1)) (ft (ti + 1)) (fv (ti + 1)) inb iek iep)]) hP hD hS hA [7] (by decide) rfl
        refine va_calli (va_runV (As := [.int 4]) (rest := []) ⟨hx, hb, hml, hown, hts⟩ (x_fail l D cA sa r0 r1 p0 (nI (ti + 1)) (fk (ti + 1)) (ft (ti + 1)) inb iek iep (fv (ti + 1)) 4 H.size) (cwV 1 hts gX4_readMilestone_X4_fail rfl rfl rfl (by decide +kernel) ⟨(Nat.le_of_ble_eq_true rfl), (Nat.le_of_ble_eq_true rfl)⟩) ⟨Wd.blind, va_recv hK hPc (ci := 8) (q0 := 0) rfl rfl, fun U hU hW => ⟨rfl, Wd.call hPc hDc hK hC hZ hS hFc U hU hW⟩⟩ rfl rfl hl.1 rfl (lv_room (Nat.le_of_ble_eq_true rfl)) dX4_readMilestone_53 ⟨(Nat.le_of_ble_eq_true rfl), (Nat.le_of_ble_eq_true rfl)⟩) hS (fun q _ h => hFc q h) hFc (fun rn147 u t H1 locs ht hvm hw hB hz1 hk1 hS => ?_)
        obtain ⟨zn148, hn149, hP1, hD1⟩ := hB
        rw [ht] at hP1
        obtain ⟨hP, hD⟩ := PDq.join (w := [(p6, .inl (cA 1, 8, .inr (.inl fpn))), (p7, .inl (cA 0, 350, .inl fst)), (p8, .inl (cA 0, 350, .inl fop)), (p3, .inl (cA 0, 10, .inl fam)), (p4, .inl (cA 0, 10, .inl fpi)), (p5, .inl (cA 0, 10, .inl fby)), (p9, .inl (cA 0, 10, .inl fen)), (oX5 r1 k1 k2 k3 (nI ct)), (k1, .inl (cA 0, 701, .inl fk)), (k2, .inl (cA 0, 701, .inl ft)), (k3, .inl (cA 1, 701, .inr (.inl fv))), (oX3 p0 pr pb pe pg p1 (nI nd) p2 p3 p4 p5 (nI cn) p6 (nI pq) p7 p8 p9 (nI sc)), (p2, .inl (cA 1, 10, .inr (.inl fna))), (oX4 r0 r1 p0 (nI (ti + 1)) (fk (ti + 1)) (ft (ti + 1)) (fv (ti + 1)) inb zn148 (ft (ti + 1)))]) 13 hP hD [7] [0, 1, 2, 3, 4, 5, 6, 8, 9, 10, 11, 12, 13] rfl rfl (by decide +kernel) (by decide +kernel) hk1 hFc hP1 hD1 rfl
        generalize H1 = H at hP hS ⊢
        obtain rfl : rn147 = 0 := hw
        obtain ⟨hP9, hD9⟩ := PDq.sub (ws' := [(oX4 r0 r1 p0 (nI (ti + 1)) (fk (ti + 1)) (ft (ti + 1)) (fv (ti + 1)) inb zn148 (ft (ti + 1))), (oX5 r1 k1 k2 k3 (nI ct)), (k1, .inl (cA 0, 701, .inl fk)), (k2, .inl (cA 0, 701, .inl ft)), (k3, .inl (cA 1, 701, .inr (.inl fv))), (oX3 p0 pr pb pe pg p1 (nI nd) p2 p3 p4 p5 (nI cn) p6 (nI pq) p7 p8 p9 (nI sc)), (p2, .inl (cA 1, 10, .inr (.inl fna))), (p6, .inl (cA 1, 8, .inr (.inl fpn))), (p7, .inl (cA 0, 350, .inl fst)), (p8, .inl (cA 0, 350, .inl fop)), (p3, .inl (cA 0, 10, .inl fam)), (p4, .inl (cA 0, 10, .inl fpi)), (p5, .inl (cA 0, 10, .inl fby)), (p9, .inl (cA 0, 10, .inl fen))]) hP hD [13, 7, 8, 9, 10, 11, 12, 0, 1, 2, 3, 4, 5, 6] (by decide +kernel) rfl
        refine W.widen (k := 0) (n := 0) (Nat.le_of_ble_eq_true rfl) (Nat.le_of_ble_eq_true rfl) ?_
        exact (W.zret (v := 0) hx hb hr (by first | rfl | decide) (fun t ht hW => ⟨⟨0, 0, rfl, ⟨rfl, by decide⟩, (ti + 1), inb, zn148, (ft (ti + 1)), cn, pq, sc, fna, fpn, fst, fop, fam, fpi, fby, fen, ml, pl, hn1.1, (by omega), hcn, hpq, hsc, hNM, hNP, hby, hen, (fun h9 => absurd h9 (by decide)), (fun h9 => absurd h9 (by decide)), (fun h9 => absurd h9 (by decide)), (fun h9 => absurd h9 (by decide)), (fun h9 => absurd h9 (by decide)), (fun _ => (Or.inl (S_milDx hk (fun q9 => absurd (hNM.1.symm.trans q9) (by omega)) c6 hn24 hn149 rfl))), by rw [ht]; exact hP9, hD9⟩, hS.F ht⟩) hS.2.2 dX4_readMilestone_56)
  · skip
    subst hr9
    refine lv_if_ne (tgt := 16) hx hb dX4_readMilestone_7 (by decide) (fun c9 => absurd c9 (by decide)) (fun c150 => ?_)
    refine lv_aload_n hx hb dX4_readMilestone_10 rfl (lv_at hl 0 rfl) ?_
    refine lv_iconst (v := 5) hx hb dX4_readMilestone_11 (by decide) ?_
    obtain ⟨hPc, hDc, hFc⟩ := PDq.cut (wc := [(oX4 r0 r1 p0 (nI ti) (fk ti) (ft ti) (fv ti) inb iek iep)]) hP hD hS hA [0] (by decide) rfl
    refine va_calli (va_runV (As := [.int 5]) (rest := []) ⟨hx, hb, hml, hown, hts⟩ (x_fail l D cA sa r0 r1 p0 (nI ti) (fk ti) (ft ti) inb iek iep (fv ti) 5 H.size) (cwV 1 hts gX4_readMilestone_X4_fail rfl rfl rfl (by decide +kernel) ⟨(Nat.le_of_ble_eq_true rfl), (Nat.le_of_ble_eq_true rfl)⟩) ⟨Wd.blind, va_recv hK hPc (ci := 8) (q0 := 0) rfl rfl, fun U hU hW => ⟨rfl, Wd.call hPc hDc hK hC hZ hS hFc U hU hW⟩⟩ rfl rfl hl.1 rfl (lv_room (Nat.le_of_ble_eq_true rfl)) dX4_readMilestone_12 ⟨(Nat.le_of_ble_eq_true rfl), (Nat.le_of_ble_eq_true rfl)⟩) hS (fun q _ h => hFc q h) hFc (fun rn151 u t H1 locs ht hvm hw hB hz1 hk1 hS => ?_)
    obtain ⟨zn152, hn153, hP1, hD1⟩ := hB
    rw [ht] at hP1
    obtain ⟨hP, hD⟩ := PDq.join (w := [(oX5 r1 k1 k2 k3 (nI ct)), (k1, .inl (cA 0, 701, .inl fk)), (k2, .inl (cA 0, 701, .inl ft)), (k3, .inl (cA 1, 701, .inr (.inl fv))), (p2, .inl (cA 1, 10, .inr (.inl fna))), (p6, .inl (cA 1, 8, .inr (.inl fpn))), (p7, .inl (cA 0, 350, .inl fst)), (p8, .inl (cA 0, 350, .inl fop)), (p3, .inl (cA 0, 10, .inl fam)), (p4, .inl (cA 0, 10, .inl fpi)), (p5, .inl (cA 0, 10, .inl fby)), (p9, .inl (cA 0, 10, .inl fen)), (oX3 p0 pr pb pe pg p1 (nI nd) p2 p3 p4 p5 (nI cn) p6 (nI pq) p7 p8 p9 (nI sc)), (oX4 r0 r1 p0 (nI ti) (fk ti) (ft ti) (fv ti) inb zn152 (ft ti))]) 13 hP hD [0] [1, 2, 3, 4, 5, 6, 7, 8, 9, 10, 11, 12, 13] rfl rfl (by decide +kernel) (by decide +kernel) hk1 hFc hP1 hD1 rfl
    generalize H1 = H at hP hS ⊢
    obtain rfl : rn151 = 0 := hw
    obtain ⟨hP9, hD9⟩ := PDq.sub (ws' := [(oX4 r0 r1 p0 (nI ti) (fk ti) (ft ti) (fv ti) inb zn152 (ft ti)), (oX5 r1 k1 k2 k3 (nI ct)), (k1, .inl (cA 0, 701, .inl fk)), (k2, .inl (cA 0, 701, .inl ft)), (k3, .inl (cA 1, 701, .inr (.inl fv))), (oX3 p0 pr pb pe pg p1 (nI nd) p2 p3 p4 p5 (nI cn) p6 (nI pq) p7 p8 p9 (nI sc)), (p2, .inl (cA 1, 10, .inr (.inl fna))), (p6, .inl (cA 1, 8, .inr (.inl fpn))), (p7, .inl (cA 0, 350, .inl fst)), (p8, .inl (cA 0, 350, .inl fop)), (p3, .inl (cA 0, 10, .inl fam)), (p4, .inl (cA 0, 10, .inl fpi)), (p5, .inl (cA 0, 10, .inl fby)), (p9, .inl (cA 0, 10, .inl fen))]) hP hD [13, 0, 1, 2, 3, 12, 4, 5, 6, 7, 8, 9, 10, 11] (by decide +kernel) rfl
    refine W.widen (k := 0) (n := 0) (Nat.le_of_ble_eq_true rfl) (Nat.le_of_ble_eq_true rfl) ?_
    exact (W.zret (v := 0) hx hb hr (by first | rfl | decide) (fun t ht hW => ⟨⟨0, 0, rfl, ⟨rfl, by decide⟩, ti, inb, zn152, (ft ti), cn, pq, sc, fna, fpn, fst, fop, fam, fpi, fby, fen, ml, pl, hti, (by omega), hcn, hpq, hsc, hNM, hNP, hby, hen, (fun h9 => absurd h9 (by decide)), (fun h9 => absurd h9 (by decide)), (fun h9 => absurd h9 (by decide)), (fun h9 => absurd h9 (by decide)), (fun h9 => absurd h9 (by decide)), (fun _ => (Or.inl (S_milFx hk (hNM.1.trans (by omega)) hn153 rfl))), by rw [ht]; exact hP9, hD9⟩, hS.F ht⟩) hS.2.2 dX4_readMilestone_15)

set_option maxHeartbeats 4000000 in
set_option maxRecDepth 100000 in
/-- Plan.clear -/
theorem x_planClear (l : Launch) (D : va_G) (cA : Nat → ClassId) (sa : Nat → Nat) (p0 : Nat) (p1 : Nat) (p2 : Nat) (p3 : Nat) (p4 : Nat) (p5 : Nat) (p6 : Nat) (p7 : Nat) (p8 : Nat) (p9 : Nat) (cn : Nat) (pq : Nat) (nd : Nat) (sc : Nat) (pr : Int32) (pb : Int32) (pe : Int32) (pg : Int32) (sz : Nat) : Met l yX3_clear wsX3_clear ({ frames := 0, cells := 0, slots := 0, locals := 0 }) (va_Pc [.ref p0] (Wd D cA sa [(oX3 p0 pr pb pe pg p1 (nI nd) p2 p3 p4 p5 (nI cn) p6 (nI pq) p7 p8 p9 (nI sc))] sz)) (va_Qv (fun _ : Unit => True) (fun (_ : Unit) t => ∃ zra : Int32, ∃ zba : Int32, ∃ zea : Int32, ∃ zga : Int32, Wq D (va_A [(oX3 p0 pr pb pe pg p1 (nI nd) p2 p3 p4 p5 (nI cn) p6 (nI pq) p7 p8 p9 (nI sc))] sz) [(oX3 p0 zra zba zea zga p1 0 p2 p3 p4 p5 0 p6 0 p7 p8 p9 0)] t) (va_A [(oX3 p0 pr pb pe pg p1 (nI nd) p2 p3 p4 p5 (nI cn) p6 (nI pq) p7 p8 p9 (nI sc))] sz)) 0 0 (va_A [(oX3 p0 pr pb pe pg p1 (nI nd) p2 p3 p4 p5 (nI cn) p6 (nI pq) p7 p8 p9 (nI sc))] sz) := by
  refine Met.ofW (cc := cX3_clear) (maxL := 1) (ret := none) (by decide) rfl ?_
  intro p e s m args below meth c s₁ B hml hv
  obtain ⟨rfl, hsz, hP, hK, hD0, hC, hZ⟩ := hv
  have hx := B.exec
  have hb := B.bytes
  have hr := B.returns
  have hts := atoms_spec (ws := wsX3_clear) B.pre
  have hown : s.vm.findClass RX3 = some m.cls := findClass_of_methodNamed B.named
  have hlocks := B.notSynchronized
  subst hsz
  have hD := hD0.self (sz := s.heap.size)
  generalize hAe : va_A [(oX3 p0 pr pb pe pg p1 (nI nd) p2 p3 p4 p5 (nI cn) p6 (nI pq) p7 p8 p9 (nI sc))] s.heap.size = A at hD hZ ⊢
  have hA : ∀ q : Nat, s.heap.size ≤ q → A q := fun q h => by rw [← hAe]; exact Or.inr h
  have hS : va_S A s.heap s.heap [] := va_S.rf
  have hP : va_P D vwCl [(oX3 p0 pr pb pe pg p1 (nI nd) p2 p3 p4 p5 (nI cn) p6 (nI pq) p7 p8 p9 (nI sc))] s.heap := hP
  have hl := lv_entry ([.ref p0]) (n := 1) (Nat.le_of_ble_eq_true rfl)
  rw [lg_entry_eq]
  generalize (lg_sl ([.ref p0]) ++ List.replicate (1 - (lg_sl ([.ref p0])).length) Slot.unset).toArray = ls at hl ⊢
  have hl : lv_has ls 1 [(0, .ref p0)] := hl
  have inX3 : ∀ w ∈ u_ws RX3 TX3 17, w ∈ wsX3_clear := by decide +kernel
  refine lv_aload_n hx hb dX3_clear_0 rfl (lv_at hl 0 rfl) ?_
  refine lv_iconst (v := 0) hx hb dX3_clear_1 (by decide) ?_
  refine va_put (D := D) (ci := 7) (v := .int 0) (ty := .int) (C := RX3) (T := TX3) (N := 17) hx hb hts inX3 tyX3 tyX3_ok nmX3 hown hK hP hD hS 0 rfl rfl 0 (by decide) (hts (.fieldLink RX3 44 "EscrowDesk$Plan" "rate" "I") (by decide +kernel)) (fun _ h9 => h9) rfl (by decide +kernel) rfl rfl (Nat.le_of_ble_eq_true rfl) dX3_clear_2 (fun H locs hP hD hS => ?_)
  obtain ⟨hP, hD⟩ : PDq D A [(oX3 p0 0 pb pe pg p1 (nI nd) p2 p3 p4 p5 (nI cn) p6 (nI pq) p7 p8 p9 (nI sc))] H := ⟨hP, hD⟩
  refine lv_aload_n hx hb dX3_clear_5 rfl (lv_at hl 0 rfl) ?_
  refine lv_sipush (v := 365) hx hb dX3_clear_6 (by decide) ?_
  refine va_put (D := D) (ci := 7) (v := .int 365) (ty := .int) (C := RX3) (T := TX3) (N := 17) hx hb hts inX3 tyX3 tyX3_ok nmX3 hown hK hP hD hS 0 rfl rfl 1 (by decide) (hts (.fieldLink RX3 9 "EscrowDesk$Plan" "basis" "I") (by decide +kernel)) (fun _ h9 => h9) rfl (by decide +kernel) rfl rfl (Nat.le_of_ble_eq_true rfl) dX3_clear_9 (fun H locs hP hD hS => ?_)
  obtain ⟨hP, hD⟩ : PDq D A [(oX3 p0 0 365 pe pg p1 (nI nd) p2 p3 p4 p5 (nI cn) p6 (nI pq) p7 p8 p9 (nI sc))] H := ⟨hP, hD⟩
  refine lv_aload_n hx hb dX3_clear_12 rfl (lv_at hl 0 rfl) ?_
  refine lv_iconst (v := 0) hx hb dX3_clear_13 (by decide) ?_
  refine va_put (D := D) (ci := 7) (v := .int 0) (ty := .int) (C := RX3) (T := TX3) (N := 17) hx hb hts inX3 tyX3 tyX3_ok nmX3 hown hK hP hD hS 0 rfl rfl 2 (by decide) (hts (.fieldLink RX3 47 "EscrowDesk$Plan" "fee" "I") (by decide +kernel)) (fun _ h9 => h9) rfl (by decide +kernel) rfl rfl (Nat.le_of_ble_eq_true rfl) dX3_clear_14 (fun H locs hP hD hS => ?_)
  obtain ⟨hP, hD⟩ : PDq D A [(oX3 p0 0 365 0 pg p1 (nI nd) p2 p3 p4 p5 (nI cn) p6 (nI pq) p7 p8 p9 (nI sc))] H := ⟨hP, hD⟩
  refine lv_aload_n hx hb dX3_clear_17 rfl (lv_at hl 0 rfl) ?_
  refine lv_iconst (v := 0) hx hb dX3_clear_18 (by decide) ?_
  refine va_put (D := D) (ci := 7) (v := .int 0) (ty := .int) (C := RX3) (T := TX3) (N := 17) hx hb hts inX3 tyX3 tyX3_ok nmX3 hown hK hP hD hS 0 rfl rfl 3 (by decide) (hts (.fieldLink RX3 50 "EscrowDesk$Plan" "grace" "I") (by decide +kernel)) (fun _ h9 => h9) rfl (by decide +kernel) rfl rfl (Nat.le_of_ble_eq_true rfl) dX3_clear_19 (fun H locs hP hD hS => ?_)
  obtain ⟨hP, hD⟩ : PDq D A [(oX3 p0 0 365 0 0 p1 (nI nd) p2 p3 p4 p5 (nI cn) p6 (nI pq) p7 p8 p9 (nI sc))] H := ⟨hP, hD⟩
  refine lv_aload_n hx hb dX3_clear_22 rfl (lv_at hl 0 rfl) ?_
  refine lv_iconst (v := 0) hx hb dX3_clear_23 (by decide) ?_
  refine va_put (D := D) (ci := 7) (v := .int 0) (ty := .int) (C := RX3) (T := TX3) (N := 17) hx hb hts inX3 tyX3 tyX3_ok nmX3 hown hK hP hD hS 0 rfl rfl 5 (by decide) (hts (.fieldLink RX3 53 "EscrowDesk$Plan" "depositCount" "I") (by decide +kernel)) (fun _ h9 => h9) rfl (by decide +kernel) rfl rfl (Nat.le_of_ble_eq_true rfl) dX3_clear_24 (fun H locs hP hD hS => ?_)
  obtain ⟨hP, hD⟩ : PDq D A [(oX3 p0 0 365 0 0 p1 0 p2 p3 p4 p5 (nI cn) p6 (nI pq) p7 p8 p9 (nI sc))] H := ⟨hP, hD⟩
  refine lv_aload_n hx hb dX3_clear_27 rfl (lv_at hl 0 rfl) ?_
  refine lv_iconst (v := 0) hx hb dX3_clear_28 (by decide) ?_
  refine va_put (D := D) (ci := 7) (v := .int 0) (ty := .int) (C := RX3) (T := TX3) (N := 17) hx hb hts inX3 tyX3 tyX3_ok nmX3 hown hK hP hD hS 0 rfl rfl 10 (by decide) (hts (.fieldLink RX3 56 "EscrowDesk$Plan" "milestoneCount" "I") (by decide +kernel)) (fun _ h9 => h9) rfl (by decide +kernel) rfl rfl (Nat.le_of_ble_eq_true rfl) dX3_clear_29 (fun H locs hP hD hS => ?_)
  obtain ⟨hP, hD⟩ : PDq D A [(oX3 p0 0 365 0 0 p1 0 p2 p3 p4 p5 0 p6 (nI pq) p7 p8 p9 (nI sc))] H := ⟨hP, hD⟩
  refine lv_aload_n hx hb dX3_clear_32 rfl (lv_at hl 0 rfl) ?_
  refine lv_iconst (v := 0) hx hb dX3_clear_33 (by decide) ?_
  refine va_put (D := D) (ci := 7) (v := .int 0) (ty := .int) (C := RX3) (T := TX3) (N := 17) hx hb hts inX3 tyX3 tyX3_ok nmX3 hown hK hP hD hS 0 rfl rfl 12 (by decide) (hts (.fieldLink RX3 59 "EscrowDesk$Plan" "proofCount" "I") (by decide +kernel)) (fun _ h9 => h9) rfl (by decide +kernel) rfl rfl (Nat.le_of_ble_eq_true rfl) dX3_clear_34 (fun H locs hP hD hS => ?_)
  obtain ⟨hP, hD⟩ : PDq D A [(oX3 p0 0 365 0 0 p1 0 p2 p3 p4 p5 0 p6 0 p7 p8 p9 (nI sc))] H := ⟨hP, hD⟩
  refine lv_aload_n hx hb dX3_clear_37 rfl (lv_at hl 0 rfl) ?_
  refine lv_iconst (v := 0) hx hb dX3_clear_38 (by decide) ?_
  refine va_put (D := D) (ci := 7) (v := .int 0) (ty := .int) (C := RX3) (T := TX3) (N := 17) hx hb hts inX3 tyX3 tyX3_ok nmX3 hown hK hP hD hS 0 rfl rfl 16 (by decide) (hts (.fieldLink RX3 62 "EscrowDesk$Plan" "stepCount" "I") (by decide +kernel)) (fun _ h9 => h9) rfl (by decide +kernel) rfl rfl (Nat.le_of_ble_eq_true rfl) dX3_clear_39 (fun H locs hP hD hS => ?_)
  obtain ⟨hP, hD⟩ : PDq D A [(oX3 p0 0 365 0 0 p1 0 p2 p3 p4 p5 0 p6 0 p7 p8 p9 0)] H := ⟨hP, hD⟩
  obtain ⟨hP9, hD9⟩ := PDq.sub (ws' := [(oX3 p0 0 365 0 0 p1 0 p2 p3 p4 p5 0 p6 0 p7 p8 p9 0)]) hP hD [0] (by decide) rfl
  refine W.widen (k := 0) (n := 0) (Nat.le_of_ble_eq_true rfl) (Nat.le_of_ble_eq_true rfl) ?_
  exact (W.vret hx hb hr (fun t ht hW => ⟨⟨(), rfl, trivial, 0, 365, 0, 0, by rw [ht]; exact hP9, hD9⟩, hS.F ht⟩) hS.2.2 dX3_clear_42)

set_option maxHeartbeats 4000000 in
set_option maxRecDepth 100000 in
/-- readText -/
theorem x_readText (l : Launch) (D : va_G) (cA : Nat → ClassId) (sa : Nat → Nat) (r0 : Nat) (p0 : Nat) (ir2 : Int32) (ir3 : Int32) (ir4 : Int32) (ir6 : Int32) (ir7 : Int32) (ir8 : Int32) (ir5 : Int64) (r1 : Nat) (k1 : Nat) (k2 : Nat) (k3 : Nat) (ct : Nat) (fk : Nat → Int32) (ft : Nat → Int32) (fv : Nat → Int64) (p1 : Nat) (p2 : Nat) (p3 : Nat) (p4 : Nat) (p5 : Nat) (p6 : Nat) (p7 : Nat) (p8 : Nat) (p9 : Nat) (cn : Nat) (pq : Nat) (nd : Nat) (sc : Nat) (pr : Int32) (pb : Int32) (pe : Int32) (pg : Int32) (fde : Nat → Int32) (fam : Nat → Int32) (fpi : Nat → Int32) (fby : Nat → Int32) (fst : Nat → Int32) (fop : Nat → Int32) (fen : Nat → Int32) (fna : Nat → Int64) (fpn : Nat → Int64) (rq : Nat) (b0 : Nat) (ln : Nat) (fb : Nat → Int32) (sz : Nat) (hct : ct ≤ 701) (hby : Rng 10 10 fby) (hen : Rng 10 351 fen) (hln : ln ≤ 700) : Met l yX4_readText wsX4_readText ({ frames := 48, cells := 0, slots := 0, locals := 991 }) (va_Pc [.ref r0, .ref b0, .int (nI ln), .ref p0] (Wd D cA sa [(oX4 r0 r1 rq ir2 ir3 ir4 ir5 ir6 ir7 ir8), (oX5 r1 k1 k2 k3 (nI ct)), (k1, .inl (cA 0, 701, .inl fk)), (k2, .inl (cA 0, 701, .inl ft)), (k3, .inl (cA 1, 701, .inr (.inl fv))), (b0, .inl (cA 2, 700, .inl fb)), (oX3 p0 pr pb pe pg p1 (nI nd) p2 p3 p4 p5 (nI cn) p6 (nI pq) p7 p8 p9 (nI sc)), (p1, .inl (cA 0, 6, .inl fde)), (p2, .inl (cA 1, 10, .inr (.inl fna))), (p3, .inl (cA 0, 10, .inl fam)), (p4, .inl (cA 0, 10, .inl fpi)), (p5, .inl (cA 0, 10, .inl fby)), (p6, .inl (cA 1, 8, .inr (.inl fpn))), (p7, .inl (cA 0, 350, .inl fst)), (p8, .inl (cA 0, 350, .inl fop)), (p9, .inl (cA 0, 10, .inl fen))] sz)) (va_Qi (fun (r : Int32) (u9 : Int32) => u9 = r ∧ (r = 0 ∨ r = 1)) (fun (u9 : Int32) t => ∃ zr2 : Int32, ∃ zr3 : Int32, ∃ zr4 : Int32, ∃ zr6 : Int32, ∃ zr7 : Int32, ∃ zr8 : Int32, ∃ zr5 : Int64, ∃ cy : Nat, ∃ zk : Nat → Int32, ∃ zt : Nat → Int32, ∃ zv : Nat → Int64, ∃ cm : Nat, ∃ qm : Nat, ∃ dm : Nat, ∃ sm : Nat, ∃ zra : Int32, ∃ zba : Int32, ∃ zea : Int32, ∃ zga : Int32, ∃ zde : Nat → Int32, ∃ zam : Nat → Int32, ∃ zpi : Nat → Int32, ∃ zby : Nat → Int32, ∃ zst : Nat → Int32, ∃ zop : Nat → Int32, ∃ zen : Nat → Int32, ∃ zna : Nat → Int64, ∃ zpn : Nat → Int64, ∃ zml : List Int64, ∃ zpl : List Int64, cy ≤ 701 ∧ TXE fb ln cy zt zv zk ∧ cm ≤ 10 ∧ qm ≤ 8 ∧ dm ≤ 6 ∧ sm ≤ 350 ∧ Rng 10 10 zby ∧ Rng 10 351 zen ∧ NL zml cm zna ∧ NL zpl qm zpn ∧ (u9 = 1 → zr7 = 0) ∧ (u9 = 1 → zr8 = (-1)) ∧ (u9 = 1 → TP zk zt zv 0 0 [] [] (.inr (zml, zpl))) ∧ (u9 = 0 → TP zk zt zv 0 0 [] [] (.inl (zr7, zr8))) ∧ Wq D (va_A [(oX4 r0 r1 rq ir2 ir3 ir4 ir5 ir6 ir7 ir8), (oX5 r1 k1 k2 k3 (nI ct)), (k1, .inl (cA 0, 701, .inl fk)), (k2, .inl (cA 0, 701, .inl ft)), (k3, .inl (cA 1, 701, .inr (.inl fv))), (b0, .inl (cA 2, 700, .inl fb)), (oX3 p0 pr pb pe pg p1 (nI nd) p2 p3 p4 p5 (nI cn) p6 (nI pq) p7 p8 p9 (nI sc)), (p1, .inl (cA 0, 6, .inl fde)), (p2, .inl (cA 1, 10, .inr (.inl fna))), (p3, .inl (cA 0, 10, .inl fam)), (p4, .inl (cA 0, 10, .inl fpi)), (p5, .inl (cA 0, 10, .inl fby)), (p6, .inl (cA 1, 8, .inr (.inl fpn))), (p7, .inl (cA 0, 350, .inl fst)), (p8, .inl (cA 0, 350, .inl fop)), (p9, .inl (cA 0, 10, .inl fen))] sz) [(oX4 r0 r1 p0 zr2 zr3 zr4 zr5 zr6 zr7 zr8), (oX5 r1 k1 k2 k3 (nI cy)), (k1, .inl (cA 0, 701, .inl zk)), (k2, .inl (cA 0, 701, .inl zt)), (k3, .inl (cA 1, 701, .inr (.inl zv))), (b0, .inl (cA 2, 700, .inl fb)), (oX3 p0 zra zba zea zga p1 (nI dm) p2 p3 p4 p5 (nI cm) p6 (nI qm) p7 p8 p9 (nI sm)), (p1, .inl (cA 0, 6, .inl zde)), (p2, .inl (cA 1, 10, .inr (.inl zna))), (p3, .inl (cA 0, 10, .inl zam)), (p4, .inl (cA 0, 10, .inl zpi)), (p5, .inl (cA 0, 10, .inl zby)), (p6, .inl (cA 1, 8, .inr (.inl zpn))), (p7, .inl (cA 0, 350, .inl zst)), (p8, .inl (cA 0, 350, .inl zop)), (p9, .inl (cA 0, 10, .inl zen))] t) (va_A [(oX4 r0 r1 rq ir2 ir3 ir4 ir5 ir6 ir7 ir8), (oX5 r1 k1 k2 k3 (nI ct)), (k1, .inl (cA 0, 701, .inl fk)), (k2, .inl (cA 0, 701, .inl ft)), (k3, .inl (cA 1, 701, .inr (.inl fv))), (b0, .inl (cA 2, 700, .inl fb)), (oX3 p0 pr pb pe pg p1 (nI nd) p2 p3 p4 p5 (nI cn) p6 (nI pq) p7 p8 p9 (nI sc)), (p1, .inl (cA 0, 6, .inl fde)), (p2, .inl (cA 1, 10, .inr (.inl fna))), (p3, .inl (cA 0, 10, .inl fam)), (p4, .inl (cA 0, 10, .inl fpi)), (p5, .inl (cA 0, 10, .inl fby)), (p6, .inl (cA 1, 8, .inr (.inl fpn))), (p7, .inl (cA 0, 350, .inl fst)), (p8, .inl (cA 0, 350, .inl fop)), (p9, .inl (cA 0, 10, .inl fen))] sz)) 0 0 (va_A [(oX4 r0 r1 rq ir2 ir3 ir4 ir5 ir6 ir7 ir8), (oX5 r1 k1 k2 k3 (nI ct)), (k1, .inl (cA 0, 701, .inl fk)), (k2, .inl (cA 0, 701, .inl ft)), (k3, .inl (cA 1, 701, .inr (.inl fv))), (b0, .inl (cA 2, 700, .inl fb)), (oX3 p0 pr pb pe pg p1 (nI nd) p2 p3 p4 p5 (nI cn) p6 (nI pq) p7 p8 p9 (nI sc)), (p1, .inl (cA 0, 6, .inl fde)), (p2, .inl (cA 1, 10, .inr (.inl fna))), (p3, .inl (cA 0, 10, .inl fam)), (p4, .inl (cA 0, 10, .inl fpi)), (p5, .inl (cA 0, 10, .inl fby)), (p6, .inl (cA 1, 8, .inr (.inl fpn))), (p7, .inl (cA 0, 350, .inl fst)), (p8, .inl (cA 0, 350, .inl fop)), (p9, .inl (cA 0, 10, .inl fen))] sz) := by
  refine Met.ofW (cc := cX4_readText) (maxL := 6) (ret := (some .boolean)) (by decide) rfl ?_
  intro p e s m args below meth c s₁ B hml hv
  obtain ⟨rfl, hsz, hP, hK, hD0, hC, hZ⟩ := hv
  have hx := B.exec
  have hb := B.bytes
  have hr := B.returns
  have hts := atoms_spec (ws := wsX4_readText) B.pre
  have hown : s.vm.findClass RX4 = some m.cls := findClass_of_methodNamed B.named
  have hlocks := B.notSynchronized
  subst hsz
  have hD := hD0.self (sz := s.heap.size)
  generalize hAe : va_A [(oX4 r0 r1 rq ir2 ir3 ir4 ir5 ir6 ir7 ir8), (oX5 r1 k1 k2 k3 (nI ct)), (k1, .inl (cA 0, 701, .inl fk)), (k2, .inl (cA 0, 701, .inl ft)), (k3, .inl (cA 1, 701, .inr (.inl fv))), (b0, .inl (cA 2, 700, .inl fb)), (oX3 p0 pr pb pe pg p1 (nI nd) p2 p3 p4 p5 (nI cn) p6 (nI pq) p7 p8 p9 (nI sc)), (p1, .inl (cA 0, 6, .inl fde)), (p2, .inl (cA 1, 10, .inr (.inl fna))), (p3, .inl (cA 0, 10, .inl fam)), (p4, .inl (cA 0, 10, .inl fpi)), (p5, .inl (cA 0, 10, .inl fby)), (p6, .inl (cA 1, 8, .inr (.inl fpn))), (p7, .inl (cA 0, 350, .inl fst)), (p8, .inl (cA 0, 350, .inl fop)), (p9, .inl (cA 0, 10, .inl fen))] s.heap.size = A at hD hZ ⊢
  have hA : ∀ q : Nat, s.heap.size ≤ q → A q := fun q h => by rw [← hAe]; exact Or.inr h
  have hS : va_S A s.heap s.heap [] := va_S.rf
  have hP : va_P D vwCl [(oX4 r0 r1 rq ir2 ir3 ir4 ir5 ir6 ir7 ir8), (oX5 r1 k1 k2 k3 (nI ct)), (k1, .inl (cA 0, 701, .inl fk)), (k2, .inl (cA 0, 701, .inl ft)), (k3, .inl (cA 1, 701, .inr (.inl fv))), (b0, .inl (cA 2, 700, .inl fb)), (oX3 p0 pr pb pe pg p1 (nI nd) p2 p3 p4 p5 (nI cn) p6 (nI pq) p7 p8 p9 (nI sc)), (p1, .inl (cA 0, 6, .inl fde)), (p2, .inl (cA 1, 10, .inr (.inl fna))), (p3, .inl (cA 0, 10, .inl fam)), (p4, .inl (cA 0, 10, .inl fpi)), (p5, .inl (cA 0, 10, .inl fby)), (p6, .inl (cA 1, 8, .inr (.inl fpn))), (p7, .inl (cA 0, 350, .inl fst)), (p8, .inl (cA 0, 350, .inl fop)), (p9, .inl (cA 0, 10, .inl fen))] s.heap := hP
  have hl := lv_entry ([.ref r0, .ref b0, .int (nI ln), .ref p0]) (n := 6) (Nat.le_of_ble_eq_true rfl)
  rw [lg_entry_eq]
  generalize (lg_sl ([.ref r0, .ref b0, .int (nI ln), .ref p0]) ++ List.replicate (6 - (lg_sl ([.ref r0, .ref b0, .int (nI ln), .ref p0])).length) Slot.unset).toArray = ls at hl ⊢
  have hl : lv_has ls 6 [(0, .ref r0), (1, .ref b0), (2, .int (nI ln)), (3, .ref p0)] := hl
  have inX4 : ∀ w ∈ u_ws RX4 TX4 9, w ∈ wsX4_readText := by decide +kernel
  refine lv_aload_n hx hb dX4_readText_0 rfl (lv_at hl 0 rfl) ?_
  refine va_get (D := D) (ci := 8) (v := .ref r1) (C := RX4) (T := TX4) (N := 9) hx hb hts inX4 hown hK hP 0 rfl rfl 0 (by decide) (hts (.fieldLink RX4 12 "EscrowDesk$Reader" "scanner" "LEscrowDesk$Scanner;") (by decide +kernel)) (fun _ h9 => h9) rfl dX4_readText_1 ?_
  refine lv_aload_n hx hb dX4_readText_4 rfl (lv_at hl 1 rfl) ?_
  refine lv_iload_n hx hb dX4_readText_5 rfl (lv_at hl 2 rfl) ?_
  obtain ⟨hPc, hDc, hFc⟩ := PDq.cut (wc := [(oX5 r1 k1 k2 k3 (nI ct)), (k1, .inl (cA 0, 701, .inl fk)), (k2, .inl (cA 0, 701, .inl ft)), (k3, .inl (cA 1, 701, .inr (.inl fv))), (b0, .inl (cA 2, 700, .inl fb))]) hP hD hS hA [1, 2, 3, 4, 5] (by decide) rfl
  refine va_callv (va_runV (As := [.ref b0, .int (nI ln)]) (rest := []) ⟨hx, hb, hml, hown, hts⟩ (x_split l D cA sa r1 k1 k2 k3 ct fk ft fv b0 ln fb s.heap.size hct hln) (cwV 2 hts gX4_readText_X5_split rfl rfl rfl (by decide +kernel) ⟨(Nat.le_of_ble_eq_true rfl), (Nat.le_of_ble_eq_true rfl)⟩) ⟨Wd.blind, va_recv hK hPc (ci := 9) (q0 := 0) rfl rfl, fun U hU hW => ⟨rfl, Wd.call hPc hDc hK hC hZ hS hFc U hU hW⟩⟩ rfl rfl hl.1 rfl (lv_room (Nat.le_of_ble_eq_true rfl)) dX4_readText_6 ⟨(Nat.le_of_ble_eq_true rfl), (Nat.le_of_ble_eq_true rfl)⟩) hS (fun q _ h => hFc q h) hFc (fun u t H1 locs ht hvm hw hB hz1 hk1 hS => ?_)
  obtain ⟨qn1, fn2, fn3, fn4, hn5, hn6, hP1, hD1⟩ := hB
  rw [ht] at hP1
  obtain ⟨hP, hD⟩ := PDq.join (w := [(oX4 r0 r1 rq ir2 ir3 ir4 ir5 ir6 ir7 ir8), (oX3 p0 pr pb pe pg p1 (nI nd) p2 p3 p4 p5 (nI cn) p6 (nI pq) p7 p8 p9 (nI sc)), (p1, .inl (cA 0, 6, .inl fde)), (p2, .inl (cA 1, 10, .inr (.inl fna))), (p3, .inl (cA 0, 10, .inl fam)), (p4, .inl (cA 0, 10, .inl fpi)), (p5, .inl (cA 0, 10, .inl fby)), (p6, .inl (cA 1, 8, .inr (.inl fpn))), (p7, .inl (cA 0, 350, .inl fst)), (p8, .inl (cA 0, 350, .inl fop)), (p9, .inl (cA 0, 10, .inl fen)), (oX5 r1 k1 k2 k3 (nI qn1)), (k1, .inl (cA 0, 701, .inl fn2)), (k2, .inl (cA 0, 701, .inl fn3)), (k3, .inl (cA 1, 701, .inr (.inl fn4))), (b0, .inl (cA 2, 700, .inl fb))]) 11 hP hD [1, 2, 3, 4, 5] [0, 6, 7, 8, 9, 10, 11, 12, 13, 14, 15] rfl rfl (by decide +kernel) (by decide +kernel) hk1 hFc hP1 hD1 rfl
  generalize H1 = H at hP hS ⊢
  have hTE := hn6
  obtain ⟨gP, gR, hTX⟩ := hTE
  have hct0 := hTX.1
  refine lv_aload_n hx hb dX4_readText_9 rfl (lv_at hl 0 rfl) ?_
  refine lv_aload_n hx hb dX4_readText_10 rfl (lv_at hl 3 rfl) ?_
  refine va_put (D := D) (ci := 8) (v := .ref p0) (ty := (.object "EscrowDesk$Plan")) (C := RX4) (T := TX4) (N := 9) hx hb hts inX4 tyX4 tyX4_ok nmX4 hown hK hP hD hS 0 rfl rfl 1 (by decide) (hts (.fieldLink RX4 25 "EscrowDesk$Reader" "plan" "LEscrowDesk$Plan;") (by decide +kernel)) (fun _ h9 => h9) rfl (by decide +kernel) rfl rfl (Nat.le_of_ble_eq_true rfl) dX4_readText_11 (fun H locs hP hD hS => ?_)
  obtain ⟨hP, hD⟩ : PDq D A [(oX4 r0 r1 p0 ir2 ir3 ir4 ir5 ir6 ir7 ir8), (oX3 p0 pr pb pe pg p1 (nI nd) p2 p3 p4 p5 (nI cn) p6 (nI pq) p7 p8 p9 (nI sc)), (p1, .inl (cA 0, 6, .inl fde)), (p2, .inl (cA 1, 10, .inr (.inl fna))), (p3, .inl (cA 0, 10, .inl fam)), (p4, .inl (cA 0, 10, .inl fpi)), (p5, .inl (cA 0, 10, .inl fby)), (p6, .inl (cA 1, 8, .inr (.inl fpn))), (p7, .inl (cA 0, 350, .inl fst)), (p8, .inl (cA 0, 350, .inl fop)), (p9, .inl (cA 0, 10, .inl fen)), (oX5 r1 k1 k2 k3 (nI qn1)), (k1, .inl (cA 0, 701, .inl fn2)), (k2, .inl (cA 0, 701, .inl fn3)), (k3, .inl (cA 1, 701, .inr (.inl fn4))), (b0, .inl (cA 2, 700, .inl fb))] H := ⟨hP, hD⟩
  refine lv_aload_n hx hb dX4_readText_14 rfl (lv_at hl 0 rfl) ?_
  refine va_get (D := D) (ci := 8) (v := .ref p0) (C := RX4) (T := TX4) (N := 9) hx hb hts inX4 hown hK hP 0 rfl rfl 1 (by decide) (hts (.fieldLink RX4 25 "EscrowDesk$Reader" "plan" "LEscrowDesk$Plan;") (by decide +kernel)) (fun _ h9 => h9) rfl dX4_readText_15 ?_
  obtain ⟨hPc, hDc, hFc⟩ := PDq.cut (wc := [(oX3 p0 pr pb pe pg p1 (nI nd) p2 p3 p4 p5 (nI cn) p6 (nI pq) p7 p8 p9 (nI sc))]) hP hD hS hA [1] (by decide) rfl
  refine va_callv (va_runV (As := []) (rest := []) ⟨hx, hb, hml, hown, hts⟩ (x_planClear l D cA sa p0 p1 p2 p3 p4 p5 p6 p7 p8 p9 cn pq nd sc pr pb pe pg H.size) (cwV 0 hts gX4_readText_X3_clear rfl rfl rfl (by decide +kernel) ⟨(Nat.le_of_ble_eq_true rfl), (Nat.le_of_ble_eq_true rfl)⟩) ⟨Wd.blind, va_recv hK hPc (ci := 7) (q0 := 0) rfl rfl, fun U hU hW => ⟨rfl, Wd.call hPc hDc hK hC hZ hS hFc U hU hW⟩⟩ rfl rfl hl.1 rfl (lv_room (Nat.le_of_ble_eq_true rfl)) dX4_readText_18 ⟨(Nat.le_of_ble_eq_true rfl), (Nat.le_of_ble_eq_true rfl)⟩) hS (fun q _ h => hFc q h) hFc (fun u t H1 locs ht hvm hw hB hz1 hk1 hS => ?_)
  obtain ⟨zn7, zn8, zn9, zn10, hP1, hD1⟩ := hB
  rw [ht] at hP1
  obtain ⟨hP, hD⟩ := PDq.join (w := [(oX4 r0 r1 p0 ir2 ir3 ir4 ir5 ir6 ir7 ir8), (p1, .inl (cA 0, 6, .inl fde)), (p2, .inl (cA 1, 10, .inr (.inl fna))), (p3, .inl (cA 0, 10, .inl fam)), (p4, .inl (cA 0, 10, .inl fpi)), (p5, .inl (cA 0, 10, .inl fby)), (p6, .inl (cA 1, 8, .inr (.inl fpn))), (p7, .inl (cA 0, 350, .inl fst)), (p8, .inl (cA 0, 350, .inl fop)), (p9, .inl (cA 0, 10, .inl fen)), (oX5 r1 k1 k2 k3 (nI qn1)), (k1, .inl (cA 0, 701, .inl fn2)), (k2, .inl (cA 0, 701, .inl fn3)), (k3, .inl (cA 1, 701, .inr (.inl fn4))), (b0, .inl (cA 2, 700, .inl fb)), (oX3 p0 zn7 zn8 zn9 zn10 p1 0 p2 p3 p4 p5 0 p6 0 p7 p8 p9 0)]) 15 hP hD [1] [0, 2, 3, 4, 5, 6, 7, 8, 9, 10, 11, 12, 13, 14, 15] rfl rfl (by decide +kernel) (by decide +kernel) hk1 hFc hP1 hD1 rfl
  generalize H1 = H at hP hS ⊢
  refine lv_aload_n hx hb dX4_readText_21 rfl (lv_at hl 0 rfl) ?_
  refine lv_iconst (v := 0) hx hb dX4_readText_22 (by decide) ?_
  refine va_put (D := D) (ci := 8) (v := .int 0) (ty := .int) (C := RX4) (T := TX4) (N := 9) hx hb hts inX4 tyX4 tyX4_ok nmX4 hown hK hP hD hS 0 rfl rfl 7 (by decide) (hts (.fieldLink RX4 18 "EscrowDesk$Reader" "errorKind" "I") (by decide +kernel)) (fun _ h9 => h9) rfl (by decide +kernel) rfl rfl (Nat.le_of_ble_eq_true rfl) dX4_readText_23 (fun H locs hP hD hS => ?_)
  obtain ⟨hP, hD⟩ : PDq D A [(oX4 r0 r1 p0 ir2 ir3 ir4 ir5 ir6 0 ir8), (p1, .inl (cA 0, 6, .inl fde)), (p2, .inl (cA 1, 10, .inr (.inl fna))), (p3, .inl (cA 0, 10, .inl fam)), (p4, .inl (cA 0, 10, .inl fpi)), (p5, .inl (cA 0, 10, .inl fby)), (p6, .inl (cA 1, 8, .inr (.inl fpn))), (p7, .inl (cA 0, 350, .inl fst)), (p8, .inl (cA 0, 350, .inl fop)), (p9, .inl (cA 0, 10, .inl fen)), (oX5 r1 k1 k2 k3 (nI qn1)), (k1, .inl (cA 0, 701, .inl fn2)), (k2, .inl (cA 0, 701, .inl fn3)), (k3, .inl (cA 1, 701, .inr (.inl fn4))), (b0, .inl (cA 2, 700, .inl fb)), (oX3 p0 zn7 zn8 zn9 zn10 p1 0 p2 p3 p4 p5 0 p6 0 p7 p8 p9 0)] H := ⟨hP, hD⟩
  refine lv_aload_n hx hb dX4_readText_26 rfl (lv_at hl 0 rfl) ?_
  refine lv_iconst (v := (-1)) hx hb dX4_readText_27 (by decide) ?_
  refine va_put (D := D) (ci := 8) (v := .int (-1)) (ty := .int) (C := RX4) (T := TX4) (N := 9) hx hb hts inX4 tyX4 tyX4_ok nmX4 hown hK hP hD hS 0 rfl rfl 8 (by decide) (hts (.fieldLink RX4 22 "EscrowDesk$Reader" "errorPosition" "I") (by decide +kernel)) (fun _ h9 => h9) rfl (by decide +kernel) rfl rfl (Nat.le_of_ble_eq_true rfl) dX4_readText_28 (fun H locs hP hD hS => ?_)
  obtain ⟨hP, hD⟩ : PDq D A [(oX4 r0 r1 p0 ir2 ir3 ir4 ir5 ir6 0 (-1)), (p1, .inl (cA 0, 6, .inl fde)), (p2, .inl (cA 1, 10, .inr (.inl fna))), (p3, .inl (cA 0, 10, .inl fam)), (p4, .inl (cA 0, 10, .inl fpi)), (p5, .inl (cA 0, 10, .inl fby)), (p6, .inl (cA 1, 8, .inr (.inl fpn))), (p7, .inl (cA 0, 350, .inl fst)), (p8, .inl (cA 0, 350, .inl fop)), (p9, .inl (cA 0, 10, .inl fen)), (oX5 r1 k1 k2 k3 (nI qn1)), (k1, .inl (cA 0, 701, .inl fn2)), (k2, .inl (cA 0, 701, .inl fn3)), (k3, .inl (cA 1, 701, .inr (.inl fn4))), (b0, .inl (cA 2, 700, .inl fb)), (oX3 p0 zn7 zn8 zn9 zn10 p1 0 p2 p3 p4 p5 0 p6 0 p7 p8 p9 0)] H := ⟨hP, hD⟩
  refine lv_aload_n hx hb dX4_readText_31 rfl (lv_at hl 0 rfl) ?_
  refine lv_iconst (v := 0) hx hb dX4_readText_32 (by decide) ?_
  obtain ⟨hPc, hDc, hFc⟩ := PDq.cut (wc := [(oX4 r0 r1 p0 ir2 ir3 ir4 ir5 ir6 0 (-1)), (oX5 r1 k1 k2 k3 (nI qn1)), (k1, .inl (cA 0, 701, .inl fn2)), (k2, .inl (cA 0, 701, .inl fn3)), (k3, .inl (cA 1, 701, .inr (.inl fn4)))]) hP hD hS hA [0, 10, 11, 12, 13] (by decide) rfl
  refine va_callv (va_runV (As := [.int 0]) (rest := []) ⟨hx, hb, hml, hown, hts⟩ (x_lookAt l D cA sa r0 p0 0 ir2 ir3 ir4 ir6 0 (-1) ir5 r1 k1 k2 k3 qn1 fn2 fn3 fn4 H.size hn5 (by omega)) (cwV 1 hts gX4_readText_X4_lookAt rfl rfl rfl (by decide +kernel) ⟨(Nat.le_of_ble_eq_true rfl), (Nat.le_of_ble_eq_true rfl)⟩) ⟨Wd.blind, va_recv hK hPc (ci := 8) (q0 := 0) rfl rfl, fun U hU hW => ⟨rfl, Wd.call hPc hDc hK hC hZ hS hFc U hU hW⟩⟩ rfl rfl hl.1 rfl (lv_room (Nat.le_of_ble_eq_true rfl)) dX4_readText_33 ⟨(Nat.le_of_ble_eq_true rfl), (Nat.le_of_ble_eq_true rfl)⟩) hS (fun q _ h => hFc q h) hFc (fun u t H1 locs ht hvm hw hB hz1 hk1 hS => ?_)
  obtain ⟨hP1, hD1⟩ := hB
  rw [ht] at hP1
  obtain ⟨hP, hD⟩ := PDq.join (w := [(p1, .inl (cA 0, 6, .inl fde)), (p2, .inl (cA 1, 10, .inr (.inl fna))), (p3, .inl (cA 0, 10, .inl fam)), (p4, .inl (cA 0, 10, .inl fpi)), (p5, .inl (cA 0, 10, .inl fby)), (p6, .inl (cA 1, 8, .inr (.inl fpn))), (p7, .inl (cA 0, 350, .inl fst)), (p8, .inl (cA 0, 350, .inl fop)), (p9, .inl (cA 0, 10, .inl fen)), (b0, .inl (cA 2, 700, .inl fb)), (oX3 p0 zn7 zn8 zn9 zn10 p1 0 p2 p3 p4 p5 0 p6 0 p7 p8 p9 0), (oX4 r0 r1 p0 (nI 0) (fn2 0) (fn3 0) (fn4 0) ir6 0 (-1)), (oX5 r1 k1 k2 k3 (nI qn1)), (k1, .inl (cA 0, 701, .inl fn2)), (k2, .inl (cA 0, 701, .inl fn3)), (k3, .inl (cA 1, 701, .inr (.inl fn4)))]) 11 hP hD [0, 10, 11, 12, 13] [1, 2, 3, 4, 5, 6, 7, 8, 9, 14, 15] rfl rfl (by decide +kernel) (by decide +kernel) hk1 hFc hP1 hD1 rfl
  generalize H1 = H at hP hS ⊢
  have hle9 := TX.le hTX hct0
  refine lv_iconst (v := 1) hx hb dX4_readText_36 (by decide) ?_
  refine lv_istore (lv' := [(4, .int 1), (0, .ref r0), (1, .ref b0), (2, .int (nI ln)), (3, .ref p0)]) hx hb dX4_readText_37 hl (by decide) rfl (fun ls hl => ?_)
  refine lv_iconst (v := 0) hx hb dX4_readText_39 (by decide) ?_
  refine lv_istore (lv' := [(5, .int 0), (4, .int 1), (0, .ref r0), (1, .ref b0), (2, .int (nI ln)), (3, .ref p0)]) hx hb dX4_readText_40 hl (by decide) rfl (fun ls hl => ?_)
  have loop1 : ∀ (n1 i1 : Nat) (mli : List Int64) (pli : List Int64) (f0_1 : Nat → Int32) (f1_1 : Nat → Int64) (f2_1 : Nat → Int32) (f3_1 : Nat → Int32) (f4_1 : Nat → Int32) (f5_1 : Nat → Int64) (f6_1 : Nat → Int32) (f7_1 : Nat → Int32) (f8_1 : Nat → Int32) (u10_0_1 : Int32) (u10_1_1 : Int32) (u10_2_1 : Int32) (u10_3_1 : Int32) (dmi : Nat) (cmi : Nat) (qmi : Nat) (smi : Nat) (tii : Nat) (u11_6_1 : Int32) (H : Heap) (locs : List Loc) (ls : Array Slot), i1 + n1 = 700 → Rng 10 10 f4_1 → Rng 10 351 f8_1 → i1 + i1 ≤ tii → tii < qn1 → gP tii ≤ ln → 2 * smi ≤ gP tii → cmi ≤ 10 → qmi ≤ 8 → dmi ≤ 6 → smi ≤ 350 → NL mli cmi f1_1 → NL pli qmi f5_1 → Ctn fn2 fn3 fn4 0 0 [] [] tii dmi mli pli → va_P D vwCl [(p1, .inl (cA 0, 6, .inl f0_1)), (p2, .inl (cA 1, 10, .inr (.inl f1_1))), (p3, .inl (cA 0, 10, .inl f2_1)), (p4, .inl (cA 0, 10, .inl f3_1)), (p5, .inl (cA 0, 10, .inl f4_1)), (p6, .inl (cA 1, 8, .inr (.inl f5_1))), (p7, .inl (cA 0, 350, .inl f6_1)), (p8, .inl (cA 0, 350, .inl f7_1)), (p9, .inl (cA 0, 10, .inl f8_1)), (b0, .inl (cA 2, 700, .inl fb)), (oX3 p0 u10_0_1 u10_1_1 u10_2_1 u10_3_1 p1 (nI dmi) p2 p3 p4 p5 (nI cmi) p6 (nI qmi) p7 p8 p9 (nI smi)), (oX4 r0 r1 p0 (nI tii) (fn2 tii) (fn3 tii) (fn4 tii) u11_6_1 0 (-1)), (oX5 r1 k1 k2 k3 (nI qn1)), (k1, .inl (cA 0, 701, .inl fn2)), (k2, .inl (cA 0, 701, .inl fn3)), (k3, .inl (cA 1, 701, .inr (.inl fn4)))] H → va_D A [(p1, .inl (cA 0, 6, .inl f0_1)), (p2, .inl (cA 1, 10, .inr (.inl f1_1))), (p3, .inl (cA 0, 10, .inl f2_1)), (p4, .inl (cA 0, 10, .inl f3_1)), (p5, .inl (cA 0, 10, .inl f4_1)), (p6, .inl (cA 1, 8, .inr (.inl f5_1))), (p7, .inl (cA 0, 350, .inl f6_1)), (p8, .inl (cA 0, 350, .inl f7_1)), (p9, .inl (cA 0, 10, .inl f8_1)), (b0, .inl (cA 2, 700, .inl fb)), (oX3 p0 u10_0_1 u10_1_1 u10_2_1 u10_3_1 p1 (nI dmi) p2 p3 p4 p5 (nI cmi) p6 (nI qmi) p7 p8 p9 (nI smi)), (oX4 r0 r1 p0 (nI tii) (fn2 tii) (fn3 tii) (fn4 tii) u11_6_1 0 (-1)), (oX5 r1 k1 k2 k3 (nI qn1)), (k1, .inl (cA 0, 701, .inl fn2)), (k2, .inl (cA 0, 701, .inl fn3)), (k3, .inl (cA 1, 701, .inr (.inl fn4)))] → va_S A s.heap H locs → lv_has ls 6 [(5, .int (nI i1)), (4, .int 1), (0, .ref r0), (1, .ref b0), (2, .int (nI ln)), (3, .ref p0)] → W p l e (headSpec wsX4_readText ({ frames := 48, cells := 0, slots := 0, locals := 991 } : Room)).room s m ([.ref r0, .ref b0, .int (nI ln), .ref p0] : List Value).toArray below meth c H locs 0 0 (MQ below (va_Qi (fun (r : Int32) (u9 : Int32) => u9 = r ∧ (r = 0 ∨ r = 1)) (fun (u9 : Int32) t => ∃ zr2 : Int32, ∃ zr3 : Int32, ∃ zr4 : Int32, ∃ zr6 : Int32, ∃ zr7 : Int32, ∃ zr8 : Int32, ∃ zr5 : Int64, ∃ cy : Nat, ∃ zk : Nat → Int32, ∃ zt : Nat → Int32, ∃ zv : Nat → Int64, ∃ cm : Nat, ∃ qm : Nat, ∃ dm : Nat, ∃ sm : Nat, ∃ zra : Int32, ∃ zba : Int32, ∃ zea : Int32, ∃ zga : Int32, ∃ zde : Nat → Int32, ∃ zam : Nat → Int32, ∃ zpi : Nat → Int32, ∃ zby : Nat → Int32, ∃ zst : Nat → Int32, ∃ zop : Nat → Int32, ∃ zen : Nat → Int32, ∃ zna : Nat → Int64, ∃ zpn : Nat → Int64, ∃ zml : List Int64, ∃ zpl : List Int64, cy ≤ 701 ∧ TXE fb ln cy zt zv zk ∧ cm ≤ 10 ∧ qm ≤ 8 ∧ dm ≤ 6 ∧ sm ≤ 350 ∧ Rng 10 10 zby ∧ Rng 10 351 zen ∧ NL zml cm zna ∧ NL zpl qm zpn ∧ (u9 = 1 → zr7 = 0) ∧ (u9 = 1 → zr8 = (-1)) ∧ (u9 = 1 → TP zk zt zv 0 0 [] [] (.inr (zml, zpl))) ∧ (u9 = 0 → TP zk zt zv 0 0 [] [] (.inl (zr7, zr8))) ∧ Wq D A [(oX4 r0 r1 p0 zr2 zr3 zr4 zr5 zr6 zr7 zr8), (oX5 r1 k1 k2 k3 (nI cy)), (k1, .inl (cA 0, 701, .inl zk)), (k2, .inl (cA 0, 701, .inl zt)), (k3, .inl (cA 1, 701, .inr (.inl zv))), (b0, .inl (cA 2, 700, .inl fb)), (oX3 p0 zra zba zea zga p1 (nI dm) p2 p3 p4 p5 (nI cm) p6 (nI qm) p7 p8 p9 (nI sm)), (p1, .inl (cA 0, 6, .inl zde)), (p2, .inl (cA 1, 10, .inr (.inl zna))), (p3, .inl (cA 0, 10, .inl zam)), (p4, .inl (cA 0, 10, .inl zpi)), (p5, .inl (cA 0, 10, .inl zby)), (p6, .inl (cA 1, 8, .inr (.inl zpn))), (p7, .inl (cA 0, 350, .inl zst)), (p8, .inl (cA 0, 350, .inl zop)), (p9, .inl (cA 0, 10, .inl zen))] t) A) ([.ref r0, .ref b0, .int (nI ln), .ref p0] : List Value).toArray s 0 0 A) (F0 m 42 ls []) := by
    intro n1
    induction n1 with
    | zero =>
      intro i1 mli pli f0_1 f1_1 f2_1 f3_1 f4_1 f5_1 f6_1 f7_1 f8_1 u10_0_1 u10_1_1 u10_2_1 u10_3_1 dmi cmi qmi smi tii u11_6_1 H locs ls hi1 hf0_1 hf1_1 hv0_1 hv1_1 hv2_1 hv3_1 hv4_1 hv5_1 hv6_1 hv7_1 hv8_1 hv9_1 hv10_1 hP hD hS hl
      obtain rfl : 700 = i1 := by omega
      exact absurd hv0_1 (by omega)
    | succ n1 ih1 =>
      intro i1 mli pli f0_1 f1_1 f2_1 f3_1 f4_1 f5_1 f6_1 f7_1 f8_1 u10_0_1 u10_1_1 u10_2_1 u10_3_1 dmi cmi qmi smi tii u11_6_1 H locs ls hi1 hf0_1 hf1_1 hv0_1 hv1_1 hv2_1 hv3_1 hv4_1 hv5_1 hv6_1 hv7_1 hv8_1 hv9_1 hv10_1 hP hD hS hl
      refine lv_iload hx hb dX4_readText_42 (lv_at hl 1 rfl) ?_
      refine lv_if_eq (tgt := 158) hx hb dX4_readText_44 (by decide) (fun c9 => absurd c9 (by decide)) (fun c11 => ?_)
      refine lv_iload hx hb dX4_readText_47 (lv_at hl 0 rfl) ?_
      refine lv_sipush (v := 700) hx hb dX4_readText_49 (by decide) ?_
      refine lv_icmp_ge (tgt := 158) hx hb dX4_readText_52 (by decide) (fun c9 => absurd c9 (nI_ge (a := i1) (b := 700) (show i1 < 700 by omega) (by omega))) (fun c12 => ?_)
      refine lv_aload_n hx hb dX4_readText_55 rfl (lv_at hl 2 rfl) ?_
      refine va_get (D := D) (ci := 8) (v := .int (fn2 tii)) (C := RX4) (T := TX4) (N := 9) hx hb hts inX4 hown hK hP 11 rfl rfl 3 (by decide) (hts (.fieldLink RX4 42 "EscrowDesk$Reader" "kind" "I") (by decide +kernel)) (fun _ h9 => h9) rfl dX4_readText_56 ?_
      refine lv_iconst (v := 1) hx hb dX4_readText_59 (by decide) ?_
      refine lv_icmp_eq (tgt := 158) hx hb dX4_readText_60 (by decide) (fun c13 => ?_) (fun c13 => ?_)
      · skip
        refine lv_iload hx hb dX4_readText_158 (lv_at hl 1 rfl) ?_
        obtain ⟨hP9, hD9⟩ := PDq.sub (ws' := [(oX4 r0 r1 p0 (nI tii) (fn2 tii) (fn3 tii) (fn4 tii) u11_6_1 0 (-1)), (oX5 r1 k1 k2 k3 (nI qn1)), (k1, .inl (cA 0, 701, .inl fn2)), (k2, .inl (cA 0, 701, .inl fn3)), (k3, .inl (cA 1, 701, .inr (.inl fn4))), (b0, .inl (cA 2, 700, .inl fb)), (oX3 p0 u10_0_1 u10_1_1 u10_2_1 u10_3_1 p1 (nI dmi) p2 p3 p4 p5 (nI cmi) p6 (nI qmi) p7 p8 p9 (nI smi)), (p1, .inl (cA 0, 6, .inl f0_1)), (p2, .inl (cA 1, 10, .inr (.inl f1_1))), (p3, .inl (cA 0, 10, .inl f2_1)), (p4, .inl (cA 0, 10, .inl f3_1)), (p5, .inl (cA 0, 10, .inl f4_1)), (p6, .inl (cA 1, 8, .inr (.inl f5_1))), (p7, .inl (cA 0, 350, .inl f6_1)), (p8, .inl (cA 0, 350, .inl f7_1)), (p9, .inl (cA 0, 10, .inl f8_1))]) hP hD [11, 12, 13, 14, 15, 9, 10, 0, 1, 2, 3, 4, 5, 6, 7, 8] (by decide +kernel) rfl
        refine W.widen (k := 0) (n := 0) (Nat.le_of_ble_eq_true rfl) (Nat.le_of_ble_eq_true rfl) ?_
        exact (W.zret (v := 1) hx hb hr (by first | rfl | decide) (fun t ht hW => ⟨⟨1, 1, rfl, ⟨rfl, by decide⟩, (nI tii), (fn2 tii), (fn3 tii), u11_6_1, 0, (-1), (fn4 tii), qn1, fn2, fn3, fn4, cmi, qmi, dmi, smi, u10_0_1, u10_1_1, u10_2_1, u10_3_1, f0_1, f2_1, f3_1, f4_1, f6_1, f7_1, f8_1, f1_1, f5_1, mli, pli, hn5, hn6, hv4_1, hv5_1, hv6_1, hv7_1, hf0_1, hf1_1, hv8_1, hv9_1, (fun _ => rfl), (fun _ => rfl), (fun _ => (hv10_1 _ (T_end c13))), (fun h9 => absurd h9 (by decide)), by rw [ht]; exact hP9, hD9⟩, hS.F ht⟩) hS.2.2 dX4_readText_160)
      · skip
        refine lv_aload_n hx hb dX4_readText_63 rfl (lv_at hl 2 rfl) ?_
        refine va_get (D := D) (ci := 8) (v := .int (fn2 tii)) (C := RX4) (T := TX4) (N := 9) hx hb hts inX4 hown hK hP 11 rfl rfl 3 (by decide) (hts (.fieldLink RX4 42 "EscrowDesk$Reader" "kind" "I") (by decide +kernel)) (fun _ h9 => h9) rfl dX4_readText_64 ?_
        by_cases hn14 : (fn2 tii) = 8
        · skip
          refine W.eq (g2 := F0 m 67 ls [.int 8]) (by rw [hn14]) ?_
          refine lv_tableIn (off := 33) (tgt := 100) hx hb dX4_readText_67 (by decide) (by decide) (by decide) (by decide) ?_
          refine lv_aload_n hx hb dX4_readText_100 rfl (lv_at hl 2 rfl) ?_
          obtain ⟨hPc, hDc, hFc⟩ := PDq.cut (wc := [(oX4 r0 r1 p0 (nI tii) (fn2 tii) (fn3 tii) (fn4 tii) u11_6_1 0 (-1)), (oX5 r1 k1 k2 k3 (nI qn1)), (k1, .inl (cA 0, 701, .inl fn2)), (k2, .inl (cA 0, 701, .inl fn3)), (k3, .inl (cA 1, 701, .inr (.inl fn4))), (oX3 p0 u10_0_1 u10_1_1 u10_2_1 u10_3_1 p1 (nI dmi) p2 p3 p4 p5 (nI cmi) p6 (nI qmi) p7 p8 p9 (nI smi))]) hP hD hS hA [11, 12, 13, 14, 15, 10] (by decide) rfl
          refine va_calli (va_runV (As := []) (rest := []) ⟨hx, hb, hml, hown, hts⟩ (x_readRate l D cA sa r0 p0 tii ln u11_6_1 0 (-1) r1 k1 k2 k3 qn1 fn2 fn3 fn4 fb gP gR p1 p2 p3 p4 p5 p6 p7 p8 p9 cmi qmi dmi smi u10_0_1 u10_1_1 u10_2_1 u10_3_1 mli pli H.size hn5 hln hv1_1 hTX hv3_1 hn14) (cwV 0 hts gX4_readText_X4_readRate rfl rfl rfl (by decide +kernel) ⟨(Nat.le_of_ble_eq_true rfl), (Nat.le_of_ble_eq_true rfl)⟩) ⟨Wd.blind, va_recv hK hPc (ci := 8) (q0 := 0) rfl rfl, fun U hU hW => ⟨rfl, Wd.call hPc hDc hK hC hZ hS hFc U hU hW⟩⟩ rfl rfl hl.1 rfl (lv_room (Nat.le_of_ble_eq_true rfl)) dX4_readText_101 ⟨(Nat.le_of_ble_eq_true rfl), (Nat.le_of_ble_eq_true rfl)⟩) hS (fun q _ h => hFc q h) hFc (fun rn15 u t H1 locs ht hvm hw hB hz1 hk1 hS => ?_)
          obtain ⟨qn16, zn17, zn18, zn19, zn20, zn21, hn22, hn23, hn24, hn25, hn26, hn27, hn28, hn29, hP1, hD1⟩ := hB
          rw [ht] at hP1
          obtain ⟨hP, hD⟩ := PDq.join (w := [(p1, .inl (cA 0, 6, .inl f0_1)), (p2, .inl (cA 1, 10, .inr (.inl f1_1))), (p3, .inl (cA 0, 10, .inl f2_1)), (p4, .inl (cA 0, 10, .inl f3_1)), (p5, .inl (cA 0, 10, .inl f4_1)), (p6, .inl (cA 1, 8, .inr (.inl f5_1))), (p7, .inl (cA 0, 350, .inl f6_1)), (p8, .inl (cA 0, 350, .inl f7_1)), (p9, .inl (cA 0, 10, .inl f8_1)), (b0, .inl (cA 2, 700, .inl fb)), (oX4 r0 r1 p0 (nI qn16) (fn2 qn16) (fn3 qn16) (fn4 qn16) zn17 zn18 zn19), (oX5 r1 k1 k2 k3 (nI qn1)), (k1, .inl (cA 0, 701, .inl fn2)), (k2, .inl (cA 0, 701, .inl fn3)), (k3, .inl (cA 1, 701, .inr (.inl fn4))), (oX3 p0 zn20 zn21 u10_2_1 u10_3_1 p1 (nI dmi) p2 p3 p4 p5 (nI cmi) p6 (nI qmi) p7 p8 p9 (nI smi))]) 10 hP hD [11, 12, 13, 14, 15, 10] [0, 1, 2, 3, 4, 5, 6, 7, 8, 9] rfl rfl (by decide +kernel) (by decide +kernel) hk1 hFc hP1 hD1 rfl
          generalize H1 = H at hP hS ⊢
          rcases hw.2 with hr9 | hr9
          · skip
            have hn29 := hn29 (hw.1.trans hr9)
            subst hr9
            refine lv_istore (lv' := [(4, .int 0), (5, .int (nI i1)), (0, .ref r0), (1, .ref b0), (2, .int (nI ln)), (3, .ref p0)]) hx hb dX4_readText_104 hl (by decide) rfl (fun ls hl => ?_)
            refine lv_goto (tgt := 152) hx hb dX4_readText_106 (by decide) ?_
            refine lv_iinc (v := (nI (i1 + 1))) (lv' := [(5, .int (nI (i1 + 1))), (4, .int 0), (0, .ref r0), (1, .ref b0), (2, .int (nI ln)), (3, .ref p0)]) hx hb dX4_readText_152 hl (k := 1) rfl (nI_1 _) (by decide) rfl (fun ls hl => ?_)
            refine lv_goto (tgt := 42) hx hb dX4_readText_155 (by decide) ?_
            refine lv_iload hx hb dX4_readText_42 (lv_at hl 1 rfl) ?_
            refine lv_if_eq (tgt := 158) hx hb dX4_readText_44 (by decide) (fun c30 => ?_) (fun c9 => absurd c9 (by decide))
            refine lv_iload hx hb dX4_readText_158 (lv_at hl 1 rfl) ?_
            obtain ⟨hP9, hD9⟩ := PDq.sub (ws' := [(oX4 r0 r1 p0 (nI qn16) (fn2 qn16) (fn3 qn16) (fn4 qn16) zn17 zn18 zn19), (oX5 r1 k1 k2 k3 (nI qn1)), (k1, .inl (cA 0, 701, .inl fn2)), (k2, .inl (cA 0, 701, .inl fn3)), (k3, .inl (cA 1, 701, .inr (.inl fn4))), (b0, .inl (cA 2, 700, .inl fb)), (oX3 p0 zn20 zn21 u10_2_1 u10_3_1 p1 (nI dmi) p2 p3 p4 p5 (nI cmi) p6 (nI qmi) p7 p8 p9 (nI smi)), (p1, .inl (cA 0, 6, .inl f0_1)), (p2, .inl (cA 1, 10, .inr (.inl f1_1))), (p3, .inl (cA 0, 10, .inl f2_1)), (p4, .inl (cA 0, 10, .inl f3_1)), (p5, .inl (cA 0, 10, .inl f4_1)), (p6, .inl (cA 1, 8, .inr (.inl f5_1))), (p7, .inl (cA 0, 350, .inl f6_1)), (p8, .inl (cA 0, 350, .inl f7_1)), (p9, .inl (cA 0, 10, .inl f8_1))]) hP hD [10, 11, 12, 13, 14, 9, 15, 0, 1, 2, 3, 4, 5, 6, 7, 8] (by decide +kernel) rfl
            refine W.widen (k := 0) (n := 0) (Nat.le_of_ble_eq_true rfl) (Nat.le_of_ble_eq_true rfl) ?_
            exact (W.zret (v := 0) hx hb hr (by first | rfl | decide) (fun t ht hW => ⟨⟨0, 0, rfl, ⟨rfl, by decide⟩, (nI qn16), (fn2 qn16), (fn3 qn16), zn17, zn18, zn19, (fn4 qn16), qn1, fn2, fn3, fn4, cmi, qmi, dmi, smi, zn20, zn21, u10_2_1, u10_3_1, f0_1, f2_1, f3_1, f4_1, f6_1, f7_1, f8_1, f1_1, f5_1, mli, pli, hn5, hn6, hv4_1, hv5_1, hv6_1, hv7_1, hf0_1, hf1_1, hv8_1, hv9_1, (fun h9 => absurd h9 (by decide)), (fun h9 => absurd h9 (by decide)), (fun h9 => absurd h9 (by decide)), (fun _ => (hv10_1 _ (T_er9 c13 hn29))), by rw [ht]; exact hP9, hD9⟩, hS.F ht⟩) hS.2.2 dX4_readText_160)
          · skip
            have hn24 := hn24 (hw.1.trans hr9)
            subst hn24
            obtain ⟨hP, hD⟩ : PDq D A [(p1, .inl (cA 0, 6, .inl f0_1)), (p2, .inl (cA 1, 10, .inr (.inl f1_1))), (p3, .inl (cA 0, 10, .inl f2_1)), (p4, .inl (cA 0, 10, .inl f3_1)), (p5, .inl (cA 0, 10, .inl f4_1)), (p6, .inl (cA 1, 8, .inr (.inl f5_1))), (p7, .inl (cA 0, 350, .inl f6_1)), (p8, .inl (cA 0, 350, .inl f7_1)), (p9, .inl (cA 0, 10, .inl f8_1)), (b0, .inl (cA 2, 700, .inl fb)), (oX4 r0 r1 p0 (nI qn16) (fn2 qn16) (fn3 qn16) (fn4 qn16) zn17 0 zn19), (oX5 r1 k1 k2 k3 (nI qn1)), (k1, .inl (cA 0, 701, .inl fn2)), (k2, .inl (cA 0, 701, .inl fn3)), (k3, .inl (cA 1, 701, .inr (.inl fn4))), (oX3 p0 zn20 zn21 u10_2_1 u10_3_1 p1 (nI dmi) p2 p3 p4 p5 (nI cmi) p6 (nI qmi) p7 p8 p9 (nI smi))] H := ⟨hP, hD⟩
            have hn25 := hn25 (hw.1.trans hr9)
            subst hn25
            obtain ⟨hP, hD⟩ : PDq D A [(p1, .inl (cA 0, 6, .inl f0_1)), (p2, .inl (cA 1, 10, .inr (.inl f1_1))), (p3, .inl (cA 0, 10, .inl f2_1)), (p4, .inl (cA 0, 10, .inl f3_1)), (p5, .inl (cA 0, 10, .inl f4_1)), (p6, .inl (cA 1, 8, .inr (.inl f5_1))), (p7, .inl (cA 0, 350, .inl f6_1)), (p8, .inl (cA 0, 350, .inl f7_1)), (p9, .inl (cA 0, 10, .inl f8_1)), (b0, .inl (cA 2, 700, .inl fb)), (oX4 r0 r1 p0 (nI qn16) (fn2 qn16) (fn3 qn16) (fn4 qn16) zn17 0 (-1)), (oX5 r1 k1 k2 k3 (nI qn1)), (k1, .inl (cA 0, 701, .inl fn2)), (k2, .inl (cA 0, 701, .inl fn3)), (k3, .inl (cA 1, 701, .inr (.inl fn4))), (oX3 p0 zn20 zn21 u10_2_1 u10_3_1 p1 (nI dmi) p2 p3 p4 p5 (nI cmi) p6 (nI qmi) p7 p8 p9 (nI smi))] H := ⟨hP, hD⟩
            have hn26 := hn26 (hw.1.trans hr9)
            have hn27 := hn27 (hw.1.trans hr9)
            have hn28 := hn28 (hw.1.trans hr9)
            subst hr9
            refine lv_istore (lv' := [(4, .int 1), (5, .int (nI i1)), (0, .ref r0), (1, .ref b0), (2, .int (nI ln)), (3, .ref p0)]) hx hb dX4_readText_104 hl (by decide) rfl (fun ls hl => ?_)
            refine lv_goto (tgt := 152) hx hb dX4_readText_106 (by decide) ?_
            refine lv_iinc (v := (nI (i1 + 1))) (lv' := [(5, .int (nI (i1 + 1))), (4, .int 1), (0, .ref r0), (1, .ref b0), (2, .int (nI ln)), (3, .ref p0)]) hx hb dX4_readText_152 hl (k := 1) rfl (nI_1 _) (by decide) rfl (fun ls hl => ?_)
            refine lv_goto (tgt := 42) hx hb dX4_readText_155 (by decide) ?_
            obtain ⟨hP9, hD9⟩ := PDq.sub (ws' := [(p1, .inl (cA 0, 6, .inl f0_1)), (p2, .inl (cA 1, 10, .inr (.inl f1_1))), (p3, .inl (cA 0, 10, .inl f2_1)), (p4, .inl (cA 0, 10, .inl f3_1)), (p5, .inl (cA 0, 10, .inl f4_1)), (p6, .inl (cA 1, 8, .inr (.inl f5_1))), (p7, .inl (cA 0, 350, .inl f6_1)), (p8, .inl (cA 0, 350, .inl f7_1)), (p9, .inl (cA 0, 10, .inl f8_1)), (b0, .inl (cA 2, 700, .inl fb)), (oX3 p0 zn20 zn21 u10_2_1 u10_3_1 p1 (nI dmi) p2 p3 p4 p5 (nI cmi) p6 (nI qmi) p7 p8 p9 (nI smi)), (oX4 r0 r1 p0 (nI qn16) (fn2 qn16) (fn3 qn16) (fn4 qn16) zn17 0 (-1)), (oX5 r1 k1 k2 k3 (nI qn1)), (k1, .inl (cA 0, 701, .inl fn2)), (k2, .inl (cA 0, 701, .inl fn3)), (k3, .inl (cA 1, 701, .inr (.inl fn4)))]) hP hD [0, 1, 2, 3, 4, 5, 6, 7, 8, 9, 15, 10, 11, 12, 13, 14] (by decide +kernel) rfl
            exact ih1 (i1 + 1) mli pli f0_1 f1_1 f2_1 f3_1 f4_1 f5_1 f6_1 f7_1 f8_1 zn20 zn21 u10_2_1 u10_3_1 dmi cmi qmi smi qn16 zn17 H _ ls (by omega) hf0_1 hf1_1 (by omega) hn22 hn23 hn27 hv4_1 hv5_1 hv6_1 hv7_1 hv8_1 hv9_1 (fun r9 h9 => hv10_1 r9 (T_go9 c13 hn28 h9)) hP9 hD9 hS (lv_sub hl [0, 1, 2, 3, 4, 5] rfl)
        · skip
          by_cases hn31 : (fn2 tii) = 9
          · skip
            refine W.eq (g2 := F0 m 67 ls [.int 9]) (by rw [hn31]) ?_
            refine lv_tableIn (off := 42) (tgt := 109) hx hb dX4_readText_67 (by decide) (by decide) (by decide) (by decide) ?_
            refine lv_aload_n hx hb dX4_readText_109 rfl (lv_at hl 2 rfl) ?_
            obtain ⟨hPc, hDc, hFc⟩ := PDq.cut (wc := [(oX4 r0 r1 p0 (nI tii) (fn2 tii) (fn3 tii) (fn4 tii) u11_6_1 0 (-1)), (oX5 r1 k1 k2 k3 (nI qn1)), (k1, .inl (cA 0, 701, .inl fn2)), (k2, .inl (cA 0, 701, .inl fn3)), (k3, .inl (cA 1, 701, .inr (.inl fn4))), (oX3 p0 u10_0_1 u10_1_1 u10_2_1 u10_3_1 p1 (nI dmi) p2 p3 p4 p5 (nI cmi) p6 (nI qmi) p7 p8 p9 (nI smi))]) hP hD hS hA [11, 12, 13, 14, 15, 10] (by decide) rfl
            refine va_calli (va_runV (As := []) (rest := []) ⟨hx, hb, hml, hown, hts⟩ (x_readFee l D cA sa r0 p0 tii ln u11_6_1 0 (-1) r1 k1 k2 k3 qn1 fn2 fn3 fn4 fb gP gR p1 p2 p3 p4 p5 p6 p7 p8 p9 cmi qmi dmi smi u10_0_1 u10_1_1 u10_2_1 u10_3_1 mli pli H.size hn5 hln hv1_1 hTX hv3_1 hn31) (cwV 0 hts gX4_readText_X4_readFee rfl rfl rfl (by decide +kernel) ⟨(Nat.le_of_ble_eq_true rfl), (Nat.le_of_ble_eq_true rfl)⟩) ⟨Wd.blind, va_recv hK hPc (ci := 8) (q0 := 0) rfl rfl, fun U hU hW => ⟨rfl, Wd.call hPc hDc hK hC hZ hS hFc U hU hW⟩⟩ rfl rfl hl.1 rfl (lv_room (Nat.le_of_ble_eq_true rfl)) dX4_readText_110 ⟨(Nat.le_of_ble_eq_true rfl), (Nat.le_of_ble_eq_true rfl)⟩) hS (fun q _ h => hFc q h) hFc (fun rn32 u t H1 locs ht hvm hw hB hz1 hk1 hS => ?_)
            obtain ⟨qn33, zn34, zn35, zn36, zn37, hn38, hn39, hn40, hn41, hn42, hn43, hn44, hn45, hP1, hD1⟩ := hB
            rw [ht] at hP1
            obtain ⟨hP, hD⟩ := PDq.join (w := [(p1, .inl (cA 0, 6, .inl f0_1)), (p2, .inl (cA 1, 10, .inr (.inl f1_1))), (p3, .inl (cA 0, 10, .inl f2_1)), (p4, .inl (cA 0, 10, .inl f3_1)), (p5, .inl (cA 0, 10, .inl f4_1)), (p6, .inl (cA 1, 8, .inr (.inl f5_1))), (p7, .inl (cA 0, 350, .inl f6_1)), (p8, .inl (cA 0, 350, .inl f7_1)), (p9, .inl (cA 0, 10, .inl f8_1)), (b0, .inl (cA 2, 700, .inl fb)), (oX4 r0 r1 p0 (nI qn33) (fn2 qn33) (fn3 qn33) (fn4 qn33) zn34 zn35 zn36), (oX5 r1 k1 k2 k3 (nI qn1)), (k1, .inl (cA 0, 701, .inl fn2)), (k2, .inl (cA 0, 701, .inl fn3)), (k3, .inl (cA 1, 701, .inr (.inl fn4))), (oX3 p0 u10_0_1 u10_1_1 zn37 u10_3_1 p1 (nI dmi) p2 p3 p4 p5 (nI cmi) p6 (nI qmi) p7 p8 p9 (nI smi))]) 10 hP hD [11, 12, 13, 14, 15, 10] [0, 1, 2, 3, 4, 5, 6, 7, 8, 9] rfl rfl (by decide +kernel) (by decide +kernel) hk1 hFc hP1 hD1 rfl
            generalize H1 = H at hP hS ⊢
            rcases hw.2 with hr9 | hr9
            · skip
              have hn45 := hn45 (hw.1.trans hr9)
              subst hr9
              refine lv_istore (lv' := [(4, .int 0), (5, .int (nI i1)), (0, .ref r0), (1, .ref b0), (2, .int (nI ln)), (3, .ref p0)]) hx hb dX4_readText_113 hl (by decide) rfl (fun ls hl => ?_)
              refine lv_goto (tgt := 152) hx hb dX4_readText_115 (by decide) ?_
              refine lv_iinc (v := (nI (i1 + 1))) (lv' := [(5, .int (nI (i1 + 1))), (4, .int 0), (0, .ref r0), (1, .ref b0), (2, .int (nI ln)), (3, .ref p0)]) hx hb dX4_readText_152 hl (k := 1) rfl (nI_1 _) (by decide) rfl (fun ls hl => ?_)
              refine lv_goto (tgt := 42) hx hb dX4_readText_155 (by decide) ?_
              refine lv_iload hx hb dX4_readText_42 (lv_at hl 1 rfl) ?_
              refine lv_if_eq (tgt := 158) hx hb dX4_readText_44 (by decide) (fun c46 => ?_) (fun c9 => absurd c9 (by decide))
              refine lv_iload hx hb dX4_readText_158 (lv_at hl 1 rfl) ?_
              obtain ⟨hP9, hD9⟩ := PDq.sub (ws' := [(oX4 r0 r1 p0 (nI qn33) (fn2 qn33) (fn3 qn33) (fn4 qn33) zn34 zn35 zn36), (oX5 r1 k1 k2 k3 (nI qn1)), (k1, .inl (cA 0, 701, .inl fn2)), (k2, .inl (cA 0, 701, .inl fn3)), (k3, .inl (cA 1, 701, .inr (.inl fn4))), (b0, .inl (cA 2, 700, .inl fb)), (oX3 p0 u10_0_1 u10_1_1 zn37 u10_3_1 p1 (nI dmi) p2 p3 p4 p5 (nI cmi) p6 (nI qmi) p7 p8 p9 (nI smi)), (p1, .inl (cA 0, 6, .inl f0_1)), (p2, .inl (cA 1, 10, .inr (.inl f1_1))), (p3, .inl (cA 0, 10, .inl f2_1)), (p4, .inl (cA 0, 10, .inl f3_1)), (p5, .inl (cA 0, 10, .inl f4_1)), (p6, .inl (cA 1, 8, .inr (.inl f5_1))), (p7, .inl (cA 0, 350, .inl f6_1)), (p8, .inl (cA 0, 350, .inl f7_1)), (p9, .inl (cA 0, 10, .inl f8_1))]) hP hD [10, 11, 12, 13, 14, 9, 15, 0, 1, 2, 3, 4, 5, 6, 7, 8] (by decide +kernel) rfl
              refine W.widen (k := 0) (n := 0) (Nat.le_of_ble_eq_true rfl) (Nat.le_of_ble_eq_true rfl) ?_
              exact (W.zret (v := 0) hx hb hr (by first | rfl | decide) (fun t ht hW => ⟨⟨0, 0, rfl, ⟨rfl, by decide⟩, (nI qn33), (fn2 qn33), (fn3 qn33), zn34, zn35, zn36, (fn4 qn33), qn1, fn2, fn3, fn4, cmi, qmi, dmi, smi, u10_0_1, u10_1_1, zn37, u10_3_1, f0_1, f2_1, f3_1, f4_1, f6_1, f7_1, f8_1, f1_1, f5_1, mli, pli, hn5, hn6, hv4_1, hv5_1, hv6_1, hv7_1, hf0_1, hf1_1, hv8_1, hv9_1, (fun h9 => absurd h9 (by decide)), (fun h9 => absurd h9 (by decide)), (fun h9 => absurd h9 (by decide)), (fun _ => (hv10_1 _ (T_er9 c13 hn45))), by rw [ht]; exact hP9, hD9⟩, hS.F ht⟩) hS.2.2 dX4_readText_160)
            · skip
              have hn40 := hn40 (hw.1.trans hr9)
              subst hn40
              obtain ⟨hP, hD⟩ : PDq D A [(p1, .inl (cA 0, 6, .inl f0_1)), (p2, .inl (cA 1, 10, .inr (.inl f1_1))), (p3, .inl (cA 0, 10, .inl f2_1)), (p4, .inl (cA 0, 10, .inl f3_1)), (p5, .inl (cA 0, 10, .inl f4_1)), (p6, .inl (cA 1, 8, .inr (.inl f5_1))), (p7, .inl (cA 0, 350, .inl f6_1)), (p8, .inl (cA 0, 350, .inl f7_1)), (p9, .inl (cA 0, 10, .inl f8_1)), (b0, .inl (cA 2, 700, .inl fb)), (oX4 r0 r1 p0 (nI qn33) (fn2 qn33) (fn3 qn33) (fn4 qn33) zn34 0 zn36), (oX5 r1 k1 k2 k3 (nI qn1)), (k1, .inl (cA 0, 701, .inl fn2)), (k2, .inl (cA 0, 701, .inl fn3)), (k3, .inl (cA 1, 701, .inr (.inl fn4))), (oX3 p0 u10_0_1 u10_1_1 zn37 u10_3_1 p1 (nI dmi) p2 p3 p4 p5 (nI cmi) p6 (nI qmi) p7 p8 p9 (nI smi))] H := ⟨hP, hD⟩
              have hn41 := hn41 (hw.1.trans hr9)
              subst hn41
              obtain ⟨hP, hD⟩ : PDq D A [(p1, .inl (cA 0, 6, .inl f0_1)), (p2, .inl (cA 1, 10, .inr (.inl f1_1))), (p3, .inl (cA 0, 10, .inl f2_1)), (p4, .inl (cA 0, 10, .inl f3_1)), (p5, .inl (cA 0, 10, .inl f4_1)), (p6, .inl (cA 1, 8, .inr (.inl f5_1))), (p7, .inl (cA 0, 350, .inl f6_1)), (p8, .inl (cA 0, 350, .inl f7_1)), (p9, .inl (cA 0, 10, .inl f8_1)), (b0, .inl (cA 2, 700, .inl fb)), (oX4 r0 r1 p0 (nI qn33) (fn2 qn33) (fn3 qn33) (fn4 qn33) zn34 0 (-1)), (oX5 r1 k1 k2 k3 (nI qn1)), (k1, .inl (cA 0, 701, .inl fn2)), (k2, .inl (cA 0, 701, .inl fn3)), (k3, .inl (cA 1, 701, .inr (.inl fn4))), (oX3 p0 u10_0_1 u10_1_1 zn37 u10_3_1 p1 (nI dmi) p2 p3 p4 p5 (nI cmi) p6 (nI qmi) p7 p8 p9 (nI smi))] H := ⟨hP, hD⟩
              have hn42 := hn42 (hw.1.trans hr9)
              have hn43 := hn43 (hw.1.trans hr9)
              have hn44 := hn44 (hw.1.trans hr9)
              subst hr9
              refine lv_istore (lv' := [(4, .int 1), (5, .int (nI i1)), (0, .ref r0), (1, .ref b0), (2, .int (nI ln)), (3, .ref p0)]) hx hb dX4_readText_113 hl (by decide) rfl (fun ls hl => ?_)
              refine lv_goto (tgt := 152) hx hb dX4_readText_115 (by decide) ?_
              refine lv_iinc (v := (nI (i1 + 1))) (lv' := [(5, .int (nI (i1 + 1))), (4, .int 1), (0, .ref r0), (1, .ref b0), (2, .int (nI ln)), (3, .ref p0)]) hx hb dX4_readText_152 hl (k := 1) rfl (nI_1 _) (by decide) rfl (fun ls hl => ?_)
              refine lv_goto (tgt := 42) hx hb dX4_readText_155 (by decide) ?_
              obtain ⟨hP9, hD9⟩ := PDq.sub (ws' := [(p1, .inl (cA 0, 6, .inl f0_1)), (p2, .inl (cA 1, 10, .inr (.inl f1_1))), (p3, .inl (cA 0, 10, .inl f2_1)), (p4, .inl (cA 0, 10, .inl f3_1)), (p5, .inl (cA 0, 10, .inl f4_1)), (p6, .inl (cA 1, 8, .inr (.inl f5_1))), (p7, .inl (cA 0, 350, .inl f6_1)), (p8, .inl (cA 0, 350, .inl f7_1)), (p9, .inl (cA 0, 10, .inl f8_1)), (b0, .inl (cA 2, 700, .inl fb)), (oX3 p0 u10_0_1 u10_1_1 zn37 u10_3_1 p1 (nI dmi) p2 p3 p4 p5 (nI cmi) p6 (nI qmi) p7 p8 p9 (nI smi)), (oX4 r0 r1 p0 (nI qn33) (fn2 qn33) (fn3 qn33) (fn4 qn33) zn34 0 (-1)), (oX5 r1 k1 k2 k3 (nI qn1)), (k1, .inl (cA 0, 701, .inl fn2)), (k2, .inl (cA 0, 701, .inl fn3)), (k3, .inl (cA 1, 701, .inr (.inl fn4)))]) hP hD [0, 1, 2, 3, 4, 5, 6, 7, 8, 9, 15, 10, 11, 12, 13, 14] (by decide +kernel) rfl
              exact ih1 (i1 + 1) mli pli f0_1 f1_1 f2_1 f3_1 f4_1 f5_1 f6_1 f7_1 f8_1 u10_0_1 u10_1_1 zn37 u10_3_1 dmi cmi qmi smi qn33 zn34 H _ ls (by omega) hf0_1 hf1_1 (by omega) hn38 hn39 hn43 hv4_1 hv5_1 hv6_1 hv7_1 hv8_1 hv9_1 (fun r9 h9 => hv10_1 r9 (T_go9 c13 hn44 h9)) hP9 hD9 hS (lv_sub hl [0, 1, 2, 3, 4, 5] rfl)
          · skip
            by_cases hn47 : (fn2 tii) = 10
            · skip
              refine W.eq (g2 := F0 m 67 ls [.int 10]) (by rw [hn47]) ?_
              refine lv_tableIn (off := 51) (tgt := 118) hx hb dX4_readText_67 (by decide) (by decide) (by decide) (by decide) ?_
              refine lv_aload_n hx hb dX4_readText_118 rfl (lv_at hl 2 rfl) ?_
              obtain ⟨hPc, hDc, hFc⟩ := PDq.cut (wc := [(oX4 r0 r1 p0 (nI tii) (fn2 tii) (fn3 tii) (fn4 tii) u11_6_1 0 (-1)), (oX5 r1 k1 k2 k3 (nI qn1)), (k1, .inl (cA 0, 701, .inl fn2)), (k2, .inl (cA 0, 701, .inl fn3)), (k3, .inl (cA 1, 701, .inr (.inl fn4))), (oX3 p0 u10_0_1 u10_1_1 u10_2_1 u10_3_1 p1 (nI dmi) p2 p3 p4 p5 (nI cmi) p6 (nI qmi) p7 p8 p9 (nI smi))]) hP hD hS hA [11, 12, 13, 14, 15, 10] (by decide) rfl
              refine va_calli (va_runV (As := []) (rest := []) ⟨hx, hb, hml, hown, hts⟩ (x_readGrace l D cA sa r0 p0 tii ln u11_6_1 0 (-1) r1 k1 k2 k3 qn1 fn2 fn3 fn4 fb gP gR p1 p2 p3 p4 p5 p6 p7 p8 p9 cmi qmi dmi smi u10_0_1 u10_1_1 u10_2_1 u10_3_1 mli pli H.size hn5 hln hv1_1 hTX hv3_1 hn47) (cwV 0 hts gX4_readText_X4_readGrace rfl rfl rfl (by decide +kernel) ⟨(Nat.le_of_ble_eq_true rfl), (Nat.le_of_ble_eq_true rfl)⟩) ⟨Wd.blind, va_recv hK hPc (ci := 8) (q0 := 0) rfl rfl, fun U hU hW => ⟨rfl, Wd.call hPc hDc hK hC hZ hS hFc U hU hW⟩⟩ rfl rfl hl.1 rfl (lv_room (Nat.le_of_ble_eq_true rfl)) dX4_readText_119 ⟨(Nat.le_of_ble_eq_true rfl), (Nat.le_of_ble_eq_true rfl)⟩) hS (fun q _ h => hFc q h) hFc (fun rn48 u t H1 locs ht hvm hw hB hz1 hk1 hS => ?_)
              obtain ⟨qn49, zn50, zn51, zn52, zn53, hn54, hn55, hn56, hn57, hn58, hn59, hn60, hn61, hP1, hD1⟩ := hB
              rw [ht] at hP1
              obtain ⟨hP, hD⟩ := PDq.join (w := [(p1, .inl (cA 0, 6, .inl f0_1)), (p2, .inl (cA 1, 10, .inr (.inl f1_1))), (p3, .inl (cA 0, 10, .inl f2_1)), (p4, .inl (cA 0, 10, .inl f3_1)), (p5, .inl (cA 0, 10, .inl f4_1)), (p6, .inl (cA 1, 8, .inr (.inl f5_1))), (p7, .inl (cA 0, 350, .inl f6_1)), (p8, .inl (cA 0, 350, .inl f7_1)), (p9, .inl (cA 0, 10, .inl f8_1)), (b0, .inl (cA 2, 700, .inl fb)), (oX4 r0 r1 p0 (nI qn49) (fn2 qn49) (fn3 qn49) (fn4 qn49) zn50 zn51 zn52), (oX5 r1 k1 k2 k3 (nI qn1)), (k1, .inl (cA 0, 701, .inl fn2)), (k2, .inl (cA 0, 701, .inl fn3)), (k3, .inl (cA 1, 701, .inr (.inl fn4))), (oX3 p0 u10_0_1 u10_1_1 u10_2_1 zn53 p1 (nI dmi) p2 p3 p4 p5 (nI cmi) p6 (nI qmi) p7 p8 p9 (nI smi))]) 10 hP hD [11, 12, 13, 14, 15, 10] [0, 1, 2, 3, 4, 5, 6, 7, 8, 9] rfl rfl (by decide +kernel) (by decide +kernel) hk1 hFc hP1 hD1 rfl
              generalize H1 = H at hP hS ⊢
              rcases hw.2 with hr9 | hr9
              · skip
                have hn61 := hn61 (hw.1.trans hr9)
                subst hr9
                refine lv_istore (lv' := [(4, .int 0), (5, .int (nI i1)), (0, .ref r0), (1, .ref b0), (2, .int (nI ln)), (3, .ref p0)]) hx hb dX4_readText_122 hl (by decide) rfl (fun ls hl => ?_)
                refine lv_goto (tgt := 152) hx hb dX4_readText_124 (by decide) ?_
                refine lv_iinc (v := (nI (i1 + 1))) (lv' := [(5, .int (nI (i1 + 1))), (4, .int 0), (0, .ref r0), (1, .ref b0), (2, .int (nI ln)), (3, .ref p0)]) hx hb dX4_readText_152 hl (k := 1) rfl (nI_1 _) (by decide) rfl (fun ls hl => ?_)
                refine lv_goto (tgt := 42) hx hb dX4_readText_155 (by decide) ?_
                refine lv_iload hx hb dX4_readText_42 (lv_at hl 1 rfl) ?_
                refine lv_if_eq (tgt := 158) hx hb dX4_readText_44 (by decide) (fun c62 => ?_) (fun c9 => absurd c9 (by decide))
                refine lv_iload hx hb dX4_readText_158 (lv_at hl 1 rfl) ?_
                obtain ⟨hP9, hD9⟩ := PDq.sub (ws' := [(oX4 r0 r1 p0 (nI qn49) (fn2 qn49) (fn3 qn49) (fn4 qn49) zn50 zn51 zn52), (oX5 r1 k1 k2 k3 (nI qn1)), (k1, .inl (cA 0, 701, .inl fn2)), (k2, .inl (cA 0, 701, .inl fn3)), (k3, .inl (cA 1, 701, .inr (.inl fn4))), (b0, .inl (cA 2, 700, .inl fb)), (oX3 p0 u10_0_1 u10_1_1 u10_2_1 zn53 p1 (nI dmi) p2 p3 p4 p5 (nI cmi) p6 (nI qmi) p7 p8 p9 (nI smi)), (p1, .inl (cA 0, 6, .inl f0_1)), (p2, .inl (cA 1, 10, .inr (.inl f1_1))), (p3, .inl (cA 0, 10, .inl f2_1)), (p4, .inl (cA 0, 10, .inl f3_1)), (p5, .inl (cA 0, 10, .inl f4_1)), (p6, .inl (cA 1, 8, .inr (.inl f5_1))), (p7, .inl (cA 0, 350, .inl f6_1)), (p8, .inl (cA 0, 350, .inl f7_1)), (p9, .inl (cA 0, 10, .inl f8_1))]) hP hD [10, 11, 12, 13, 14, 9, 15, 0, 1, 2, 3, 4, 5, 6, 7, 8] (by decide +kernel) rfl
                refine W.widen (k := 0) (n := 0) (Nat.le_of_ble_eq_true rfl) (Nat.le_of_ble_eq_true rfl) ?_
                exact (W.zret (v := 0) hx hb hr (by first | rfl | decide) (fun t ht hW => ⟨⟨0, 0, rfl, ⟨rfl, by decide⟩, (nI qn49), (fn2 qn49), (fn3 qn49), zn50, zn51, zn52, (fn4 qn49), qn1, fn2, fn3, fn4, cmi, qmi, dmi, smi, u10_0_1, u10_1_1, u10_2_1, zn53, f0_1, f2_1, f3_1, f4_1, f6_1, f7_1, f8_1, f1_1, f5_1, mli, pli, hn5, hn6, hv4_1, hv5_1, hv6_1, hv7_1, hf0_1, hf1_1, hv8_1, hv9_1, (fun h9 => absurd h9 (by decide)), (fun h9 => absurd h9 (by decide)), (fun h9 => absurd h9 (by decide)), (fun _ => (hv10_1 _ (T_er9 c13 hn61))), by rw [ht]; exact hP9, hD9⟩, hS.F ht⟩) hS.2.2 dX4_readText_160)
              · skip
                have hn56 := hn56 (hw.1.trans hr9)
                subst hn56
                obtain ⟨hP, hD⟩ : PDq D A [(p1, .inl (cA 0, 6, .inl f0_1)), (p2, .inl (cA 1, 10, .inr (.inl f1_1))), (p3, .inl (cA 0, 10, .inl f2_1)), (p4, .inl (cA 0, 10, .inl f3_1)), (p5, .inl (cA 0, 10, .inl f4_1)), (p6, .inl (cA 1, 8, .inr (.inl f5_1))), (p7, .inl (cA 0, 350, .inl f6_1)), (p8, .inl (cA 0, 350, .inl f7_1)), (p9, .inl (cA 0, 10, .inl f8_1)), (b0, .inl (cA 2, 700, .inl fb)), (oX4 r0 r1 p0 (nI qn49) (fn2 qn49) (fn3 qn49) (fn4 qn49) zn50 0 zn52), (oX5 r1 k1 k2 k3 (nI qn1)), (k1, .inl (cA 0, 701, .inl fn2)), (k2, .inl (cA 0, 701, .inl fn3)), (k3, .inl (cA 1, 701, .inr (.inl fn4))), (oX3 p0 u10_0_1 u10_1_1 u10_2_1 zn53 p1 (nI dmi) p2 p3 p4 p5 (nI cmi) p6 (nI qmi) p7 p8 p9 (nI smi))] H := ⟨hP, hD⟩
                have hn57 := hn57 (hw.1.trans hr9)
                subst hn57
                obtain ⟨hP, hD⟩ : PDq D A [(p1, .inl (cA 0, 6, .inl f0_1)), (p2, .inl (cA 1, 10, .inr (.inl f1_1))), (p3, .inl (cA 0, 10, .inl f2_1)), (p4, .inl (cA 0, 10, .inl f3_1)), (p5, .inl (cA 0, 10, .inl f4_1)), (p6, .inl (cA 1, 8, .inr (.inl f5_1))), (p7, .inl (cA 0, 350, .inl f6_1)), (p8, .inl (cA 0, 350, .inl f7_1)), (p9, .inl (cA 0, 10, .inl f8_1)), (b0, .inl (cA 2, 700, .inl fb)), (oX4 r0 r1 p0 (nI qn49) (fn2 qn49) (fn3 qn49) (fn4 qn49) zn50 0 (-1)), (oX5 r1 k1 k2 k3 (nI qn1)), (k1, .inl (cA 0, 701, .inl fn2)), (k2, .inl (cA 0, 701, .inl fn3)), (k3, .inl (cA 1, 701, .inr (.inl fn4))), (oX3 p0 u10_0_1 u10_1_1 u10_2_1 zn53 p1 (nI dmi) p2 p3 p4 p5 (nI cmi) p6 (nI qmi) p7 p8 p9 (nI smi))] H := ⟨hP, hD⟩
                have hn58 := hn58 (hw.1.trans hr9)
                have hn59 := hn59 (hw.1.trans hr9)
                have hn60 := hn60 (hw.1.trans hr9)
                subst hr9
                refine lv_istore (lv' := [(4, .int 1), (5, .int (nI i1)), (0, .ref r0), (1, .ref b0), (2, .int (nI ln)), (3, .ref p0)]) hx hb dX4_readText_122 hl (by decide) rfl (fun ls hl => ?_)
                refine lv_goto (tgt := 152) hx hb dX4_readText_124 (by decide) ?_
                refine lv_iinc (v := (nI (i1 + 1))) (lv' := [(5, .int (nI (i1 + 1))), (4, .int 1), (0, .ref r0), (1, .ref b0), (2, .int (nI ln)), (3, .ref p0)]) hx hb dX4_readText_152 hl (k := 1) rfl (nI_1 _) (by decide) rfl (fun ls hl => ?_)
                refine lv_goto (tgt := 42) hx hb dX4_readText_155 (by decide) ?_
                obtain ⟨hP9, hD9⟩ := PDq.sub (ws' := [(p1, .inl (cA 0, 6, .inl f0_1)), (p2, .inl (cA 1, 10, .inr (.inl f1_1))), (p3, .inl (cA 0, 10, .inl f2_1)), (p4, .inl (cA 0, 10, .inl f3_1)), (p5, .inl (cA 0, 10, .inl f4_1)), (p6, .inl (cA 1, 8, .inr (.inl f5_1))), (p7, .inl (cA 0, 350, .inl f6_1)), (p8, .inl (cA 0, 350, .inl f7_1)), (p9, .inl (cA 0, 10, .inl f8_1)), (b0, .inl (cA 2, 700, .inl fb)), (oX3 p0 u10_0_1 u10_1_1 u10_2_1 zn53 p1 (nI dmi) p2 p3 p4 p5 (nI cmi) p6 (nI qmi) p7 p8 p9 (nI smi)), (oX4 r0 r1 p0 (nI qn49) (fn2 qn49) (fn3 qn49) (fn4 qn49) zn50 0 (-1)), (oX5 r1 k1 k2 k3 (nI qn1)), (k1, .inl (cA 0, 701, .inl fn2)), (k2, .inl (cA 0, 701, .inl fn3)), (k3, .inl (cA 1, 701, .inr (.inl fn4)))]) hP hD [0, 1, 2, 3, 4, 5, 6, 7, 8, 9, 15, 10, 11, 12, 13, 14] (by decide +kernel) rfl
                exact ih1 (i1 + 1) mli pli f0_1 f1_1 f2_1 f3_1 f4_1 f5_1 f6_1 f7_1 f8_1 u10_0_1 u10_1_1 u10_2_1 zn53 dmi cmi qmi smi qn49 zn50 H _ ls (by omega) hf0_1 hf1_1 (by omega) hn54 hn55 hn59 hv4_1 hv5_1 hv6_1 hv7_1 hv8_1 hv9_1 (fun r9 h9 => hv10_1 r9 (T_go9 c13 hn60 h9)) hP9 hD9 hS (lv_sub hl [0, 1, 2, 3, 4, 5] rfl)
            · skip
              by_cases hn63 : (fn2 tii) = 11
              · skip
                refine W.eq (g2 := F0 m 67 ls [.int 11]) (by rw [hn63]) ?_
                refine lv_tableIn (off := 60) (tgt := 127) hx hb dX4_readText_67 (by decide) (by decide) (by decide) (by decide) ?_
                refine lv_aload_n hx hb dX4_readText_127 rfl (lv_at hl 2 rfl) ?_
                obtain ⟨hPc, hDc, hFc⟩ := PDq.cut (wc := [(oX4 r0 r1 p0 (nI tii) (fn2 tii) (fn3 tii) (fn4 tii) u11_6_1 0 (-1)), (oX5 r1 k1 k2 k3 (nI qn1)), (k1, .inl (cA 0, 701, .inl fn2)), (k2, .inl (cA 0, 701, .inl fn3)), (k3, .inl (cA 1, 701, .inr (.inl fn4))), (oX3 p0 u10_0_1 u10_1_1 u10_2_1 u10_3_1 p1 (nI dmi) p2 p3 p4 p5 (nI cmi) p6 (nI qmi) p7 p8 p9 (nI smi)), (p1, .inl (cA 0, 6, .inl f0_1))]) hP hD hS hA [11, 12, 13, 14, 15, 10, 0] (by decide) rfl
                refine va_calli (va_runV (As := []) (rest := []) ⟨hx, hb, hml, hown, hts⟩ (x_readDeposit l D cA sa r0 p0 tii ln u11_6_1 0 (-1) r1 k1 k2 k3 qn1 fn2 fn3 fn4 fb gP gR p1 p2 p3 p4 p5 p6 p7 p8 p9 cmi qmi dmi smi u10_0_1 u10_1_1 u10_2_1 u10_3_1 mli pli f0_1 H.size hn5 hln hv1_1 hTX hv3_1 hv4_1 hv5_1 hv6_1 hv7_1 hn63) (cwV 0 hts gX4_readText_X4_readDeposit rfl rfl rfl (by decide +kernel) ⟨(Nat.le_of_ble_eq_true rfl), (Nat.le_of_ble_eq_true rfl)⟩) ⟨Wd.blind, va_recv hK hPc (ci := 8) (q0 := 0) rfl rfl, fun U hU hW => ⟨rfl, Wd.call hPc hDc hK hC hZ hS hFc U hU hW⟩⟩ rfl rfl hl.1 rfl (lv_room (Nat.le_of_ble_eq_true rfl)) dX4_readText_128 ⟨(Nat.le_of_ble_eq_true rfl), (Nat.le_of_ble_eq_true rfl)⟩) hS (fun q _ h => hFc q h) hFc (fun rn64 u t H1 locs ht hvm hw hB hz1 hk1 hS => ?_)
                obtain ⟨qn65, zn66, zn67, zn68, qn69, fn70, hn71, hn72, hn73, hn74, hn75, hn76, hn77, hn78, hn79, hP1, hD1⟩ := hB
                rw [ht] at hP1
                obtain ⟨hP, hD⟩ := PDq.join (w := [(p2, .inl (cA 1, 10, .inr (.inl f1_1))), (p3, .inl (cA 0, 10, .inl f2_1)), (p4, .inl (cA 0, 10, .inl f3_1)), (p5, .inl (cA 0, 10, .inl f4_1)), (p6, .inl (cA 1, 8, .inr (.inl f5_1))), (p7, .inl (cA 0, 350, .inl f6_1)), (p8, .inl (cA 0, 350, .inl f7_1)), (p9, .inl (cA 0, 10, .inl f8_1)), (b0, .inl (cA 2, 700, .inl fb)), (oX4 r0 r1 p0 (nI qn65) (fn2 qn65) (fn3 qn65) (fn4 qn65) zn66 zn67 zn68), (oX5 r1 k1 k2 k3 (nI qn1)), (k1, .inl (cA 0, 701, .inl fn2)), (k2, .inl (cA 0, 701, .inl fn3)), (k3, .inl (cA 1, 701, .inr (.inl fn4))), (oX3 p0 u10_0_1 u10_1_1 u10_2_1 u10_3_1 p1 (nI qn69) p2 p3 p4 p5 (nI cmi) p6 (nI qmi) p7 p8 p9 (nI smi)), (p1, .inl (cA 0, 6, .inl fn70))]) 9 hP hD [11, 12, 13, 14, 15, 10, 0] [1, 2, 3, 4, 5, 6, 7, 8, 9] rfl rfl (by decide +kernel) (by decide +kernel) hk1 hFc hP1 hD1 rfl
                generalize H1 = H at hP hS ⊢
                rcases hw.2 with hr9 | hr9
                · skip
                  have hn79 := hn79 (hw.1.trans hr9)
                  subst hr9
                  refine lv_istore (lv' := [(4, .int 0), (5, .int (nI i1)), (0, .ref r0), (1, .ref b0), (2, .int (nI ln)), (3, .ref p0)]) hx hb dX4_readText_131 hl (by decide) rfl (fun ls hl => ?_)
                  refine lv_goto (tgt := 152) hx hb dX4_readText_133 (by decide) ?_
                  refine lv_iinc (v := (nI (i1 + 1))) (lv' := [(5, .int (nI (i1 + 1))), (4, .int 0), (0, .ref r0), (1, .ref b0), (2, .int (nI ln)), (3, .ref p0)]) hx hb dX4_readText_152 hl (k := 1) rfl (nI_1 _) (by decide) rfl (fun ls hl => ?_)
                  refine lv_goto (tgt := 42) hx hb dX4_readText_155 (by decide) ?_
                  refine lv_iload hx hb dX4_readText_42 (lv_at hl 1 rfl) ?_
                  refine lv_if_eq (tgt := 158) hx hb dX4_readText_44 (by decide) (fun c80 => ?_) (fun c9 => absurd c9 (by decide))
                  refine lv_iload hx hb dX4_readText_158 (lv_at hl 1 rfl) ?_
                  obtain ⟨hP9, hD9⟩ := PDq.sub (ws' := [(oX4 r0 r1 p0 (nI qn65) (fn2 qn65) (fn3 qn65) (fn4 qn65) zn66 zn67 zn68), (oX5 r1 k1 k2 k3 (nI qn1)), (k1, .inl (cA 0, 701, .inl fn2)), (k2, .inl (cA 0, 701, .inl fn3)), (k3, .inl (cA 1, 701, .inr (.inl fn4))), (b0, .inl (cA 2, 700, .inl fb)), (oX3 p0 u10_0_1 u10_1_1 u10_2_1 u10_3_1 p1 (nI qn69) p2 p3 p4 p5 (nI cmi) p6 (nI qmi) p7 p8 p9 (nI smi)), (p1, .inl (cA 0, 6, .inl fn70)), (p2, .inl (cA 1, 10, .inr (.inl f1_1))), (p3, .inl (cA 0, 10, .inl f2_1)), (p4, .inl (cA 0, 10, .inl f3_1)), (p5, .inl (cA 0, 10, .inl f4_1)), (p6, .inl (cA 1, 8, .inr (.inl f5_1))), (p7, .inl (cA 0, 350, .inl f6_1)), (p8, .inl (cA 0, 350, .inl f7_1)), (p9, .inl (cA 0, 10, .inl f8_1))]) hP hD [9, 10, 11, 12, 13, 8, 14, 15, 0, 1, 2, 3, 4, 5, 6, 7] (by decide +kernel) rfl
                  refine W.widen (k := 0) (n := 0) (Nat.le_of_ble_eq_true rfl) (Nat.le_of_ble_eq_true rfl) ?_
                  exact (W.zret (v := 0) hx hb hr (by first | rfl | decide) (fun t ht hW => ⟨⟨0, 0, rfl, ⟨rfl, by decide⟩, (nI qn65), (fn2 qn65), (fn3 qn65), zn66, zn67, zn68, (fn4 qn65), qn1, fn2, fn3, fn4, cmi, qmi, qn69, smi, u10_0_1, u10_1_1, u10_2_1, u10_3_1, fn70, f2_1, f3_1, f4_1, f6_1, f7_1, f8_1, f1_1, f5_1, mli, pli, hn5, hn6, hv4_1, hv5_1, hn73, hv7_1, hf0_1, hf1_1, hv8_1, hv9_1, (fun h9 => absurd h9 (by decide)), (fun h9 => absurd h9 (by decide)), (fun h9 => absurd h9 (by decide)), (fun _ => (hv10_1 _ (T_er9 c13 hn79))), by rw [ht]; exact hP9, hD9⟩, hS.F ht⟩) hS.2.2 dX4_readText_160)
                · skip
                  have hn74 := hn74 (hw.1.trans hr9)
                  subst hn74
                  obtain ⟨hP, hD⟩ : PDq D A [(p2, .inl (cA 1, 10, .inr (.inl f1_1))), (p3, .inl (cA 0, 10, .inl f2_1)), (p4, .inl (cA 0, 10, .inl f3_1)), (p5, .inl (cA 0, 10, .inl f4_1)), (p6, .inl (cA 1, 8, .inr (.inl f5_1))), (p7, .inl (cA 0, 350, .inl f6_1)), (p8, .inl (cA 0, 350, .inl f7_1)), (p9, .inl (cA 0, 10, .inl f8_1)), (b0, .inl (cA 2, 700, .inl fb)), (oX4 r0 r1 p0 (nI qn65) (fn2 qn65) (fn3 qn65) (fn4 qn65) zn66 0 zn68), (oX5 r1 k1 k2 k3 (nI qn1)), (k1, .inl (cA 0, 701, .inl fn2)), (k2, .inl (cA 0, 701, .inl fn3)), (k3, .inl (cA 1, 701, .inr (.inl fn4))), (oX3 p0 u10_0_1 u10_1_1 u10_2_1 u10_3_1 p1 (nI qn69) p2 p3 p4 p5 (nI cmi) p6 (nI qmi) p7 p8 p9 (nI smi)), (p1, .inl (cA 0, 6, .inl fn70))] H := ⟨hP, hD⟩
                  have hn75 := hn75 (hw.1.trans hr9)
                  subst hn75
                  obtain ⟨hP, hD⟩ : PDq D A [(p2, .inl (cA 1, 10, .inr (.inl f1_1))), (p3, .inl (cA 0, 10, .inl f2_1)), (p4, .inl (cA 0, 10, .inl f3_1)), (p5, .inl (cA 0, 10, .inl f4_1)), (p6, .inl (cA 1, 8, .inr (.inl f5_1))), (p7, .inl (cA 0, 350, .inl f6_1)), (p8, .inl (cA 0, 350, .inl f7_1)), (p9, .inl (cA 0, 10, .inl f8_1)), (b0, .inl (cA 2, 700, .inl fb)), (oX4 r0 r1 p0 (nI qn65) (fn2 qn65) (fn3 qn65) (fn4 qn65) zn66 0 (-1)), (oX5 r1 k1 k2 k3 (nI qn1)), (k1, .inl (cA 0, 701, .inl fn2)), (k2, .inl (cA 0, 701, .inl fn3)), (k3, .inl (cA 1, 701, .inr (.inl fn4))), (oX3 p0 u10_0_1 u10_1_1 u10_2_1 u10_3_1 p1 (nI qn69) p2 p3 p4 p5 (nI cmi) p6 (nI qmi) p7 p8 p9 (nI smi)), (p1, .inl (cA 0, 6, .inl fn70))] H := ⟨hP, hD⟩
                  have hn76 := hn76 (hw.1.trans hr9)
                  have hn77 := hn77 (hw.1.trans hr9)
                  have hn78 := hn78 (hw.1.trans hr9)
                  subst hr9
                  refine lv_istore (lv' := [(4, .int 1), (5, .int (nI i1)), (0, .ref r0), (1, .ref b0), (2, .int (nI ln)), (3, .ref p0)]) hx hb dX4_readText_131 hl (by decide) rfl (fun ls hl => ?_)
                  refine lv_goto (tgt := 152) hx hb dX4_readText_133 (by decide) ?_
                  refine lv_iinc (v := (nI (i1 + 1))) (lv' := [(5, .int (nI (i1 + 1))), (4, .int 1), (0, .ref r0), (1, .ref b0), (2, .int (nI ln)), (3, .ref p0)]) hx hb dX4_readText_152 hl (k := 1) rfl (nI_1 _) (by decide) rfl (fun ls hl => ?_)
                  refine lv_goto (tgt := 42) hx hb dX4_readText_155 (by decide) ?_
                  obtain ⟨hP9, hD9⟩ := PDq.sub (ws' := [(p1, .inl (cA 0, 6, .inl fn70)), (p2, .inl (cA 1, 10, .inr (.inl f1_1))), (p3, .inl (cA 0, 10, .inl f2_1)), (p4, .inl (cA 0, 10, .inl f3_1)), (p5, .inl (cA 0, 10, .inl f4_1)), (p6, .inl (cA 1, 8, .inr (.inl f5_1))), (p7, .inl (cA 0, 350, .inl f6_1)), (p8, .inl (cA 0, 350, .inl f7_1)), (p9, .inl (cA 0, 10, .inl f8_1)), (b0, .inl (cA 2, 700, .inl fb)), (oX3 p0 u10_0_1 u10_1_1 u10_2_1 u10_3_1 p1 (nI qn69) p2 p3 p4 p5 (nI cmi) p6 (nI qmi) p7 p8 p9 (nI smi)), (oX4 r0 r1 p0 (nI qn65) (fn2 qn65) (fn3 qn65) (fn4 qn65) zn66 0 (-1)), (oX5 r1 k1 k2 k3 (nI qn1)), (k1, .inl (cA 0, 701, .inl fn2)), (k2, .inl (cA 0, 701, .inl fn3)), (k3, .inl (cA 1, 701, .inr (.inl fn4)))]) hP hD [15, 0, 1, 2, 3, 4, 5, 6, 7, 8, 14, 9, 10, 11, 12, 13] (by decide +kernel) rfl
                  exact ih1 (i1 + 1) mli pli fn70 f1_1 f2_1 f3_1 f4_1 f5_1 f6_1 f7_1 f8_1 u10_0_1 u10_1_1 u10_2_1 u10_3_1 qn69 cmi qmi smi qn65 zn66 H _ ls (by omega) hf0_1 hf1_1 (by omega) hn71 hn72 hn77 hv4_1 hv5_1 hn73 hv7_1 hv8_1 hv9_1 (fun r9 h9 => hv10_1 r9 (T_go9 c13 hn78 h9)) hP9 hD9 hS (lv_sub hl [0, 1, 2, 3, 4, 5] rfl)
              · skip
                by_cases hn81 : (fn2 tii) = 12
                · skip
                  refine W.eq (g2 := F0 m 67 ls [.int 12]) (by rw [hn81]) ?_
                  refine lv_tableIn (off := 69) (tgt := 136) hx hb dX4_readText_67 (by decide) (by decide) (by decide) (by decide) ?_
                  refine lv_aload_n hx hb dX4_readText_136 rfl (lv_at hl 2 rfl) ?_
                  obtain ⟨hPc, hDc, hFc⟩ := PDq.cut (wc := [(oX4 r0 r1 p0 (nI tii) (fn2 tii) (fn3 tii) (fn4 tii) u11_6_1 0 (-1)), (oX5 r1 k1 k2 k3 (nI qn1)), (k1, .inl (cA 0, 701, .inl fn2)), (k2, .inl (cA 0, 701, .inl fn3)), (k3, .inl (cA 1, 701, .inr (.inl fn4))), (oX3 p0 u10_0_1 u10_1_1 u10_2_1 u10_3_1 p1 (nI dmi) p2 p3 p4 p5 (nI cmi) p6 (nI qmi) p7 p8 p9 (nI smi)), (p2, .inl (cA 1, 10, .inr (.inl f1_1))), (p6, .inl (cA 1, 8, .inr (.inl f5_1))), (p7, .inl (cA 0, 350, .inl f6_1)), (p8, .inl (cA 0, 350, .inl f7_1)), (p3, .inl (cA 0, 10, .inl f2_1)), (p4, .inl (cA 0, 10, .inl f3_1)), (p5, .inl (cA 0, 10, .inl f4_1)), (p9, .inl (cA 0, 10, .inl f8_1))]) hP hD hS hA [11, 12, 13, 14, 15, 10, 1, 5, 6, 7, 2, 3, 4, 8] (by decide +kernel) rfl
                  refine va_calli (va_runV (As := []) (rest := []) ⟨hx, hb, hml, hown, hts⟩ (x_readMilestone l D cA sa r0 p0 tii ln u11_6_1 0 (-1) r1 k1 k2 k3 qn1 fn2 fn3 fn4 fb gP gR p1 p2 p3 p4 p5 p6 p7 p8 p9 cmi qmi dmi smi u10_0_1 u10_1_1 u10_2_1 u10_3_1 f1_1 f5_1 f6_1 f7_1 f2_1 f3_1 f4_1 f8_1 mli pli H.size hn5 hln hv1_1 hTX hv3_1 hv4_1 hv5_1 hv6_1 hv7_1 hv8_1 hv9_1 hf0_1 hf1_1 hn81) (cwV 0 hts gX4_readText_X4_readMilestone rfl rfl rfl (by decide +kernel) ⟨(Nat.le_of_ble_eq_true rfl), (Nat.le_of_ble_eq_true rfl)⟩) ⟨Wd.blind, va_recv hK hPc (ci := 8) (q0 := 0) rfl rfl, fun U hU hW => ⟨rfl, Wd.call hPc hDc hK hC hZ hS hFc U hU hW⟩⟩ rfl rfl hl.1 rfl (lv_room (Nat.le_of_ble_eq_true rfl)) dX4_readText_137 ⟨(Nat.le_of_ble_eq_true rfl), (Nat.le_of_ble_eq_true rfl)⟩) hS (fun q _ h => hFc q h) hFc (fun rn82 u t H1 locs ht hvm hw hB hz1 hk1 hS => ?_)
                  obtain ⟨qn83, zn84, zn85, zn86, qn87, qn88, qn89, fn90, fn91, fn92, fn93, fn94, fn95, fn96, fn97, zn98, zn99, hn100, hn101, hn102, hn103, hn104, hn105, hn106, hn107, hn108, hn109, hn110, hn111, hn112, hn113, hn114, hP1, hD1⟩ := hB
                  rw [ht] at hP1
                  obtain ⟨hP, hD⟩ := PDq.join (w := [(p1, .inl (cA 0, 6, .inl f0_1)), (b0, .inl (cA 2, 700, .inl fb)), (oX4 r0 r1 p0 (nI qn83) (fn2 qn83) (fn3 qn83) (fn4 qn83) zn84 zn85 zn86), (oX5 r1 k1 k2 k3 (nI qn1)), (k1, .inl (cA 0, 701, .inl fn2)), (k2, .inl (cA 0, 701, .inl fn3)), (k3, .inl (cA 1, 701, .inr (.inl fn4))), (oX3 p0 u10_0_1 u10_1_1 u10_2_1 u10_3_1 p1 (nI dmi) p2 p3 p4 p5 (nI qn87) p6 (nI qn88) p7 p8 p9 (nI qn89)), (p2, .inl (cA 1, 10, .inr (.inl fn90))), (p6, .inl (cA 1, 8, .inr (.inl fn91))), (p7, .inl (cA 0, 350, .inl fn92)), (p8, .inl (cA 0, 350, .inl fn93)), (p3, .inl (cA 0, 10, .inl fn94)), (p4, .inl (cA 0, 10, .inl fn95)), (p5, .inl (cA 0, 10, .inl fn96)), (p9, .inl (cA 0, 10, .inl fn97))]) 2 hP hD [11, 12, 13, 14, 15, 10, 1, 5, 6, 7, 2, 3, 4, 8] [0, 9] rfl rfl (by decide) (by decide +kernel) hk1 hFc hP1 hD1 rfl
                  generalize H1 = H at hP hS ⊢
                  rcases hw.2 with hr9 | hr9
                  · skip
                    have hn114 := hn114 (hw.1.trans hr9)
                    subst hr9
                    refine lv_istore (lv' := [(4, .int 0), (5, .int (nI i1)), (0, .ref r0), (1, .ref b0), (2, .int (nI ln)), (3, .ref p0)]) hx hb dX4_readText_140 hl (by decide) rfl (fun ls hl => ?_)
                    refine lv_goto (tgt := 152) hx hb dX4_readText_142 (by decide) ?_
                    refine lv_iinc (v := (nI (i1 + 1))) (lv' := [(5, .int (nI (i1 + 1))), (4, .int 0), (0, .ref r0), (1, .ref b0), (2, .int (nI ln)), (3, .ref p0)]) hx hb dX4_readText_152 hl (k := 1) rfl (nI_1 _) (by decide) rfl (fun ls hl => ?_)
                    refine lv_goto (tgt := 42) hx hb dX4_readText_155 (by decide) ?_
                    refine lv_iload hx hb dX4_readText_42 (lv_at hl 1 rfl) ?_
                    refine lv_if_eq (tgt := 158) hx hb dX4_readText_44 (by decide) (fun c115 => ?_) (fun c9 => absurd c9 (by decide))
                    refine lv_iload hx hb dX4_readText_158 (lv_at hl 1 rfl) ?_
                    obtain ⟨hP9, hD9⟩ := PDq.sub (ws' := [(oX4 r0 r1 p0 (nI qn83) (fn2 qn83) (fn3 qn83) (fn4 qn83) zn84 zn85 zn86), (oX5 r1 k1 k2 k3 (nI qn1)), (k1, .inl (cA 0, 701, .inl fn2)), (k2, .inl (cA 0, 701, .inl fn3)), (k3, .inl (cA 1, 701, .inr (.inl fn4))), (b0, .inl (cA 2, 700, .inl fb)), (oX3 p0 u10_0_1 u10_1_1 u10_2_1 u10_3_1 p1 (nI dmi) p2 p3 p4 p5 (nI qn87) p6 (nI qn88) p7 p8 p9 (nI qn89)), (p1, .inl (cA 0, 6, .inl f0_1)), (p2, .inl (cA 1, 10, .inr (.inl fn90))), (p3, .inl (cA 0, 10, .inl fn94)), (p4, .inl (cA 0, 10, .inl fn95)), (p5, .inl (cA 0, 10, .inl fn96)), (p6, .inl (cA 1, 8, .inr (.inl fn91))), (p7, .inl (cA 0, 350, .inl fn92)), (p8, .inl (cA 0, 350, .inl fn93)), (p9, .inl (cA 0, 10, .inl fn97))]) hP hD [2, 3, 4, 5, 6, 1, 7, 0, 8, 12, 13, 14, 9, 10, 11, 15] (by decide +kernel) rfl
                    refine W.widen (k := 0) (n := 0) (Nat.le_of_ble_eq_true rfl) (Nat.le_of_ble_eq_true rfl) ?_
                    exact (W.zret (v := 0) hx hb hr (by first | rfl | decide) (fun t ht hW => ⟨⟨0, 0, rfl, ⟨rfl, by decide⟩, (nI qn83), (fn2 qn83), (fn3 qn83), zn84, zn85, zn86, (fn4 qn83), qn1, fn2, fn3, fn4, qn87, qn88, dmi, qn89, u10_0_1, u10_1_1, u10_2_1, u10_3_1, f0_1, fn94, fn95, fn96, fn92, fn93, fn97, fn90, fn91, zn98, zn99, hn5, hn6, hn102, hn103, hv6_1, hn104, hn107, hn108, hn105, hn106, (fun h9 => absurd h9 (by decide)), (fun h9 => absurd h9 (by decide)), (fun h9 => absurd h9 (by decide)), (fun _ => (hv10_1 _ (T_er9 c13 hn114))), by rw [ht]; exact hP9, hD9⟩, hS.F ht⟩) hS.2.2 dX4_readText_160)
                  · skip
                    have hn109 := hn109 (hw.1.trans hr9)
                    subst hn109
                    obtain ⟨hP, hD⟩ : PDq D A [(p1, .inl (cA 0, 6, .inl f0_1)), (b0, .inl (cA 2, 700, .inl fb)), (oX4 r0 r1 p0 (nI qn83) (fn2 qn83) (fn3 qn83) (fn4 qn83) zn84 0 zn86), (oX5 r1 k1 k2 k3 (nI qn1)), (k1, .inl (cA 0, 701, .inl fn2)), (k2, .inl (cA 0, 701, .inl fn3)), (k3, .inl (cA 1, 701, .inr (.inl fn4))), (oX3 p0 u10_0_1 u10_1_1 u10_2_1 u10_3_1 p1 (nI dmi) p2 p3 p4 p5 (nI qn87) p6 (nI qn88) p7 p8 p9 (nI qn89)), (p2, .inl (cA 1, 10, .inr (.inl fn90))), (p6, .inl (cA 1, 8, .inr (.inl fn91))), (p7, .inl (cA 0, 350, .inl fn92)), (p8, .inl (cA 0, 350, .inl fn93)), (p3, .inl (cA 0, 10, .inl fn94)), (p4, .inl (cA 0, 10, .inl fn95)), (p5, .inl (cA 0, 10, .inl fn96)), (p9, .inl (cA 0, 10, .inl fn97))] H := ⟨hP, hD⟩
                    have hn110 := hn110 (hw.1.trans hr9)
                    subst hn110
                    obtain ⟨hP, hD⟩ : PDq D A [(p1, .inl (cA 0, 6, .inl f0_1)), (b0, .inl (cA 2, 700, .inl fb)), (oX4 r0 r1 p0 (nI qn83) (fn2 qn83) (fn3 qn83) (fn4 qn83) zn84 0 (-1)), (oX5 r1 k1 k2 k3 (nI qn1)), (k1, .inl (cA 0, 701, .inl fn2)), (k2, .inl (cA 0, 701, .inl fn3)), (k3, .inl (cA 1, 701, .inr (.inl fn4))), (oX3 p0 u10_0_1 u10_1_1 u10_2_1 u10_3_1 p1 (nI dmi) p2 p3 p4 p5 (nI qn87) p6 (nI qn88) p7 p8 p9 (nI qn89)), (p2, .inl (cA 1, 10, .inr (.inl fn90))), (p6, .inl (cA 1, 8, .inr (.inl fn91))), (p7, .inl (cA 0, 350, .inl fn92)), (p8, .inl (cA 0, 350, .inl fn93)), (p3, .inl (cA 0, 10, .inl fn94)), (p4, .inl (cA 0, 10, .inl fn95)), (p5, .inl (cA 0, 10, .inl fn96)), (p9, .inl (cA 0, 10, .inl fn97))] H := ⟨hP, hD⟩
                    have hn111 := hn111 (hw.1.trans hr9)
                    have hn112 := hn112 (hw.1.trans hr9)
                    have hn113 := hn113 (hw.1.trans hr9)
                    subst hr9
                    refine lv_istore (lv' := [(4, .int 1), (5, .int (nI i1)), (0, .ref r0), (1, .ref b0), (2, .int (nI ln)), (3, .ref p0)]) hx hb dX4_readText_140 hl (by decide) rfl (fun ls hl => ?_)
                    refine lv_goto (tgt := 152) hx hb dX4_readText_142 (by decide) ?_
                    refine lv_iinc (v := (nI (i1 + 1))) (lv' := [(5, .int (nI (i1 + 1))), (4, .int 1), (0, .ref r0), (1, .ref b0), (2, .int (nI ln)), (3, .ref p0)]) hx hb dX4_readText_152 hl (k := 1) rfl (nI_1 _) (by decide) rfl (fun ls hl => ?_)
                    refine lv_goto (tgt := 42) hx hb dX4_readText_155 (by decide) ?_
                    obtain ⟨hP9, hD9⟩ := PDq.sub (ws' := [(p1, .inl (cA 0, 6, .inl f0_1)), (p2, .inl (cA 1, 10, .inr (.inl fn90))), (p3, .inl (cA 0, 10, .inl fn94)), (p4, .inl (cA 0, 10, .inl fn95)), (p5, .inl (cA 0, 10, .inl fn96)), (p6, .inl (cA 1, 8, .inr (.inl fn91))), (p7, .inl (cA 0, 350, .inl fn92)), (p8, .inl (cA 0, 350, .inl fn93)), (p9, .inl (cA 0, 10, .inl fn97)), (b0, .inl (cA 2, 700, .inl fb)), (oX3 p0 u10_0_1 u10_1_1 u10_2_1 u10_3_1 p1 (nI dmi) p2 p3 p4 p5 (nI qn87) p6 (nI qn88) p7 p8 p9 (nI qn89)), (oX4 r0 r1 p0 (nI qn83) (fn2 qn83) (fn3 qn83) (fn4 qn83) zn84 0 (-1)), (oX5 r1 k1 k2 k3 (nI qn1)), (k1, .inl (cA 0, 701, .inl fn2)), (k2, .inl (cA 0, 701, .inl fn3)), (k3, .inl (cA 1, 701, .inr (.inl fn4)))]) hP hD [0, 8, 12, 13, 14, 9, 10, 11, 15, 1, 7, 2, 3, 4, 5, 6] (by decide +kernel) rfl
                    exact ih1 (i1 + 1) zn98 zn99 f0_1 fn90 fn94 fn95 fn96 fn91 fn92 fn93 fn97 u10_0_1 u10_1_1 u10_2_1 u10_3_1 dmi qn87 qn88 qn89 qn83 zn84 H _ ls (by omega) hn107 hn108 (by omega) hn100 hn101 hn112 hn102 hn103 hv6_1 hn104 hn105 hn106 (fun r9 h9 => hv10_1 r9 (T_go9 c13 hn113 h9)) hP9 hD9 hS (lv_sub hl [0, 1, 2, 3, 4, 5] rfl)
                · skip
                  refine lv_tableOut (tgt := 145) hx hb dX4_readText_67 (by have q0 : ¬ ((fn2 tii)).toInt = 8 := fun e9 => hn14 (Int32.toInt_inj.mp (e9.trans (by decide))); have q1 : ¬ ((fn2 tii)).toInt = 9 := fun e9 => hn31 (Int32.toInt_inj.mp (e9.trans (by decide))); have q2 : ¬ ((fn2 tii)).toInt = 10 := fun e9 => hn47 (Int32.toInt_inj.mp (e9.trans (by decide))); have q3 : ¬ ((fn2 tii)).toInt = 11 := fun e9 => hn63 (Int32.toInt_inj.mp (e9.trans (by decide))); have q4 : ¬ ((fn2 tii)).toInt = 12 := fun e9 => hn81 (Int32.toInt_inj.mp (e9.trans (by decide))); omega) (by decide) ?_
                  refine lv_aload_n hx hb dX4_readText_145 rfl (lv_at hl 2 rfl) ?_
                  refine lv_iconst (v := 2) hx hb dX4_readText_146 (by decide) ?_
                  obtain ⟨hPc, hDc, hFc⟩ := PDq.cut (wc := [(oX4 r0 r1 p0 (nI tii) (fn2 tii) (fn3 tii) (fn4 tii) u11_6_1 0 (-1))]) hP hD hS hA [11] (by decide) rfl
                  refine va_calli (va_runV (As := [.int 2]) (rest := []) ⟨hx, hb, hml, hown, hts⟩ (x_fail l D cA sa r0 r1 p0 (nI tii) (fn2 tii) (fn3 tii) u11_6_1 0 (-1) (fn4 tii) 2 H.size) (cwV 1 hts gX4_readText_X4_fail rfl rfl rfl (by decide +kernel) ⟨(Nat.le_of_ble_eq_true rfl), (Nat.le_of_ble_eq_true rfl)⟩) ⟨Wd.blind, va_recv hK hPc (ci := 8) (q0 := 0) rfl rfl, fun U hU hW => ⟨rfl, Wd.call hPc hDc hK hC hZ hS hFc U hU hW⟩⟩ rfl rfl hl.1 rfl (lv_room (Nat.le_of_ble_eq_true rfl)) dX4_readText_147 ⟨(Nat.le_of_ble_eq_true rfl), (Nat.le_of_ble_eq_true rfl)⟩) hS (fun q _ h => hFc q h) hFc (fun rn116 u t H1 locs ht hvm hw hB hz1 hk1 hS => ?_)
                  obtain ⟨zn117, hn118, hP1, hD1⟩ := hB
                  rw [ht] at hP1
                  obtain ⟨hP, hD⟩ := PDq.join (w := [(p1, .inl (cA 0, 6, .inl f0_1)), (p2, .inl (cA 1, 10, .inr (.inl f1_1))), (p3, .inl (cA 0, 10, .inl f2_1)), (p4, .inl (cA 0, 10, .inl f3_1)), (p5, .inl (cA 0, 10, .inl f4_1)), (p6, .inl (cA 1, 8, .inr (.inl f5_1))), (p7, .inl (cA 0, 350, .inl f6_1)), (p8, .inl (cA 0, 350, .inl f7_1)), (p9, .inl (cA 0, 10, .inl f8_1)), (b0, .inl (cA 2, 700, .inl fb)), (oX3 p0 u10_0_1 u10_1_1 u10_2_1 u10_3_1 p1 (nI dmi) p2 p3 p4 p5 (nI cmi) p6 (nI qmi) p7 p8 p9 (nI smi)), (oX5 r1 k1 k2 k3 (nI qn1)), (k1, .inl (cA 0, 701, .inl fn2)), (k2, .inl (cA 0, 701, .inl fn3)), (k3, .inl (cA 1, 701, .inr (.inl fn4))), (oX4 r0 r1 p0 (nI tii) (fn2 tii) (fn3 tii) (fn4 tii) u11_6_1 zn117 (fn3 tii))]) 15 hP hD [11] [0, 1, 2, 3, 4, 5, 6, 7, 8, 9, 10, 12, 13, 14, 15] rfl rfl (by decide +kernel) (by decide +kernel) hk1 hFc hP1 hD1 rfl
                  generalize H1 = H at hP hS ⊢
                  obtain rfl : rn116 = 0 := hw
                  refine lv_istore (lv' := [(4, .int 0), (5, .int (nI i1)), (0, .ref r0), (1, .ref b0), (2, .int (nI ln)), (3, .ref p0)]) hx hb dX4_readText_150 hl (by decide) rfl (fun ls hl => ?_)
                  refine lv_iinc (v := (nI (i1 + 1))) (lv' := [(5, .int (nI (i1 + 1))), (4, .int 0), (0, .ref r0), (1, .ref b0), (2, .int (nI ln)), (3, .ref p0)]) hx hb dX4_readText_152 hl (k := 1) rfl (nI_1 _) (by decide) rfl (fun ls hl => ?_)
                  refine lv_goto (tgt := 42) hx hb dX4_readText_155 (by decide) ?_
                  refine lv_iload hx hb dX4_readText_42 (lv_at hl 1 rfl) ?_
                  refine lv_if_eq (tgt := 158) hx hb dX4_readText_44 (by decide) (fun c119 => ?_) (fun c9 => absurd c9 (by decide))
                  refine lv_iload hx hb dX4_readText_158 (lv_at hl 1 rfl) ?_
                  obtain ⟨hP9, hD9⟩ := PDq.sub (ws' := [(oX4 r0 r1 p0 (nI tii) (fn2 tii) (fn3 tii) (fn4 tii) u11_6_1 zn117 (fn3 tii)), (oX5 r1 k1 k2 k3 (nI qn1)), (k1, .inl (cA 0, 701, .inl fn2)), (k2, .inl (cA 0, 701, .inl fn3)), (k3, .inl (cA 1, 701, .inr (.inl fn4))), (b0, .inl (cA 2, 700, .inl fb)), (oX3 p0 u10_0_1 u10_1_1 u10_2_1 u10_3_1 p1 (nI dmi) p2 p3 p4 p5 (nI cmi) p6 (nI qmi) p7 p8 p9 (nI smi)), (p1, .inl (cA 0, 6, .inl f0_1)), (p2, .inl (cA 1, 10, .inr (.inl f1_1))), (p3, .inl (cA 0, 10, .inl f2_1)), (p4, .inl (cA 0, 10, .inl f3_1)), (p5, .inl (cA 0, 10, .inl f4_1)), (p6, .inl (cA 1, 8, .inr (.inl f5_1))), (p7, .inl (cA 0, 350, .inl f6_1)), (p8, .inl (cA 0, 350, .inl f7_1)), (p9, .inl (cA 0, 10, .inl f8_1))]) hP hD [15, 11, 12, 13, 14, 9, 10, 0, 1, 2, 3, 4, 5, 6, 7, 8] (by decide +kernel) rfl
                  refine W.widen (k := 0) (n := 0) (Nat.le_of_ble_eq_true rfl) (Nat.le_of_ble_eq_true rfl) ?_
                  exact (W.zret (v := 0) hx hb hr (by first | rfl | decide) (fun t ht hW => ⟨⟨0, 0, rfl, ⟨rfl, by decide⟩, (nI tii), (fn2 tii), (fn3 tii), u11_6_1, zn117, (fn3 tii), (fn4 tii), qn1, fn2, fn3, fn4, cmi, qmi, dmi, smi, u10_0_1, u10_1_1, u10_2_1, u10_3_1, f0_1, f2_1, f3_1, f4_1, f6_1, f7_1, f8_1, f1_1, f5_1, mli, pli, hn5, hn6, hv4_1, hv5_1, hv6_1, hv7_1, hf0_1, hf1_1, hv8_1, hv9_1, (fun h9 => absurd h9 (by decide)), (fun h9 => absurd h9 (by decide)), (fun h9 => absurd h9 (by decide)), (fun _ => (hv10_1 _ (T_er c13 (S_nonex (k812 hn14 hn31 hn47 hn63 hn81) hn118 rfl)))), by rw [ht]; exact hP9, hD9⟩, hS.F ht⟩) hS.2.2 dX4_readText_160)
  obtain ⟨hP9, hD9⟩ := PDq.sub (ws' := [(p1, .inl (cA 0, 6, .inl fde)), (p2, .inl (cA 1, 10, .inr (.inl fna))), (p3, .inl (cA 0, 10, .inl fam)), (p4, .inl (cA 0, 10, .inl fpi)), (p5, .inl (cA 0, 10, .inl fby)), (p6, .inl (cA 1, 8, .inr (.inl fpn))), (p7, .inl (cA 0, 350, .inl fst)), (p8, .inl (cA 0, 350, .inl fop)), (p9, .inl (cA 0, 10, .inl fen)), (b0, .inl (cA 2, 700, .inl fb)), (oX3 p0 zn7 zn8 zn9 zn10 p1 0 p2 p3 p4 p5 0 p6 0 p7 p8 p9 0), (oX4 r0 r1 p0 (nI 0) (fn2 0) (fn3 0) (fn4 0) ir6 0 (-1)), (oX5 r1 k1 k2 k3 (nI qn1)), (k1, .inl (cA 0, 701, .inl fn2)), (k2, .inl (cA 0, 701, .inl fn3)), (k3, .inl (cA 1, 701, .inr (.inl fn4)))]) hP hD [0, 1, 2, 3, 4, 5, 6, 7, 8, 9, 10, 11, 12, 13, 14, 15] (by decide +kernel) rfl
  exact loop1 (700 - 0) 0 [] [] fde fna fam fpi fby fpn fst fop fen zn7 zn8 zn9 zn10 0 0 0 0 0 ir6 _ _ ls (by omega) hby hen (by omega) (by omega) (by omega) (by omega) (by omega) (by omega) (by omega) (by omega) (NL.zero _) (NL.zero _) (fun _ h9 => h9) hP9 hD9 hS (lv_sub hl [0, 1, 2, 3, 4, 5] rfl)

set_option maxHeartbeats 4000000 in
set_option maxRecDepth 100000 in
/-- load: within -/
theorem x_loadIn (l : Launch) (D : va_G) (cA : Nat → ClassId) (sa : Nat → Nat) (h0 : Nat) (b0 : Nat) (nb : Nat) (p0 : Nat) (u0 : Nat) (r0 : Nat) (a0 : Nat) (t0 : Nat) (s0 : Nat) (o0 : Nat) (ir2 : Int32) (ir3 : Int32) (ir4 : Int32) (ir6 : Int32) (ir7 : Int32) (ir8 : Int32) (ir5 : Int64) (r1 : Nat) (k1 : Nat) (k2 : Nat) (k3 : Nat) (ct : Nat) (fk : Nat → Int32) (ft : Nat → Int32) (fv : Nat → Int64) (rq : Nat) (fb : Nat → Int32) (u1 : Nat) (u2 : Nat) (u3 : Nat) (u4 : Nat) (u5 : Nat) (u6 : Nat) (u7 : Nat) (u8 : Nat) (u9 : Nat) (cu : Nat) (qu : Nat) (du : Nat) (su : Nat) (ur : Int32) (ub : Int32) (ue : Int32) (ug : Int32) (ude : Nat → Int32) (uam : Nat → Int32) (upi : Nat → Int32) (uby : Nat → Int32) (ust : Nat → Int32) (uop : Nat → Int32) (uen : Nat → Int32) (una : Nat → Int64) (upn : Nat → Int64) (s1 : Nat) (wn : Nat) (wc : Nat) (a1 : Nat) (a2 : Nat) (a3 : Nat) (a4 : Nat) (a5 : Nat) (a6 : Nat) (i6 : Int32) (i7 : Int32) (i8 : Int32) (i12 : Int32) (i13 : Int32) (i14 : Int32) (i15 : Int32) (i16 : Int32) (i17 : Int32) (i18 : Int32) (i19 : Int32) (i9 : Int64) (i10 : Int64) (i11 : Int64) (nx : Nat) (kp : Nat) (fr : Nat → Int32) (fs : Nat → Int32) (fp : Nat → Int32) (ff : Nat → Int32) (fd : Nat → Int32) (n0 : Nat) (sz : Nat) (hct : ct ≤ 701) (hnx : nx < 60) (hkp : kp ≤ 60) (hcu : cu ≤ 10) (hqu : qu ≤ 8) (hdu : du ≤ 6) (hsu : su ≤ 350) (huby : Rng 10 10 uby) (huen : Rng 10 351 uen) (hnb : nb ≤ 700) (hn0 : n0 ≤ nb) : Met l yX9_load wsX9_load ({ frames := 49, cells := 0, slots := 0, locals := 1016 }) (va_Pc [.ref h0, .int (nI n0)] (Wd D cA sa [(oX9 h0 b0 (nI nb) p0 u0 r0 a0 t0 s0 o0), (oX4 r0 r1 rq ir2 ir3 ir4 ir5 ir6 ir7 ir8), (oX5 r1 k1 k2 k3 (nI ct)), (k1, .inl (cA 0, 701, .inl fk)), (k2, .inl (cA 0, 701, .inl ft)), (k3, .inl (cA 1, 701, .inr (.inl fv))), (b0, .inl (cA 2, 700, .inl fb)), (oX3 u0 ur ub ue ug u1 (nI du) u2 u3 u4 u5 (nI cu) u6 (nI qu) u7 u8 u9 (nI su)), (u1, .inl (cA 0, 6, .inl ude)), (u2, .inl (cA 1, 10, .inr (.inl una))), (u3, .inl (cA 0, 10, .inl uam)), (u4, .inl (cA 0, 10, .inl upi)), (u5, .inl (cA 0, 10, .inl uby)), (u6, .inl (cA 1, 8, .inr (.inl upn))), (u7, .inl (cA 0, 350, .inl ust)), (u8, .inl (cA 0, 350, .inl uop)), (u9, .inl (cA 0, 10, .inl uen)), (oX0 a0 p0 a1 a3 a4 a5 a6 i6 i7 i8 i9 i10 i11 i12 i13 i14 i15 i16 i17 i18 i19), (a1, .inr (6, [.ref a2, .int (nI nx), .int (nI kp)])), (a2, .inl (cA 0, 240, .inl fr)), (a3, .inl (cA 0, 10, .inl fs)), (a4, .inl (cA 0, 10, .inl fp)), (a5, .inl (cA 0, 10, .inl ff)), (a6, .inl (cA 0, 10, .inl fd)), (s0, .inr (5, [.ref s1, .int (nI wn), .int (nI wc)]))] sz)) (va_Qi (fun (r : Int32) (uu9 : Int32) => uu9 = r) (fun (uu9 : Int32) t => ∃ pa : Nat, ∃ pu : Nat, ∃ pz : Nat, ∃ wc2 : Nat, ∃ yr2 : Int32, ∃ yr3 : Int32, ∃ yr4 : Int32, ∃ yr6 : Int32, ∃ yr7 : Int32, ∃ yr8 : Int32, ∃ yr5 : Int64, ∃ cy : Nat, ∃ zk : Nat → Int32, ∃ zt : Nat → Int32, ∃ zv : Nat → Int64, ∃ cm : Nat, ∃ qm : Nat, ∃ dm : Nat, ∃ sm : Nat, ∃ zra : Int32, ∃ zba : Int32, ∃ zea : Int32, ∃ zga : Int32, ∃ zde : Nat → Int32, ∃ zam : Nat → Int32, ∃ zpi : Nat → Int32, ∃ zby : Nat → Int32, ∃ zst : Nat → Int32, ∃ zop : Nat → Int32, ∃ zen : Nat → Int32, ∃ zna : Nat → Int64, ∃ zpn : Nat → Int64, ∃ z6 : Int32, ∃ z7 : Int32, ∃ z8 : Int32, ∃ z12 : Int32, ∃ z13 : Int32, ∃ z14 : Int32, ∃ z15 : Int32, ∃ z16 : Int32, ∃ z17 : Int32, ∃ z18 : Int32, ∃ z19 : Int32, ∃ z9 : Int64, ∃ z10 : Int64, ∃ z11 : Int64, ∃ ny : Nat, ∃ ky : Nat, ∃ zr : Nat → Int32, ∃ zs : Nat → Int32, ∃ zp : Nat → Int32, ∃ zf : Nat → Int32, ∃ zd : Nat → Int32, ∃ zml : List Int64, ∃ zpl : List Int64, ((pa = p0 ∧ pu = u0 ∧ pz = p0 ∧ wc2 = wc ∧ uu9 = -3 ∧ TP zk zt zv 0 0 [] [] (.inl (yr7, yr8))) ∨ (pa = u0 ∧ pu = p0 ∧ pz = u0 ∧ wc2 = 0 ∧ uu9 = nI cm ∧ yr7 = 0 ∧ yr8 = -1 ∧ TP zk zt zv 0 0 [] [] (.inr (zml, zpl)))) ∧ cy ≤ 701 ∧ TXE fb n0 cy zt zv zk ∧ cm ≤ 10 ∧ qm ≤ 8 ∧ dm ≤ 6 ∧ sm ≤ 350 ∧ Rng 10 10 zby ∧ Rng 10 351 zen ∧ ny < 60 ∧ ky ≤ 60 ∧ NL zml cm zna ∧ NL zpl qm zpn ∧ Wq D (va_A [(oX9 h0 b0 (nI nb) p0 u0 r0 a0 t0 s0 o0), (oX4 r0 r1 rq ir2 ir3 ir4 ir5 ir6 ir7 ir8), (oX5 r1 k1 k2 k3 (nI ct)), (k1, .inl (cA 0, 701, .inl fk)), (k2, .inl (cA 0, 701, .inl ft)), (k3, .inl (cA 1, 701, .inr (.inl fv))), (b0, .inl (cA 2, 700, .inl fb)), (oX3 u0 ur ub ue ug u1 (nI du) u2 u3 u4 u5 (nI cu) u6 (nI qu) u7 u8 u9 (nI su)), (u1, .inl (cA 0, 6, .inl ude)), (u2, .inl (cA 1, 10, .inr (.inl una))), (u3, .inl (cA 0, 10, .inl uam)), (u4, .inl (cA 0, 10, .inl upi)), (u5, .inl (cA 0, 10, .inl uby)), (u6, .inl (cA 1, 8, .inr (.inl upn))), (u7, .inl (cA 0, 350, .inl ust)), (u8, .inl (cA 0, 350, .inl uop)), (u9, .inl (cA 0, 10, .inl uen)), (oX0 a0 p0 a1 a3 a4 a5 a6 i6 i7 i8 i9 i10 i11 i12 i13 i14 i15 i16 i17 i18 i19), (a1, .inr (6, [.ref a2, .int (nI nx), .int (nI kp)])), (a2, .inl (cA 0, 240, .inl fr)), (a3, .inl (cA 0, 10, .inl fs)), (a4, .inl (cA 0, 10, .inl fp)), (a5, .inl (cA 0, 10, .inl ff)), (a6, .inl (cA 0, 10, .inl fd)), (s0, .inr (5, [.ref s1, .int (nI wn), .int (nI wc)]))] sz) [(oX9 h0 b0 0 pa pu r0 a0 t0 s0 o0), (oX4 r0 r1 u0 yr2 yr3 yr4 yr5 yr6 yr7 yr8), (oX5 r1 k1 k2 k3 (nI cy)), (k1, .inl (cA 0, 701, .inl zk)), (k2, .inl (cA 0, 701, .inl zt)), (k3, .inl (cA 1, 701, .inr (.inl zv))), (b0, .inl (cA 2, 700, .inl fb)), (oX3 u0 zra zba zea zga u1 (nI dm) u2 u3 u4 u5 (nI cm) u6 (nI qm) u7 u8 u9 (nI sm)), (u1, .inl (cA 0, 6, .inl zde)), (u2, .inl (cA 1, 10, .inr (.inl zna))), (u3, .inl (cA 0, 10, .inl zam)), (u4, .inl (cA 0, 10, .inl zpi)), (u5, .inl (cA 0, 10, .inl zby)), (u6, .inl (cA 1, 8, .inr (.inl zpn))), (u7, .inl (cA 0, 350, .inl zst)), (u8, .inl (cA 0, 350, .inl zop)), (u9, .inl (cA 0, 10, .inl zen)), (oX0 a0 pz a1 a3 a4 a5 a6 z6 z7 z8 z9 z10 z11 z12 z13 z14 z15 z16 z17 z18 z19), (a1, .inr (6, [.ref a2, .int (nI ny), .int (nI ky)])), (a2, .inl (cA 0, 240, .inl zr)), (a3, .inl (cA 0, 10, .inl zs)), (a4, .inl (cA 0, 10, .inl zp)), (a5, .inl (cA 0, 10, .inl zf)), (a6, .inl (cA 0, 10, .inl zd)), (s0, .inr (5, [.ref s1, .int (nI wn), .int (nI wc2)]))] t) (va_A [(oX9 h0 b0 (nI nb) p0 u0 r0 a0 t0 s0 o0), (oX4 r0 r1 rq ir2 ir3 ir4 ir5 ir6 ir7 ir8), (oX5 r1 k1 k2 k3 (nI ct)), (k1, .inl (cA 0, 701, .inl fk)), (k2, .inl (cA 0, 701, .inl ft)), (k3, .inl (cA 1, 701, .inr (.inl fv))), (b0, .inl (cA 2, 700, .inl fb)), (oX3 u0 ur ub ue ug u1 (nI du) u2 u3 u4 u5 (nI cu) u6 (nI qu) u7 u8 u9 (nI su)), (u1, .inl (cA 0, 6, .inl ude)), (u2, .inl (cA 1, 10, .inr (.inl una))), (u3, .inl (cA 0, 10, .inl uam)), (u4, .inl (cA 0, 10, .inl upi)), (u5, .inl (cA 0, 10, .inl uby)), (u6, .inl (cA 1, 8, .inr (.inl upn))), (u7, .inl (cA 0, 350, .inl ust)), (u8, .inl (cA 0, 350, .inl uop)), (u9, .inl (cA 0, 10, .inl uen)), (oX0 a0 p0 a1 a3 a4 a5 a6 i6 i7 i8 i9 i10 i11 i12 i13 i14 i15 i16 i17 i18 i19), (a1, .inr (6, [.ref a2, .int (nI nx), .int (nI kp)])), (a2, .inl (cA 0, 240, .inl fr)), (a3, .inl (cA 0, 10, .inl fs)), (a4, .inl (cA 0, 10, .inl fp)), (a5, .inl (cA 0, 10, .inl ff)), (a6, .inl (cA 0, 10, .inl fd)), (s0, .inr (5, [.ref s1, .int (nI wn), .int (nI wc)]))] sz)) 0 0 (va_A [(oX9 h0 b0 (nI nb) p0 u0 r0 a0 t0 s0 o0), (oX4 r0 r1 rq ir2 ir3 ir4 ir5 ir6 ir7 ir8), (oX5 r1 k1 k2 k3 (nI ct)), (k1, .inl (cA 0, 701, .inl fk)), (k2, .inl (cA 0, 701, .inl ft)), (k3, .inl (cA 1, 701, .inr (.inl fv))), (b0, .inl (cA 2, 700, .inl fb)), (oX3 u0 ur ub ue ug u1 (nI du) u2 u3 u4 u5 (nI cu) u6 (nI qu) u7 u8 u9 (nI su)), (u1, .inl (cA 0, 6, .inl ude)), (u2, .inl (cA 1, 10, .inr (.inl una))), (u3, .inl (cA 0, 10, .inl uam)), (u4, .inl (cA 0, 10, .inl upi)), (u5, .inl (cA 0, 10, .inl uby)), (u6, .inl (cA 1, 8, .inr (.inl upn))), (u7, .inl (cA 0, 350, .inl ust)), (u8, .inl (cA 0, 350, .inl uop)), (u9, .inl (cA 0, 10, .inl uen)), (oX0 a0 p0 a1 a3 a4 a5 a6 i6 i7 i8 i9 i10 i11 i12 i13 i14 i15 i16 i17 i18 i19), (a1, .inr (6, [.ref a2, .int (nI nx), .int (nI kp)])), (a2, .inl (cA 0, 240, .inl fr)), (a3, .inl (cA 0, 10, .inl fs)), (a4, .inl (cA 0, 10, .inl fp)), (a5, .inl (cA 0, 10, .inl ff)), (a6, .inl (cA 0, 10, .inl fd)), (s0, .inr (5, [.ref s1, .int (nI wn), .int (nI wc)]))] sz) := by
  refine Met.ofW (cc := cX9_load) (maxL := 4) (ret := (some .int)) (by decide) rfl ?_
  intro p e s m args below meth c s₁ B hml hv
  obtain ⟨rfl, hsz, hP, hK, hD0, hC, hZ⟩ := hv
  have hx := B.exec
  have hb := B.bytes
  have hr := B.returns
  have hts := atoms_spec (ws := wsX9_load) B.pre
  have hown : s.vm.findClass RX9 = some m.cls := findClass_of_methodNamed B.named
  have hlocks := B.notSynchronized
  subst hsz
  have hD := hD0.self (sz := s.heap.size)
  generalize hAe : va_A [(oX9 h0 b0 (nI nb) p0 u0 r0 a0 t0 s0 o0), (oX4 r0 r1 rq ir2 ir3 ir4 ir5 ir6 ir7 ir8), (oX5 r1 k1 k2 k3 (nI ct)), (k1, .inl (cA 0, 701, .inl fk)), (k2, .inl (cA 0, 701, .inl ft)), (k3, .inl (cA 1, 701, .inr (.inl fv))), (b0, .inl (cA 2, 700, .inl fb)), (oX3 u0 ur ub ue ug u1 (nI du) u2 u3 u4 u5 (nI cu) u6 (nI qu) u7 u8 u9 (nI su)), (u1, .inl (cA 0, 6, .inl ude)), (u2, .inl (cA 1, 10, .inr (.inl una))), (u3, .inl (cA 0, 10, .inl uam)), (u4, .inl (cA 0, 10, .inl upi)), (u5, .inl (cA 0, 10, .inl uby)), (u6, .inl (cA 1, 8, .inr (.inl upn))), (u7, .inl (cA 0, 350, .inl ust)), (u8, .inl (cA 0, 350, .inl uop)), (u9, .inl (cA 0, 10, .inl uen)), (oX0 a0 p0 a1 a3 a4 a5 a6 i6 i7 i8 i9 i10 i11 i12 i13 i14 i15 i16 i17 i18 i19), (a1, .inr (6, [.ref a2, .int (nI nx), .int (nI kp)])), (a2, .inl (cA 0, 240, .inl fr)), (a3, .inl (cA 0, 10, .inl fs)), (a4, .inl (cA 0, 10, .inl fp)), (a5, .inl (cA 0, 10, .inl ff)), (a6, .inl (cA 0, 10, .inl fd)), (s0, .inr (5, [.ref s1, .int (nI wn), .int (nI wc)]))] s.heap.size = A at hD hZ ⊢
  have hA : ∀ q : Nat, s.heap.size ≤ q → A q := fun q h => by rw [← hAe]; exact Or.inr h
  have hS : va_S A s.heap s.heap [] := va_S.rf
  have hP : va_P D vwCl [(oX9 h0 b0 (nI nb) p0 u0 r0 a0 t0 s0 o0), (oX4 r0 r1 rq ir2 ir3 ir4 ir5 ir6 ir7 ir8), (oX5 r1 k1 k2 k3 (nI ct)), (k1, .inl (cA 0, 701, .inl fk)), (k2, .inl (cA 0, 701, .inl ft)), (k3, .inl (cA 1, 701, .inr (.inl fv))), (b0, .inl (cA 2, 700, .inl fb)), (oX3 u0 ur ub ue ug u1 (nI du) u2 u3 u4 u5 (nI cu) u6 (nI qu) u7 u8 u9 (nI su)), (u1, .inl (cA 0, 6, .inl ude)), (u2, .inl (cA 1, 10, .inr (.inl una))), (u3, .inl (cA 0, 10, .inl uam)), (u4, .inl (cA 0, 10, .inl upi)), (u5, .inl (cA 0, 10, .inl uby)), (u6, .inl (cA 1, 8, .inr (.inl upn))), (u7, .inl (cA 0, 350, .inl ust)), (u8, .inl (cA 0, 350, .inl uop)), (u9, .inl (cA 0, 10, .inl uen)), (oX0 a0 p0 a1 a3 a4 a5 a6 i6 i7 i8 i9 i10 i11 i12 i13 i14 i15 i16 i17 i18 i19), (a1, .inr (6, [.ref a2, .int (nI nx), .int (nI kp)])), (a2, .inl (cA 0, 240, .inl fr)), (a3, .inl (cA 0, 10, .inl fs)), (a4, .inl (cA 0, 10, .inl fp)), (a5, .inl (cA 0, 10, .inl ff)), (a6, .inl (cA 0, 10, .inl fd)), (s0, .inr (5, [.ref s1, .int (nI wn), .int (nI wc)]))] s.heap := hP
  have hl := lv_entry ([.ref h0, .int (nI n0)]) (n := 4) (Nat.le_of_ble_eq_true rfl)
  rw [lg_entry_eq]
  generalize (lg_sl ([.ref h0, .int (nI n0)]) ++ List.replicate (4 - (lg_sl ([.ref h0, .int (nI n0)])).length) Slot.unset).toArray = ls at hl ⊢
  have hl : lv_has ls 4 [(0, .ref h0), (1, .int (nI n0))] := hl
  have inX3 : ∀ w ∈ u_ws RX3 TX3 17, w ∈ wsX9_load := by decide +kernel
  have inX9 : ∀ w ∈ u_ws RX9 TX9 9, w ∈ wsX9_load := by decide +kernel
  refine lv_iload_n hx hb dX9_load_0 rfl (lv_at hl 1 rfl) ?_
  refine lv_iconst (v := 0) hx hb dX9_load_1 (by decide) ?_
  refine lv_aload_n hx hb dX9_load_2 rfl (lv_at hl 0 rfl) ?_
  refine va_get (D := D) (ci := 10) (v := .int (nI nb)) (C := RX9) (T := TX9) (N := 9) hx hb hts inX9 hown hK hP 0 rfl rfl 1 (by decide) (hts (.fieldLink RX9 59 "EscrowDesk" "buffered" "I") (by decide +kernel)) (fun _ h9 => h9) rfl dX9_load_3 ?_
  obtain ⟨hPc, hDc, hFc⟩ := PDq.cut (wc := []) hP hD hS hA [] (by decide) rfl
  refine va_callv (va_runS (As := [.int (nI n0), .int 0, .int (nI nb)]) (rest := []) ⟨hx, hb, hml, hown, hts⟩ (s_needRangeIn l D cA sa n0 0 nb s.heap.size (by omega) (by omega) hn0) (va_cwS 3 hts gX9_load_X9_needRange rfl rfl rfl (by decide +kernel) ⟨(Nat.le_of_ble_eq_true rfl), (Nat.le_of_ble_eq_true rfl)⟩) ⟨Wd.blind, fun U hU hW => ⟨rfl, Wd.call hPc hDc hK hC hZ hS hFc U hU hW⟩⟩ rfl rfl hl.1 rfl (lv_room (Nat.le_of_ble_eq_true rfl)) dX9_load_6 ⟨(Nat.le_of_ble_eq_true rfl), (Nat.le_of_ble_eq_true rfl)⟩) hS (fun q _ h => hFc q h) hFc (fun u t H1 locs ht hvm hw hB hz1 hk1 hS => ?_)
  obtain ⟨hP1, hD1⟩ := hB
  rw [ht] at hP1
  obtain ⟨hP, hD⟩ := PDq.join (w := [(oX9 h0 b0 (nI nb) p0 u0 r0 a0 t0 s0 o0), (oX4 r0 r1 rq ir2 ir3 ir4 ir5 ir6 ir7 ir8), (oX5 r1 k1 k2 k3 (nI ct)), (k1, .inl (cA 0, 701, .inl fk)), (k2, .inl (cA 0, 701, .inl ft)), (k3, .inl (cA 1, 701, .inr (.inl fv))), (b0, .inl (cA 2, 700, .inl fb)), (oX3 u0 ur ub ue ug u1 (nI du) u2 u3 u4 u5 (nI cu) u6 (nI qu) u7 u8 u9 (nI su)), (u1, .inl (cA 0, 6, .inl ude)), (u2, .inl (cA 1, 10, .inr (.inl una))), (u3, .inl (cA 0, 10, .inl uam)), (u4, .inl (cA 0, 10, .inl upi)), (u5, .inl (cA 0, 10, .inl uby)), (u6, .inl (cA 1, 8, .inr (.inl upn))), (u7, .inl (cA 0, 350, .inl ust)), (u8, .inl (cA 0, 350, .inl uop)), (u9, .inl (cA 0, 10, .inl uen)), (oX0 a0 p0 a1 a3 a4 a5 a6 i6 i7 i8 i9 i10 i11 i12 i13 i14 i15 i16 i17 i18 i19), (a1, .inr (6, [.ref a2, .int (nI nx), .int (nI kp)])), (a2, .inl (cA 0, 240, .inl fr)), (a3, .inl (cA 0, 10, .inl fs)), (a4, .inl (cA 0, 10, .inl fp)), (a5, .inl (cA 0, 10, .inl ff)), (a6, .inl (cA 0, 10, .inl fd)), (s0, .inr (5, [.ref s1, .int (nI wn), .int (nI wc)]))]) 25 hP hD [] [0, 1, 2, 3, 4, 5, 6, 7, 8, 9, 10, 11, 12, 13, 14, 15, 16, 17, 18, 19, 20, 21, 22, 23, 24] rfl rfl (by decide +kernel) (by decide +kernel) hk1 hFc hP1 hD1 rfl
  generalize H1 = H at hP hS ⊢
  refine lv_aload_n hx hb dX9_load_9 rfl (lv_at hl 0 rfl) ?_
  refine va_get (D := D) (ci := 10) (v := .ref r0) (C := RX9) (T := TX9) (N := 9) hx hb hts inX9 hown hK hP 0 rfl rfl 4 (by decide) (hts (.fieldLink RX9 28 "EscrowDesk" "reader" "LEscrowDesk$Reader;") (by decide +kernel)) (fun _ h9 => h9) rfl dX9_load_10 ?_
  refine lv_aload_n hx hb dX9_load_13 rfl (lv_at hl 0 rfl) ?_
  refine va_get (D := D) (ci := 10) (v := .ref b0) (C := RX9) (T := TX9) (N := 9) hx hb hts inX9 hown hK hP 0 rfl rfl 0 (by decide) (hts (.fieldLink RX9 9 "EscrowDesk" "buffer" "[C") (by decide +kernel)) (fun _ h9 => h9) rfl dX9_load_14 ?_
  refine lv_iload_n hx hb dX9_load_17 rfl (lv_at hl 1 rfl) ?_
  refine lv_aload_n hx hb dX9_load_18 rfl (lv_at hl 0 rfl) ?_
  refine va_get (D := D) (ci := 10) (v := .ref u0) (C := RX9) (T := TX9) (N := 9) hx hb hts inX9 hown hK hP 0 rfl rfl 3 (by decide) (hts (.fieldLink RX9 20 "EscrowDesk" "sparePlan" "LEscrowDesk$Plan;") (by decide +kernel)) (fun _ h9 => h9) rfl dX9_load_19 ?_
  obtain ⟨hPc, hDc, hFc⟩ := PDq.cut (wc := [(oX4 r0 r1 rq ir2 ir3 ir4 ir5 ir6 ir7 ir8), (oX5 r1 k1 k2 k3 (nI ct)), (k1, .inl (cA 0, 701, .inl fk)), (k2, .inl (cA 0, 701, .inl ft)), (k3, .inl (cA 1, 701, .inr (.inl fv))), (b0, .inl (cA 2, 700, .inl fb)), (oX3 u0 ur ub ue ug u1 (nI du) u2 u3 u4 u5 (nI cu) u6 (nI qu) u7 u8 u9 (nI su)), (u1, .inl (cA 0, 6, .inl ude)), (u2, .inl (cA 1, 10, .inr (.inl una))), (u3, .inl (cA 0, 10, .inl uam)), (u4, .inl (cA 0, 10, .inl upi)), (u5, .inl (cA 0, 10, .inl uby)), (u6, .inl (cA 1, 8, .inr (.inl upn))), (u7, .inl (cA 0, 350, .inl ust)), (u8, .inl (cA 0, 350, .inl uop)), (u9, .inl (cA 0, 10, .inl uen))]) hP hD hS hA [1, 2, 3, 4, 5, 6, 7, 8, 9, 10, 11, 12, 13, 14, 15, 16] (by decide +kernel) rfl
  refine va_calli (va_runV (As := [.ref b0, .int (nI n0), .ref u0]) (rest := []) ⟨hx, hb, hml, hown, hts⟩ (x_readText l D cA sa r0 u0 ir2 ir3 ir4 ir6 ir7 ir8 ir5 r1 k1 k2 k3 ct fk ft fv u1 u2 u3 u4 u5 u6 u7 u8 u9 cu qu du su ur ub ue ug ude uam upi uby ust uop uen una upn rq b0 n0 fb H.size hct huby huen (by omega)) (cwV 3 hts gX9_load_X4_readText rfl rfl rfl (by decide +kernel) ⟨(Nat.le_of_ble_eq_true rfl), (Nat.le_of_ble_eq_true rfl)⟩) ⟨Wd.blind, va_recv hK hPc (ci := 8) (q0 := 0) rfl rfl, fun U hU hW => ⟨rfl, Wd.call hPc hDc hK hC hZ hS hFc U hU hW⟩⟩ rfl rfl hl.1 rfl (lv_room (Nat.le_of_ble_eq_true rfl)) dX9_load_22 ⟨(Nat.le_of_ble_eq_true rfl), (Nat.le_of_ble_eq_true rfl)⟩) hS (fun q _ h => hFc q h) hFc (fun rn1 u t H1 locs ht hvm hw hB hz1 hk1 hS => ?_)
  obtain ⟨zn2, zn3, zn4, zn5, zn6, zn7, zn8, qn9, fn10, fn11, fn12, qn13, qn14, qn15, qn16, zn17, zn18, zn19, zn20, fn21, fn22, fn23, fn24, fn25, fn26, fn27, fn28, fn29, zn30, zn31, hn32, hn33, hn34, hn35, hn36, hn37, hn38, hn39, hn40, hn41, hn42, hn43, hn44, hn45, hP1, hD1⟩ := hB
  rw [ht] at hP1
  obtain ⟨hP, hD⟩ := PDq.join (w := [(oX9 h0 b0 (nI nb) p0 u0 r0 a0 t0 s0 o0), (oX0 a0 p0 a1 a3 a4 a5 a6 i6 i7 i8 i9 i10 i11 i12 i13 i14 i15 i16 i17 i18 i19), (a1, .inr (6, [.ref a2, .int (nI nx), .int (nI kp)])), (a2, .inl (cA 0, 240, .inl fr)), (a3, .inl (cA 0, 10, .inl fs)), (a4, .inl (cA 0, 10, .inl fp)), (a5, .inl (cA 0, 10, .inl ff)), (a6, .inl (cA 0, 10, .inl fd)), (s0, .inr (5, [.ref s1, .int (nI wn), .int (nI wc)])), (oX4 r0 r1 u0 zn2 zn3 zn4 zn8 zn5 zn6 zn7), (oX5 r1 k1 k2 k3 (nI qn9)), (k1, .inl (cA 0, 701, .inl fn10)), (k2, .inl (cA 0, 701, .inl fn11)), (k3, .inl (cA 1, 701, .inr (.inl fn12))), (b0, .inl (cA 2, 700, .inl fb)), (oX3 u0 zn17 zn18 zn19 zn20 u1 (nI qn15) u2 u3 u4 u5 (nI qn13) u6 (nI qn14) u7 u8 u9 (nI qn16)), (u1, .inl (cA 0, 6, .inl fn21)), (u2, .inl (cA 1, 10, .inr (.inl fn28))), (u3, .inl (cA 0, 10, .inl fn22)), (u4, .inl (cA 0, 10, .inl fn23)), (u5, .inl (cA 0, 10, .inl fn24)), (u6, .inl (cA 1, 8, .inr (.inl fn29))), (u7, .inl (cA 0, 350, .inl fn25)), (u8, .inl (cA 0, 350, .inl fn26)), (u9, .inl (cA 0, 10, .inl fn27))]) 9 hP hD [1, 2, 3, 4, 5, 6, 7, 8, 9, 10, 11, 12, 13, 14, 15, 16] [0, 17, 18, 19, 20, 21, 22, 23, 24] rfl rfl (by decide +kernel) (by decide +kernel) hk1 hFc hP1 hD1 rfl
  generalize H1 = H at hP hS ⊢
  rcases hw.2 with hr9 | hr9
  · skip
    have hn45 := hn45 (hw.1.trans hr9)
    subst hr9
    refine lv_istore_n (lv' := [(2, .int 0), (0, .ref h0), (1, .int (nI n0))]) hx hb dX9_load_25 rfl hl (by decide) rfl (fun ls hl => ?_)
    refine lv_aload_n hx hb dX9_load_26 rfl (lv_at hl 1 rfl) ?_
    refine lv_iconst (v := 0) hx hb dX9_load_27 (by decide) ?_
    refine va_put (D := D) (ci := 10) (v := .int 0) (ty := .int) (C := RX9) (T := TX9) (N := 9) hx hb hts inX9 tyX9 tyX9_ok nmX9 hown hK hP hD hS 0 rfl rfl 1 (by decide) (hts (.fieldLink RX9 59 "EscrowDesk" "buffered" "I") (by decide +kernel)) (fun _ h9 => h9) rfl (by decide +kernel) rfl rfl (Nat.le_of_ble_eq_true rfl) dX9_load_28 (fun H locs hP hD hS => ?_)
    obtain ⟨hP, hD⟩ : PDq D A [(oX9 h0 b0 0 p0 u0 r0 a0 t0 s0 o0), (oX0 a0 p0 a1 a3 a4 a5 a6 i6 i7 i8 i9 i10 i11 i12 i13 i14 i15 i16 i17 i18 i19), (a1, .inr (6, [.ref a2, .int (nI nx), .int (nI kp)])), (a2, .inl (cA 0, 240, .inl fr)), (a3, .inl (cA 0, 10, .inl fs)), (a4, .inl (cA 0, 10, .inl fp)), (a5, .inl (cA 0, 10, .inl ff)), (a6, .inl (cA 0, 10, .inl fd)), (s0, .inr (5, [.ref s1, .int (nI wn), .int (nI wc)])), (oX4 r0 r1 u0 zn2 zn3 zn4 zn8 zn5 zn6 zn7), (oX5 r1 k1 k2 k3 (nI qn9)), (k1, .inl (cA 0, 701, .inl fn10)), (k2, .inl (cA 0, 701, .inl fn11)), (k3, .inl (cA 1, 701, .inr (.inl fn12))), (b0, .inl (cA 2, 700, .inl fb)), (oX3 u0 zn17 zn18 zn19 zn20 u1 (nI qn15) u2 u3 u4 u5 (nI qn13) u6 (nI qn14) u7 u8 u9 (nI qn16)), (u1, .inl (cA 0, 6, .inl fn21)), (u2, .inl (cA 1, 10, .inr (.inl fn28))), (u3, .inl (cA 0, 10, .inl fn22)), (u4, .inl (cA 0, 10, .inl fn23)), (u5, .inl (cA 0, 10, .inl fn24)), (u6, .inl (cA 1, 8, .inr (.inl fn29))), (u7, .inl (cA 0, 350, .inl fn25)), (u8, .inl (cA 0, 350, .inl fn26)), (u9, .inl (cA 0, 10, .inl fn27))] H := ⟨hP, hD⟩
    refine lv_iload_n hx hb dX9_load_31 rfl (lv_at hl 0 rfl) ?_
    refine lv_if_ne (tgt := 38) hx hb dX9_load_32 (by decide) (fun c9 => absurd c9 (by decide)) (fun c46 => ?_)
    refine lv_bipush (v := (-3)) hx hb dX9_load_35 (by decide) ?_
    obtain ⟨hP9, hD9⟩ := PDq.sub (ws' := [(oX9 h0 b0 0 p0 u0 r0 a0 t0 s0 o0), (oX4 r0 r1 u0 zn2 zn3 zn4 zn8 zn5 zn6 zn7), (oX5 r1 k1 k2 k3 (nI qn9)), (k1, .inl (cA 0, 701, .inl fn10)), (k2, .inl (cA 0, 701, .inl fn11)), (k3, .inl (cA 1, 701, .inr (.inl fn12))), (b0, .inl (cA 2, 700, .inl fb)), (oX3 u0 zn17 zn18 zn19 zn20 u1 (nI qn15) u2 u3 u4 u5 (nI qn13) u6 (nI qn14) u7 u8 u9 (nI qn16)), (u1, .inl (cA 0, 6, .inl fn21)), (u2, .inl (cA 1, 10, .inr (.inl fn28))), (u3, .inl (cA 0, 10, .inl fn22)), (u4, .inl (cA 0, 10, .inl fn23)), (u5, .inl (cA 0, 10, .inl fn24)), (u6, .inl (cA 1, 8, .inr (.inl fn29))), (u7, .inl (cA 0, 350, .inl fn25)), (u8, .inl (cA 0, 350, .inl fn26)), (u9, .inl (cA 0, 10, .inl fn27)), (oX0 a0 p0 a1 a3 a4 a5 a6 i6 i7 i8 i9 i10 i11 i12 i13 i14 i15 i16 i17 i18 i19), (a1, .inr (6, [.ref a2, .int (nI nx), .int (nI kp)])), (a2, .inl (cA 0, 240, .inl fr)), (a3, .inl (cA 0, 10, .inl fs)), (a4, .inl (cA 0, 10, .inl fp)), (a5, .inl (cA 0, 10, .inl ff)), (a6, .inl (cA 0, 10, .inl fd)), (s0, .inr (5, [.ref s1, .int (nI wn), .int (nI wc)]))]) hP hD [0, 9, 10, 11, 12, 13, 14, 15, 16, 17, 18, 19, 20, 21, 22, 23, 24, 1, 2, 3, 4, 5, 6, 7, 8] (by decide +kernel) rfl
    refine W.widen (k := 0) (n := 0) (Nat.le_of_ble_eq_true rfl) (Nat.le_of_ble_eq_true rfl) ?_
    exact (W.iret (v := (-3)) hx hb hr (fun t ht hW => ⟨⟨(-3), (-3), rfl, rfl, p0, u0, p0, wc, zn2, zn3, zn4, zn5, zn6, zn7, zn8, qn9, fn10, fn11, fn12, qn13, qn14, qn15, qn16, zn17, zn18, zn19, zn20, fn21, fn22, fn23, fn24, fn25, fn26, fn27, fn28, fn29, i6, i7, i8, i12, i13, i14, i15, i16, i17, i18, i19, i9, i10, i11, nx, kp, fr, fs, fp, ff, fd, zn30, zn31, (Or.inl ⟨rfl, rfl, rfl, rfl, rfl, hn45⟩), hn32, hn33, hn34, hn35, hn36, hn37, hn38, hn39, hnx, hkp, hn40, hn41, by rw [ht]; exact hP9, hD9⟩, hS.F ht⟩) hS.2.2 dX9_load_37)
  · skip
    have hn42 := hn42 (hw.1.trans hr9)
    subst hn42
    obtain ⟨hP, hD⟩ : PDq D A [(oX9 h0 b0 (nI nb) p0 u0 r0 a0 t0 s0 o0), (oX0 a0 p0 a1 a3 a4 a5 a6 i6 i7 i8 i9 i10 i11 i12 i13 i14 i15 i16 i17 i18 i19), (a1, .inr (6, [.ref a2, .int (nI nx), .int (nI kp)])), (a2, .inl (cA 0, 240, .inl fr)), (a3, .inl (cA 0, 10, .inl fs)), (a4, .inl (cA 0, 10, .inl fp)), (a5, .inl (cA 0, 10, .inl ff)), (a6, .inl (cA 0, 10, .inl fd)), (s0, .inr (5, [.ref s1, .int (nI wn), .int (nI wc)])), (oX4 r0 r1 u0 zn2 zn3 zn4 zn8 zn5 0 zn7), (oX5 r1 k1 k2 k3 (nI qn9)), (k1, .inl (cA 0, 701, .inl fn10)), (k2, .inl (cA 0, 701, .inl fn11)), (k3, .inl (cA 1, 701, .inr (.inl fn12))), (b0, .inl (cA 2, 700, .inl fb)), (oX3 u0 zn17 zn18 zn19 zn20 u1 (nI qn15) u2 u3 u4 u5 (nI qn13) u6 (nI qn14) u7 u8 u9 (nI qn16)), (u1, .inl (cA 0, 6, .inl fn21)), (u2, .inl (cA 1, 10, .inr (.inl fn28))), (u3, .inl (cA 0, 10, .inl fn22)), (u4, .inl (cA 0, 10, .inl fn23)), (u5, .inl (cA 0, 10, .inl fn24)), (u6, .inl (cA 1, 8, .inr (.inl fn29))), (u7, .inl (cA 0, 350, .inl fn25)), (u8, .inl (cA 0, 350, .inl fn26)), (u9, .inl (cA 0, 10, .inl fn27))] H := ⟨hP, hD⟩
    have hn43 := hn43 (hw.1.trans hr9)
    subst hn43
    obtain ⟨hP, hD⟩ : PDq D A [(oX9 h0 b0 (nI nb) p0 u0 r0 a0 t0 s0 o0), (oX0 a0 p0 a1 a3 a4 a5 a6 i6 i7 i8 i9 i10 i11 i12 i13 i14 i15 i16 i17 i18 i19), (a1, .inr (6, [.ref a2, .int (nI nx), .int (nI kp)])), (a2, .inl (cA 0, 240, .inl fr)), (a3, .inl (cA 0, 10, .inl fs)), (a4, .inl (cA 0, 10, .inl fp)), (a5, .inl (cA 0, 10, .inl ff)), (a6, .inl (cA 0, 10, .inl fd)), (s0, .inr (5, [.ref s1, .int (nI wn), .int (nI wc)])), (oX4 r0 r1 u0 zn2 zn3 zn4 zn8 zn5 0 (-1)), (oX5 r1 k1 k2 k3 (nI qn9)), (k1, .inl (cA 0, 701, .inl fn10)), (k2, .inl (cA 0, 701, .inl fn11)), (k3, .inl (cA 1, 701, .inr (.inl fn12))), (b0, .inl (cA 2, 700, .inl fb)), (oX3 u0 zn17 zn18 zn19 zn20 u1 (nI qn15) u2 u3 u4 u5 (nI qn13) u6 (nI qn14) u7 u8 u9 (nI qn16)), (u1, .inl (cA 0, 6, .inl fn21)), (u2, .inl (cA 1, 10, .inr (.inl fn28))), (u3, .inl (cA 0, 10, .inl fn22)), (u4, .inl (cA 0, 10, .inl fn23)), (u5, .inl (cA 0, 10, .inl fn24)), (u6, .inl (cA 1, 8, .inr (.inl fn29))), (u7, .inl (cA 0, 350, .inl fn25)), (u8, .inl (cA 0, 350, .inl fn26)), (u9, .inl (cA 0, 10, .inl fn27))] H := ⟨hP, hD⟩
    have hn44 := hn44 (hw.1.trans hr9)
    subst hr9
    refine lv_istore_n (lv' := [(2, .int 1), (0, .ref h0), (1, .int (nI n0))]) hx hb dX9_load_25 rfl hl (by decide) rfl (fun ls hl => ?_)
    refine lv_aload_n hx hb dX9_load_26 rfl (lv_at hl 1 rfl) ?_
    refine lv_iconst (v := 0) hx hb dX9_load_27 (by decide) ?_
    refine va_put (D := D) (ci := 10) (v := .int 0) (ty := .int) (C := RX9) (T := TX9) (N := 9) hx hb hts inX9 tyX9 tyX9_ok nmX9 hown hK hP hD hS 0 rfl rfl 1 (by decide) (hts (.fieldLink RX9 59 "EscrowDesk" "buffered" "I") (by decide +kernel)) (fun _ h9 => h9) rfl (by decide +kernel) rfl rfl (Nat.le_of_ble_eq_true rfl) dX9_load_28 (fun H locs hP hD hS => ?_)
    obtain ⟨hP, hD⟩ : PDq D A [(oX9 h0 b0 0 p0 u0 r0 a0 t0 s0 o0), (oX0 a0 p0 a1 a3 a4 a5 a6 i6 i7 i8 i9 i10 i11 i12 i13 i14 i15 i16 i17 i18 i19), (a1, .inr (6, [.ref a2, .int (nI nx), .int (nI kp)])), (a2, .inl (cA 0, 240, .inl fr)), (a3, .inl (cA 0, 10, .inl fs)), (a4, .inl (cA 0, 10, .inl fp)), (a5, .inl (cA 0, 10, .inl ff)), (a6, .inl (cA 0, 10, .inl fd)), (s0, .inr (5, [.ref s1, .int (nI wn), .int (nI wc)])), (oX4 r0 r1 u0 zn2 zn3 zn4 zn8 zn5 0 (-1)), (oX5 r1 k1 k2 k3 (nI qn9)), (k1, .inl (cA 0, 701, .inl fn10)), (k2, .inl (cA 0, 701, .inl fn11)), (k3, .inl (cA 1, 701, .inr (.inl fn12))), (b0, .inl (cA 2, 700, .inl fb)), (oX3 u0 zn17 zn18 zn19 zn20 u1 (nI qn15) u2 u3 u4 u5 (nI qn13) u6 (nI qn14) u7 u8 u9 (nI qn16)), (u1, .inl (cA 0, 6, .inl fn21)), (u2, .inl (cA 1, 10, .inr (.inl fn28))), (u3, .inl (cA 0, 10, .inl fn22)), (u4, .inl (cA 0, 10, .inl fn23)), (u5, .inl (cA 0, 10, .inl fn24)), (u6, .inl (cA 1, 8, .inr (.inl fn29))), (u7, .inl (cA 0, 350, .inl fn25)), (u8, .inl (cA 0, 350, .inl fn26)), (u9, .inl (cA 0, 10, .inl fn27))] H := ⟨hP, hD⟩
    refine lv_iload_n hx hb dX9_load_31 rfl (lv_at hl 0 rfl) ?_
    refine lv_if_ne (tgt := 38) hx hb dX9_load_32 (by decide) (fun c47 => ?_) (fun c9 => absurd c9 (by decide))
    refine lv_aload_n hx hb dX9_load_38 rfl (lv_at hl 1 rfl) ?_
    refine va_get (D := D) (ci := 10) (v := .ref u0) (C := RX9) (T := TX9) (N := 9) hx hb hts inX9 hown hK hP 0 rfl rfl 3 (by decide) (hts (.fieldLink RX9 20 "EscrowDesk" "sparePlan" "LEscrowDesk$Plan;") (by decide +kernel)) (fun _ h9 => h9) rfl dX9_load_39 ?_
    refine lv_astore_n (lv' := [(3, .ref u0), (2, .int 1), (0, .ref h0), (1, .int (nI n0))]) hx hb dX9_load_42 rfl hl (by decide) rfl (fun ls hl => ?_)
    refine lv_aload_n hx hb dX9_load_43 rfl (lv_at hl 2 rfl) ?_
    refine lv_aload_n hx hb dX9_load_44 rfl (lv_at hl 2 rfl) ?_
    refine va_get (D := D) (ci := 10) (v := .ref p0) (C := RX9) (T := TX9) (N := 9) hx hb hts inX9 hown hK hP 0 rfl rfl 2 (by decide) (hts (.fieldLink RX9 16 "EscrowDesk" "plan" "LEscrowDesk$Plan;") (by decide +kernel)) (fun _ h9 => h9) rfl dX9_load_45 ?_
    refine va_put (D := D) (ci := 10) (v := .ref p0) (ty := (.object "EscrowDesk$Plan")) (C := RX9) (T := TX9) (N := 9) hx hb hts inX9 tyX9 tyX9_ok nmX9 hown hK hP hD hS 0 rfl rfl 3 (by decide) (hts (.fieldLink RX9 20 "EscrowDesk" "sparePlan" "LEscrowDesk$Plan;") (by decide +kernel)) (fun _ h9 => h9) rfl (by decide +kernel) rfl rfl (Nat.le_of_ble_eq_true rfl) dX9_load_48 (fun H locs hP hD hS => ?_)
    obtain ⟨hP, hD⟩ : PDq D A [(oX9 h0 b0 0 p0 p0 r0 a0 t0 s0 o0), (oX0 a0 p0 a1 a3 a4 a5 a6 i6 i7 i8 i9 i10 i11 i12 i13 i14 i15 i16 i17 i18 i19), (a1, .inr (6, [.ref a2, .int (nI nx), .int (nI kp)])), (a2, .inl (cA 0, 240, .inl fr)), (a3, .inl (cA 0, 10, .inl fs)), (a4, .inl (cA 0, 10, .inl fp)), (a5, .inl (cA 0, 10, .inl ff)), (a6, .inl (cA 0, 10, .inl fd)), (s0, .inr (5, [.ref s1, .int (nI wn), .int (nI wc)])), (oX4 r0 r1 u0 zn2 zn3 zn4 zn8 zn5 0 (-1)), (oX5 r1 k1 k2 k3 (nI qn9)), (k1, .inl (cA 0, 701, .inl fn10)), (k2, .inl (cA 0, 701, .inl fn11)), (k3, .inl (cA 1, 701, .inr (.inl fn12))), (b0, .inl (cA 2, 700, .inl fb)), (oX3 u0 zn17 zn18 zn19 zn20 u1 (nI qn15) u2 u3 u4 u5 (nI qn13) u6 (nI qn14) u7 u8 u9 (nI qn16)), (u1, .inl (cA 0, 6, .inl fn21)), (u2, .inl (cA 1, 10, .inr (.inl fn28))), (u3, .inl (cA 0, 10, .inl fn22)), (u4, .inl (cA 0, 10, .inl fn23)), (u5, .inl (cA 0, 10, .inl fn24)), (u6, .inl (cA 1, 8, .inr (.inl fn29))), (u7, .inl (cA 0, 350, .inl fn25)), (u8, .inl (cA 0, 350, .inl fn26)), (u9, .inl (cA 0, 10, .inl fn27))] H := ⟨hP, hD⟩
    refine lv_aload_n hx hb dX9_load_51 rfl (lv_at hl 2 rfl) ?_
    refine lv_aload_n hx hb dX9_load_52 rfl (lv_at hl 0 rfl) ?_
    refine va_put (D := D) (ci := 10) (v := .ref u0) (ty := (.object "EscrowDesk$Plan")) (C := RX9) (T := TX9) (N := 9) hx hb hts inX9 tyX9 tyX9_ok nmX9 hown hK hP hD hS 0 rfl rfl 2 (by decide) (hts (.fieldLink RX9 16 "EscrowDesk" "plan" "LEscrowDesk$Plan;") (by decide +kernel)) (fun _ h9 => h9) rfl (by decide +kernel) rfl rfl (Nat.le_of_ble_eq_true rfl) dX9_load_53 (fun H locs hP hD hS => ?_)
    obtain ⟨hP, hD⟩ : PDq D A [(oX9 h0 b0 0 u0 p0 r0 a0 t0 s0 o0), (oX0 a0 p0 a1 a3 a4 a5 a6 i6 i7 i8 i9 i10 i11 i12 i13 i14 i15 i16 i17 i18 i19), (a1, .inr (6, [.ref a2, .int (nI nx), .int (nI kp)])), (a2, .inl (cA 0, 240, .inl fr)), (a3, .inl (cA 0, 10, .inl fs)), (a4, .inl (cA 0, 10, .inl fp)), (a5, .inl (cA 0, 10, .inl ff)), (a6, .inl (cA 0, 10, .inl fd)), (s0, .inr (5, [.ref s1, .int (nI wn), .int (nI wc)])), (oX4 r0 r1 u0 zn2 zn3 zn4 zn8 zn5 0 (-1)), (oX5 r1 k1 k2 k3 (nI qn9)), (k1, .inl (cA 0, 701, .inl fn10)), (k2, .inl (cA 0, 701, .inl fn11)), (k3, .inl (cA 1, 701, .inr (.inl fn12))), (b0, .inl (cA 2, 700, .inl fb)), (oX3 u0 zn17 zn18 zn19 zn20 u1 (nI qn15) u2 u3 u4 u5 (nI qn13) u6 (nI qn14) u7 u8 u9 (nI qn16)), (u1, .inl (cA 0, 6, .inl fn21)), (u2, .inl (cA 1, 10, .inr (.inl fn28))), (u3, .inl (cA 0, 10, .inl fn22)), (u4, .inl (cA 0, 10, .inl fn23)), (u5, .inl (cA 0, 10, .inl fn24)), (u6, .inl (cA 1, 8, .inr (.inl fn29))), (u7, .inl (cA 0, 350, .inl fn25)), (u8, .inl (cA 0, 350, .inl fn26)), (u9, .inl (cA 0, 10, .inl fn27))] H := ⟨hP, hD⟩
    refine lv_aload_n hx hb dX9_load_56 rfl (lv_at hl 2 rfl) ?_
    refine va_get (D := D) (ci := 10) (v := .ref a0) (C := RX9) (T := TX9) (N := 9) hx hb hts inX9 hown hK hP 0 rfl rfl 5 (by decide) (hts (.fieldLink RX9 35 "EscrowDesk" "account" "LEscrowDesk$Account;") (by decide +kernel)) (fun _ h9 => h9) rfl dX9_load_57 ?_
    refine lv_aload_n hx hb dX9_load_60 rfl (lv_at hl 2 rfl) ?_
    refine va_get (D := D) (ci := 10) (v := .ref u0) (C := RX9) (T := TX9) (N := 9) hx hb hts inX9 hown hK hP 0 rfl rfl 2 (by decide) (hts (.fieldLink RX9 16 "EscrowDesk" "plan" "LEscrowDesk$Plan;") (by decide +kernel)) (fun _ h9 => h9) rfl dX9_load_61 ?_
    obtain ⟨hPc, hDc, hFc⟩ := PDq.cut (wc := [(oX0 a0 p0 a1 a3 a4 a5 a6 i6 i7 i8 i9 i10 i11 i12 i13 i14 i15 i16 i17 i18 i19), (a1, .inr (6, [.ref a2, .int (nI nx), .int (nI kp)])), (a2, .inl (cA 0, 240, .inl fr)), (a3, .inl (cA 0, 10, .inl fs)), (a4, .inl (cA 0, 10, .inl fp)), (a5, .inl (cA 0, 10, .inl ff)), (a6, .inl (cA 0, 10, .inl fd)), (oX3 u0 zn17 zn18 zn19 zn20 u1 (nI qn15) u2 u3 u4 u5 (nI qn13) u6 (nI qn14) u7 u8 u9 (nI qn16)), (u1, .inl (cA 0, 6, .inl fn21))]) hP hD hS hA [1, 2, 3, 4, 5, 6, 7, 15, 16] (by decide +kernel) rfl
    refine va_callv (va_runV (As := [.ref u0]) (rest := []) ⟨hx, hb, hml, hown, hts⟩ (s_openWith l D cA sa a0 a1 a2 a3 a4 a5 a6 (.ref p0) (.int i6) (.int i7) (.int i8) (.long i9) (.long i10) (.long i11) (.int i12) (.int i13) (.int i14) (.int i15) (.int i16) (.int i17) (.int i18) (.int i19) nx kp fr fs fp ff fd u0 u1 u2 u3 u4 u5 u6 u7 u8 u9 qn13 qn14 qn15 qn16 zn17 zn18 zn19 zn20 fn21 H.size hnx hkp hn34 hn35 hn36 hn37) (cwV 1 hts gX9_load_X0_openWith rfl rfl rfl (by decide +kernel) ⟨(Nat.le_of_ble_eq_true rfl), (Nat.le_of_ble_eq_true rfl)⟩) ⟨Wd.blind, va_recv hK hPc (ci := 4) (q0 := 0) rfl rfl, fun U hU hW => ⟨rfl, Wd.call hPc hDc hK hC hZ hS hFc U hU hW⟩⟩ rfl rfl hl.1 rfl (lv_room (Nat.le_of_ble_eq_true rfl)) dX9_load_64 ⟨(Nat.le_of_ble_eq_true rfl), (Nat.le_of_ble_eq_true rfl)⟩) hS (fun q _ h => hFc q h) hFc (fun u t H1 locs ht hvm hw hB hz1 hk1 hS => ?_)
    obtain ⟨zn48, zn49, zn50, zn51, zn52, zn53, zn54, zn55, zn56, zn57, zn58, zn59, zn60, zn61, qn62, qn63, fn64, fn65, fn66, fn67, fn68, hn69, hn70, hP1, hD1⟩ := hB
    rw [ht] at hP1
    obtain ⟨hP, hD⟩ := PDq.join (w := [(oX9 h0 b0 0 u0 p0 r0 a0 t0 s0 o0), (s0, .inr (5, [.ref s1, .int (nI wn), .int (nI wc)])), (oX4 r0 r1 u0 zn2 zn3 zn4 zn8 zn5 0 (-1)), (oX5 r1 k1 k2 k3 (nI qn9)), (k1, .inl (cA 0, 701, .inl fn10)), (k2, .inl (cA 0, 701, .inl fn11)), (k3, .inl (cA 1, 701, .inr (.inl fn12))), (b0, .inl (cA 2, 700, .inl fb)), (u2, .inl (cA 1, 10, .inr (.inl fn28))), (u3, .inl (cA 0, 10, .inl fn22)), (u4, .inl (cA 0, 10, .inl fn23)), (u5, .inl (cA 0, 10, .inl fn24)), (u6, .inl (cA 1, 8, .inr (.inl fn29))), (u7, .inl (cA 0, 350, .inl fn25)), (u8, .inl (cA 0, 350, .inl fn26)), (u9, .inl (cA 0, 10, .inl fn27)), (oX0 a0 u0 a1 a3 a4 a5 a6 zn48 zn49 zn50 zn59 zn60 zn61 zn51 zn52 zn53 zn54 zn55 zn56 zn57 zn58), (a1, .inr (6, [.ref a2, .int (nI qn62), .int (nI qn63)])), (a2, .inl (cA 0, 240, .inl fn64)), (a3, .inl (cA 0, 10, .inl fn65)), (a4, .inl (cA 0, 10, .inl fn66)), (a5, .inl (cA 0, 10, .inl fn67)), (a6, .inl (cA 0, 10, .inl fn68)), (oX3 u0 zn17 zn18 zn19 zn20 u1 (nI qn15) u2 u3 u4 u5 (nI qn13) u6 (nI qn14) u7 u8 u9 (nI qn16)), (u1, .inl (cA 0, 6, .inl fn21))]) 16 hP hD [1, 2, 3, 4, 5, 6, 7, 15, 16] [0, 8, 9, 10, 11, 12, 13, 14, 17, 18, 19, 20, 21, 22, 23, 24] rfl rfl (by decide +kernel) (by decide +kernel) hk1 hFc hP1 hD1 rfl
    generalize H1 = H at hP hS ⊢
    refine lv_aload_n hx hb dX9_load_67 rfl (lv_at hl 2 rfl) ?_
    refine va_get (D := D) (ci := 10) (v := .ref s0) (C := RX9) (T := TX9) (N := 9) hx hb hts inX9 hown hK hP 0 rfl rfl 7 (by decide) (hts (.fieldLink RX9 45 "EscrowDesk" "history" "LEscrowDesk$History;") (by decide +kernel)) (fun _ h9 => h9) rfl dX9_load_68 ?_
    obtain ⟨hPc, hDc, hFc⟩ := PDq.cut (wc := [(s0, .inr (5, [.ref s1, .int (nI wn), .int (nI wc)]))]) hP hD hS hA [1] (by decide) rfl
    refine va_callv (va_runV (As := []) (rest := []) ⟨hx, hb, hml, hown, hts⟩ (s_forgetAll l D cA sa s0 s1 wn wc H.size) (cwV 0 hts gX9_load_X1_forgetAll rfl rfl rfl (by decide +kernel) ⟨(Nat.le_of_ble_eq_true rfl), (Nat.le_of_ble_eq_true rfl)⟩) ⟨Wd.blind, va_recv hK hPc (ci := 5) (q0 := 0) rfl rfl, fun U hU hW => ⟨rfl, Wd.call hPc hDc hK hC hZ hS hFc U hU hW⟩⟩ rfl rfl hl.1 rfl (lv_room (Nat.le_of_ble_eq_true rfl)) dX9_load_71 ⟨(Nat.le_of_ble_eq_true rfl), (Nat.le_of_ble_eq_true rfl)⟩) hS (fun q _ h => hFc q h) hFc (fun u t H1 locs ht hvm hw hB hz1 hk1 hS => ?_)
    obtain ⟨hP1, hD1⟩ := hB
    rw [ht] at hP1
    obtain ⟨hP, hD⟩ := PDq.join (w := [(oX9 h0 b0 0 u0 p0 r0 a0 t0 s0 o0), (oX4 r0 r1 u0 zn2 zn3 zn4 zn8 zn5 0 (-1)), (oX5 r1 k1 k2 k3 (nI qn9)), (k1, .inl (cA 0, 701, .inl fn10)), (k2, .inl (cA 0, 701, .inl fn11)), (k3, .inl (cA 1, 701, .inr (.inl fn12))), (b0, .inl (cA 2, 700, .inl fb)), (u2, .inl (cA 1, 10, .inr (.inl fn28))), (u3, .inl (cA 0, 10, .inl fn22)), (u4, .inl (cA 0, 10, .inl fn23)), (u5, .inl (cA 0, 10, .inl fn24)), (u6, .inl (cA 1, 8, .inr (.inl fn29))), (u7, .inl (cA 0, 350, .inl fn25)), (u8, .inl (cA 0, 350, .inl fn26)), (u9, .inl (cA 0, 10, .inl fn27)), (oX0 a0 u0 a1 a3 a4 a5 a6 zn48 zn49 zn50 zn59 zn60 zn61 zn51 zn52 zn53 zn54 zn55 zn56 zn57 zn58), (a1, .inr (6, [.ref a2, .int (nI qn62), .int (nI qn63)])), (a2, .inl (cA 0, 240, .inl fn64)), (a3, .inl (cA 0, 10, .inl fn65)), (a4, .inl (cA 0, 10, .inl fn66)), (a5, .inl (cA 0, 10, .inl fn67)), (a6, .inl (cA 0, 10, .inl fn68)), (oX3 u0 zn17 zn18 zn19 zn20 u1 (nI qn15) u2 u3 u4 u5 (nI qn13) u6 (nI qn14) u7 u8 u9 (nI qn16)), (u1, .inl (cA 0, 6, .inl fn21)), (s0, .inr (5, [.ref s1, .int (nI wn), .int 0]))]) 24 hP hD [1] [0, 2, 3, 4, 5, 6, 7, 8, 9, 10, 11, 12, 13, 14, 15, 16, 17, 18, 19, 20, 21, 22, 23, 24] rfl rfl (by decide +kernel) (by decide +kernel) hk1 hFc hP1 hD1 rfl
    generalize H1 = H at hP hS ⊢
    refine lv_aload_n hx hb dX9_load_74 rfl (lv_at hl 2 rfl) ?_
    refine va_get (D := D) (ci := 10) (v := .ref u0) (C := RX9) (T := TX9) (N := 9) hx hb hts inX9 hown hK hP 0 rfl rfl 2 (by decide) (hts (.fieldLink RX9 16 "EscrowDesk" "plan" "LEscrowDesk$Plan;") (by decide +kernel)) (fun _ h9 => h9) rfl dX9_load_75 ?_
    refine va_getN (D := D) (ci := 7) (v := .int (nI qn13)) (C := RX3) (T := TX3) (N := 17) hx hb hts inX3 hown hK hP 22 rfl rfl 10 (by decide) (hC.f (A := _) (a := RX9) (i := 78) (b := "EscrowDesk$Plan") (n := "milestoneCount") (d := "I") (x := "EscrowDesk") (by decide +kernel)) (fun _ h9 => h9) rfl dX9_load_78 ?_
    obtain ⟨hP9, hD9⟩ := PDq.sub (ws' := [(oX9 h0 b0 0 u0 p0 r0 a0 t0 s0 o0), (oX4 r0 r1 u0 zn2 zn3 zn4 zn8 zn5 0 (-1)), (oX5 r1 k1 k2 k3 (nI qn9)), (k1, .inl (cA 0, 701, .inl fn10)), (k2, .inl (cA 0, 701, .inl fn11)), (k3, .inl (cA 1, 701, .inr (.inl fn12))), (b0, .inl (cA 2, 700, .inl fb)), (oX3 u0 zn17 zn18 zn19 zn20 u1 (nI qn15) u2 u3 u4 u5 (nI qn13) u6 (nI qn14) u7 u8 u9 (nI qn16)), (u1, .inl (cA 0, 6, .inl fn21)), (u2, .inl (cA 1, 10, .inr (.inl fn28))), (u3, .inl (cA 0, 10, .inl fn22)), (u4, .inl (cA 0, 10, .inl fn23)), (u5, .inl (cA 0, 10, .inl fn24)), (u6, .inl (cA 1, 8, .inr (.inl fn29))), (u7, .inl (cA 0, 350, .inl fn25)), (u8, .inl (cA 0, 350, .inl fn26)), (u9, .inl (cA 0, 10, .inl fn27)), (oX0 a0 u0 a1 a3 a4 a5 a6 zn48 zn49 zn50 zn59 zn60 zn61 zn51 zn52 zn53 zn54 zn55 zn56 zn57 zn58), (a1, .inr (6, [.ref a2, .int (nI qn62), .int (nI qn63)])), (a2, .inl (cA 0, 240, .inl fn64)), (a3, .inl (cA 0, 10, .inl fn65)), (a4, .inl (cA 0, 10, .inl fn66)), (a5, .inl (cA 0, 10, .inl fn67)), (a6, .inl (cA 0, 10, .inl fn68)), (s0, .inr (5, [.ref s1, .int (nI wn), .int 0]))]) hP hD [0, 1, 2, 3, 4, 5, 6, 22, 23, 7, 8, 9, 10, 11, 12, 13, 14, 15, 16, 17, 18, 19, 20, 21, 24] (by decide +kernel) rfl
    refine W.widen (k := 0) (n := 0) (Nat.le_of_ble_eq_true rfl) (Nat.le_of_ble_eq_true rfl) ?_
    exact (W.iret (v := (nI qn13)) hx hb hr (fun t ht hW => ⟨⟨(nI qn13), (nI qn13), rfl, rfl, u0, p0, u0, 0, zn2, zn3, zn4, zn5, 0, (-1), zn8, qn9, fn10, fn11, fn12, qn13, qn14, qn15, qn16, zn17, zn18, zn19, zn20, fn21, fn22, fn23, fn24, fn25, fn26, fn27, fn28, fn29, zn48, zn49, zn50, zn51, zn52, zn53, zn54, zn55, zn56, zn57, zn58, zn59, zn60, zn61, qn62, qn63, fn64, fn65, fn66, fn67, fn68, zn30, zn31, (Or.inr ⟨rfl, rfl, rfl, rfl, rfl, rfl, rfl, hn44⟩), hn32, hn33, hn34, hn35, hn36, hn37, hn38, hn39, hn69, hn70, hn40, hn41, by rw [ht]; exact hP9, hD9⟩, hS.F ht⟩) hS.2.2 dX9_load_81)

set_option maxHeartbeats 4000000 in
set_option maxRecDepth 100000 in
/-- reference: between -/
theorem r_between (l : Launch) (D : va_G) (cA : Nat → ClassId) (sa : Nat → Nat) (a : Int64) (lo : Int64) (hi : Int64) (sz : Nat) : Met l yX10_between wsX10_between ({ frames := 0, cells := 0, slots := 0, locals := 0 }) (va_Pc [.long a, .long lo, .long hi] (Wd D cA sa [] sz)) (va_Qi (fun (r : Int32) (_ : Unit) => (r = 1 ∧ lo ≤ a ∧ a ≤ hi) ∨ r = 0) (fun (_ : Unit) t => Wq D (va_A [] sz) [] t) (va_A [] sz)) 0 0 (va_A [] sz) := by
  refine Met.ofW (cc := cX10_between) (maxL := 6) (ret := (some .boolean)) (by decide) rfl ?_
  intro p e s m args below meth c s₁ B hml hv
  obtain ⟨rfl, hsz, hP, hK, hD0, hC, hZ⟩ := hv
  have hx := B.exec
  have hb := B.bytes
  have hr := B.returns
  have hts := atoms_spec (ws := wsX10_between) B.pre
  have hown : s.vm.findClass RX10 = some m.cls := findClass_of_methodNamed B.named
  have hlocks := B.notSynchronized
  subst hsz
  have hD := hD0.self (sz := s.heap.size)
  generalize hAe : va_A [] s.heap.size = A at hD hZ ⊢
  have hA : ∀ q : Nat, s.heap.size ≤ q → A q := fun q h => by rw [← hAe]; exact Or.inr h
  have hS : va_S A s.heap s.heap [] := va_S.rf
  have hP : va_P D vwCl [] s.heap := hP
  have hl := lv_entry ([.long a, .long lo, .long hi]) (n := 6) (Nat.le_of_ble_eq_true rfl)
  rw [lg_entry_eq]
  generalize (lg_sl ([.long a, .long lo, .long hi]) ++ List.replicate (6 - (lg_sl ([.long a, .long lo, .long hi])).length) Slot.unset).toArray = ls at hl ⊢
  have hl : lv_has ls 6 [(0, .long a), (2, .long lo), (4, .long hi)] := hl
  refine lv_lload_n hx hb dX10_between_0 rfl (lv_at hl 0 rfl) ?_
  refine lv_lload_n hx hb dX10_between_1 rfl (lv_at hl 1 rfl) ?_
  refine W.lcmp hx hb dX10_between_2 ?_
  refine lv_if_lt (tgt := 17) hx hb dX10_between_3 (by decide) (fun c1 => ?_) (fun c1 => ?_)
  · skip
    refine lv_iconst (v := 0) hx hb dX10_between_17 (by decide) ?_
    obtain ⟨hP9, hD9⟩ := PDq.sub (ws' := []) hP hD [] (by decide) rfl
    refine W.widen (k := 0) (n := 0) (Nat.le_of_ble_eq_true rfl) (Nat.le_of_ble_eq_true rfl) ?_
    exact (W.zret (v := 0) hx hb hr (by first | rfl | decide) (fun t ht hW => ⟨⟨0, (), rfl, Or.inr rfl, by rw [ht]; exact hP9, hD9⟩, hS.F ht⟩) hS.2.2 dX10_between_18)
  · skip
    refine lv_lload_n hx hb dX10_between_6 rfl (lv_at hl 0 rfl) ?_
    refine lv_lload hx hb dX10_between_7 (lv_at hl 2 rfl) ?_
    refine W.lcmp hx hb dX10_between_9 ?_
    refine lv_if_gt (tgt := 17) hx hb dX10_between_10 (by decide) (fun c2 => ?_) (fun c2 => ?_)
    · skip
      refine lv_iconst (v := 0) hx hb dX10_between_17 (by decide) ?_
      obtain ⟨hP9, hD9⟩ := PDq.sub (ws' := []) hP hD [] (by decide) rfl
      refine W.widen (k := 0) (n := 0) (Nat.le_of_ble_eq_true rfl) (Nat.le_of_ble_eq_true rfl) ?_
      exact (W.zret (v := 0) hx hb hr (by first | rfl | decide) (fun t ht hW => ⟨⟨0, (), rfl, Or.inr rfl, by rw [ht]; exact hP9, hD9⟩, hS.F ht⟩) hS.2.2 dX10_between_18)
    · skip
      refine lv_iconst (v := 1) hx hb dX10_between_13 (by decide) ?_
      refine lv_goto (tgt := 18) hx hb dX10_between_14 (by decide) ?_
      obtain ⟨hP9, hD9⟩ := PDq.sub (ws' := []) hP hD [] (by decide) rfl
      refine W.widen (k := 0) (n := 0) (Nat.le_of_ble_eq_true rfl) (Nat.le_of_ble_eq_true rfl) ?_
      exact (W.zret (v := 1) hx hb hr (by first | rfl | decide) (fun t ht hW => ⟨⟨1, (), rfl, Or.inl ⟨rfl, ⟨lg_nlt c1, lg_ngt c2⟩⟩, by rw [ht]; exact hP9, hD9⟩, hS.F ht⟩) hS.2.2 dX10_between_18)

set_option maxHeartbeats 4000000 in
set_option maxRecDepth 100000 in
/-- reference: isMilestone -/
theorem r_isMilestone (l : Launch) (D : va_G) (cA : Nat → ClassId) (sa : Nat → Nat) (w0 : Nat) (ed : Nat) (nb : Nat) (ol : Nat) (v0 : Nat) (v1 : Nat) (v2 : Nat) (v3 : Nat) (v4 : Nat) (v9 : Nat) (v13 : Nat) (v27 : Nat) (v28 : Nat) (v29 : Nat) (v30 : Nat) (v31 : Nat) (v32 : Nat) (v33 : Nat) (v34 : Nat) (v35 : Nat) (v36 : Nat) (v37 : Nat) (g8 : Int32) (g11 : Int32) (g12 : Int32) (g14 : Int32) (g15 : Int32) (g16 : Int32) (g17 : Int32) (g18 : Int32) (g19 : Int32) (g20 : Int32) (g21 : Int32) (g22 : Int32) (g23 : Int32) (g24 : Int32) (g26 : Int32) (g5 : Int64) (g6 : Int64) (g25 : Int64) (cn : Nat) (pq : Nat) (en : Nat) (dy : Nat) (fs : Nat → Int32) (i : Int32) (sz : Nat) (hcn : cn ≤ 10) (hpq : pq ≤ 8) (hen : en ≤ 60) (hdy : dy ≤ 20000) (hri : RI cn pq en dy fs) : Met l yX10_isMilestone wsX10_isMilestone ({ frames := 1, cells := 0, slots := 0, locals := 25 }) (va_Pc [.ref w0, .int i] (Wd D cA sa [(oX10 w0 v0 v1 v2 v3 v4 g5 g6 (nI ed) g8 v9 (nI nb) g11 g12 v13 g14 g15 g16 g17 g18 g19 g20 g21 g22 g23 g24 g25 g26 v27 v28 v29 v30 v31 v32 v33 v34 v35 v36 v37 (nI ol)), (v0, .inl (cA 0, 326, .inl fs))] sz)) (va_Qi (fun (r : Int32) (_ : Unit) => (r = 1 ∧ ∃ n, n < cn ∧ i = nI n) ∨ r = 0) (fun (_ : Unit) t => Wq D (va_A [(oX10 w0 v0 v1 v2 v3 v4 g5 g6 (nI ed) g8 v9 (nI nb) g11 g12 v13 g14 g15 g16 g17 g18 g19 g20 g21 g22 g23 g24 g25 g26 v27 v28 v29 v30 v31 v32 v33 v34 v35 v36 v37 (nI ol)), (v0, .inl (cA 0, 326, .inl fs))] sz) [(oX10 w0 v0 v1 v2 v3 v4 g5 g6 (nI ed) g8 v9 (nI nb) g11 g12 v13 g14 g15 g16 g17 g18 g19 g20 g21 g22 g23 g24 g25 g26 v27 v28 v29 v30 v31 v32 v33 v34 v35 v36 v37 (nI ol)), (v0, .inl (cA 0, 326, .inl fs))] t) (va_A [(oX10 w0 v0 v1 v2 v3 v4 g5 g6 (nI ed) g8 v9 (nI nb) g11 g12 v13 g14 g15 g16 g17 g18 g19 g20 g21 g22 g23 g24 g25 g26 v27 v28 v29 v30 v31 v32 v33 v34 v35 v36 v37 (nI ol)), (v0, .inl (cA 0, 326, .inl fs))] sz)) 0 0 (va_A [(oX10 w0 v0 v1 v2 v3 v4 g5 g6 (nI ed) g8 v9 (nI nb) g11 g12 v13 g14 g15 g16 g17 g18 g19 g20 g21 g22 g23 g24 g25 g26 v27 v28 v29 v30 v31 v32 v33 v34 v35 v36 v37 (nI ol)), (v0, .inl (cA 0, 326, .inl fs))] sz) := by
  refine Met.ofW (cc := cX10_isMilestone) (maxL := 2) (ret := (some .boolean)) (by decide) rfl ?_
  intro p e s m args below meth c s₁ B hml hv
  obtain ⟨rfl, hsz, hP, hK, hD0, hC, hZ⟩ := hv
  have hx := B.exec
  have hb := B.bytes
  have hr := B.returns
  have hts := atoms_spec (ws := wsX10_isMilestone) B.pre
  have hown : s.vm.findClass RX10 = some m.cls := findClass_of_methodNamed B.named
  have hlocks := B.notSynchronized
  subst hsz
  have hD := hD0.self (sz := s.heap.size)
  generalize hAe : va_A [(oX10 w0 v0 v1 v2 v3 v4 g5 g6 (nI ed) g8 v9 (nI nb) g11 g12 v13 g14 g15 g16 g17 g18 g19 g20 g21 g22 g23 g24 g25 g26 v27 v28 v29 v30 v31 v32 v33 v34 v35 v36 v37 (nI ol)), (v0, .inl (cA 0, 326, .inl fs))] s.heap.size = A at hD hZ ⊢
  have hA : ∀ q : Nat, s.heap.size ≤ q → A q := fun q h => by rw [← hAe]; exact Or.inr h
  have hS : va_S A s.heap s.heap [] := va_S.rf
  have hP : va_P D vwCl [(oX10 w0 v0 v1 v2 v3 v4 g5 g6 (nI ed) g8 v9 (nI nb) g11 g12 v13 g14 g15 g16 g17 g18 g19 g20 g21 g22 g23 g24 g25 g26 v27 v28 v29 v30 v31 v32 v33 v34 v35 v36 v37 (nI ol)), (v0, .inl (cA 0, 326, .inl fs))] s.heap := hP
  have hl := lv_entry ([.ref w0, .int i]) (n := 2) (Nat.le_of_ble_eq_true rfl)
  rw [lg_entry_eq]
  generalize (lg_sl ([.ref w0, .int i]) ++ List.replicate (2 - (lg_sl ([.ref w0, .int i])).length) Slot.unset).toArray = ls at hl ⊢
  have hl : lv_has ls 2 [(0, .ref w0), (1, .int i)] := hl
  have inX10 : ∀ w ∈ u_ws RX10 TX10 39, w ∈ wsX10_isMilestone := by decide +kernel
  refine lv_iload_n hx hb dX10_isMilestone_0 rfl (lv_at hl 1 rfl) ?_
  refine lv_i2l (v := (i.toInt64)) hx hb dX10_isMilestone_1 rfl ?_
  refine lv_lconst (v := 0) hx hb dX10_isMilestone_2 (by decide) ?_
  refine lv_aload_n hx hb dX10_isMilestone_3 rfl (lv_at hl 0 rfl) ?_
  refine va_get (D := D) (ci := 11) (v := .ref v0) (C := RX10) (T := TX10) (N := 39) hx hb hts inX10 hown hK hP 0 rfl rfl 0 (by decide) (hts (.fieldLink RX10 7 "EscrowDeskModel" "s" "[I") (by decide +kernel)) (fun _ h9 => h9) rfl dX10_isMilestone_4 ?_
  refine lv_bipush (v := 13) hx hb dX10_isMilestone_7 (by decide) ?_
  refine va_iald hx hb hK hP 1 0 rfl rfl (vp_in_iff.mpr (by decide)) dX10_isMilestone_9 ?_
  refine lv_topi (fun yn1 eyn1 => ?_)
  obtain rfl : yn1 = (nI cn) := eyn1.trans hri.1
  refine lv_iconst (v := 1) hx hb dX10_isMilestone_10 (by decide) ?_
  rcases Nat.eq_zero_or_pos cn with hn2 | hn2
  · skip
    refine lv_isub hx hb dX10_isMilestone_11 ?_
    refine lv_topi (fun yn3 eyn3 => ?_)
    obtain rfl : yn3 = (-1) := eyn3.trans (nI_sub0 hn2)
    refine lv_i2l (v := (-1)) hx hb dX10_isMilestone_12 (by decide) ?_
    obtain ⟨hPc, hDc, hFc⟩ := PDq.cut (wc := []) hP hD hS hA [] (by decide) rfl
    refine va_calli (va_runS (As := [.long (i.toInt64), .long 0, .long (-1)]) (rest := []) ⟨hx, hb, hml, hown, hts⟩ (r_between l D cA sa (i.toInt64) 0 (-1) s.heap.size) (va_cwS 3 hts gX10_isMilestone_X10_between rfl rfl rfl (by decide +kernel) ⟨(Nat.le_of_ble_eq_true rfl), (Nat.le_of_ble_eq_true rfl)⟩) ⟨Wd.blind, fun U hU hW => ⟨rfl, Wd.call hPc hDc hK hC hZ hS hFc U hU hW⟩⟩ rfl rfl hl.1 rfl (lv_room (Nat.le_of_ble_eq_true rfl)) dX10_isMilestone_13 ⟨(Nat.le_of_ble_eq_true rfl), (Nat.le_of_ble_eq_true rfl)⟩) hS (fun q _ h => hFc q h) hFc (fun rn4 u t H1 locs ht hvm hw hB hz1 hk1 hS => ?_)
    obtain ⟨hP1, hD1⟩ := hB
    rw [ht] at hP1
    obtain ⟨hP, hD⟩ := PDq.join (w := [(oX10 w0 v0 v1 v2 v3 v4 g5 g6 (nI ed) g8 v9 (nI nb) g11 g12 v13 g14 g15 g16 g17 g18 g19 g20 g21 g22 g23 g24 g25 g26 v27 v28 v29 v30 v31 v32 v33 v34 v35 v36 v37 (nI ol)), (v0, .inl (cA 0, 326, .inl fs))]) 2 hP hD [] [0, 1] rfl rfl (by decide) (by decide) hk1 hFc hP1 hD1 rfl
    generalize H1 = H at hP hS ⊢
    rcases hw with ⟨hr9, hn5⟩ | hr9
    · skip
      subst hr9
      exact absurd (btw_no hn5.1 hn5.2) (fun h9 => h9)
    · skip
      subst hr9
      obtain ⟨hP9, hD9⟩ := PDq.sub (ws' := [(oX10 w0 v0 v1 v2 v3 v4 g5 g6 (nI ed) g8 v9 (nI nb) g11 g12 v13 g14 g15 g16 g17 g18 g19 g20 g21 g22 g23 g24 g25 g26 v27 v28 v29 v30 v31 v32 v33 v34 v35 v36 v37 (nI ol)), (v0, .inl (cA 0, 326, .inl fs))]) hP hD [0, 1] (by decide) rfl
      refine W.widen (k := 0) (n := 0) (Nat.le_of_ble_eq_true rfl) (Nat.le_of_ble_eq_true rfl) ?_
      exact (W.zret (v := 0) hx hb hr (by first | rfl | decide) (fun t ht hW => ⟨⟨0, (), rfl, Or.inr rfl, by rw [ht]; exact hP9, hD9⟩, hS.F ht⟩) hS.2.2 dX10_isMilestone_16)
  · skip
    refine lv_isub hx hb dX10_isMilestone_11 ?_
    refine lv_topi (fun yn6 eyn6 => ?_)
    obtain rfl : yn6 = (nI (cn - 1)) := eyn6.trans (nI_sub (a := cn) (b := 1) (by omega))
    refine lv_i2l (v := ((nI (cn - 1)).toInt64)) hx hb dX10_isMilestone_12 rfl ?_
    obtain ⟨hPc, hDc, hFc⟩ := PDq.cut (wc := []) hP hD hS hA [] (by decide) rfl
    refine va_calli (va_runS (As := [.long (i.toInt64), .long 0, .long ((nI (cn - 1)).toInt64)]) (rest := []) ⟨hx, hb, hml, hown, hts⟩ (r_between l D cA sa (i.toInt64) 0 ((nI (cn - 1)).toInt64) s.heap.size) (va_cwS 3 hts gX10_isMilestone_X10_between rfl rfl rfl (by decide +kernel) ⟨(Nat.le_of_ble_eq_true rfl), (Nat.le_of_ble_eq_true rfl)⟩) ⟨Wd.blind, fun U hU hW => ⟨rfl, Wd.call hPc hDc hK hC hZ hS hFc U hU hW⟩⟩ rfl rfl hl.1 rfl (lv_room (Nat.le_of_ble_eq_true rfl)) dX10_isMilestone_13 ⟨(Nat.le_of_ble_eq_true rfl), (Nat.le_of_ble_eq_true rfl)⟩) hS (fun q _ h => hFc q h) hFc (fun rn7 u t H1 locs ht hvm hw hB hz1 hk1 hS => ?_)
    obtain ⟨hP1, hD1⟩ := hB
    rw [ht] at hP1
    obtain ⟨hP, hD⟩ := PDq.join (w := [(oX10 w0 v0 v1 v2 v3 v4 g5 g6 (nI ed) g8 v9 (nI nb) g11 g12 v13 g14 g15 g16 g17 g18 g19 g20 g21 g22 g23 g24 g25 g26 v27 v28 v29 v30 v31 v32 v33 v34 v35 v36 v37 (nI ol)), (v0, .inl (cA 0, 326, .inl fs))]) 2 hP hD [] [0, 1] rfl rfl (by decide) (by decide) hk1 hFc hP1 hD1 rfl
    generalize H1 = H at hP hS ⊢
    rcases hw with ⟨hr9, hn8⟩ | hr9
    · skip
      subst hr9
      have hn9 := btw_nat hn8.1 hn8.2 (by omega)
      obtain ⟨hP9, hD9⟩ := PDq.sub (ws' := [(oX10 w0 v0 v1 v2 v3 v4 g5 g6 (nI ed) g8 v9 (nI nb) g11 g12 v13 g14 g15 g16 g17 g18 g19 g20 g21 g22 g23 g24 g25 g26 v27 v28 v29 v30 v31 v32 v33 v34 v35 v36 v37 (nI ol)), (v0, .inl (cA 0, 326, .inl fs))]) hP hD [0, 1] (by decide) rfl
      refine W.widen (k := 0) (n := 0) (Nat.le_of_ble_eq_true rfl) (Nat.le_of_ble_eq_true rfl) ?_
      exact (W.zret (v := 1) hx hb hr (by first | rfl | decide) (fun t ht hW => ⟨⟨1, (), rfl, Or.inl ⟨rfl, (by obtain ⟨n9, h8, e9⟩ := hn9; exact ⟨n9, by omega, e9⟩)⟩, by rw [ht]; exact hP9, hD9⟩, hS.F ht⟩) hS.2.2 dX10_isMilestone_16)
    · skip
      subst hr9
      obtain ⟨hP9, hD9⟩ := PDq.sub (ws' := [(oX10 w0 v0 v1 v2 v3 v4 g5 g6 (nI ed) g8 v9 (nI nb) g11 g12 v13 g14 g15 g16 g17 g18 g19 g20 g21 g22 g23 g24 g25 g26 v27 v28 v29 v30 v31 v32 v33 v34 v35 v36 v37 (nI ol)), (v0, .inl (cA 0, 326, .inl fs))]) hP hD [0, 1] (by decide) rfl
      refine W.widen (k := 0) (n := 0) (Nat.le_of_ble_eq_true rfl) (Nat.le_of_ble_eq_true rfl) ?_
      exact (W.zret (v := 0) hx hb hr (by first | rfl | decide) (fun t ht hW => ⟨⟨0, (), rfl, Or.inr rfl, by rw [ht]; exact hP9, hD9⟩, hS.F ht⟩) hS.2.2 dX10_isMilestone_16)

set_option maxHeartbeats 4000000 in
set_option maxRecDepth 100000 in
/-- reference: isProof -/
theorem r_isProof (l : Launch) (D : va_G) (cA : Nat → ClassId) (sa : Nat → Nat) (w0 : Nat) (ed : Nat) (nb : Nat) (ol : Nat) (v0 : Nat) (v1 : Nat) (v2 : Nat) (v3 : Nat) (v4 : Nat) (v9 : Nat) (v13 : Nat) (v27 : Nat) (v28 : Nat) (v29 : Nat) (v30 : Nat) (v31 : Nat) (v32 : Nat) (v33 : Nat) (v34 : Nat) (v35 : Nat) (v36 : Nat) (v37 : Nat) (g8 : Int32) (g11 : Int32) (g12 : Int32) (g14 : Int32) (g15 : Int32) (g16 : Int32) (g17 : Int32) (g18 : Int32) (g19 : Int32) (g20 : Int32) (g21 : Int32) (g22 : Int32) (g23 : Int32) (g24 : Int32) (g26 : Int32) (g5 : Int64) (g6 : Int64) (g25 : Int64) (cn : Nat) (pq : Nat) (en : Nat) (dy : Nat) (fs : Nat → Int32) (i : Int32) (sz : Nat) (hcn : cn ≤ 10) (hpq : pq ≤ 8) (hen : en ≤ 60) (hdy : dy ≤ 20000) (hri : RI cn pq en dy fs) : Met l yX10_isProof wsX10_isProof ({ frames := 1, cells := 0, slots := 0, locals := 25 }) (va_Pc [.ref w0, .int i] (Wd D cA sa [(oX10 w0 v0 v1 v2 v3 v4 g5 g6 (nI ed) g8 v9 (nI nb) g11 g12 v13 g14 g15 g16 g17 g18 g19 g20 g21 g22 g23 g24 g25 g26 v27 v28 v29 v30 v31 v32 v33 v34 v35 v36 v37 (nI ol)), (v0, .inl (cA 0, 326, .inl fs))] sz)) (va_Qi (fun (r : Int32) (_ : Unit) => (r = 1 ∧ ∃ n, n < pq ∧ i = nI n) ∨ r = 0) (fun (_ : Unit) t => Wq D (va_A [(oX10 w0 v0 v1 v2 v3 v4 g5 g6 (nI ed) g8 v9 (nI nb) g11 g12 v13 g14 g15 g16 g17 g18 g19 g20 g21 g22 g23 g24 g25 g26 v27 v28 v29 v30 v31 v32 v33 v34 v35 v36 v37 (nI ol)), (v0, .inl (cA 0, 326, .inl fs))] sz) [(oX10 w0 v0 v1 v2 v3 v4 g5 g6 (nI ed) g8 v9 (nI nb) g11 g12 v13 g14 g15 g16 g17 g18 g19 g20 g21 g22 g23 g24 g25 g26 v27 v28 v29 v30 v31 v32 v33 v34 v35 v36 v37 (nI ol)), (v0, .inl (cA 0, 326, .inl fs))] t) (va_A [(oX10 w0 v0 v1 v2 v3 v4 g5 g6 (nI ed) g8 v9 (nI nb) g11 g12 v13 g14 g15 g16 g17 g18 g19 g20 g21 g22 g23 g24 g25 g26 v27 v28 v29 v30 v31 v32 v33 v34 v35 v36 v37 (nI ol)), (v0, .inl (cA 0, 326, .inl fs))] sz)) 0 0 (va_A [(oX10 w0 v0 v1 v2 v3 v4 g5 g6 (nI ed) g8 v9 (nI nb) g11 g12 v13 g14 g15 g16 g17 g18 g19 g20 g21 g22 g23 g24 g25 g26 v27 v28 v29 v30 v31 v32 v33 v34 v35 v36 v37 (nI ol)), (v0, .inl (cA 0, 326, .inl fs))] sz) := by
  refine Met.ofW (cc := cX10_isProof) (maxL := 2) (ret := (some .boolean)) (by decide) rfl ?_
  intro p e s m args below meth c s₁ B hml hv
  obtain ⟨rfl, hsz, hP, hK, hD0, hC, hZ⟩ := hv
  have hx := B.exec
  have hb := B.bytes
  have hr := B.returns
  have hts := atoms_spec (ws := wsX10_isProof) B.pre
  have hown : s.vm.findClass RX10 = some m.cls := findClass_of_methodNamed B.named
  have hlocks := B.notSynchronized
  subst hsz
  have hD := hD0.self (sz := s.heap.size)
  generalize hAe : va_A [(oX10 w0 v0 v1 v2 v3 v4 g5 g6 (nI ed) g8 v9 (nI nb) g11 g12 v13 g14 g15 g16 g17 g18 g19 g20 g21 g22 g23 g24 g25 g26 v27 v28 v29 v30 v31 v32 v33 v34 v35 v36 v37 (nI ol)), (v0, .inl (cA 0, 326, .inl fs))] s.heap.size = A at hD hZ ⊢
  have hA : ∀ q : Nat, s.heap.size ≤ q → A q := fun q h => by rw [← hAe]; exact Or.inr h
  have hS : va_S A s.heap s.heap [] := va_S.rf
  have hP : va_P D vwCl [(oX10 w0 v0 v1 v2 v3 v4 g5 g6 (nI ed) g8 v9 (nI nb) g11 g12 v13 g14 g15 g16 g17 g18 g19 g20 g21 g22 g23 g24 g25 g26 v27 v28 v29 v30 v31 v32 v33 v34 v35 v36 v37 (nI ol)), (v0, .inl (cA 0, 326, .inl fs))] s.heap := hP
  have hl := lv_entry ([.ref w0, .int i]) (n := 2) (Nat.le_of_ble_eq_true rfl)
  rw [lg_entry_eq]
  generalize (lg_sl ([.ref w0, .int i]) ++ List.replicate (2 - (lg_sl ([.ref w0, .int i])).length) Slot.unset).toArray = ls at hl ⊢
  have hl : lv_has ls 2 [(0, .ref w0), (1, .int i)] := hl
  have inX10 : ∀ w ∈ u_ws RX10 TX10 39, w ∈ wsX10_isProof := by decide +kernel
  refine lv_iload_n hx hb dX10_isProof_0 rfl (lv_at hl 1 rfl) ?_
  refine lv_i2l (v := (i.toInt64)) hx hb dX10_isProof_1 rfl ?_
  refine lv_lconst (v := 0) hx hb dX10_isProof_2 (by decide) ?_
  refine lv_aload_n hx hb dX10_isProof_3 rfl (lv_at hl 0 rfl) ?_
  refine va_get (D := D) (ci := 11) (v := .ref v0) (C := RX10) (T := TX10) (N := 39) hx hb hts inX10 hown hK hP 0 rfl rfl 0 (by decide) (hts (.fieldLink RX10 7 "EscrowDeskModel" "s" "[I") (by decide +kernel)) (fun _ h9 => h9) rfl dX10_isProof_4 ?_
  refine lv_bipush (v := 14) hx hb dX10_isProof_7 (by decide) ?_
  refine va_iald hx hb hK hP 1 0 rfl rfl (vp_in_iff.mpr (by decide)) dX10_isProof_9 ?_
  refine lv_topi (fun yn1 eyn1 => ?_)
  obtain rfl : yn1 = (nI pq) := eyn1.trans hri.2.1
  refine lv_iconst (v := 1) hx hb dX10_isProof_10 (by decide) ?_
  rcases Nat.eq_zero_or_pos pq with hn2 | hn2
  · skip
    refine lv_isub hx hb dX10_isProof_11 ?_
    refine lv_topi (fun yn3 eyn3 => ?_)
    obtain rfl : yn3 = (-1) := eyn3.trans (nI_sub0 hn2)
    refine lv_i2l (v := (-1)) hx hb dX10_isProof_12 (by decide) ?_
    obtain ⟨hPc, hDc, hFc⟩ := PDq.cut (wc := []) hP hD hS hA [] (by decide) rfl
    refine va_calli (va_runS (As := [.long (i.toInt64), .long 0, .long (-1)]) (rest := []) ⟨hx, hb, hml, hown, hts⟩ (r_between l D cA sa (i.toInt64) 0 (-1) s.heap.size) (va_cwS 3 hts gX10_isProof_X10_between rfl rfl rfl (by decide +kernel) ⟨(Nat.le_of_ble_eq_true rfl), (Nat.le_of_ble_eq_true rfl)⟩) ⟨Wd.blind, fun U hU hW => ⟨rfl, Wd.call hPc hDc hK hC hZ hS hFc U hU hW⟩⟩ rfl rfl hl.1 rfl (lv_room (Nat.le_of_ble_eq_true rfl)) dX10_isProof_13 ⟨(Nat.le_of_ble_eq_true rfl), (Nat.le_of_ble_eq_true rfl)⟩) hS (fun q _ h => hFc q h) hFc (fun rn4 u t H1 locs ht hvm hw hB hz1 hk1 hS => ?_)
    obtain ⟨hP1, hD1⟩ := hB
    rw [ht] at hP1
    obtain ⟨hP, hD⟩ := PDq.join (w := [(oX10 w0 v0 v1 v2 v3 v4 g5 g6 (nI ed) g8 v9 (nI nb) g11 g12 v13 g14 g15 g16 g17 g18 g19 g20 g21 g22 g23 g24 g25 g26 v27 v28 v29 v30 v31 v32 v33 v34 v35 v36 v37 (nI ol)), (v0, .inl (cA 0, 326, .inl fs))]) 2 hP hD [] [0, 1] rfl rfl (by decide) (by decide) hk1 hFc hP1 hD1 rfl
    generalize H1 = H at hP hS ⊢
    rcases hw with ⟨hr9, hn5⟩ | hr9
    · skip
      subst hr9
      exact absurd (btw_no hn5.1 hn5.2) (fun h9 => h9)
    · skip
      subst hr9
      obtain ⟨hP9, hD9⟩ := PDq.sub (ws' := [(oX10 w0 v0 v1 v2 v3 v4 g5 g6 (nI ed) g8 v9 (nI nb) g11 g12 v13 g14 g15 g16 g17 g18 g19 g20 g21 g22 g23 g24 g25 g26 v27 v28 v29 v30 v31 v32 v33 v34 v35 v36 v37 (nI ol)), (v0, .inl (cA 0, 326, .inl fs))]) hP hD [0, 1] (by decide) rfl
      refine W.widen (k := 0) (n := 0) (Nat.le_of_ble_eq_true rfl) (Nat.le_of_ble_eq_true rfl) ?_
      exact (W.zret (v := 0) hx hb hr (by first | rfl | decide) (fun t ht hW => ⟨⟨0, (), rfl, Or.inr rfl, by rw [ht]; exact hP9, hD9⟩, hS.F ht⟩) hS.2.2 dX10_isProof_16)
  · skip
    refine lv_isub hx hb dX10_isProof_11 ?_
    refine lv_topi (fun yn6 eyn6 => ?_)
    obtain rfl : yn6 = (nI (pq - 1)) := eyn6.trans (nI_sub (a := pq) (b := 1) (by omega))
    refine lv_i2l (v := ((nI (pq - 1)).toInt64)) hx hb dX10_isProof_12 rfl ?_
    obtain ⟨hPc, hDc, hFc⟩ := PDq.cut (wc := []) hP hD hS hA [] (by decide) rfl
    refine va_calli (va_runS (As := [.long (i.toInt64), .long 0, .long ((nI (pq - 1)).toInt64)]) (rest := []) ⟨hx, hb, hml, hown, hts⟩ (r_between l D cA sa (i.toInt64) 0 ((nI (pq - 1)).toInt64) s.heap.size) (va_cwS 3 hts gX10_isProof_X10_between rfl rfl rfl (by decide +kernel) ⟨(Nat.le_of_ble_eq_true rfl), (Nat.le_of_ble_eq_true rfl)⟩) ⟨Wd.blind, fun U hU hW => ⟨rfl, Wd.call hPc hDc hK hC hZ hS hFc U hU hW⟩⟩ rfl rfl hl.1 rfl (lv_room (Nat.le_of_ble_eq_true rfl)) dX10_isProof_13 ⟨(Nat.le_of_ble_eq_true rfl), (Nat.le_of_ble_eq_true rfl)⟩) hS (fun q _ h => hFc q h) hFc (fun rn7 u t H1 locs ht hvm hw hB hz1 hk1 hS => ?_)
    obtain ⟨hP1, hD1⟩ := hB
    rw [ht] at hP1
    obtain ⟨hP, hD⟩ := PDq.join (w := [(oX10 w0 v0 v1 v2 v3 v4 g5 g6 (nI ed) g8 v9 (nI nb) g11 g12 v13 g14 g15 g16 g17 g18 g19 g20 g21 g22 g23 g24 g25 g26 v27 v28 v29 v30 v31 v32 v33 v34 v35 v36 v37 (nI ol)), (v0, .inl (cA 0, 326, .inl fs))]) 2 hP hD [] [0, 1] rfl rfl (by decide) (by decide) hk1 hFc hP1 hD1 rfl
    generalize H1 = H at hP hS ⊢
    rcases hw with ⟨hr9, hn8⟩ | hr9
    · skip
      subst hr9
      have hn9 := btw_nat hn8.1 hn8.2 (by omega)
      obtain ⟨hP9, hD9⟩ := PDq.sub (ws' := [(oX10 w0 v0 v1 v2 v3 v4 g5 g6 (nI ed) g8 v9 (nI nb) g11 g12 v13 g14 g15 g16 g17 g18 g19 g20 g21 g22 g23 g24 g25 g26 v27 v28 v29 v30 v31 v32 v33 v34 v35 v36 v37 (nI ol)), (v0, .inl (cA 0, 326, .inl fs))]) hP hD [0, 1] (by decide) rfl
      refine W.widen (k := 0) (n := 0) (Nat.le_of_ble_eq_true rfl) (Nat.le_of_ble_eq_true rfl) ?_
      exact (W.zret (v := 1) hx hb hr (by first | rfl | decide) (fun t ht hW => ⟨⟨1, (), rfl, Or.inl ⟨rfl, (by obtain ⟨n9, h8, e9⟩ := hn9; exact ⟨n9, by omega, e9⟩)⟩, by rw [ht]; exact hP9, hD9⟩, hS.F ht⟩) hS.2.2 dX10_isProof_16)
    · skip
      subst hr9
      obtain ⟨hP9, hD9⟩ := PDq.sub (ws' := [(oX10 w0 v0 v1 v2 v3 v4 g5 g6 (nI ed) g8 v9 (nI nb) g11 g12 v13 g14 g15 g16 g17 g18 g19 g20 g21 g22 g23 g24 g25 g26 v27 v28 v29 v30 v31 v32 v33 v34 v35 v36 v37 (nI ol)), (v0, .inl (cA 0, 326, .inl fs))]) hP hD [0, 1] (by decide) rfl
      refine W.widen (k := 0) (n := 0) (Nat.le_of_ble_eq_true rfl) (Nat.le_of_ble_eq_true rfl) ?_
      exact (W.zret (v := 0) hx hb hr (by first | rfl | decide) (fun t ht hW => ⟨⟨0, (), rfl, Or.inr rfl, by rw [ht]; exact hP9, hD9⟩, hS.F ht⟩) hS.2.2 dX10_isProof_16)

set_option maxHeartbeats 4000000 in
set_option maxRecDepth 100000 in
/-- reference: of -/
theorem r_of (l : Launch) (D : va_G) (cA : Nat → ClassId) (sa : Nat → Nat) (w0 : Nat) (ed : Nat) (nb : Nat) (ol : Nat) (v0 : Nat) (v1 : Nat) (v2 : Nat) (v3 : Nat) (v4 : Nat) (v9 : Nat) (v13 : Nat) (v27 : Nat) (v28 : Nat) (v29 : Nat) (v30 : Nat) (v31 : Nat) (v32 : Nat) (v33 : Nat) (v34 : Nat) (v35 : Nat) (v36 : Nat) (v37 : Nat) (g8 : Int32) (g11 : Int32) (g12 : Int32) (g14 : Int32) (g15 : Int32) (g16 : Int32) (g17 : Int32) (g18 : Int32) (g19 : Int32) (g20 : Int32) (g21 : Int32) (g22 : Int32) (g23 : Int32) (g24 : Int32) (g26 : Int32) (g5 : Int64) (g6 : Int64) (g25 : Int64) (fs : Nat → Int32) (mi : Nat) (w : Nat) (sz : Nat) (hmi : mi < 10) (hw7 : w < 7) : Met l yX10_of wsX10_of ({ frames := 0, cells := 0, slots := 0, locals := 0 }) (va_Pc [.ref w0, .int (nI mi), .int (nI w)] (Wd D cA sa [(oX10 w0 v0 v1 v2 v3 v4 g5 g6 (nI ed) g8 v9 (nI nb) g11 g12 v13 g14 g15 g16 g17 g18 g19 g20 g21 g22 g23 g24 g25 g26 v27 v28 v29 v30 v31 v32 v33 v34 v35 v36 v37 (nI ol)), (v0, .inl (cA 0, 326, .inl fs))] sz)) (va_Qi (fun (r : Int32) (_ : Unit) => r = fs (16 + 7 * mi + w)) (fun (_ : Unit) t => Wq D (va_A [(oX10 w0 v0 v1 v2 v3 v4 g5 g6 (nI ed) g8 v9 (nI nb) g11 g12 v13 g14 g15 g16 g17 g18 g19 g20 g21 g22 g23 g24 g25 g26 v27 v28 v29 v30 v31 v32 v33 v34 v35 v36 v37 (nI ol)), (v0, .inl (cA 0, 326, .inl fs))] sz) [(oX10 w0 v0 v1 v2 v3 v4 g5 g6 (nI ed) g8 v9 (nI nb) g11 g12 v13 g14 g15 g16 g17 g18 g19 g20 g21 g22 g23 g24 g25 g26 v27 v28 v29 v30 v31 v32 v33 v34 v35 v36 v37 (nI ol)), (v0, .inl (cA 0, 326, .inl fs))] t) (va_A [(oX10 w0 v0 v1 v2 v3 v4 g5 g6 (nI ed) g8 v9 (nI nb) g11 g12 v13 g14 g15 g16 g17 g18 g19 g20 g21 g22 g23 g24 g25 g26 v27 v28 v29 v30 v31 v32 v33 v34 v35 v36 v37 (nI ol)), (v0, .inl (cA 0, 326, .inl fs))] sz)) 0 0 (va_A [(oX10 w0 v0 v1 v2 v3 v4 g5 g6 (nI ed) g8 v9 (nI nb) g11 g12 v13 g14 g15 g16 g17 g18 g19 g20 g21 g22 g23 g24 g25 g26 v27 v28 v29 v30 v31 v32 v33 v34 v35 v36 v37 (nI ol)), (v0, .inl (cA 0, 326, .inl fs))] sz) := by
  refine Met.ofW (cc := cX10_of) (maxL := 3) (ret := (some .int)) (by decide) rfl ?_
  intro p e s m args below meth c s₁ B hml hv
  obtain ⟨rfl, hsz, hP, hK, hD0, hC, hZ⟩ := hv
  have hx := B.exec
  have hb := B.bytes
  have hr := B.returns
  have hts := atoms_spec (ws := wsX10_of) B.pre
  have hown : s.vm.findClass RX10 = some m.cls := findClass_of_methodNamed B.named
  have hlocks := B.notSynchronized
  subst hsz
  have hD := hD0.self (sz := s.heap.size)
  generalize hAe : va_A [(oX10 w0 v0 v1 v2 v3 v4 g5 g6 (nI ed) g8 v9 (nI nb) g11 g12 v13 g14 g15 g16 g17 g18 g19 g20 g21 g22 g23 g24 g25 g26 v27 v28 v29 v30 v31 v32 v33 v34 v35 v36 v37 (nI ol)), (v0, .inl (cA 0, 326, .inl fs))] s.heap.size = A at hD hZ ⊢
  have hA : ∀ q : Nat, s.heap.size ≤ q → A q := fun q h => by rw [← hAe]; exact Or.inr h
  have hS : va_S A s.heap s.heap [] := va_S.rf
  have hP : va_P D vwCl [(oX10 w0 v0 v1 v2 v3 v4 g5 g6 (nI ed) g8 v9 (nI nb) g11 g12 v13 g14 g15 g16 g17 g18 g19 g20 g21 g22 g23 g24 g25 g26 v27 v28 v29 v30 v31 v32 v33 v34 v35 v36 v37 (nI ol)), (v0, .inl (cA 0, 326, .inl fs))] s.heap := hP
  have hl := lv_entry ([.ref w0, .int (nI mi), .int (nI w)]) (n := 3) (Nat.le_of_ble_eq_true rfl)
  rw [lg_entry_eq]
  generalize (lg_sl ([.ref w0, .int (nI mi), .int (nI w)]) ++ List.replicate (3 - (lg_sl ([.ref w0, .int (nI mi), .int (nI w)])).length) Slot.unset).toArray = ls at hl ⊢
  have hl : lv_has ls 3 [(0, .ref w0), (1, .int (nI mi)), (2, .int (nI w))] := hl
  have inX10 : ∀ w ∈ u_ws RX10 TX10 39, w ∈ wsX10_of := by decide +kernel
  refine lv_aload_n hx hb dX10_of_0 rfl (lv_at hl 0 rfl) ?_
  refine va_get (D := D) (ci := 11) (v := .ref v0) (C := RX10) (T := TX10) (N := 39) hx hb hts inX10 hown hK hP 0 rfl rfl 0 (by decide) (hts (.fieldLink RX10 7 "EscrowDeskModel" "s" "[I") (by decide +kernel)) (fun _ h9 => h9) rfl dX10_of_1 ?_
  refine lv_bipush (v := 16) hx hb dX10_of_4 (by decide) ?_
  refine lv_bipush (v := 7) hx hb dX10_of_6 (by decide) ?_
  refine lv_iload_n hx hb dX10_of_8 rfl (lv_at hl 1 rfl) ?_
  refine lv_imul hx hb dX10_of_9 ?_
  refine lv_topi (fun yn1 eyn1 => ?_)
  obtain rfl : yn1 = (nI (7 * mi)) := eyn1.trans (nI_mul 7 mi)
  refine lv_iadd hx hb dX10_of_10 ?_
  refine lv_topi (fun yn2 eyn2 => ?_)
  obtain rfl : yn2 = (nI (16 + (7 * mi))) := eyn2.trans (nI_add 16 (7 * mi))
  refine lv_iload_n hx hb dX10_of_11 rfl (lv_at hl 2 rfl) ?_
  refine lv_iadd hx hb dX10_of_12 ?_
  refine lv_topi (fun yn3 eyn3 => ?_)
  obtain rfl : yn3 = (nI ((16 + (7 * mi)) + w)) := eyn3.trans (nI_add (16 + (7 * mi)) w)
  refine va_iald hx hb hK hP 1 0 rfl rfl (vp_in_nI (n := ((16 + (7 * mi)) + w)) (N := 326) (show ((16 + (7 * mi)) + w) < 326 by omega) (by decide)) dX10_of_13 ?_
  refine lv_topi (fun yn4 eyn4 => ?_)
  obtain ⟨hP9, hD9⟩ := PDq.sub (ws' := [(oX10 w0 v0 v1 v2 v3 v4 g5 g6 (nI ed) g8 v9 (nI nb) g11 g12 v13 g14 g15 g16 g17 g18 g19 g20 g21 g22 g23 g24 g25 g26 v27 v28 v29 v30 v31 v32 v33 v34 v35 v36 v37 (nI ol)), (v0, .inl (cA 0, 326, .inl fs))]) hP hD [0, 1] (by decide) rfl
  refine W.widen (k := 0) (n := 0) (Nat.le_of_ble_eq_true rfl) (Nat.le_of_ble_eq_true rfl) ?_
  exact (W.iret (v := yn4) hx hb hr (fun t ht hW => ⟨⟨yn4, (), rfl, (by rw [eyn4, nI_clamp (by omega)]), by rw [ht]; exact hP9, hD9⟩, hS.F ht⟩) hS.2.2 dX10_of_14)

set_option maxHeartbeats 4000000 in
set_option maxRecDepth 100000 in
/-- reference: set -/
theorem r_set (l : Launch) (D : va_G) (cA : Nat → ClassId) (sa : Nat → Nat) (w0 : Nat) (ed : Nat) (nb : Nat) (ol : Nat) (v0 : Nat) (v1 : Nat) (v2 : Nat) (v3 : Nat) (v4 : Nat) (v9 : Nat) (v13 : Nat) (v27 : Nat) (v28 : Nat) (v29 : Nat) (v30 : Nat) (v31 : Nat) (v32 : Nat) (v33 : Nat) (v34 : Nat) (v35 : Nat) (v36 : Nat) (v37 : Nat) (g8 : Int32) (g11 : Int32) (g12 : Int32) (g14 : Int32) (g15 : Int32) (g16 : Int32) (g17 : Int32) (g18 : Int32) (g19 : Int32) (g20 : Int32) (g21 : Int32) (g22 : Int32) (g23 : Int32) (g24 : Int32) (g26 : Int32) (g5 : Int64) (g6 : Int64) (g25 : Int64) (cn : Nat) (pq : Nat) (en : Nat) (dy : Nat) (fs : Nat → Int32) (mi : Nat) (w : Nat) (a : Int32) (sz : Nat) (hcn : cn ≤ 10) (hpq : pq ≤ 8) (hen : en ≤ 60) (hdy : dy ≤ 20000) (hri : RI cn pq en dy fs) (hmi : mi < 10) (hw7 : w < 7) : Met l yX10_set wsX10_set ({ frames := 0, cells := 0, slots := 0, locals := 0 }) (va_Pc [.ref w0, .int (nI mi), .int (nI w), .int a] (Wd D cA sa [(oX10 w0 v0 v1 v2 v3 v4 g5 g6 (nI ed) g8 v9 (nI nb) g11 g12 v13 g14 g15 g16 g17 g18 g19 g20 g21 g22 g23 g24 g25 g26 v27 v28 v29 v30 v31 v32 v33 v34 v35 v36 v37 (nI ol)), (v0, .inl (cA 0, 326, .inl fs))] sz)) (va_Qv (fun _ : Unit => True) (fun (_ : Unit) t => ∃ zs : Nat → Int32, RI cn pq en dy zs ∧ Wq D (va_A [(oX10 w0 v0 v1 v2 v3 v4 g5 g6 (nI ed) g8 v9 (nI nb) g11 g12 v13 g14 g15 g16 g17 g18 g19 g20 g21 g22 g23 g24 g25 g26 v27 v28 v29 v30 v31 v32 v33 v34 v35 v36 v37 (nI ol)), (v0, .inl (cA 0, 326, .inl fs))] sz) [(oX10 w0 v0 v1 v2 v3 v4 g5 g6 (nI ed) g8 v9 (nI nb) g11 g12 v13 g14 g15 g16 g17 g18 g19 g20 g21 g22 g23 g24 g25 g26 v27 v28 v29 v30 v31 v32 v33 v34 v35 v36 v37 (nI ol)), (v0, .inl (cA 0, 326, .inl zs))] t) (va_A [(oX10 w0 v0 v1 v2 v3 v4 g5 g6 (nI ed) g8 v9 (nI nb) g11 g12 v13 g14 g15 g16 g17 g18 g19 g20 g21 g22 g23 g24 g25 g26 v27 v28 v29 v30 v31 v32 v33 v34 v35 v36 v37 (nI ol)), (v0, .inl (cA 0, 326, .inl fs))] sz)) 0 0 (va_A [(oX10 w0 v0 v1 v2 v3 v4 g5 g6 (nI ed) g8 v9 (nI nb) g11 g12 v13 g14 g15 g16 g17 g18 g19 g20 g21 g22 g23 g24 g25 g26 v27 v28 v29 v30 v31 v32 v33 v34 v35 v36 v37 (nI ol)), (v0, .inl (cA 0, 326, .inl fs))] sz) := by
  refine Met.ofW (cc := cX10_set) (maxL := 4) (ret := none) (by decide) rfl ?_
  intro p e s m args below meth c s₁ B hml hv
  obtain ⟨rfl, hsz, hP, hK, hD0, hC, hZ⟩ := hv
  have hx := B.exec
  have hb := B.bytes
  have hr := B.returns
  have hts := atoms_spec (ws := wsX10_set) B.pre
  have hown : s.vm.findClass RX10 = some m.cls := findClass_of_methodNamed B.named
  have hlocks := B.notSynchronized
  subst hsz
  have hD := hD0.self (sz := s.heap.size)
  generalize hAe : va_A [(oX10 w0 v0 v1 v2 v3 v4 g5 g6 (nI ed) g8 v9 (nI nb) g11 g12 v13 g14 g15 g16 g17 g18 g19 g20 g21 g22 g23 g24 g25 g26 v27 v28 v29 v30 v31 v32 v33 v34 v35 v36 v37 (nI ol)), (v0, .inl (cA 0, 326, .inl fs))] s.heap.size = A at hD hZ ⊢
  have hA : ∀ q : Nat, s.heap.size ≤ q → A q := fun q h => by rw [← hAe]; exact Or.inr h
  have hS : va_S A s.heap s.heap [] := va_S.rf
  have hP : va_P D vwCl [(oX10 w0 v0 v1 v2 v3 v4 g5 g6 (nI ed) g8 v9 (nI nb) g11 g12 v13 g14 g15 g16 g17 g18 g19 g20 g21 g22 g23 g24 g25 g26 v27 v28 v29 v30 v31 v32 v33 v34 v35 v36 v37 (nI ol)), (v0, .inl (cA 0, 326, .inl fs))] s.heap := hP
  have hl := lv_entry ([.ref w0, .int (nI mi), .int (nI w), .int a]) (n := 4) (Nat.le_of_ble_eq_true rfl)
  rw [lg_entry_eq]
  generalize (lg_sl ([.ref w0, .int (nI mi), .int (nI w), .int a]) ++ List.replicate (4 - (lg_sl ([.ref w0, .int (nI mi), .int (nI w), .int a])).length) Slot.unset).toArray = ls at hl ⊢
  have hl : lv_has ls 4 [(0, .ref w0), (1, .int (nI mi)), (2, .int (nI w)), (3, .int a)] := hl
  have inX10 : ∀ w ∈ u_ws RX10 TX10 39, w ∈ wsX10_set := by decide +kernel
  refine lv_aload_n hx hb dX10_set_0 rfl (lv_at hl 0 rfl) ?_
  refine va_get (D := D) (ci := 11) (v := .ref v0) (C := RX10) (T := TX10) (N := 39) hx hb hts inX10 hown hK hP 0 rfl rfl 0 (by decide) (hts (.fieldLink RX10 7 "EscrowDeskModel" "s" "[I") (by decide +kernel)) (fun _ h9 => h9) rfl dX10_set_1 ?_
  refine lv_bipush (v := 16) hx hb dX10_set_4 (by decide) ?_
  refine lv_bipush (v := 7) hx hb dX10_set_6 (by decide) ?_
  refine lv_iload_n hx hb dX10_set_8 rfl (lv_at hl 1 rfl) ?_
  refine lv_imul hx hb dX10_set_9 ?_
  refine lv_topi (fun yn1 eyn1 => ?_)
  obtain rfl : yn1 = (nI (7 * mi)) := eyn1.trans (nI_mul 7 mi)
  refine lv_iadd hx hb dX10_set_10 ?_
  refine lv_topi (fun yn2 eyn2 => ?_)
  obtain rfl : yn2 = (nI (16 + (7 * mi))) := eyn2.trans (nI_add 16 (7 * mi))
  refine lv_iload_n hx hb dX10_set_11 rfl (lv_at hl 2 rfl) ?_
  refine lv_iadd hx hb dX10_set_12 ?_
  refine lv_topi (fun yn3 eyn3 => ?_)
  obtain rfl : yn3 = (nI ((16 + (7 * mi)) + w)) := eyn3.trans (nI_add (16 + (7 * mi)) w)
  refine lv_iload_n hx hb dX10_set_13 rfl (lv_at hl 3 rfl) ?_
  refine va_iast hx hb hK hP hD hS 1 0 rfl rfl (vp_in_nI (n := ((16 + (7 * mi)) + w)) (N := 326) (show ((16 + (7 * mi)) + w) < 326 by omega) (by decide)) dX10_set_14 (fun H locs hP hD hS => ?_)
  obtain ⟨hP, hD⟩ : PDq D A [(oX10 w0 v0 v1 v2 v3 v4 g5 g6 (nI ed) g8 v9 (nI nb) g11 g12 v13 g14 g15 g16 g17 g18 g19 g20 g21 g22 g23 g24 g25 g26 v27 v28 v29 v30 v31 v32 v33 v34 v35 v36 v37 (nI ol)), (v0, .inl (cA 0, 326, .inl (upd fs (((nI ((16 + (7 * mi)) + w))).toNatClampNeg) a)))] H := ⟨hP, hD⟩
  have hn5 : RI cn pq en dy (upd fs (((nI ((16 + (7 * mi)) + w))).toNatClampNeg) a) := RI.putI hri ((16 + (7 * mi)) + w) a (by omega) (by omega)
  generalize (upd fs (((nI ((16 + (7 * mi)) + w))).toNatClampNeg) a) = fn4 at hP hD hn5
  obtain ⟨hP, hD⟩ : PDq D A [(oX10 w0 v0 v1 v2 v3 v4 g5 g6 (nI ed) g8 v9 (nI nb) g11 g12 v13 g14 g15 g16 g17 g18 g19 g20 g21 g22 g23 g24 g25 g26 v27 v28 v29 v30 v31 v32 v33 v34 v35 v36 v37 (nI ol)), (v0, .inl (cA 0, 326, .inl fn4))] H := ⟨hP, hD⟩
  obtain ⟨hP9, hD9⟩ := PDq.sub (ws' := [(oX10 w0 v0 v1 v2 v3 v4 g5 g6 (nI ed) g8 v9 (nI nb) g11 g12 v13 g14 g15 g16 g17 g18 g19 g20 g21 g22 g23 g24 g25 g26 v27 v28 v29 v30 v31 v32 v33 v34 v35 v36 v37 (nI ol)), (v0, .inl (cA 0, 326, .inl fn4))]) hP hD [0, 1] (by decide) rfl
  refine W.widen (k := 0) (n := 0) (Nat.le_of_ble_eq_true rfl) (Nat.le_of_ble_eq_true rfl) ?_
  exact (W.vret hx hb hr (fun t ht hW => ⟨⟨(), rfl, trivial, fn4, hn5, by rw [ht]; exact hP9, hD9⟩, hS.F ht⟩) hS.2.2 dX10_set_15)

set_option maxHeartbeats 4000000 in
set_option maxRecDepth 100000 in
/-- reference: isClosed -/
theorem r_isClosed (l : Launch) (D : va_G) (cA : Nat → ClassId) (sa : Nat → Nat) (w0 : Nat) (ed : Nat) (nb : Nat) (ol : Nat) (v0 : Nat) (v1 : Nat) (v2 : Nat) (v3 : Nat) (v4 : Nat) (v9 : Nat) (v13 : Nat) (v27 : Nat) (v28 : Nat) (v29 : Nat) (v30 : Nat) (v31 : Nat) (v32 : Nat) (v33 : Nat) (v34 : Nat) (v35 : Nat) (v36 : Nat) (v37 : Nat) (g8 : Int32) (g11 : Int32) (g12 : Int32) (g14 : Int32) (g15 : Int32) (g16 : Int32) (g17 : Int32) (g18 : Int32) (g19 : Int32) (g20 : Int32) (g21 : Int32) (g22 : Int32) (g23 : Int32) (g24 : Int32) (g26 : Int32) (g5 : Int64) (g6 : Int64) (g25 : Int64) (fs : Nat → Int32) (mi : Nat) (sz : Nat) (hmi : mi < 10) : Met l yX10_isClosed wsX10_isClosed ({ frames := 1, cells := 0, slots := 0, locals := 22 }) (va_Pc [.ref w0, .int (nI mi)] (Wd D cA sa [(oX10 w0 v0 v1 v2 v3 v4 g5 g6 (nI ed) g8 v9 (nI nb) g11 g12 v13 g14 g15 g16 g17 g18 g19 g20 g21 g22 g23 g24 g25 g26 v27 v28 v29 v30 v31 v32 v33 v34 v35 v36 v37 (nI ol)), (v0, .inl (cA 0, 326, .inl fs))] sz)) (va_Qi (fun (r : Int32) (_ : Unit) => r = 0 ∨ r = 1) (fun (_ : Unit) t => Wq D (va_A [(oX10 w0 v0 v1 v2 v3 v4 g5 g6 (nI ed) g8 v9 (nI nb) g11 g12 v13 g14 g15 g16 g17 g18 g19 g20 g21 g22 g23 g24 g25 g26 v27 v28 v29 v30 v31 v32 v33 v34 v35 v36 v37 (nI ol)), (v0, .inl (cA 0, 326, .inl fs))] sz) [(oX10 w0 v0 v1 v2 v3 v4 g5 g6 (nI ed) g8 v9 (nI nb) g11 g12 v13 g14 g15 g16 g17 g18 g19 g20 g21 g22 g23 g24 g25 g26 v27 v28 v29 v30 v31 v32 v33 v34 v35 v36 v37 (nI ol)), (v0, .inl (cA 0, 326, .inl fs))] t) (va_A [(oX10 w0 v0 v1 v2 v3 v4 g5 g6 (nI ed) g8 v9 (nI nb) g11 g12 v13 g14 g15 g16 g17 g18 g19 g20 g21 g22 g23 g24 g25 g26 v27 v28 v29 v30 v31 v32 v33 v34 v35 v36 v37 (nI ol)), (v0, .inl (cA 0, 326, .inl fs))] sz)) 0 0 (va_A [(oX10 w0 v0 v1 v2 v3 v4 g5 g6 (nI ed) g8 v9 (nI nb) g11 g12 v13 g14 g15 g16 g17 g18 g19 g20 g21 g22 g23 g24 g25 g26 v27 v28 v29 v30 v31 v32 v33 v34 v35 v36 v37 (nI ol)), (v0, .inl (cA 0, 326, .inl fs))] sz) := by
  refine Met.ofW (cc := cX10_isClosed) (maxL := 2) (ret := (some .boolean)) (by decide) rfl ?_
  intro p e s m args below meth c s₁ B hml hv
  obtain ⟨rfl, hsz, hP, hK, hD0, hC, hZ⟩ := hv
  have hx := B.exec
  have hb := B.bytes
  have hr := B.returns
  have hts := atoms_spec (ws := wsX10_isClosed) B.pre
  have hown : s.vm.findClass RX10 = some m.cls := findClass_of_methodNamed B.named
  have hlocks := B.notSynchronized
  subst hsz
  have hD := hD0.self (sz := s.heap.size)
  generalize hAe : va_A [(oX10 w0 v0 v1 v2 v3 v4 g5 g6 (nI ed) g8 v9 (nI nb) g11 g12 v13 g14 g15 g16 g17 g18 g19 g20 g21 g22 g23 g24 g25 g26 v27 v28 v29 v30 v31 v32 v33 v34 v35 v36 v37 (nI ol)), (v0, .inl (cA 0, 326, .inl fs))] s.heap.size = A at hD hZ ⊢
  have hA : ∀ q : Nat, s.heap.size ≤ q → A q := fun q h => by rw [← hAe]; exact Or.inr h
  have hS : va_S A s.heap s.heap [] := va_S.rf
  have hP : va_P D vwCl [(oX10 w0 v0 v1 v2 v3 v4 g5 g6 (nI ed) g8 v9 (nI nb) g11 g12 v13 g14 g15 g16 g17 g18 g19 g20 g21 g22 g23 g24 g25 g26 v27 v28 v29 v30 v31 v32 v33 v34 v35 v36 v37 (nI ol)), (v0, .inl (cA 0, 326, .inl fs))] s.heap := hP
  have hl := lv_entry ([.ref w0, .int (nI mi)]) (n := 2) (Nat.le_of_ble_eq_true rfl)
  rw [lg_entry_eq]
  generalize (lg_sl ([.ref w0, .int (nI mi)]) ++ List.replicate (2 - (lg_sl ([.ref w0, .int (nI mi)])).length) Slot.unset).toArray = ls at hl ⊢
  have hl : lv_has ls 2 [(0, .ref w0), (1, .int (nI mi))] := hl
  refine lv_aload_n hx hb dX10_isClosed_0 rfl (lv_at hl 0 rfl) ?_
  refine lv_iload_n hx hb dX10_isClosed_1 rfl (lv_at hl 1 rfl) ?_
  refine lv_iconst (v := 2) hx hb dX10_isClosed_2 (by decide) ?_
  obtain ⟨hPc, hDc, hFc⟩ := PDq.cut (wc := [(oX10 w0 v0 v1 v2 v3 v4 g5 g6 (nI ed) g8 v9 (nI nb) g11 g12 v13 g14 g15 g16 g17 g18 g19 g20 g21 g22 g23 g24 g25 g26 v27 v28 v29 v30 v31 v32 v33 v34 v35 v36 v37 (nI ol)), (v0, .inl (cA 0, 326, .inl fs))]) hP hD hS hA [0, 1] (by decide) rfl
  refine va_calli (va_runV (As := [.int (nI mi), .int 2]) (rest := []) ⟨hx, hb, hml, hown, hts⟩ (r_of l D cA sa w0 ed nb ol v0 v1 v2 v3 v4 v9 v13 v27 v28 v29 v30 v31 v32 v33 v34 v35 v36 v37 g8 g11 g12 g14 g15 g16 g17 g18 g19 g20 g21 g22 g23 g24 g26 g5 g6 g25 fs mi 2 s.heap.size hmi (by omega)) (cwV 2 hts gX10_isClosed_X10_of rfl rfl rfl (by decide +kernel) ⟨(Nat.le_of_ble_eq_true rfl), (Nat.le_of_ble_eq_true rfl)⟩) ⟨Wd.blind, va_recv hK hPc (ci := 11) (q0 := 0) rfl rfl, fun U hU hW => ⟨rfl, Wd.call hPc hDc hK hC hZ hS hFc U hU hW⟩⟩ rfl rfl hl.1 rfl (lv_room (Nat.le_of_ble_eq_true rfl)) dX10_isClosed_3 ⟨(Nat.le_of_ble_eq_true rfl), (Nat.le_of_ble_eq_true rfl)⟩) hS (fun q _ h => hFc q h) hFc (fun rn1 u t H1 locs ht hvm hw hB hz1 hk1 hS => ?_)
  obtain ⟨hP1, hD1⟩ := hB
  rw [ht] at hP1
  obtain ⟨hP, hD⟩ := PDq.join (w := [(oX10 w0 v0 v1 v2 v3 v4 g5 g6 (nI ed) g8 v9 (nI nb) g11 g12 v13 g14 g15 g16 g17 g18 g19 g20 g21 g22 g23 g24 g25 g26 v27 v28 v29 v30 v31 v32 v33 v34 v35 v36 v37 (nI ol)), (v0, .inl (cA 0, 326, .inl fs))]) 0 hP hD [0, 1] [] rfl rfl (by decide) (by decide) hk1 hFc hP1 hD1 rfl
  generalize H1 = H at hP hS ⊢
  obtain rfl : rn1 = (fs (16 + 7 * mi + 2)) := hw
  refine lv_iconst (v := 3) hx hb dX10_isClosed_6 (by decide) ?_
  refine lv_icmp_lt (tgt := 14) hx hb dX10_isClosed_7 (by decide) (fun c2 => ?_) (fun c2 => ?_)
  · skip
    refine lv_iconst (v := 0) hx hb dX10_isClosed_14 (by decide) ?_
    obtain ⟨hP9, hD9⟩ := PDq.sub (ws' := [(oX10 w0 v0 v1 v2 v3 v4 g5 g6 (nI ed) g8 v9 (nI nb) g11 g12 v13 g14 g15 g16 g17 g18 g19 g20 g21 g22 g23 g24 g25 g26 v27 v28 v29 v30 v31 v32 v33 v34 v35 v36 v37 (nI ol)), (v0, .inl (cA 0, 326, .inl fs))]) hP hD [0, 1] (by decide) rfl
    refine W.widen (k := 0) (n := 0) (Nat.le_of_ble_eq_true rfl) (Nat.le_of_ble_eq_true rfl) ?_
    exact (W.zret (v := 0) hx hb hr (by first | rfl | decide) (fun t ht hW => ⟨⟨0, (), rfl, (by first | exact Or.inl rfl | exact Or.inr rfl), by rw [ht]; exact hP9, hD9⟩, hS.F ht⟩) hS.2.2 dX10_isClosed_15)
  · skip
    refine lv_iconst (v := 1) hx hb dX10_isClosed_10 (by decide) ?_
    refine lv_goto (tgt := 15) hx hb dX10_isClosed_11 (by decide) ?_
    obtain ⟨hP9, hD9⟩ := PDq.sub (ws' := [(oX10 w0 v0 v1 v2 v3 v4 g5 g6 (nI ed) g8 v9 (nI nb) g11 g12 v13 g14 g15 g16 g17 g18 g19 g20 g21 g22 g23 g24 g25 g26 v27 v28 v29 v30 v31 v32 v33 v34 v35 v36 v37 (nI ol)), (v0, .inl (cA 0, 326, .inl fs))]) hP hD [0, 1] (by decide) rfl
    refine W.widen (k := 0) (n := 0) (Nat.le_of_ble_eq_true rfl) (Nat.le_of_ble_eq_true rfl) ?_
    exact (W.zret (v := 1) hx hb hr (by first | rfl | decide) (fun t ht hW => ⟨⟨1, (), rfl, (by first | exact Or.inl rfl | exact Or.inr rfl), by rw [ht]; exact hP9, hD9⟩, hS.F ht⟩) hS.2.2 dX10_isClosed_15)

set_option maxHeartbeats 4000000 in
set_option maxRecDepth 100000 in
/-- reference: isOpenOrDue -/
theorem r_isOpenOrDue (l : Launch) (D : va_G) (cA : Nat → ClassId) (sa : Nat → Nat) (w0 : Nat) (ed : Nat) (nb : Nat) (ol : Nat) (v0 : Nat) (v1 : Nat) (v2 : Nat) (v3 : Nat) (v4 : Nat) (v9 : Nat) (v13 : Nat) (v27 : Nat) (v28 : Nat) (v29 : Nat) (v30 : Nat) (v31 : Nat) (v32 : Nat) (v33 : Nat) (v34 : Nat) (v35 : Nat) (v36 : Nat) (v37 : Nat) (g8 : Int32) (g11 : Int32) (g12 : Int32) (g14 : Int32) (g15 : Int32) (g16 : Int32) (g17 : Int32) (g18 : Int32) (g19 : Int32) (g20 : Int32) (g21 : Int32) (g22 : Int32) (g23 : Int32) (g24 : Int32) (g26 : Int32) (g5 : Int64) (g6 : Int64) (g25 : Int64) (fs : Nat → Int32) (mi : Nat) (sz : Nat) (hmi : mi < 10) : Met l yX10_isOpenOrDue wsX10_isOpenOrDue ({ frames := 1, cells := 0, slots := 0, locals := 22 }) (va_Pc [.ref w0, .int (nI mi)] (Wd D cA sa [(oX10 w0 v0 v1 v2 v3 v4 g5 g6 (nI ed) g8 v9 (nI nb) g11 g12 v13 g14 g15 g16 g17 g18 g19 g20 g21 g22 g23 g24 g25 g26 v27 v28 v29 v30 v31 v32 v33 v34 v35 v36 v37 (nI ol)), (v0, .inl (cA 0, 326, .inl fs))] sz)) (va_Qi (fun (r : Int32) (_ : Unit) => r = 0 ∨ r = 1) (fun (_ : Unit) t => Wq D (va_A [(oX10 w0 v0 v1 v2 v3 v4 g5 g6 (nI ed) g8 v9 (nI nb) g11 g12 v13 g14 g15 g16 g17 g18 g19 g20 g21 g22 g23 g24 g25 g26 v27 v28 v29 v30 v31 v32 v33 v34 v35 v36 v37 (nI ol)), (v0, .inl (cA 0, 326, .inl fs))] sz) [(oX10 w0 v0 v1 v2 v3 v4 g5 g6 (nI ed) g8 v9 (nI nb) g11 g12 v13 g14 g15 g16 g17 g18 g19 g20 g21 g22 g23 g24 g25 g26 v27 v28 v29 v30 v31 v32 v33 v34 v35 v36 v37 (nI ol)), (v0, .inl (cA 0, 326, .inl fs))] t) (va_A [(oX10 w0 v0 v1 v2 v3 v4 g5 g6 (nI ed) g8 v9 (nI nb) g11 g12 v13 g14 g15 g16 g17 g18 g19 g20 g21 g22 g23 g24 g25 g26 v27 v28 v29 v30 v31 v32 v33 v34 v35 v36 v37 (nI ol)), (v0, .inl (cA 0, 326, .inl fs))] sz)) 0 0 (va_A [(oX10 w0 v0 v1 v2 v3 v4 g5 g6 (nI ed) g8 v9 (nI nb) g11 g12 v13 g14 g15 g16 g17 g18 g19 g20 g21 g22 g23 g24 g25 g26 v27 v28 v29 v30 v31 v32 v33 v34 v35 v36 v37 (nI ol)), (v0, .inl (cA 0, 326, .inl fs))] sz) := by
  refine Met.ofW (cc := cX10_isOpenOrDue) (maxL := 2) (ret := (some .boolean)) (by decide) rfl ?_
  intro p e s m args below meth c s₁ B hml hv
  obtain ⟨rfl, hsz, hP, hK, hD0, hC, hZ⟩ := hv
  have hx := B.exec
  have hb := B.bytes
  have hr := B.returns
  have hts := atoms_spec (ws := wsX10_isOpenOrDue) B.pre
  have hown : s.vm.findClass RX10 = some m.cls := findClass_of_methodNamed B.named
  have hlocks := B.notSynchronized
  subst hsz
  have hD := hD0.self (sz := s.heap.size)
  generalize hAe : va_A [(oX10 w0 v0 v1 v2 v3 v4 g5 g6 (nI ed) g8 v9 (nI nb) g11 g12 v13 g14 g15 g16 g17 g18 g19 g20 g21 g22 g23 g24 g25 g26 v27 v28 v29 v30 v31 v32 v33 v34 v35 v36 v37 (nI ol)), (v0, .inl (cA 0, 326, .inl fs))] s.heap.size = A at hD hZ ⊢
  have hA : ∀ q : Nat, s.heap.size ≤ q → A q := fun q h => by rw [← hAe]; exact Or.inr h
  have hS : va_S A s.heap s.heap [] := va_S.rf
  have hP : va_P D vwCl [(oX10 w0 v0 v1 v2 v3 v4 g5 g6 (nI ed) g8 v9 (nI nb) g11 g12 v13 g14 g15 g16 g17 g18 g19 g20 g21 g22 g23 g24 g25 g26 v27 v28 v29 v30 v31 v32 v33 v34 v35 v36 v37 (nI ol)), (v0, .inl (cA 0, 326, .inl fs))] s.heap := hP
  have hl := lv_entry ([.ref w0, .int (nI mi)]) (n := 2) (Nat.le_of_ble_eq_true rfl)
  rw [lg_entry_eq]
  generalize (lg_sl ([.ref w0, .int (nI mi)]) ++ List.replicate (2 - (lg_sl ([.ref w0, .int (nI mi)])).length) Slot.unset).toArray = ls at hl ⊢
  have hl : lv_has ls 2 [(0, .ref w0), (1, .int (nI mi))] := hl
  refine lv_aload_n hx hb dX10_isOpenOrDue_0 rfl (lv_at hl 0 rfl) ?_
  refine lv_iload_n hx hb dX10_isOpenOrDue_1 rfl (lv_at hl 1 rfl) ?_
  refine lv_iconst (v := 2) hx hb dX10_isOpenOrDue_2 (by decide) ?_
  obtain ⟨hPc, hDc, hFc⟩ := PDq.cut (wc := [(oX10 w0 v0 v1 v2 v3 v4 g5 g6 (nI ed) g8 v9 (nI nb) g11 g12 v13 g14 g15 g16 g17 g18 g19 g20 g21 g22 g23 g24 g25 g26 v27 v28 v29 v30 v31 v32 v33 v34 v35 v36 v37 (nI ol)), (v0, .inl (cA 0, 326, .inl fs))]) hP hD hS hA [0, 1] (by decide) rfl
  refine va_calli (va_runV (As := [.int (nI mi), .int 2]) (rest := []) ⟨hx, hb, hml, hown, hts⟩ (r_of l D cA sa w0 ed nb ol v0 v1 v2 v3 v4 v9 v13 v27 v28 v29 v30 v31 v32 v33 v34 v35 v36 v37 g8 g11 g12 g14 g15 g16 g17 g18 g19 g20 g21 g22 g23 g24 g26 g5 g6 g25 fs mi 2 s.heap.size hmi (by omega)) (cwV 2 hts gX10_isOpenOrDue_X10_of rfl rfl rfl (by decide +kernel) ⟨(Nat.le_of_ble_eq_true rfl), (Nat.le_of_ble_eq_true rfl)⟩) ⟨Wd.blind, va_recv hK hPc (ci := 11) (q0 := 0) rfl rfl, fun U hU hW => ⟨rfl, Wd.call hPc hDc hK hC hZ hS hFc U hU hW⟩⟩ rfl rfl hl.1 rfl (lv_room (Nat.le_of_ble_eq_true rfl)) dX10_isOpenOrDue_3 ⟨(Nat.le_of_ble_eq_true rfl), (Nat.le_of_ble_eq_true rfl)⟩) hS (fun q _ h => hFc q h) hFc (fun rn1 u t H1 locs ht hvm hw hB hz1 hk1 hS => ?_)
  obtain ⟨hP1, hD1⟩ := hB
  rw [ht] at hP1
  obtain ⟨hP, hD⟩ := PDq.join (w := [(oX10 w0 v0 v1 v2 v3 v4 g5 g6 (nI ed) g8 v9 (nI nb) g11 g12 v13 g14 g15 g16 g17 g18 g19 g20 g21 g22 g23 g24 g25 g26 v27 v28 v29 v30 v31 v32 v33 v34 v35 v36 v37 (nI ol)), (v0, .inl (cA 0, 326, .inl fs))]) 0 hP hD [0, 1] [] rfl rfl (by decide) (by decide) hk1 hFc hP1 hD1 rfl
  generalize H1 = H at hP hS ⊢
  obtain rfl : rn1 = (fs (16 + 7 * mi + 2)) := hw
  refine lv_iconst (v := 1) hx hb dX10_isOpenOrDue_6 (by decide) ?_
  refine lv_icmp_gt (tgt := 14) hx hb dX10_isOpenOrDue_7 (by decide) (fun c2 => ?_) (fun c2 => ?_)
  · skip
    refine lv_iconst (v := 0) hx hb dX10_isOpenOrDue_14 (by decide) ?_
    obtain ⟨hP9, hD9⟩ := PDq.sub (ws' := [(oX10 w0 v0 v1 v2 v3 v4 g5 g6 (nI ed) g8 v9 (nI nb) g11 g12 v13 g14 g15 g16 g17 g18 g19 g20 g21 g22 g23 g24 g25 g26 v27 v28 v29 v30 v31 v32 v33 v34 v35 v36 v37 (nI ol)), (v0, .inl (cA 0, 326, .inl fs))]) hP hD [0, 1] (by decide) rfl
    refine W.widen (k := 0) (n := 0) (Nat.le_of_ble_eq_true rfl) (Nat.le_of_ble_eq_true rfl) ?_
    exact (W.zret (v := 0) hx hb hr (by first | rfl | decide) (fun t ht hW => ⟨⟨0, (), rfl, (by first | exact Or.inl rfl | exact Or.inr rfl), by rw [ht]; exact hP9, hD9⟩, hS.F ht⟩) hS.2.2 dX10_isOpenOrDue_15)
  · skip
    refine lv_iconst (v := 1) hx hb dX10_isOpenOrDue_10 (by decide) ?_
    refine lv_goto (tgt := 15) hx hb dX10_isOpenOrDue_11 (by decide) ?_
    obtain ⟨hP9, hD9⟩ := PDq.sub (ws' := [(oX10 w0 v0 v1 v2 v3 v4 g5 g6 (nI ed) g8 v9 (nI nb) g11 g12 v13 g14 g15 g16 g17 g18 g19 g20 g21 g22 g23 g24 g25 g26 v27 v28 v29 v30 v31 v32 v33 v34 v35 v36 v37 (nI ol)), (v0, .inl (cA 0, 326, .inl fs))]) hP hD [0, 1] (by decide) rfl
    refine W.widen (k := 0) (n := 0) (Nat.le_of_ble_eq_true rfl) (Nat.le_of_ble_eq_true rfl) ?_
    exact (W.zret (v := 1) hx hb hr (by first | rfl | decide) (fun t ht hW => ⟨⟨1, (), rfl, (by first | exact Or.inl rfl | exact Or.inr rfl), by rw [ht]; exact hP9, hD9⟩, hS.F ht⟩) hS.2.2 dX10_isOpenOrDue_15)

set_option maxHeartbeats 4000000 in
set_option maxRecDepth 100000 in
/-- reference: remainingOf -/
theorem r_remainingOf (l : Launch) (D : va_G) (cA : Nat → ClassId) (sa : Nat → Nat) (w0 : Nat) (ed : Nat) (nb : Nat) (ol : Nat) (v0 : Nat) (v1 : Nat) (v2 : Nat) (v3 : Nat) (v4 : Nat) (v9 : Nat) (v13 : Nat) (v27 : Nat) (v28 : Nat) (v29 : Nat) (v30 : Nat) (v31 : Nat) (v32 : Nat) (v33 : Nat) (v34 : Nat) (v35 : Nat) (v36 : Nat) (v37 : Nat) (g8 : Int32) (g11 : Int32) (g12 : Int32) (g14 : Int32) (g15 : Int32) (g16 : Int32) (g17 : Int32) (g18 : Int32) (g19 : Int32) (g20 : Int32) (g21 : Int32) (g22 : Int32) (g23 : Int32) (g24 : Int32) (g26 : Int32) (g5 : Int64) (g6 : Int64) (g25 : Int64) (fs : Nat → Int32) (mi : Nat) (sz : Nat) (hmi : mi < 10) : Met l yX10_remainingOf wsX10_remainingOf ({ frames := 2, cells := 0, slots := 0, locals := 43 }) (va_Pc [.ref w0, .int (nI mi)] (Wd D cA sa [(oX10 w0 v0 v1 v2 v3 v4 g5 g6 (nI ed) g8 v9 (nI nb) g11 g12 v13 g14 g15 g16 g17 g18 g19 g20 g21 g22 g23 g24 g25 g26 v27 v28 v29 v30 v31 v32 v33 v34 v35 v36 v37 (nI ol)), (v0, .inl (cA 0, 326, .inl fs))] sz)) (va_Qi (fun (r : Int32) (_ : Unit) => True) (fun (_ : Unit) t => Wq D (va_A [(oX10 w0 v0 v1 v2 v3 v4 g5 g6 (nI ed) g8 v9 (nI nb) g11 g12 v13 g14 g15 g16 g17 g18 g19 g20 g21 g22 g23 g24 g25 g26 v27 v28 v29 v30 v31 v32 v33 v34 v35 v36 v37 (nI ol)), (v0, .inl (cA 0, 326, .inl fs))] sz) [(oX10 w0 v0 v1 v2 v3 v4 g5 g6 (nI ed) g8 v9 (nI nb) g11 g12 v13 g14 g15 g16 g17 g18 g19 g20 g21 g22 g23 g24 g25 g26 v27 v28 v29 v30 v31 v32 v33 v34 v35 v36 v37 (nI ol)), (v0, .inl (cA 0, 326, .inl fs))] t) (va_A [(oX10 w0 v0 v1 v2 v3 v4 g5 g6 (nI ed) g8 v9 (nI nb) g11 g12 v13 g14 g15 g16 g17 g18 g19 g20 g21 g22 g23 g24 g25 g26 v27 v28 v29 v30 v31 v32 v33 v34 v35 v36 v37 (nI ol)), (v0, .inl (cA 0, 326, .inl fs))] sz)) 0 0 (va_A [(oX10 w0 v0 v1 v2 v3 v4 g5 g6 (nI ed) g8 v9 (nI nb) g11 g12 v13 g14 g15 g16 g17 g18 g19 g20 g21 g22 g23 g24 g25 g26 v27 v28 v29 v30 v31 v32 v33 v34 v35 v36 v37 (nI ol)), (v0, .inl (cA 0, 326, .inl fs))] sz) := by
  refine Met.ofW (cc := cX10_remainingOf) (maxL := 2) (ret := (some .int)) (by decide) rfl ?_
  intro p e s m args below meth c s₁ B hml hv
  obtain ⟨rfl, hsz, hP, hK, hD0, hC, hZ⟩ := hv
  have hx := B.exec
  have hb := B.bytes
  have hr := B.returns
  have hts := atoms_spec (ws := wsX10_remainingOf) B.pre
  have hown : s.vm.findClass RX10 = some m.cls := findClass_of_methodNamed B.named
  have hlocks := B.notSynchronized
  subst hsz
  have hD := hD0.self (sz := s.heap.size)
  generalize hAe : va_A [(oX10 w0 v0 v1 v2 v3 v4 g5 g6 (nI ed) g8 v9 (nI nb) g11 g12 v13 g14 g15 g16 g17 g18 g19 g20 g21 g22 g23 g24 g25 g26 v27 v28 v29 v30 v31 v32 v33 v34 v35 v36 v37 (nI ol)), (v0, .inl (cA 0, 326, .inl fs))] s.heap.size = A at hD hZ ⊢
  have hA : ∀ q : Nat, s.heap.size ≤ q → A q := fun q h => by rw [← hAe]; exact Or.inr h
  have hS : va_S A s.heap s.heap [] := va_S.rf
  have hP : va_P D vwCl [(oX10 w0 v0 v1 v2 v3 v4 g5 g6 (nI ed) g8 v9 (nI nb) g11 g12 v13 g14 g15 g16 g17 g18 g19 g20 g21 g22 g23 g24 g25 g26 v27 v28 v29 v30 v31 v32 v33 v34 v35 v36 v37 (nI ol)), (v0, .inl (cA 0, 326, .inl fs))] s.heap := hP
  have hl := lv_entry ([.ref w0, .int (nI mi)]) (n := 2) (Nat.le_of_ble_eq_true rfl)
  rw [lg_entry_eq]
  generalize (lg_sl ([.ref w0, .int (nI mi)]) ++ List.replicate (2 - (lg_sl ([.ref w0, .int (nI mi)])).length) Slot.unset).toArray = ls at hl ⊢
  have hl : lv_has ls 2 [(0, .ref w0), (1, .int (nI mi))] := hl
  refine lv_aload_n hx hb dX10_remainingOf_0 rfl (lv_at hl 0 rfl) ?_
  refine lv_iload_n hx hb dX10_remainingOf_1 rfl (lv_at hl 1 rfl) ?_
  obtain ⟨hPc, hDc, hFc⟩ := PDq.cut (wc := [(oX10 w0 v0 v1 v2 v3 v4 g5 g6 (nI ed) g8 v9 (nI nb) g11 g12 v13 g14 g15 g16 g17 g18 g19 g20 g21 g22 g23 g24 g25 g26 v27 v28 v29 v30 v31 v32 v33 v34 v35 v36 v37 (nI ol)), (v0, .inl (cA 0, 326, .inl fs))]) hP hD hS hA [0, 1] (by decide) rfl
  refine va_calli (va_runV (As := [.int (nI mi)]) (rest := []) ⟨hx, hb, hml, hown, hts⟩ (r_isClosed l D cA sa w0 ed nb ol v0 v1 v2 v3 v4 v9 v13 v27 v28 v29 v30 v31 v32 v33 v34 v35 v36 v37 g8 g11 g12 g14 g15 g16 g17 g18 g19 g20 g21 g22 g23 g24 g26 g5 g6 g25 fs mi s.heap.size hmi) (cwV 1 hts gX10_remainingOf_X10_isClosed rfl rfl rfl (by decide +kernel) ⟨(Nat.le_of_ble_eq_true rfl), (Nat.le_of_ble_eq_true rfl)⟩) ⟨Wd.blind, va_recv hK hPc (ci := 11) (q0 := 0) rfl rfl, fun U hU hW => ⟨rfl, Wd.call hPc hDc hK hC hZ hS hFc U hU hW⟩⟩ rfl rfl hl.1 rfl (lv_room (Nat.le_of_ble_eq_true rfl)) dX10_remainingOf_2 ⟨(Nat.le_of_ble_eq_true rfl), (Nat.le_of_ble_eq_true rfl)⟩) hS (fun q _ h => hFc q h) hFc (fun rn1 u t H1 locs ht hvm hw hB hz1 hk1 hS => ?_)
  obtain ⟨hP1, hD1⟩ := hB
  rw [ht] at hP1
  obtain ⟨hP, hD⟩ := PDq.join (w := [(oX10 w0 v0 v1 v2 v3 v4 g5 g6 (nI ed) g8 v9 (nI nb) g11 g12 v13 g14 g15 g16 g17 g18 g19 g20 g21 g22 g23 g24 g25 g26 v27 v28 v29 v30 v31 v32 v33 v34 v35 v36 v37 (nI ol)), (v0, .inl (cA 0, 326, .inl fs))]) 0 hP hD [0, 1] [] rfl rfl (by decide) (by decide) hk1 hFc hP1 hD1 rfl
  generalize H1 = H at hP hS ⊢
  have hn2 := hw
  refine lv_if_eq (tgt := 12) hx hb dX10_remainingOf_5 (by decide) (fun c3 => ?_) (fun c3 => ?_)
  · skip
    refine lv_aload_n hx hb dX10_remainingOf_12 rfl (lv_at hl 0 rfl) ?_
    refine lv_iload_n hx hb dX10_remainingOf_13 rfl (lv_at hl 1 rfl) ?_
    refine lv_iconst (v := 0) hx hb dX10_remainingOf_14 (by decide) ?_
    obtain ⟨hPc, hDc, hFc⟩ := PDq.cut (wc := [(oX10 w0 v0 v1 v2 v3 v4 g5 g6 (nI ed) g8 v9 (nI nb) g11 g12 v13 g14 g15 g16 g17 g18 g19 g20 g21 g22 g23 g24 g25 g26 v27 v28 v29 v30 v31 v32 v33 v34 v35 v36 v37 (nI ol)), (v0, .inl (cA 0, 326, .inl fs))]) hP hD hS hA [0, 1] (by decide) rfl
    refine va_calli (va_runV (As := [.int (nI mi), .int 0]) (rest := []) ⟨hx, hb, hml, hown, hts⟩ (r_of l D cA sa w0 ed nb ol v0 v1 v2 v3 v4 v9 v13 v27 v28 v29 v30 v31 v32 v33 v34 v35 v36 v37 g8 g11 g12 g14 g15 g16 g17 g18 g19 g20 g21 g22 g23 g24 g26 g5 g6 g25 fs mi 0 H.size hmi (by omega)) (cwV 2 hts gX10_remainingOf_X10_of rfl rfl rfl (by decide +kernel) ⟨(Nat.le_of_ble_eq_true rfl), (Nat.le_of_ble_eq_true rfl)⟩) ⟨Wd.blind, va_recv hK hPc (ci := 11) (q0 := 0) rfl rfl, fun U hU hW => ⟨rfl, Wd.call hPc hDc hK hC hZ hS hFc U hU hW⟩⟩ rfl rfl hl.1 rfl (lv_room (Nat.le_of_ble_eq_true rfl)) dX10_remainingOf_15 ⟨(Nat.le_of_ble_eq_true rfl), (Nat.le_of_ble_eq_true rfl)⟩) hS (fun q _ h => hFc q h) hFc (fun rn4 u t H1 locs ht hvm hw hB hz1 hk1 hS => ?_)
    obtain ⟨hP1, hD1⟩ := hB
    rw [ht] at hP1
    obtain ⟨hP, hD⟩ := PDq.join (w := [(oX10 w0 v0 v1 v2 v3 v4 g5 g6 (nI ed) g8 v9 (nI nb) g11 g12 v13 g14 g15 g16 g17 g18 g19 g20 g21 g22 g23 g24 g25 g26 v27 v28 v29 v30 v31 v32 v33 v34 v35 v36 v37 (nI ol)), (v0, .inl (cA 0, 326, .inl fs))]) 0 hP hD [0, 1] [] rfl rfl (by decide) (by decide) hk1 hFc hP1 hD1 rfl
    generalize H1 = H at hP hS ⊢
    obtain rfl : rn4 = (fs (16 + 7 * mi + 0)) := hw
    refine lv_aload_n hx hb dX10_remainingOf_18 rfl (lv_at hl 0 rfl) ?_
    refine lv_iload_n hx hb dX10_remainingOf_19 rfl (lv_at hl 1 rfl) ?_
    refine lv_iconst (v := 1) hx hb dX10_remainingOf_20 (by decide) ?_
    obtain ⟨hPc, hDc, hFc⟩ := PDq.cut (wc := [(oX10 w0 v0 v1 v2 v3 v4 g5 g6 (nI ed) g8 v9 (nI nb) g11 g12 v13 g14 g15 g16 g17 g18 g19 g20 g21 g22 g23 g24 g25 g26 v27 v28 v29 v30 v31 v32 v33 v34 v35 v36 v37 (nI ol)), (v0, .inl (cA 0, 326, .inl fs))]) hP hD hS hA [0, 1] (by decide) rfl
    refine va_calli (va_runV (As := [.int (nI mi), .int 1]) (rest := [.int (fs (16 + 7 * mi + 0))]) ⟨hx, hb, hml, hown, hts⟩ (r_of l D cA sa w0 ed nb ol v0 v1 v2 v3 v4 v9 v13 v27 v28 v29 v30 v31 v32 v33 v34 v35 v36 v37 g8 g11 g12 g14 g15 g16 g17 g18 g19 g20 g21 g22 g23 g24 g26 g5 g6 g25 fs mi 1 H.size hmi (by omega)) (cwV 2 hts gX10_remainingOf_X10_of rfl rfl rfl (by decide +kernel) ⟨(Nat.le_of_ble_eq_true rfl), (Nat.le_of_ble_eq_true rfl)⟩) ⟨Wd.blind, va_recv hK hPc (ci := 11) (q0 := 0) rfl rfl, fun U hU hW => ⟨rfl, Wd.call hPc hDc hK hC hZ hS hFc U hU hW⟩⟩ rfl rfl hl.1 rfl (lv_room (Nat.le_of_ble_eq_true rfl)) dX10_remainingOf_21 ⟨(Nat.le_of_ble_eq_true rfl), (Nat.le_of_ble_eq_true rfl)⟩) hS (fun q _ h => hFc q h) hFc (fun rn5 u t H1 locs ht hvm hw hB hz1 hk1 hS => ?_)
    obtain ⟨hP1, hD1⟩ := hB
    rw [ht] at hP1
    obtain ⟨hP, hD⟩ := PDq.join (w := [(oX10 w0 v0 v1 v2 v3 v4 g5 g6 (nI ed) g8 v9 (nI nb) g11 g12 v13 g14 g15 g16 g17 g18 g19 g20 g21 g22 g23 g24 g25 g26 v27 v28 v29 v30 v31 v32 v33 v34 v35 v36 v37 (nI ol)), (v0, .inl (cA 0, 326, .inl fs))]) 0 hP hD [0, 1] [] rfl rfl (by decide) (by decide) hk1 hFc hP1 hD1 rfl
    generalize H1 = H at hP hS ⊢
    obtain rfl : rn5 = (fs (16 + 7 * mi + 1)) := hw
    refine lv_isub hx hb dX10_remainingOf_24 ?_
    refine lv_topi (fun yn6 eyn6 => ?_)
    obtain ⟨hP9, hD9⟩ := PDq.sub (ws' := [(oX10 w0 v0 v1 v2 v3 v4 g5 g6 (nI ed) g8 v9 (nI nb) g11 g12 v13 g14 g15 g16 g17 g18 g19 g20 g21 g22 g23 g24 g25 g26 v27 v28 v29 v30 v31 v32 v33 v34 v35 v36 v37 (nI ol)), (v0, .inl (cA 0, 326, .inl fs))]) hP hD [0, 1] (by decide) rfl
    refine W.widen (k := 0) (n := 0) (Nat.le_of_ble_eq_true rfl) (Nat.le_of_ble_eq_true rfl) ?_
    exact (W.iret (v := yn6) hx hb hr (fun t ht hW => ⟨⟨yn6, (), rfl, trivial, by rw [ht]; exact hP9, hD9⟩, hS.F ht⟩) hS.2.2 dX10_remainingOf_25)
  · skip
    refine lv_iconst (v := 0) hx hb dX10_remainingOf_8 (by decide) ?_
    refine lv_goto (tgt := 25) hx hb dX10_remainingOf_9 (by decide) ?_
    obtain ⟨hP9, hD9⟩ := PDq.sub (ws' := [(oX10 w0 v0 v1 v2 v3 v4 g5 g6 (nI ed) g8 v9 (nI nb) g11 g12 v13 g14 g15 g16 g17 g18 g19 g20 g21 g22 g23 g24 g25 g26 v27 v28 v29 v30 v31 v32 v33 v34 v35 v36 v37 (nI ol)), (v0, .inl (cA 0, 326, .inl fs))]) hP hD [0, 1] (by decide) rfl
    refine W.widen (k := 0) (n := 0) (Nat.le_of_ble_eq_true rfl) (Nat.le_of_ble_eq_true rfl) ?_
    exact (W.iret (v := 0) hx hb hr (fun t ht hW => ⟨⟨0, (), rfl, trivial, by rw [ht]; exact hP9, hD9⟩, hS.F ht⟩) hS.2.2 dX10_remainingOf_25)

set_option maxHeartbeats 4000000 in
set_option maxRecDepth 100000 in
/-- reference: availableNow -/
theorem r_availableNow (l : Launch) (D : va_G) (cA : Nat → ClassId) (sa : Nat → Nat) (w0 : Nat) (ed : Nat) (nb : Nat) (ol : Nat) (v0 : Nat) (v1 : Nat) (v2 : Nat) (v3 : Nat) (v4 : Nat) (v9 : Nat) (v13 : Nat) (v27 : Nat) (v28 : Nat) (v29 : Nat) (v30 : Nat) (v31 : Nat) (v32 : Nat) (v33 : Nat) (v34 : Nat) (v35 : Nat) (v36 : Nat) (v37 : Nat) (g8 : Int32) (g11 : Int32) (g12 : Int32) (g14 : Int32) (g15 : Int32) (g16 : Int32) (g17 : Int32) (g18 : Int32) (g19 : Int32) (g20 : Int32) (g21 : Int32) (g22 : Int32) (g23 : Int32) (g24 : Int32) (g26 : Int32) (g5 : Int64) (g6 : Int64) (g25 : Int64) (cn : Nat) (pq : Nat) (en : Nat) (dy : Nat) (fs : Nat → Int32) (sz : Nat) (hcn : cn ≤ 10) (hpq : pq ≤ 8) (hen : en ≤ 60) (hdy : dy ≤ 20000) (hri : RI cn pq en dy fs) : Met l yX10_availableNow wsX10_availableNow ({ frames := 1, cells := 0, slots := 0, locals := 22 }) (va_Pc [.ref w0] (Wd D cA sa [(oX10 w0 v0 v1 v2 v3 v4 g5 g6 (nI ed) g8 v9 (nI nb) g11 g12 v13 g14 g15 g16 g17 g18 g19 g20 g21 g22 g23 g24 g25 g26 v27 v28 v29 v30 v31 v32 v33 v34 v35 v36 v37 (nI ol)), (v0, .inl (cA 0, 326, .inl fs))] sz)) (va_Qi (fun (r : Int32) (_ : Unit) => True) (fun (_ : Unit) t => Wq D (va_A [(oX10 w0 v0 v1 v2 v3 v4 g5 g6 (nI ed) g8 v9 (nI nb) g11 g12 v13 g14 g15 g16 g17 g18 g19 g20 g21 g22 g23 g24 g25 g26 v27 v28 v29 v30 v31 v32 v33 v34 v35 v36 v37 (nI ol)), (v0, .inl (cA 0, 326, .inl fs))] sz) [(oX10 w0 v0 v1 v2 v3 v4 g5 g6 (nI ed) g8 v9 (nI nb) g11 g12 v13 g14 g15 g16 g17 g18 g19 g20 g21 g22 g23 g24 g25 g26 v27 v28 v29 v30 v31 v32 v33 v34 v35 v36 v37 (nI ol)), (v0, .inl (cA 0, 326, .inl fs))] t) (va_A [(oX10 w0 v0 v1 v2 v3 v4 g5 g6 (nI ed) g8 v9 (nI nb) g11 g12 v13 g14 g15 g16 g17 g18 g19 g20 g21 g22 g23 g24 g25 g26 v27 v28 v29 v30 v31 v32 v33 v34 v35 v36 v37 (nI ol)), (v0, .inl (cA 0, 326, .inl fs))] sz)) 0 0 (va_A [(oX10 w0 v0 v1 v2 v3 v4 g5 g6 (nI ed) g8 v9 (nI nb) g11 g12 v13 g14 g15 g16 g17 g18 g19 g20 g21 g22 g23 g24 g25 g26 v27 v28 v29 v30 v31 v32 v33 v34 v35 v36 v37 (nI ol)), (v0, .inl (cA 0, 326, .inl fs))] sz) := by
  refine Met.ofW (cc := cX10_availableNow) (maxL := 3) (ret := (some .int)) (by decide) rfl ?_
  intro p e s m args below meth c s₁ B hml hv
  obtain ⟨rfl, hsz, hP, hK, hD0, hC, hZ⟩ := hv
  have hx := B.exec
  have hb := B.bytes
  have hr := B.returns
  have hts := atoms_spec (ws := wsX10_availableNow) B.pre
  have hown : s.vm.findClass RX10 = some m.cls := findClass_of_methodNamed B.named
  have hlocks := B.notSynchronized
  subst hsz
  have hD := hD0.self (sz := s.heap.size)
  generalize hAe : va_A [(oX10 w0 v0 v1 v2 v3 v4 g5 g6 (nI ed) g8 v9 (nI nb) g11 g12 v13 g14 g15 g16 g17 g18 g19 g20 g21 g22 g23 g24 g25 g26 v27 v28 v29 v30 v31 v32 v33 v34 v35 v36 v37 (nI ol)), (v0, .inl (cA 0, 326, .inl fs))] s.heap.size = A at hD hZ ⊢
  have hA : ∀ q : Nat, s.heap.size ≤ q → A q := fun q h => by rw [← hAe]; exact Or.inr h
  have hS : va_S A s.heap s.heap [] := va_S.rf
  have hP : va_P D vwCl [(oX10 w0 v0 v1 v2 v3 v4 g5 g6 (nI ed) g8 v9 (nI nb) g11 g12 v13 g14 g15 g16 g17 g18 g19 g20 g21 g22 g23 g24 g25 g26 v27 v28 v29 v30 v31 v32 v33 v34 v35 v36 v37 (nI ol)), (v0, .inl (cA 0, 326, .inl fs))] s.heap := hP
  have hl := lv_entry ([.ref w0]) (n := 3) (Nat.le_of_ble_eq_true rfl)
  rw [lg_entry_eq]
  generalize (lg_sl ([.ref w0]) ++ List.replicate (3 - (lg_sl ([.ref w0])).length) Slot.unset).toArray = ls at hl ⊢
  have hl : lv_has ls 3 [(0, .ref w0)] := hl
  have inX10 : ∀ w ∈ u_ws RX10 TX10 39, w ∈ wsX10_availableNow := by decide +kernel
  refine lv_aload_n hx hb dX10_availableNow_0 rfl (lv_at hl 0 rfl) ?_
  refine va_get (D := D) (ci := 11) (v := .ref v0) (C := RX10) (T := TX10) (N := 39) hx hb hts inX10 hown hK hP 0 rfl rfl 0 (by decide) (hts (.fieldLink RX10 7 "EscrowDeskModel" "s" "[I") (by decide +kernel)) (fun _ h9 => h9) rfl dX10_availableNow_1 ?_
  refine lv_bipush (v := 6) hx hb dX10_availableNow_4 (by decide) ?_
  refine va_iald hx hb hK hP 1 0 rfl rfl (vp_in_iff.mpr (by decide)) dX10_availableNow_6 ?_
  refine lv_topi (fun yn1 eyn1 => ?_)
  refine lv_istore_n (lv' := [(1, .int yn1), (0, .ref w0)]) hx hb dX10_availableNow_7 rfl hl (by decide) rfl (fun ls hl => ?_)
  refine lv_iconst (v := 0) hx hb dX10_availableNow_8 (by decide) ?_
  refine lv_istore_n (lv' := [(2, .int 0), (1, .int yn1), (0, .ref w0)]) hx hb dX10_availableNow_9 rfl hl (by decide) rfl (fun ls hl => ?_)
  have loop1 : ∀ (n1 i1 : Nat) (x1_1 : Int32) (H : Heap) (locs : List Loc) (ls : Array Slot), i1 + n1 = cn → va_P D vwCl [(oX10 w0 v0 v1 v2 v3 v4 g5 g6 (nI ed) g8 v9 (nI nb) g11 g12 v13 g14 g15 g16 g17 g18 g19 g20 g21 g22 g23 g24 g25 g26 v27 v28 v29 v30 v31 v32 v33 v34 v35 v36 v37 (nI ol)), (v0, .inl (cA 0, 326, .inl fs))] H → va_D A [(oX10 w0 v0 v1 v2 v3 v4 g5 g6 (nI ed) g8 v9 (nI nb) g11 g12 v13 g14 g15 g16 g17 g18 g19 g20 g21 g22 g23 g24 g25 g26 v27 v28 v29 v30 v31 v32 v33 v34 v35 v36 v37 (nI ol)), (v0, .inl (cA 0, 326, .inl fs))] → va_S A s.heap H locs → lv_has ls 3 [(2, .int (nI i1)), (1, .int x1_1), (0, .ref w0)] → W p l e (headSpec wsX10_availableNow ({ frames := 1, cells := 0, slots := 0, locals := 22 } : Room)).room s m ([.ref w0] : List Value).toArray below meth c H locs 0 0 (MQ below (va_Qi (fun (r : Int32) (_ : Unit) => True) (fun (_ : Unit) t => Wq D A [(oX10 w0 v0 v1 v2 v3 v4 g5 g6 (nI ed) g8 v9 (nI nb) g11 g12 v13 g14 g15 g16 g17 g18 g19 g20 g21 g22 g23 g24 g25 g26 v27 v28 v29 v30 v31 v32 v33 v34 v35 v36 v37 (nI ol)), (v0, .inl (cA 0, 326, .inl fs))] t) A) ([.ref w0] : List Value).toArray s 0 0 A) (F0 m 10 ls []) := by
    intro n1
    induction n1 with
    | zero =>
      intro i1 x1_1 H locs ls hi1 hP hD hS hl
      obtain rfl : cn = i1 := by omega
      refine lv_iload_n hx hb dX10_availableNow_10 rfl (lv_at hl 0 rfl) ?_
      refine lv_aload_n hx hb dX10_availableNow_11 rfl (lv_at hl 2 rfl) ?_
      refine va_get (D := D) (ci := 11) (v := .ref v0) (C := RX10) (T := TX10) (N := 39) hx hb hts inX10 hown hK hP 0 rfl rfl 0 (by decide) (hts (.fieldLink RX10 7 "EscrowDeskModel" "s" "[I") (by decide +kernel)) (fun _ h9 => h9) rfl dX10_availableNow_12 ?_
      refine lv_bipush (v := 13) hx hb dX10_availableNow_15 (by decide) ?_
      refine va_iald hx hb hK hP 1 0 rfl rfl (vp_in_iff.mpr (by decide)) dX10_availableNow_17 ?_
      refine lv_topi (fun yn2 eyn2 => ?_)
      obtain rfl : yn2 = (nI cn) := eyn2.trans hri.1
      refine lv_icmp_ge (tgt := 36) hx hb dX10_availableNow_18 (by decide) (fun c3 => ?_) (fun c9 => absurd (nI_le (a := cn) (b := cn) (show cn ≤ cn by omega) (by omega)) c9)
      refine lv_iload_n hx hb dX10_availableNow_36 rfl (lv_at hl 1 rfl) ?_
      obtain ⟨hP9, hD9⟩ := PDq.sub (ws' := [(oX10 w0 v0 v1 v2 v3 v4 g5 g6 (nI ed) g8 v9 (nI nb) g11 g12 v13 g14 g15 g16 g17 g18 g19 g20 g21 g22 g23 g24 g25 g26 v27 v28 v29 v30 v31 v32 v33 v34 v35 v36 v37 (nI ol)), (v0, .inl (cA 0, 326, .inl fs))]) hP hD [0, 1] (by decide) rfl
      refine W.widen (k := 0) (n := 0) (Nat.le_of_ble_eq_true rfl) (Nat.le_of_ble_eq_true rfl) ?_
      exact (W.iret (v := x1_1) hx hb hr (fun t ht hW => ⟨⟨x1_1, (), rfl, trivial, by rw [ht]; exact hP9, hD9⟩, hS.F ht⟩) hS.2.2 dX10_availableNow_37)
    | succ n1 ih1 =>
      intro i1 x1_1 H locs ls hi1 hP hD hS hl
      refine lv_iload_n hx hb dX10_availableNow_10 rfl (lv_at hl 0 rfl) ?_
      refine lv_aload_n hx hb dX10_availableNow_11 rfl (lv_at hl 2 rfl) ?_
      refine va_get (D := D) (ci := 11) (v := .ref v0) (C := RX10) (T := TX10) (N := 39) hx hb hts inX10 hown hK hP 0 rfl rfl 0 (by decide) (hts (.fieldLink RX10 7 "EscrowDeskModel" "s" "[I") (by decide +kernel)) (fun _ h9 => h9) rfl dX10_availableNow_12 ?_
      refine lv_bipush (v := 13) hx hb dX10_availableNow_15 (by decide) ?_
      refine va_iald hx hb hK hP 1 0 rfl rfl (vp_in_iff.mpr (by decide)) dX10_availableNow_17 ?_
      refine lv_topi (fun yn4 eyn4 => ?_)
      obtain rfl : yn4 = (nI cn) := eyn4.trans hri.1
      refine lv_icmp_ge (tgt := 36) hx hb dX10_availableNow_18 (by decide) (fun c9 => absurd c9 (nI_ge (a := i1) (b := cn) (show i1 < cn by omega) (by omega))) (fun c5 => ?_)
      refine lv_iload_n hx hb dX10_availableNow_21 rfl (lv_at hl 1 rfl) ?_
      refine lv_aload_n hx hb dX10_availableNow_22 rfl (lv_at hl 2 rfl) ?_
      refine lv_iload_n hx hb dX10_availableNow_23 rfl (lv_at hl 0 rfl) ?_
      refine lv_iconst (v := 3) hx hb dX10_availableNow_24 (by decide) ?_
      obtain ⟨hPc, hDc, hFc⟩ := PDq.cut (wc := [(oX10 w0 v0 v1 v2 v3 v4 g5 g6 (nI ed) g8 v9 (nI nb) g11 g12 v13 g14 g15 g16 g17 g18 g19 g20 g21 g22 g23 g24 g25 g26 v27 v28 v29 v30 v31 v32 v33 v34 v35 v36 v37 (nI ol)), (v0, .inl (cA 0, 326, .inl fs))]) hP hD hS hA [0, 1] (by decide) rfl
      refine va_calli (va_runV (As := [.int (nI i1), .int 3]) (rest := [.int x1_1]) ⟨hx, hb, hml, hown, hts⟩ (r_of l D cA sa w0 ed nb ol v0 v1 v2 v3 v4 v9 v13 v27 v28 v29 v30 v31 v32 v33 v34 v35 v36 v37 g8 g11 g12 g14 g15 g16 g17 g18 g19 g20 g21 g22 g23 g24 g26 g5 g6 g25 fs i1 3 H.size (by omega) (by omega)) (cwV 2 hts gX10_availableNow_X10_of rfl rfl rfl (by decide +kernel) ⟨(Nat.le_of_ble_eq_true rfl), (Nat.le_of_ble_eq_true rfl)⟩) ⟨Wd.blind, va_recv hK hPc (ci := 11) (q0 := 0) rfl rfl, fun U hU hW => ⟨rfl, Wd.call hPc hDc hK hC hZ hS hFc U hU hW⟩⟩ rfl rfl hl.1 rfl (lv_room (Nat.le_of_ble_eq_true rfl)) dX10_availableNow_25 ⟨(Nat.le_of_ble_eq_true rfl), (Nat.le_of_ble_eq_true rfl)⟩) hS (fun q _ h => hFc q h) hFc (fun rn6 u t H1 locs ht hvm hw hB hz1 hk1 hS => ?_)
      obtain ⟨hP1, hD1⟩ := hB
      rw [ht] at hP1
      obtain ⟨hP, hD⟩ := PDq.join (w := [(oX10 w0 v0 v1 v2 v3 v4 g5 g6 (nI ed) g8 v9 (nI nb) g11 g12 v13 g14 g15 g16 g17 g18 g19 g20 g21 g22 g23 g24 g25 g26 v27 v28 v29 v30 v31 v32 v33 v34 v35 v36 v37 (nI ol)), (v0, .inl (cA 0, 326, .inl fs))]) 0 hP hD [0, 1] [] rfl rfl (by decide) (by decide) hk1 hFc hP1 hD1 rfl
      generalize H1 = H at hP hS ⊢
      obtain rfl : rn6 = (fs (16 + 7 * i1 + 3)) := hw
      refine lv_isub hx hb dX10_availableNow_28 ?_
      refine lv_topi (fun yn7 eyn7 => ?_)
      refine lv_istore_n (lv' := [(1, .int yn7), (2, .int (nI i1)), (0, .ref w0)]) hx hb dX10_availableNow_29 rfl hl (by decide) rfl (fun ls hl => ?_)
      refine lv_iinc (v := (nI (i1 + 1))) (lv' := [(2, .int (nI (i1 + 1))), (1, .int yn7), (0, .ref w0)]) hx hb dX10_availableNow_30 hl (k := 1) rfl (nI_1 _) (by decide) rfl (fun ls hl => ?_)
      refine lv_goto (tgt := 10) hx hb dX10_availableNow_33 (by decide) ?_
      obtain ⟨hP9, hD9⟩ := PDq.sub (ws' := [(oX10 w0 v0 v1 v2 v3 v4 g5 g6 (nI ed) g8 v9 (nI nb) g11 g12 v13 g14 g15 g16 g17 g18 g19 g20 g21 g22 g23 g24 g25 g26 v27 v28 v29 v30 v31 v32 v33 v34 v35 v36 v37 (nI ol)), (v0, .inl (cA 0, 326, .inl fs))]) hP hD [0, 1] (by decide) rfl
      exact ih1 (i1 + 1) yn7 H _ ls (by omega) hP9 hD9 hS (lv_sub hl [0, 1, 2] rfl)
  obtain ⟨hP9, hD9⟩ := PDq.sub (ws' := [(oX10 w0 v0 v1 v2 v3 v4 g5 g6 (nI ed) g8 v9 (nI nb) g11 g12 v13 g14 g15 g16 g17 g18 g19 g20 g21 g22 g23 g24 g25 g26 v27 v28 v29 v30 v31 v32 v33 v34 v35 v36 v37 (nI ol)), (v0, .inl (cA 0, 326, .inl fs))]) hP hD [0, 1] (by decide) rfl
  exact loop1 (cn - 0) 0 yn1 _ _ ls (by omega) hP9 hD9 hS (lv_sub hl [0, 1, 2] rfl)

set_option maxHeartbeats 4000000 in
set_option maxRecDepth 100000 in
/-- reference: feeOf -/
theorem r_feeOf (l : Launch) (D : va_G) (cA : Nat → ClassId) (sa : Nat → Nat) (w0 : Nat) (ed : Nat) (nb : Nat) (ol : Nat) (v0 : Nat) (v1 : Nat) (v2 : Nat) (v3 : Nat) (v4 : Nat) (v9 : Nat) (v13 : Nat) (v27 : Nat) (v28 : Nat) (v29 : Nat) (v30 : Nat) (v31 : Nat) (v32 : Nat) (v33 : Nat) (v34 : Nat) (v35 : Nat) (v36 : Nat) (v37 : Nat) (g8 : Int32) (g11 : Int32) (g12 : Int32) (g14 : Int32) (g15 : Int32) (g16 : Int32) (g17 : Int32) (g18 : Int32) (g19 : Int32) (g20 : Int32) (g21 : Int32) (g22 : Int32) (g23 : Int32) (g24 : Int32) (g26 : Int32) (g5 : Int64) (g6 : Int64) (g25 : Int64) (cn : Nat) (pq : Nat) (en : Nat) (dy : Nat) (fs : Nat → Int32) (a : Int32) (sz : Nat) (hcn : cn ≤ 10) (hpq : pq ≤ 8) (hen : en ≤ 60) (hdy : dy ≤ 20000) (hri : RI cn pq en dy fs) : Met l yX10_feeOf wsX10_feeOf ({ frames := 0, cells := 0, slots := 0, locals := 0 }) (va_Pc [.ref w0, .int a] (Wd D cA sa [(oX10 w0 v0 v1 v2 v3 v4 g5 g6 (nI ed) g8 v9 (nI nb) g11 g12 v13 g14 g15 g16 g17 g18 g19 g20 g21 g22 g23 g24 g25 g26 v27 v28 v29 v30 v31 v32 v33 v34 v35 v36 v37 (nI ol)), (v0, .inl (cA 0, 326, .inl fs))] sz)) (va_Qi (fun (r : Int32) (_ : Unit) => True) (fun (_ : Unit) t => Wq D (va_A [(oX10 w0 v0 v1 v2 v3 v4 g5 g6 (nI ed) g8 v9 (nI nb) g11 g12 v13 g14 g15 g16 g17 g18 g19 g20 g21 g22 g23 g24 g25 g26 v27 v28 v29 v30 v31 v32 v33 v34 v35 v36 v37 (nI ol)), (v0, .inl (cA 0, 326, .inl fs))] sz) [(oX10 w0 v0 v1 v2 v3 v4 g5 g6 (nI ed) g8 v9 (nI nb) g11 g12 v13 g14 g15 g16 g17 g18 g19 g20 g21 g22 g23 g24 g25 g26 v27 v28 v29 v30 v31 v32 v33 v34 v35 v36 v37 (nI ol)), (v0, .inl (cA 0, 326, .inl fs))] t) (va_A [(oX10 w0 v0 v1 v2 v3 v4 g5 g6 (nI ed) g8 v9 (nI nb) g11 g12 v13 g14 g15 g16 g17 g18 g19 g20 g21 g22 g23 g24 g25 g26 v27 v28 v29 v30 v31 v32 v33 v34 v35 v36 v37 (nI ol)), (v0, .inl (cA 0, 326, .inl fs))] sz)) 0 0 (va_A [(oX10 w0 v0 v1 v2 v3 v4 g5 g6 (nI ed) g8 v9 (nI nb) g11 g12 v13 g14 g15 g16 g17 g18 g19 g20 g21 g22 g23 g24 g25 g26 v27 v28 v29 v30 v31 v32 v33 v34 v35 v36 v37 (nI ol)), (v0, .inl (cA 0, 326, .inl fs))] sz) := by
  refine Met.ofW (cc := cX10_feeOf) (maxL := 2) (ret := (some .int)) (by decide) rfl ?_
  intro p e s m args below meth c s₁ B hml hv
  obtain ⟨rfl, hsz, hP, hK, hD0, hC, hZ⟩ := hv
  have hx := B.exec
  have hb := B.bytes
  have hr := B.returns
  have hts := atoms_spec (ws := wsX10_feeOf) B.pre
  have hown : s.vm.findClass RX10 = some m.cls := findClass_of_methodNamed B.named
  have hlocks := B.notSynchronized
  subst hsz
  have hD := hD0.self (sz := s.heap.size)
  generalize hAe : va_A [(oX10 w0 v0 v1 v2 v3 v4 g5 g6 (nI ed) g8 v9 (nI nb) g11 g12 v13 g14 g15 g16 g17 g18 g19 g20 g21 g22 g23 g24 g25 g26 v27 v28 v29 v30 v31 v32 v33 v34 v35 v36 v37 (nI ol)), (v0, .inl (cA 0, 326, .inl fs))] s.heap.size = A at hD hZ ⊢
  have hA : ∀ q : Nat, s.heap.size ≤ q → A q := fun q h => by rw [← hAe]; exact Or.inr h
  have hS : va_S A s.heap s.heap [] := va_S.rf
  have hP : va_P D vwCl [(oX10 w0 v0 v1 v2 v3 v4 g5 g6 (nI ed) g8 v9 (nI nb) g11 g12 v13 g14 g15 g16 g17 g18 g19 g20 g21 g22 g23 g24 g25 g26 v27 v28 v29 v30 v31 v32 v33 v34 v35 v36 v37 (nI ol)), (v0, .inl (cA 0, 326, .inl fs))] s.heap := hP
  have hl := lv_entry ([.ref w0, .int a]) (n := 2) (Nat.le_of_ble_eq_true rfl)
  rw [lg_entry_eq]
  generalize (lg_sl ([.ref w0, .int a]) ++ List.replicate (2 - (lg_sl ([.ref w0, .int a])).length) Slot.unset).toArray = ls at hl ⊢
  have hl : lv_has ls 2 [(0, .ref w0), (1, .int a)] := hl
  have inX10 : ∀ w ∈ u_ws RX10 TX10 39, w ∈ wsX10_feeOf := by decide +kernel
  refine lv_iload_n hx hb dX10_feeOf_0 rfl (lv_at hl 1 rfl) ?_
  refine lv_i2l (v := (a.toInt64)) hx hb dX10_feeOf_1 rfl ?_
  refine lv_aload_n hx hb dX10_feeOf_2 rfl (lv_at hl 0 rfl) ?_
  refine va_get (D := D) (ci := 11) (v := .ref v0) (C := RX10) (T := TX10) (N := 39) hx hb hts inX10 hown hK hP 0 rfl rfl 0 (by decide) (hts (.fieldLink RX10 7 "EscrowDeskModel" "s" "[I") (by decide +kernel)) (fun _ h9 => h9) rfl dX10_feeOf_3 ?_
  refine lv_iconst (v := 2) hx hb dX10_feeOf_6 (by decide) ?_
  refine va_iald hx hb hK hP 1 0 rfl rfl (vp_in_iff.mpr (by decide)) dX10_feeOf_7 ?_
  refine lv_topi (fun yn1 eyn1 => ?_)
  refine lv_i2l (v := (yn1.toInt64)) hx hb dX10_feeOf_8 rfl ?_
  refine lv_lmul hx hb dX10_feeOf_9 ?_
  refine lv_topl (fun yn2 eyn2 => ?_)
  refine lv_ldc2 (v := 10000) hx hb hown (hts (.constantLong RX10 268 10000) (by decide +kernel)) dX10_feeOf_10 ?_
  refine lv_ldiv hx hb dX10_feeOf_13 (by decide) ?_
  refine lv_topl (fun yn3 eyn3 => ?_)
  refine lv_l2i (v := yn3.toInt32) hx hb dX10_feeOf_14 rfl ?_
  refine lv_topi (fun yn4 eyn4 => ?_)
  obtain ⟨hP9, hD9⟩ := PDq.sub (ws' := [(oX10 w0 v0 v1 v2 v3 v4 g5 g6 (nI ed) g8 v9 (nI nb) g11 g12 v13 g14 g15 g16 g17 g18 g19 g20 g21 g22 g23 g24 g25 g26 v27 v28 v29 v30 v31 v32 v33 v34 v35 v36 v37 (nI ol)), (v0, .inl (cA 0, 326, .inl fs))]) hP hD [0, 1] (by decide) rfl
  refine W.widen (k := 0) (n := 0) (Nat.le_of_ble_eq_true rfl) (Nat.le_of_ble_eq_true rfl) ?_
  exact (W.iret (v := yn4) hx hb hr (fun t ht hW => ⟨⟨yn4, (), rfl, trivial, by rw [ht]; exact hP9, hD9⟩, hS.F ht⟩) hS.2.2 dX10_feeOf_15)

set_option maxHeartbeats 4000000 in
set_option maxRecDepth 100000 in
/-- reference: doneSet -/
theorem r_doneSet (l : Launch) (D : va_G) (cA : Nat → ClassId) (sa : Nat → Nat) (w0 : Nat) (ed : Nat) (nb : Nat) (ol : Nat) (v0 : Nat) (v1 : Nat) (v2 : Nat) (v3 : Nat) (v4 : Nat) (v9 : Nat) (v13 : Nat) (v27 : Nat) (v28 : Nat) (v29 : Nat) (v30 : Nat) (v31 : Nat) (v32 : Nat) (v33 : Nat) (v34 : Nat) (v35 : Nat) (v36 : Nat) (v37 : Nat) (g8 : Int32) (g11 : Int32) (g12 : Int32) (g14 : Int32) (g15 : Int32) (g16 : Int32) (g17 : Int32) (g18 : Int32) (g19 : Int32) (g20 : Int32) (g21 : Int32) (g22 : Int32) (g23 : Int32) (g24 : Int32) (g26 : Int32) (g5 : Int64) (g6 : Int64) (g25 : Int64) (cn : Nat) (pq : Nat) (en : Nat) (dy : Nat) (fs : Nat → Int32) (sz : Nat) (hcn : cn ≤ 10) (hpq : pq ≤ 8) (hen : en ≤ 60) (hdy : dy ≤ 20000) (hri : RI cn pq en dy fs) : Met l yX10_doneSet wsX10_doneSet ({ frames := 1, cells := 0, slots := 0, locals := 22 }) (va_Pc [.ref w0] (Wd D cA sa [(oX10 w0 v0 v1 v2 v3 v4 g5 g6 (nI ed) g8 v9 (nI nb) g11 g12 v13 g14 g15 g16 g17 g18 g19 g20 g21 g22 g23 g24 g25 g26 v27 v28 v29 v30 v31 v32 v33 v34 v35 v36 v37 (nI ol)), (v0, .inl (cA 0, 326, .inl fs))] sz)) (va_Qi (fun (r : Int32) (_ : Unit) => True) (fun (_ : Unit) t => Wq D (va_A [(oX10 w0 v0 v1 v2 v3 v4 g5 g6 (nI ed) g8 v9 (nI nb) g11 g12 v13 g14 g15 g16 g17 g18 g19 g20 g21 g22 g23 g24 g25 g26 v27 v28 v29 v30 v31 v32 v33 v34 v35 v36 v37 (nI ol)), (v0, .inl (cA 0, 326, .inl fs))] sz) [(oX10 w0 v0 v1 v2 v3 v4 g5 g6 (nI ed) g8 v9 (nI nb) g11 g12 v13 g14 g15 g16 g17 g18 g19 g20 g21 g22 g23 g24 g25 g26 v27 v28 v29 v30 v31 v32 v33 v34 v35 v36 v37 (nI ol)), (v0, .inl (cA 0, 326, .inl fs))] t) (va_A [(oX10 w0 v0 v1 v2 v3 v4 g5 g6 (nI ed) g8 v9 (nI nb) g11 g12 v13 g14 g15 g16 g17 g18 g19 g20 g21 g22 g23 g24 g25 g26 v27 v28 v29 v30 v31 v32 v33 v34 v35 v36 v37 (nI ol)), (v0, .inl (cA 0, 326, .inl fs))] sz)) 0 0 (va_A [(oX10 w0 v0 v1 v2 v3 v4 g5 g6 (nI ed) g8 v9 (nI nb) g11 g12 v13 g14 g15 g16 g17 g18 g19 g20 g21 g22 g23 g24 g25 g26 v27 v28 v29 v30 v31 v32 v33 v34 v35 v36 v37 (nI ol)), (v0, .inl (cA 0, 326, .inl fs))] sz) := by
  refine Met.ofW (cc := cX10_doneSet) (maxL := 3) (ret := (some .int)) (by decide) rfl ?_
  intro p e s m args below meth c s₁ B hml hv
  obtain ⟨rfl, hsz, hP, hK, hD0, hC, hZ⟩ := hv
  have hx := B.exec
  have hb := B.bytes
  have hr := B.returns
  have hts := atoms_spec (ws := wsX10_doneSet) B.pre
  have hown : s.vm.findClass RX10 = some m.cls := findClass_of_methodNamed B.named
  have hlocks := B.notSynchronized
  subst hsz
  have hD := hD0.self (sz := s.heap.size)
  generalize hAe : va_A [(oX10 w0 v0 v1 v2 v3 v4 g5 g6 (nI ed) g8 v9 (nI nb) g11 g12 v13 g14 g15 g16 g17 g18 g19 g20 g21 g22 g23 g24 g25 g26 v27 v28 v29 v30 v31 v32 v33 v34 v35 v36 v37 (nI ol)), (v0, .inl (cA 0, 326, .inl fs))] s.heap.size = A at hD hZ ⊢
  have hA : ∀ q : Nat, s.heap.size ≤ q → A q := fun q h => by rw [← hAe]; exact Or.inr h
  have hS : va_S A s.heap s.heap [] := va_S.rf
  have hP : va_P D vwCl [(oX10 w0 v0 v1 v2 v3 v4 g5 g6 (nI ed) g8 v9 (nI nb) g11 g12 v13 g14 g15 g16 g17 g18 g19 g20 g21 g22 g23 g24 g25 g26 v27 v28 v29 v30 v31 v32 v33 v34 v35 v36 v37 (nI ol)), (v0, .inl (cA 0, 326, .inl fs))] s.heap := hP
  have hl := lv_entry ([.ref w0]) (n := 3) (Nat.le_of_ble_eq_true rfl)
  rw [lg_entry_eq]
  generalize (lg_sl ([.ref w0]) ++ List.replicate (3 - (lg_sl ([.ref w0])).length) Slot.unset).toArray = ls at hl ⊢
  have hl : lv_has ls 3 [(0, .ref w0)] := hl
  have inX10 : ∀ w ∈ u_ws RX10 TX10 39, w ∈ wsX10_doneSet := by decide +kernel
  refine lv_iconst (v := 0) hx hb dX10_doneSet_0 (by decide) ?_
  refine lv_istore_n (lv' := [(1, .int 0), (0, .ref w0)]) hx hb dX10_doneSet_1 rfl hl (by decide) rfl (fun ls hl => ?_)
  refine lv_iconst (v := 0) hx hb dX10_doneSet_2 (by decide) ?_
  refine lv_istore_n (lv' := [(2, .int 0), (1, .int 0), (0, .ref w0)]) hx hb dX10_doneSet_3 rfl hl (by decide) rfl (fun ls hl => ?_)
  have loop1 : ∀ (n1 i1 : Nat) (x1_1 : Int32) (H : Heap) (locs : List Loc) (ls : Array Slot), i1 + n1 = cn → va_P D vwCl [(oX10 w0 v0 v1 v2 v3 v4 g5 g6 (nI ed) g8 v9 (nI nb) g11 g12 v13 g14 g15 g16 g17 g18 g19 g20 g21 g22 g23 g24 g25 g26 v27 v28 v29 v30 v31 v32 v33 v34 v35 v36 v37 (nI ol)), (v0, .inl (cA 0, 326, .inl fs))] H → va_D A [(oX10 w0 v0 v1 v2 v3 v4 g5 g6 (nI ed) g8 v9 (nI nb) g11 g12 v13 g14 g15 g16 g17 g18 g19 g20 g21 g22 g23 g24 g25 g26 v27 v28 v29 v30 v31 v32 v33 v34 v35 v36 v37 (nI ol)), (v0, .inl (cA 0, 326, .inl fs))] → va_S A s.heap H locs → lv_has ls 3 [(2, .int (nI i1)), (1, .int x1_1), (0, .ref w0)] → W p l e (headSpec wsX10_doneSet ({ frames := 1, cells := 0, slots := 0, locals := 22 } : Room)).room s m ([.ref w0] : List Value).toArray below meth c H locs 0 0 (MQ below (va_Qi (fun (r : Int32) (_ : Unit) => True) (fun (_ : Unit) t => Wq D A [(oX10 w0 v0 v1 v2 v3 v4 g5 g6 (nI ed) g8 v9 (nI nb) g11 g12 v13 g14 g15 g16 g17 g18 g19 g20 g21 g22 g23 g24 g25 g26 v27 v28 v29 v30 v31 v32 v33 v34 v35 v36 v37 (nI ol)), (v0, .inl (cA 0, 326, .inl fs))] t) A) ([.ref w0] : List Value).toArray s 0 0 A) (F0 m 4 ls []) := by
    intro n1
    induction n1 with
    | zero =>
      intro i1 x1_1 H locs ls hi1 hP hD hS hl
      obtain rfl : cn = i1 := by omega
      refine lv_iload_n hx hb dX10_doneSet_4 rfl (lv_at hl 0 rfl) ?_
      refine lv_aload_n hx hb dX10_doneSet_5 rfl (lv_at hl 2 rfl) ?_
      refine va_get (D := D) (ci := 11) (v := .ref v0) (C := RX10) (T := TX10) (N := 39) hx hb hts inX10 hown hK hP 0 rfl rfl 0 (by decide) (hts (.fieldLink RX10 7 "EscrowDeskModel" "s" "[I") (by decide +kernel)) (fun _ h9 => h9) rfl dX10_doneSet_6 ?_
      refine lv_bipush (v := 13) hx hb dX10_doneSet_9 (by decide) ?_
      refine va_iald hx hb hK hP 1 0 rfl rfl (vp_in_iff.mpr (by decide)) dX10_doneSet_11 ?_
      refine lv_topi (fun yn1 eyn1 => ?_)
      obtain rfl : yn1 = (nI cn) := eyn1.trans hri.1
      refine lv_icmp_ge (tgt := 51) hx hb dX10_doneSet_12 (by decide) (fun c2 => ?_) (fun c9 => absurd (nI_le (a := cn) (b := cn) (show cn ≤ cn by omega) (by omega)) c9)
      refine lv_iload_n hx hb dX10_doneSet_51 rfl (lv_at hl 1 rfl) ?_
      obtain ⟨hP9, hD9⟩ := PDq.sub (ws' := [(oX10 w0 v0 v1 v2 v3 v4 g5 g6 (nI ed) g8 v9 (nI nb) g11 g12 v13 g14 g15 g16 g17 g18 g19 g20 g21 g22 g23 g24 g25 g26 v27 v28 v29 v30 v31 v32 v33 v34 v35 v36 v37 (nI ol)), (v0, .inl (cA 0, 326, .inl fs))]) hP hD [0, 1] (by decide) rfl
      refine W.widen (k := 0) (n := 0) (Nat.le_of_ble_eq_true rfl) (Nat.le_of_ble_eq_true rfl) ?_
      exact (W.iret (v := x1_1) hx hb hr (fun t ht hW => ⟨⟨x1_1, (), rfl, trivial, by rw [ht]; exact hP9, hD9⟩, hS.F ht⟩) hS.2.2 dX10_doneSet_52)
    | succ n1 ih1 =>
      intro i1 x1_1 H locs ls hi1 hP hD hS hl
      refine lv_iload_n hx hb dX10_doneSet_4 rfl (lv_at hl 0 rfl) ?_
      refine lv_aload_n hx hb dX10_doneSet_5 rfl (lv_at hl 2 rfl) ?_
      refine va_get (D := D) (ci := 11) (v := .ref v0) (C := RX10) (T := TX10) (N := 39) hx hb hts inX10 hown hK hP 0 rfl rfl 0 (by decide) (hts (.fieldLink RX10 7 "EscrowDeskModel" "s" "[I") (by decide +kernel)) (fun _ h9 => h9) rfl dX10_doneSet_6 ?_
      refine lv_bipush (v := 13) hx hb dX10_doneSet_9 (by decide) ?_
      refine va_iald hx hb hK hP 1 0 rfl rfl (vp_in_iff.mpr (by decide)) dX10_doneSet_11 ?_
      refine lv_topi (fun yn3 eyn3 => ?_)
      obtain rfl : yn3 = (nI cn) := eyn3.trans hri.1
      refine lv_icmp_ge (tgt := 51) hx hb dX10_doneSet_12 (by decide) (fun c9 => absurd c9 (nI_ge (a := i1) (b := cn) (show i1 < cn by omega) (by omega))) (fun c4 => ?_)
      refine lv_iload_n hx hb dX10_doneSet_15 rfl (lv_at hl 1 rfl) ?_
      refine lv_aload_n hx hb dX10_doneSet_16 rfl (lv_at hl 2 rfl) ?_
      refine lv_iload_n hx hb dX10_doneSet_17 rfl (lv_at hl 0 rfl) ?_
      refine lv_iconst (v := 2) hx hb dX10_doneSet_18 (by decide) ?_
      obtain ⟨hPc, hDc, hFc⟩ := PDq.cut (wc := [(oX10 w0 v0 v1 v2 v3 v4 g5 g6 (nI ed) g8 v9 (nI nb) g11 g12 v13 g14 g15 g16 g17 g18 g19 g20 g21 g22 g23 g24 g25 g26 v27 v28 v29 v30 v31 v32 v33 v34 v35 v36 v37 (nI ol)), (v0, .inl (cA 0, 326, .inl fs))]) hP hD hS hA [0, 1] (by decide) rfl
      refine va_calli (va_runV (As := [.int (nI i1), .int 2]) (rest := [.int x1_1]) ⟨hx, hb, hml, hown, hts⟩ (r_of l D cA sa w0 ed nb ol v0 v1 v2 v3 v4 v9 v13 v27 v28 v29 v30 v31 v32 v33 v34 v35 v36 v37 g8 g11 g12 g14 g15 g16 g17 g18 g19 g20 g21 g22 g23 g24 g26 g5 g6 g25 fs i1 2 H.size (by omega) (by omega)) (cwV 2 hts gX10_doneSet_X10_of rfl rfl rfl (by decide +kernel) ⟨(Nat.le_of_ble_eq_true rfl), (Nat.le_of_ble_eq_true rfl)⟩) ⟨Wd.blind, va_recv hK hPc (ci := 11) (q0 := 0) rfl rfl, fun U hU hW => ⟨rfl, Wd.call hPc hDc hK hC hZ hS hFc U hU hW⟩⟩ rfl rfl hl.1 rfl (lv_room (Nat.le_of_ble_eq_true rfl)) dX10_doneSet_19 ⟨(Nat.le_of_ble_eq_true rfl), (Nat.le_of_ble_eq_true rfl)⟩) hS (fun q _ h => hFc q h) hFc (fun rn5 u t H1 locs ht hvm hw hB hz1 hk1 hS => ?_)
      obtain ⟨hP1, hD1⟩ := hB
      rw [ht] at hP1
      obtain ⟨hP, hD⟩ := PDq.join (w := [(oX10 w0 v0 v1 v2 v3 v4 g5 g6 (nI ed) g8 v9 (nI nb) g11 g12 v13 g14 g15 g16 g17 g18 g19 g20 g21 g22 g23 g24 g25 g26 v27 v28 v29 v30 v31 v32 v33 v34 v35 v36 v37 (nI ol)), (v0, .inl (cA 0, 326, .inl fs))]) 0 hP hD [0, 1] [] rfl rfl (by decide) (by decide) hk1 hFc hP1 hD1 rfl
      generalize H1 = H at hP hS ⊢
      obtain rfl : rn5 = (fs (16 + 7 * i1 + 2)) := hw
      refine lv_iconst (v := 3) hx hb dX10_doneSet_22 (by decide) ?_
      refine lv_icmp_eq (tgt := 36) hx hb dX10_doneSet_23 (by decide) (fun c6 => ?_) (fun c6 => ?_)
      · skip
        refine lv_iconst (v := 1) hx hb dX10_doneSet_36 (by decide) ?_
        refine lv_iload_n hx hb dX10_doneSet_37 rfl (lv_at hl 0 rfl) ?_
        refine lv_ishl hx hb dX10_doneSet_38 ?_
        refine lv_topi (fun yn7 eyn7 => ?_)
        refine lv_goto (tgt := 43) hx hb dX10_doneSet_39 (by decide) ?_
        refine lv_ior hx hb dX10_doneSet_43 ?_
        refine lv_topi (fun yn8 eyn8 => ?_)
        refine lv_istore_n (lv' := [(1, .int yn8), (2, .int (nI i1)), (0, .ref w0)]) hx hb dX10_doneSet_44 rfl hl (by decide) rfl (fun ls hl => ?_)
        refine lv_iinc (v := (nI (i1 + 1))) (lv' := [(2, .int (nI (i1 + 1))), (1, .int yn8), (0, .ref w0)]) hx hb dX10_doneSet_45 hl (k := 1) rfl (nI_1 _) (by decide) rfl (fun ls hl => ?_)
        refine lv_goto (tgt := 4) hx hb dX10_doneSet_48 (by decide) ?_
        obtain ⟨hP9, hD9⟩ := PDq.sub (ws' := [(oX10 w0 v0 v1 v2 v3 v4 g5 g6 (nI ed) g8 v9 (nI nb) g11 g12 v13 g14 g15 g16 g17 g18 g19 g20 g21 g22 g23 g24 g25 g26 v27 v28 v29 v30 v31 v32 v33 v34 v35 v36 v37 (nI ol)), (v0, .inl (cA 0, 326, .inl fs))]) hP hD [0, 1] (by decide) rfl
        exact ih1 (i1 + 1) yn8 H _ ls (by omega) hP9 hD9 hS (lv_sub hl [0, 1, 2] rfl)
      · skip
        refine lv_aload_n hx hb dX10_doneSet_26 rfl (lv_at hl 2 rfl) ?_
        refine lv_iload_n hx hb dX10_doneSet_27 rfl (lv_at hl 0 rfl) ?_
        refine lv_iconst (v := 2) hx hb dX10_doneSet_28 (by decide) ?_
        obtain ⟨hPc, hDc, hFc⟩ := PDq.cut (wc := [(oX10 w0 v0 v1 v2 v3 v4 g5 g6 (nI ed) g8 v9 (nI nb) g11 g12 v13 g14 g15 g16 g17 g18 g19 g20 g21 g22 g23 g24 g25 g26 v27 v28 v29 v30 v31 v32 v33 v34 v35 v36 v37 (nI ol)), (v0, .inl (cA 0, 326, .inl fs))]) hP hD hS hA [0, 1] (by decide) rfl
        refine va_calli (va_runV (As := [.int (nI i1), .int 2]) (rest := [.int x1_1]) ⟨hx, hb, hml, hown, hts⟩ (r_of l D cA sa w0 ed nb ol v0 v1 v2 v3 v4 v9 v13 v27 v28 v29 v30 v31 v32 v33 v34 v35 v36 v37 g8 g11 g12 g14 g15 g16 g17 g18 g19 g20 g21 g22 g23 g24 g26 g5 g6 g25 fs i1 2 H.size (by omega) (by omega)) (cwV 2 hts gX10_doneSet_X10_of rfl rfl rfl (by decide +kernel) ⟨(Nat.le_of_ble_eq_true rfl), (Nat.le_of_ble_eq_true rfl)⟩) ⟨Wd.blind, va_recv hK hPc (ci := 11) (q0 := 0) rfl rfl, fun U hU hW => ⟨rfl, Wd.call hPc hDc hK hC hZ hS hFc U hU hW⟩⟩ rfl rfl hl.1 rfl (lv_room (Nat.le_of_ble_eq_true rfl)) dX10_doneSet_29 ⟨(Nat.le_of_ble_eq_true rfl), (Nat.le_of_ble_eq_true rfl)⟩) hS (fun q _ h => hFc q h) hFc (fun rn9 u t H1 locs ht hvm hw hB hz1 hk1 hS => ?_)
        obtain ⟨hP1, hD1⟩ := hB
        rw [ht] at hP1
        obtain ⟨hP, hD⟩ := PDq.join (w := [(oX10 w0 v0 v1 v2 v3 v4 g5 g6 (nI ed) g8 v9 (nI nb) g11 g12 v13 g14 g15 g16 g17 g18 g19 g20 g21 g22 g23 g24 g25 g26 v27 v28 v29 v30 v31 v32 v33 v34 v35 v36 v37 (nI ol)), (v0, .inl (cA 0, 326, .inl fs))]) 0 hP hD [0, 1] [] rfl rfl (by decide) (by decide) hk1 hFc hP1 hD1 rfl
        generalize H1 = H at hP hS ⊢
        obtain rfl : rn9 = (fs (16 + 7 * i1 + 2)) := hw
        refine lv_iconst (v := 4) hx hb dX10_doneSet_32 (by decide) ?_
        refine lv_icmp_ne (tgt := 42) hx hb dX10_doneSet_33 (by decide) (fun c10 => ?_) (fun c10 => ?_)
        · skip
          refine lv_iconst (v := 0) hx hb dX10_doneSet_42 (by decide) ?_
          refine lv_ior hx hb dX10_doneSet_43 ?_
          refine lv_topi (fun yn11 eyn11 => ?_)
          refine lv_istore_n (lv' := [(1, .int yn11), (2, .int (nI i1)), (0, .ref w0)]) hx hb dX10_doneSet_44 rfl hl (by decide) rfl (fun ls hl => ?_)
          refine lv_iinc (v := (nI (i1 + 1))) (lv' := [(2, .int (nI (i1 + 1))), (1, .int yn11), (0, .ref w0)]) hx hb dX10_doneSet_45 hl (k := 1) rfl (nI_1 _) (by decide) rfl (fun ls hl => ?_)
          refine lv_goto (tgt := 4) hx hb dX10_doneSet_48 (by decide) ?_
          obtain ⟨hP9, hD9⟩ := PDq.sub (ws' := [(oX10 w0 v0 v1 v2 v3 v4 g5 g6 (nI ed) g8 v9 (nI nb) g11 g12 v13 g14 g15 g16 g17 g18 g19 g20 g21 g22 g23 g24 g25 g26 v27 v28 v29 v30 v31 v32 v33 v34 v35 v36 v37 (nI ol)), (v0, .inl (cA 0, 326, .inl fs))]) hP hD [0, 1] (by decide) rfl
          exact ih1 (i1 + 1) yn11 H _ ls (by omega) hP9 hD9 hS (lv_sub hl [0, 1, 2] rfl)
        · skip
          refine lv_iconst (v := 1) hx hb dX10_doneSet_36 (by decide) ?_
          refine lv_iload_n hx hb dX10_doneSet_37 rfl (lv_at hl 0 rfl) ?_
          refine lv_ishl hx hb dX10_doneSet_38 ?_
          refine lv_topi (fun yn12 eyn12 => ?_)
          refine lv_goto (tgt := 43) hx hb dX10_doneSet_39 (by decide) ?_
          refine lv_ior hx hb dX10_doneSet_43 ?_
          refine lv_topi (fun yn13 eyn13 => ?_)
          refine lv_istore_n (lv' := [(1, .int yn13), (2, .int (nI i1)), (0, .ref w0)]) hx hb dX10_doneSet_44 rfl hl (by decide) rfl (fun ls hl => ?_)
          refine lv_iinc (v := (nI (i1 + 1))) (lv' := [(2, .int (nI (i1 + 1))), (1, .int yn13), (0, .ref w0)]) hx hb dX10_doneSet_45 hl (k := 1) rfl (nI_1 _) (by decide) rfl (fun ls hl => ?_)
          refine lv_goto (tgt := 4) hx hb dX10_doneSet_48 (by decide) ?_
          obtain ⟨hP9, hD9⟩ := PDq.sub (ws' := [(oX10 w0 v0 v1 v2 v3 v4 g5 g6 (nI ed) g8 v9 (nI nb) g11 g12 v13 g14 g15 g16 g17 g18 g19 g20 g21 g22 g23 g24 g25 g26 v27 v28 v29 v30 v31 v32 v33 v34 v35 v36 v37 (nI ol)), (v0, .inl (cA 0, 326, .inl fs))]) hP hD [0, 1] (by decide) rfl
          exact ih1 (i1 + 1) yn13 H _ ls (by omega) hP9 hD9 hS (lv_sub hl [0, 1, 2] rfl)
  obtain ⟨hP9, hD9⟩ := PDq.sub (ws' := [(oX10 w0 v0 v1 v2 v3 v4 g5 g6 (nI ed) g8 v9 (nI nb) g11 g12 v13 g14 g15 g16 g17 g18 g19 g20 g21 g22 g23 g24 g25 g26 v27 v28 v29 v30 v31 v32 v33 v34 v35 v36 v37 (nI ol)), (v0, .inl (cA 0, 326, .inl fs))]) hP hD [0, 1] (by decide) rfl
  exact loop1 (cn - 0) 0 0 _ _ ls (by omega) hP9 hD9 hS (lv_sub hl [0, 1, 2] rfl)

set_option maxHeartbeats 4000000 in
set_option maxRecDepth 100000 in
/-- reference: good -/
theorem r_good0 (l : Launch) (D : va_G) (cA : Nat → ClassId) (sa : Nat → Nat) (w0 : Nat) (ed : Nat) (nb : Nat) (ol : Nat) (v0 : Nat) (v1 : Nat) (v2 : Nat) (v3 : Nat) (v4 : Nat) (v9 : Nat) (v13 : Nat) (v27 : Nat) (v28 : Nat) (v29 : Nat) (v30 : Nat) (v31 : Nat) (v32 : Nat) (v33 : Nat) (v34 : Nat) (v35 : Nat) (v36 : Nat) (v37 : Nat) (g8 : Int32) (g11 : Int32) (g12 : Int32) (g14 : Int32) (g15 : Int32) (g16 : Int32) (g17 : Int32) (g18 : Int32) (g19 : Int32) (g20 : Int32) (g21 : Int32) (g22 : Int32) (g23 : Int32) (g24 : Int32) (g26 : Int32) (g5 : Int64) (g6 : Int64) (g25 : Int64) (sz : Nat) : Met l yX10_good wsX10_good ({ frames := 0, cells := 0, slots := 0, locals := 0 }) (va_Pc [.ref w0, .int 0] (Wd D cA sa [(oX10 w0 v0 v1 v2 v3 v4 g5 g6 (nI ed) g8 v9 (nI nb) g11 g12 v13 g14 g15 g16 g17 g18 g19 g20 g21 g22 g23 g24 g25 g26 v27 v28 v29 v30 v31 v32 v33 v34 v35 v36 v37 (nI ol))] sz)) (va_Qi (fun (r : Int32) (_ : Unit) => r = 0) (fun (_ : Unit) t => Wq D (va_A [(oX10 w0 v0 v1 v2 v3 v4 g5 g6 (nI ed) g8 v9 (nI nb) g11 g12 v13 g14 g15 g16 g17 g18 g19 g20 g21 g22 g23 g24 g25 g26 v27 v28 v29 v30 v31 v32 v33 v34 v35 v36 v37 (nI ol))] sz) [(oX10 w0 v0 v1 v2 v3 v4 g5 g6 (nI ed) 1 v9 (nI nb) g11 g12 v13 g14 g15 g16 g17 g18 g19 g20 g21 g22 g23 g24 g25 g26 v27 v28 v29 v30 v31 v32 v33 v34 v35 v36 v37 (nI ol))] t) (va_A [(oX10 w0 v0 v1 v2 v3 v4 g5 g6 (nI ed) g8 v9 (nI nb) g11 g12 v13 g14 g15 g16 g17 g18 g19 g20 g21 g22 g23 g24 g25 g26 v27 v28 v29 v30 v31 v32 v33 v34 v35 v36 v37 (nI ol))] sz)) 0 0 (va_A [(oX10 w0 v0 v1 v2 v3 v4 g5 g6 (nI ed) g8 v9 (nI nb) g11 g12 v13 g14 g15 g16 g17 g18 g19 g20 g21 g22 g23 g24 g25 g26 v27 v28 v29 v30 v31 v32 v33 v34 v35 v36 v37 (nI ol))] sz) := by
  refine Met.ofW (cc := cX10_good) (maxL := 2) (ret := (some .boolean)) (by decide) rfl ?_
  intro p e s m args below meth c s₁ B hml hv
  obtain ⟨rfl, hsz, hP, hK, hD0, hC, hZ⟩ := hv
  have hx := B.exec
  have hb := B.bytes
  have hr := B.returns
  have hts := atoms_spec (ws := wsX10_good) B.pre
  have hown : s.vm.findClass RX10 = some m.cls := findClass_of_methodNamed B.named
  have hlocks := B.notSynchronized
  subst hsz
  have hD := hD0.self (sz := s.heap.size)
  generalize hAe : va_A [(oX10 w0 v0 v1 v2 v3 v4 g5 g6 (nI ed) g8 v9 (nI nb) g11 g12 v13 g14 g15 g16 g17 g18 g19 g20 g21 g22 g23 g24 g25 g26 v27 v28 v29 v30 v31 v32 v33 v34 v35 v36 v37 (nI ol))] s.heap.size = A at hD hZ ⊢
  have hA : ∀ q : Nat, s.heap.size ≤ q → A q := fun q h => by rw [← hAe]; exact Or.inr h
  have hS : va_S A s.heap s.heap [] := va_S.rf
  have hP : va_P D vwCl [(oX10 w0 v0 v1 v2 v3 v4 g5 g6 (nI ed) g8 v9 (nI nb) g11 g12 v13 g14 g15 g16 g17 g18 g19 g20 g21 g22 g23 g24 g25 g26 v27 v28 v29 v30 v31 v32 v33 v34 v35 v36 v37 (nI ol))] s.heap := hP
  have hl := lv_entry ([.ref w0, .int 0]) (n := 2) (Nat.le_of_ble_eq_true rfl)
  rw [lg_entry_eq]
  generalize (lg_sl ([.ref w0, .int 0]) ++ List.replicate (2 - (lg_sl ([.ref w0, .int 0])).length) Slot.unset).toArray = ls at hl ⊢
  have hl : lv_has ls 2 [(0, .ref w0), (1, .int 0)] := hl
  have inX10 : ∀ w ∈ u_ws RX10 TX10 39, w ∈ wsX10_good := by decide +kernel
  refine lv_aload_n hx hb dX10_good_0 rfl (lv_at hl 0 rfl) ?_
  refine lv_iload_n hx hb dX10_good_1 rfl (lv_at hl 1 rfl) ?_
  refine lv_if_eq (tgt := 9) hx hb dX10_good_2 (by decide) (fun c1 => ?_) (fun c9 => absurd c9 (by decide))
  refine lv_iconst (v := 1) hx hb dX10_good_9 (by decide) ?_
  refine va_put (D := D) (ci := 11) (v := .int 1) (ty := .int) (C := RX10) (T := TX10) (N := 39) hx hb hts inX10 tyX10 tyX10_ok nmX10 hown hK hP hD hS 0 rfl rfl 8 (by decide) (hts (.fieldLink RX10 80 "EscrowDeskModel" "thrown" "I") (by decide +kernel)) (fun _ h9 => h9) rfl (by decide +kernel) rfl rfl (Nat.le_of_ble_eq_true rfl) dX10_good_10 (fun H locs hP hD hS => ?_)
  obtain ⟨hP, hD⟩ : PDq D A [(oX10 w0 v0 v1 v2 v3 v4 g5 g6 (nI ed) 1 v9 (nI nb) g11 g12 v13 g14 g15 g16 g17 g18 g19 g20 g21 g22 g23 g24 g25 g26 v27 v28 v29 v30 v31 v32 v33 v34 v35 v36 v37 (nI ol))] H := ⟨hP, hD⟩
  refine lv_iload_n hx hb dX10_good_13 rfl (lv_at hl 1 rfl) ?_
  obtain ⟨hP9, hD9⟩ := PDq.sub (ws' := [(oX10 w0 v0 v1 v2 v3 v4 g5 g6 (nI ed) 1 v9 (nI nb) g11 g12 v13 g14 g15 g16 g17 g18 g19 g20 g21 g22 g23 g24 g25 g26 v27 v28 v29 v30 v31 v32 v33 v34 v35 v36 v37 (nI ol))]) hP hD [0] (by decide) rfl
  refine W.widen (k := 0) (n := 0) (Nat.le_of_ble_eq_true rfl) (Nat.le_of_ble_eq_true rfl) ?_
  exact (W.zret (v := 0) hx hb hr (by first | rfl | decide) (fun t ht hW => ⟨⟨0, (), rfl, rfl, by rw [ht]; exact hP9, hD9⟩, hS.F ht⟩) hS.2.2 dX10_good_14)

set_option maxHeartbeats 4000000 in
set_option maxRecDepth 100000 in
/-- reference: good -/
theorem r_good1 (l : Launch) (D : va_G) (cA : Nat → ClassId) (sa : Nat → Nat) (w0 : Nat) (ed : Nat) (nb : Nat) (ol : Nat) (v0 : Nat) (v1 : Nat) (v2 : Nat) (v3 : Nat) (v4 : Nat) (v9 : Nat) (v13 : Nat) (v27 : Nat) (v28 : Nat) (v29 : Nat) (v30 : Nat) (v31 : Nat) (v32 : Nat) (v33 : Nat) (v34 : Nat) (v35 : Nat) (v36 : Nat) (v37 : Nat) (g8 : Int32) (g11 : Int32) (g12 : Int32) (g14 : Int32) (g15 : Int32) (g16 : Int32) (g17 : Int32) (g18 : Int32) (g19 : Int32) (g20 : Int32) (g21 : Int32) (g22 : Int32) (g23 : Int32) (g24 : Int32) (g26 : Int32) (g5 : Int64) (g6 : Int64) (g25 : Int64) (sz : Nat) : Met l yX10_good wsX10_good ({ frames := 0, cells := 0, slots := 0, locals := 0 }) (va_Pc [.ref w0, .int 1] (Wd D cA sa [(oX10 w0 v0 v1 v2 v3 v4 g5 g6 (nI ed) g8 v9 (nI nb) g11 g12 v13 g14 g15 g16 g17 g18 g19 g20 g21 g22 g23 g24 g25 g26 v27 v28 v29 v30 v31 v32 v33 v34 v35 v36 v37 (nI ol))] sz)) (va_Qi (fun (r : Int32) (_ : Unit) => r = 1) (fun (_ : Unit) t => Wq D (va_A [(oX10 w0 v0 v1 v2 v3 v4 g5 g6 (nI ed) g8 v9 (nI nb) g11 g12 v13 g14 g15 g16 g17 g18 g19 g20 g21 g22 g23 g24 g25 g26 v27 v28 v29 v30 v31 v32 v33 v34 v35 v36 v37 (nI ol))] sz) [(oX10 w0 v0 v1 v2 v3 v4 g5 g6 (nI ed) 0 v9 (nI nb) g11 g12 v13 g14 g15 g16 g17 g18 g19 g20 g21 g22 g23 g24 g25 g26 v27 v28 v29 v30 v31 v32 v33 v34 v35 v36 v37 (nI ol))] t) (va_A [(oX10 w0 v0 v1 v2 v3 v4 g5 g6 (nI ed) g8 v9 (nI nb) g11 g12 v13 g14 g15 g16 g17 g18 g19 g20 g21 g22 g23 g24 g25 g26 v27 v28 v29 v30 v31 v32 v33 v34 v35 v36 v37 (nI ol))] sz)) 0 0 (va_A [(oX10 w0 v0 v1 v2 v3 v4 g5 g6 (nI ed) g8 v9 (nI nb) g11 g12 v13 g14 g15 g16 g17 g18 g19 g20 g21 g22 g23 g24 g25 g26 v27 v28 v29 v30 v31 v32 v33 v34 v35 v36 v37 (nI ol))] sz) := by
  refine Met.ofW (cc := cX10_good) (maxL := 2) (ret := (some .boolean)) (by decide) rfl ?_
  intro p e s m args below meth c s₁ B hml hv
  obtain ⟨rfl, hsz, hP, hK, hD0, hC, hZ⟩ := hv
  have hx := B.exec
  have hb := B.bytes
  have hr := B.returns
  have hts := atoms_spec (ws := wsX10_good) B.pre
  have hown : s.vm.findClass RX10 = some m.cls := findClass_of_methodNamed B.named
  have hlocks := B.notSynchronized
  subst hsz
  have hD := hD0.self (sz := s.heap.size)
  generalize hAe : va_A [(oX10 w0 v0 v1 v2 v3 v4 g5 g6 (nI ed) g8 v9 (nI nb) g11 g12 v13 g14 g15 g16 g17 g18 g19 g20 g21 g22 g23 g24 g25 g26 v27 v28 v29 v30 v31 v32 v33 v34 v35 v36 v37 (nI ol))] s.heap.size = A at hD hZ ⊢
  have hA : ∀ q : Nat, s.heap.size ≤ q → A q := fun q h => by rw [← hAe]; exact Or.inr h
  have hS : va_S A s.heap s.heap [] := va_S.rf
  have hP : va_P D vwCl [(oX10 w0 v0 v1 v2 v3 v4 g5 g6 (nI ed) g8 v9 (nI nb) g11 g12 v13 g14 g15 g16 g17 g18 g19 g20 g21 g22 g23 g24 g25 g26 v27 v28 v29 v30 v31 v32 v33 v34 v35 v36 v37 (nI ol))] s.heap := hP
  have hl := lv_entry ([.ref w0, .int 1]) (n := 2) (Nat.le_of_ble_eq_true rfl)
  rw [lg_entry_eq]
  generalize (lg_sl ([.ref w0, .int 1]) ++ List.replicate (2 - (lg_sl ([.ref w0, .int 1])).length) Slot.unset).toArray = ls at hl ⊢
  have hl : lv_has ls 2 [(0, .ref w0), (1, .int 1)] := hl
  have inX10 : ∀ w ∈ u_ws RX10 TX10 39, w ∈ wsX10_good := by decide +kernel
  refine lv_aload_n hx hb dX10_good_0 rfl (lv_at hl 0 rfl) ?_
  refine lv_iload_n hx hb dX10_good_1 rfl (lv_at hl 1 rfl) ?_
  refine lv_if_eq (tgt := 9) hx hb dX10_good_2 (by decide) (fun c9 => absurd c9 (by decide)) (fun c1 => ?_)
  refine lv_iconst (v := 0) hx hb dX10_good_5 (by decide) ?_
  refine lv_goto (tgt := 10) hx hb dX10_good_6 (by decide) ?_
  refine va_put (D := D) (ci := 11) (v := .int 0) (ty := .int) (C := RX10) (T := TX10) (N := 39) hx hb hts inX10 tyX10 tyX10_ok nmX10 hown hK hP hD hS 0 rfl rfl 8 (by decide) (hts (.fieldLink RX10 80 "EscrowDeskModel" "thrown" "I") (by decide +kernel)) (fun _ h9 => h9) rfl (by decide +kernel) rfl rfl (Nat.le_of_ble_eq_true rfl) dX10_good_10 (fun H locs hP hD hS => ?_)
  obtain ⟨hP, hD⟩ : PDq D A [(oX10 w0 v0 v1 v2 v3 v4 g5 g6 (nI ed) 0 v9 (nI nb) g11 g12 v13 g14 g15 g16 g17 g18 g19 g20 g21 g22 g23 g24 g25 g26 v27 v28 v29 v30 v31 v32 v33 v34 v35 v36 v37 (nI ol))] H := ⟨hP, hD⟩
  refine lv_iload_n hx hb dX10_good_13 rfl (lv_at hl 1 rfl) ?_
  obtain ⟨hP9, hD9⟩ := PDq.sub (ws' := [(oX10 w0 v0 v1 v2 v3 v4 g5 g6 (nI ed) 0 v9 (nI nb) g11 g12 v13 g14 g15 g16 g17 g18 g19 g20 g21 g22 g23 g24 g25 g26 v27 v28 v29 v30 v31 v32 v33 v34 v35 v36 v37 (nI ol))]) hP hD [0] (by decide) rfl
  refine W.widen (k := 0) (n := 0) (Nat.le_of_ble_eq_true rfl) (Nat.le_of_ble_eq_true rfl) ?_
  exact (W.zret (v := 1) hx hb hr (by first | rfl | decide) (fun t ht hW => ⟨⟨1, (), rfl, rfl, by rw [ht]; exact hP9, hD9⟩, hS.F ht⟩) hS.2.2 dX10_good_14)

set_option maxHeartbeats 4000000 in
set_option maxRecDepth 100000 in
/-- reference: good -/
theorem r_good (l : Launch) (D : va_G) (cA : Nat → ClassId) (sa : Nat → Nat) (w0 : Nat) (ed : Nat) (nb : Nat) (ol : Nat) (v0 : Nat) (v1 : Nat) (v2 : Nat) (v3 : Nat) (v4 : Nat) (v9 : Nat) (v13 : Nat) (v27 : Nat) (v28 : Nat) (v29 : Nat) (v30 : Nat) (v31 : Nat) (v32 : Nat) (v33 : Nat) (v34 : Nat) (v35 : Nat) (v36 : Nat) (v37 : Nat) (g8 : Int32) (g11 : Int32) (g12 : Int32) (g14 : Int32) (g15 : Int32) (g16 : Int32) (g17 : Int32) (g18 : Int32) (g19 : Int32) (g20 : Int32) (g21 : Int32) (g22 : Int32) (g23 : Int32) (g24 : Int32) (g26 : Int32) (g5 : Int64) (g6 : Int64) (g25 : Int64) (a : Int32) (sz : Nat) (hba : a = 0 ∨ a = 1) : Met l yX10_good wsX10_good ({ frames := 0, cells := 0, slots := 0, locals := 0 }) (va_Pc [.ref w0, .int a] (Wd D cA sa [(oX10 w0 v0 v1 v2 v3 v4 g5 g6 (nI ed) g8 v9 (nI nb) g11 g12 v13 g14 g15 g16 g17 g18 g19 g20 g21 g22 g23 g24 g25 g26 v27 v28 v29 v30 v31 v32 v33 v34 v35 v36 v37 (nI ol))] sz)) (va_Qi (fun (r : Int32) (_ : Unit) => r = a) (fun (_ : Unit) t => ∃ zt : Int32, Wq D (va_A [(oX10 w0 v0 v1 v2 v3 v4 g5 g6 (nI ed) g8 v9 (nI nb) g11 g12 v13 g14 g15 g16 g17 g18 g19 g20 g21 g22 g23 g24 g25 g26 v27 v28 v29 v30 v31 v32 v33 v34 v35 v36 v37 (nI ol))] sz) [(oX10 w0 v0 v1 v2 v3 v4 g5 g6 (nI ed) zt v9 (nI nb) g11 g12 v13 g14 g15 g16 g17 g18 g19 g20 g21 g22 g23 g24 g25 g26 v27 v28 v29 v30 v31 v32 v33 v34 v35 v36 v37 (nI ol))] t) (va_A [(oX10 w0 v0 v1 v2 v3 v4 g5 g6 (nI ed) g8 v9 (nI nb) g11 g12 v13 g14 g15 g16 g17 g18 g19 g20 g21 g22 g23 g24 g25 g26 v27 v28 v29 v30 v31 v32 v33 v34 v35 v36 v37 (nI ol))] sz)) 0 0 (va_A [(oX10 w0 v0 v1 v2 v3 v4 g5 g6 (nI ed) g8 v9 (nI nb) g11 g12 v13 g14 g15 g16 g17 g18 g19 g20 g21 g22 g23 g24 g25 g26 v27 v28 v29 v30 v31 v32 v33 v34 v35 v36 v37 (nI ol))] sz) := by
  refine Met.ofW (cc := cX10_good) (maxL := 2) (ret := (some .boolean)) (by decide) rfl ?_
  intro p e s m args below meth c s₁ B hml hv
  obtain ⟨rfl, hsz, hP, hK, hD0, hC, hZ⟩ := hv
  have hx := B.exec
  have hb := B.bytes
  have hr := B.returns
  have hts := atoms_spec (ws := wsX10_good) B.pre
  have hown : s.vm.findClass RX10 = some m.cls := findClass_of_methodNamed B.named
  have hlocks := B.notSynchronized
  subst hsz
  have hD := hD0.self (sz := s.heap.size)
  generalize hAe : va_A [(oX10 w0 v0 v1 v2 v3 v4 g5 g6 (nI ed) g8 v9 (nI nb) g11 g12 v13 g14 g15 g16 g17 g18 g19 g20 g21 g22 g23 g24 g25 g26 v27 v28 v29 v30 v31 v32 v33 v34 v35 v36 v37 (nI ol))] s.heap.size = A at hD hZ ⊢
  have hA : ∀ q : Nat, s.heap.size ≤ q → A q := fun q h => by rw [← hAe]; exact Or.inr h
  have hS : va_S A s.heap s.heap [] := va_S.rf
  have hP : va_P D vwCl [(oX10 w0 v0 v1 v2 v3 v4 g5 g6 (nI ed) g8 v9 (nI nb) g11 g12 v13 g14 g15 g16 g17 g18 g19 g20 g21 g22 g23 g24 g25 g26 v27 v28 v29 v30 v31 v32 v33 v34 v35 v36 v37 (nI ol))] s.heap := hP
  have hl := lv_entry ([.ref w0, .int a]) (n := 2) (Nat.le_of_ble_eq_true rfl)
  rw [lg_entry_eq]
  generalize (lg_sl ([.ref w0, .int a]) ++ List.replicate (2 - (lg_sl ([.ref w0, .int a])).length) Slot.unset).toArray = ls at hl ⊢
  have hl : lv_has ls 2 [(0, .ref w0), (1, .int a)] := hl
  have inX10 : ∀ w ∈ u_ws RX10 TX10 39, w ∈ wsX10_good := by decide +kernel
  refine lv_aload_n hx hb dX10_good_0 rfl (lv_at hl 0 rfl) ?_
  refine lv_iload_n hx hb dX10_good_1 rfl (lv_at hl 1 rfl) ?_
  refine lv_if_eq (tgt := 9) hx hb dX10_good_2 (by decide) (fun c1 => ?_) (fun c1 => ?_)
  · skip
    rw [c1] at hl
    have hl : lv_has ls 2 [(0, .ref w0), (1, .int 0)] := hl
    refine lv_iconst (v := 1) hx hb dX10_good_9 (by decide) ?_
    refine va_put (D := D) (ci := 11) (v := .int 1) (ty := .int) (C := RX10) (T := TX10) (N := 39) hx hb hts inX10 tyX10 tyX10_ok nmX10 hown hK hP hD hS 0 rfl rfl 8 (by decide) (hts (.fieldLink RX10 80 "EscrowDeskModel" "thrown" "I") (by decide +kernel)) (fun _ h9 => h9) rfl (by decide +kernel) rfl rfl (Nat.le_of_ble_eq_true rfl) dX10_good_10 (fun H locs hP hD hS => ?_)
    obtain ⟨hP, hD⟩ : PDq D A [(oX10 w0 v0 v1 v2 v3 v4 g5 g6 (nI ed) 1 v9 (nI nb) g11 g12 v13 g14 g15 g16 g17 g18 g19 g20 g21 g22 g23 g24 g25 g26 v27 v28 v29 v30 v31 v32 v33 v34 v35 v36 v37 (nI ol))] H := ⟨hP, hD⟩
    refine lv_iload_n hx hb dX10_good_13 rfl (lv_at hl 1 rfl) ?_
    obtain ⟨hP9, hD9⟩ := PDq.sub (ws' := [(oX10 w0 v0 v1 v2 v3 v4 g5 g6 (nI ed) 1 v9 (nI nb) g11 g12 v13 g14 g15 g16 g17 g18 g19 g20 g21 g22 g23 g24 g25 g26 v27 v28 v29 v30 v31 v32 v33 v34 v35 v36 v37 (nI ol))]) hP hD [0] (by decide) rfl
    refine W.widen (k := 0) (n := 0) (Nat.le_of_ble_eq_true rfl) (Nat.le_of_ble_eq_true rfl) ?_
    exact (W.zret (v := 0) hx hb hr (by first | rfl | decide) (fun t ht hW => ⟨⟨0, (), rfl, (by show (0 : Int32) = a; first | rfl | assumption | (symm; assumption)), 1, by rw [ht]; exact hP9, hD9⟩, hS.F ht⟩) hS.2.2 dX10_good_14)
  · skip
    refine lv_iconst (v := 0) hx hb dX10_good_5 (by decide) ?_
    refine lv_goto (tgt := 10) hx hb dX10_good_6 (by decide) ?_
    refine va_put (D := D) (ci := 11) (v := .int 0) (ty := .int) (C := RX10) (T := TX10) (N := 39) hx hb hts inX10 tyX10 tyX10_ok nmX10 hown hK hP hD hS 0 rfl rfl 8 (by decide) (hts (.fieldLink RX10 80 "EscrowDeskModel" "thrown" "I") (by decide +kernel)) (fun _ h9 => h9) rfl (by decide +kernel) rfl rfl (Nat.le_of_ble_eq_true rfl) dX10_good_10 (fun H locs hP hD hS => ?_)
    obtain ⟨hP, hD⟩ : PDq D A [(oX10 w0 v0 v1 v2 v3 v4 g5 g6 (nI ed) 0 v9 (nI nb) g11 g12 v13 g14 g15 g16 g17 g18 g19 g20 g21 g22 g23 g24 g25 g26 v27 v28 v29 v30 v31 v32 v33 v34 v35 v36 v37 (nI ol))] H := ⟨hP, hD⟩
    refine lv_iload_n hx hb dX10_good_13 rfl (lv_at hl 1 rfl) ?_
    obtain ⟨hP9, hD9⟩ := PDq.sub (ws' := [(oX10 w0 v0 v1 v2 v3 v4 g5 g6 (nI ed) 0 v9 (nI nb) g11 g12 v13 g14 g15 g16 g17 g18 g19 g20 g21 g22 g23 g24 g25 g26 v27 v28 v29 v30 v31 v32 v33 v34 v35 v36 v37 (nI ol))]) hP hD [0] (by decide) rfl
    refine W.widen (k := 0) (n := 0) (Nat.le_of_ble_eq_true rfl) (Nat.le_of_ble_eq_true rfl) ?_
    exact (W.zret (v := a) hx hb hr (by rcases hba with h9 | h9 <;> rw [h9] <;> rfl) (fun t ht hW => ⟨⟨a, (), rfl, rfl, 0, by rw [ht]; exact hP9, hD9⟩, hS.F ht⟩) hS.2.2 dX10_good_14)

set_option maxHeartbeats 4000000 in
set_option maxRecDepth 100000 in
/-- reference: enter -/
theorem r_enter (l : Launch) (D : va_G) (cA : Nat → ClassId) (sa : Nat → Nat) (h0 : Nat) (cn : Nat) (pq : Nat) (en : Nat) (dy : Nat) (fs : Nat → Int32) (k : Int32) (a : Int32) (j : Int32) (sz : Nat) (hcn : cn ≤ 10) (hpq : pq ≤ 8) (hen : en ≤ 60) (hdy : dy ≤ 20000) (hri : RI cn pq en dy fs) : Met l yX10_enter wsX10_enter ({ frames := 0, cells := 0, slots := 0, locals := 0 }) (va_Pc [.ref h0, .int k, .int a, .int j] (Wd D cA sa [(h0, .inl (cA 0, 326, .inl fs))] sz)) (va_Qv (fun _ : Unit => True) (fun (_ : Unit) t => ∃ e2 : Nat, ∃ zs : Nat → Int32, e2 ≤ 60 ∧ RI cn pq e2 dy zs ∧ Wq D (va_A [(h0, .inl (cA 0, 326, .inl fs))] sz) [(h0, .inl (cA 0, 326, .inl zs))] t) (va_A [(h0, .inl (cA 0, 326, .inl fs))] sz)) 0 0 (va_A [(h0, .inl (cA 0, 326, .inl fs))] sz) := by
  refine Met.ofW (cc := cX10_enter) (maxL := 5) (ret := none) (by decide) rfl ?_
  intro p e s m args below meth c s₁ B hml hv
  obtain ⟨rfl, hsz, hP, hK, hD0, hC, hZ⟩ := hv
  have hx := B.exec
  have hb := B.bytes
  have hr := B.returns
  have hts := atoms_spec (ws := wsX10_enter) B.pre
  have hown : s.vm.findClass RX10 = some m.cls := findClass_of_methodNamed B.named
  have hlocks := B.notSynchronized
  subst hsz
  have hD := hD0.self (sz := s.heap.size)
  generalize hAe : va_A [(h0, .inl (cA 0, 326, .inl fs))] s.heap.size = A at hD hZ ⊢
  have hA : ∀ q : Nat, s.heap.size ≤ q → A q := fun q h => by rw [← hAe]; exact Or.inr h
  have hS : va_S A s.heap s.heap [] := va_S.rf
  have hP : va_P D vwCl [(h0, .inl (cA 0, 326, .inl fs))] s.heap := hP
  have hl := lv_entry ([.ref h0, .int k, .int a, .int j]) (n := 5) (Nat.le_of_ble_eq_true rfl)
  rw [lg_entry_eq]
  generalize (lg_sl ([.ref h0, .int k, .int a, .int j]) ++ List.replicate (5 - (lg_sl ([.ref h0, .int k, .int a, .int j])).length) Slot.unset).toArray = ls at hl ⊢
  have hl : lv_has ls 5 [(0, .ref h0), (1, .int k), (2, .int a), (3, .int j)] := hl
  refine lv_iload_n hx hb dX10_enter_0 rfl (lv_at hl 2 rfl) ?_
  refine lv_if_ne (tgt := 5) hx hb dX10_enter_1 (by decide) (fun c1 => ?_) (fun c1 => ?_)
  · skip
    refine lv_aload_n hx hb dX10_enter_5 rfl (lv_at hl 0 rfl) ?_
    refine lv_bipush (v := 15) hx hb dX10_enter_6 (by decide) ?_
    refine va_iald hx hb hK hP 0 0 rfl rfl (vp_in_iff.mpr (by decide)) dX10_enter_8 ?_
    refine lv_topi (fun yn2 eyn2 => ?_)
    obtain rfl : yn2 = (nI en) := eyn2.trans hri.2.2.1
    refine lv_bipush (v := 60) hx hb dX10_enter_9 (by decide) ?_
    refine lv_icmp_ne (tgt := 50) hx hb dX10_enter_11 (by decide) (fun c3 => ?_) (fun c3 => ?_)
    · skip
      have hn4 : ¬ en = 60 := fun h9 => c3 ((nI_eq (a := en) (b := 60) (by omega) (by omega)).mpr h9)
      refine lv_bipush (v := 86) hx hb dX10_enter_50 (by decide) ?_
      refine lv_iconst (v := 4) hx hb dX10_enter_52 (by decide) ?_
      refine lv_aload_n hx hb dX10_enter_53 rfl (lv_at hl 0 rfl) ?_
      refine lv_bipush (v := 15) hx hb dX10_enter_54 (by decide) ?_
      refine va_iald hx hb hK hP 0 0 rfl rfl (vp_in_iff.mpr (by decide)) dX10_enter_56 ?_
      refine lv_topi (fun yn5 eyn5 => ?_)
      obtain rfl : yn5 = (nI en) := eyn5.trans hri.2.2.1
      refine lv_imul hx hb dX10_enter_57 ?_
      refine lv_topi (fun yn6 eyn6 => ?_)
      obtain rfl : yn6 = (nI (4 * en)) := eyn6.trans (nI_mul 4 en)
      refine lv_iadd hx hb dX10_enter_58 ?_
      refine lv_topi (fun yn7 eyn7 => ?_)
      obtain rfl : yn7 = (nI (86 + (4 * en))) := eyn7.trans (nI_add 86 (4 * en))
      refine lv_istore (lv' := [(4, .int (nI (86 + (4 * en)))), (0, .ref h0), (1, .int k), (2, .int a), (3, .int j)]) hx hb dX10_enter_59 hl (by decide) rfl (fun ls hl => ?_)
      refine lv_aload_n hx hb dX10_enter_61 rfl (lv_at hl 1 rfl) ?_
      refine lv_iload hx hb dX10_enter_62 (lv_at hl 0 rfl) ?_
      refine lv_iload_n hx hb dX10_enter_64 rfl (lv_at hl 2 rfl) ?_
      refine va_iast hx hb hK hP hD hS 0 0 rfl rfl (vp_in_nI (n := (86 + (4 * en))) (N := 326) (show (86 + (4 * en)) < 326 by omega) (by decide)) dX10_enter_65 (fun H locs hP hD hS => ?_)
      obtain ⟨hP, hD⟩ : PDq D A [(h0, .inl (cA 0, 326, .inl (upd fs (((nI (86 + (4 * en)))).toNatClampNeg) k)))] H := ⟨hP, hD⟩
      have hn9 : RI cn pq en dy (upd fs (((nI (86 + (4 * en)))).toNatClampNeg) k) := RI.putI hri (86 + (4 * en)) k (by omega) (by omega)
      generalize (upd fs (((nI (86 + (4 * en)))).toNatClampNeg) k) = fn8 at hP hD hn9
      obtain ⟨hP, hD⟩ : PDq D A [(h0, .inl (cA 0, 326, .inl fn8))] H := ⟨hP, hD⟩
      refine lv_aload_n hx hb dX10_enter_66 rfl (lv_at hl 1 rfl) ?_
      refine lv_iload hx hb dX10_enter_67 (lv_at hl 0 rfl) ?_
      refine lv_iconst (v := 1) hx hb dX10_enter_69 (by decide) ?_
      refine lv_iadd hx hb dX10_enter_70 ?_
      refine lv_topi (fun yn10 eyn10 => ?_)
      obtain rfl : yn10 = (nI ((86 + (4 * en)) + 1)) := eyn10.trans (nI_add (86 + (4 * en)) 1)
      refine lv_aload_n hx hb dX10_enter_71 rfl (lv_at hl 1 rfl) ?_
      refine lv_iconst (v := 4) hx hb dX10_enter_72 (by decide) ?_
      refine va_iald hx hb hK hP 0 0 rfl rfl (vp_in_iff.mpr (by decide)) dX10_enter_73 ?_
      refine lv_topi (fun yn11 eyn11 => ?_)
      obtain rfl : yn11 = (nI dy) := eyn11.trans hn9.2.2.2.1
      refine va_iast hx hb hK hP hD hS 0 0 rfl rfl (vp_in_nI (n := ((86 + (4 * en)) + 1)) (N := 326) (show ((86 + (4 * en)) + 1) < 326 by omega) (by decide)) dX10_enter_74 (fun H locs hP hD hS => ?_)
      obtain ⟨hP, hD⟩ : PDq D A [(h0, .inl (cA 0, 326, .inl (upd fn8 (((nI ((86 + (4 * en)) + 1))).toNatClampNeg) (nI dy))))] H := ⟨hP, hD⟩
      have hn13 : RI cn pq en dy (upd fn8 (((nI ((86 + (4 * en)) + 1))).toNatClampNeg) (nI dy)) := RI.putI hn9 ((86 + (4 * en)) + 1) (nI dy) (by omega) (by omega)
      generalize (upd fn8 (((nI ((86 + (4 * en)) + 1))).toNatClampNeg) (nI dy)) = fn12 at hP hD hn13
      obtain ⟨hP, hD⟩ : PDq D A [(h0, .inl (cA 0, 326, .inl fn12))] H := ⟨hP, hD⟩
      refine lv_aload_n hx hb dX10_enter_75 rfl (lv_at hl 1 rfl) ?_
      refine lv_iload hx hb dX10_enter_76 (lv_at hl 0 rfl) ?_
      refine lv_iconst (v := 2) hx hb dX10_enter_78 (by decide) ?_
      refine lv_iadd hx hb dX10_enter_79 ?_
      refine lv_topi (fun yn14 eyn14 => ?_)
      obtain rfl : yn14 = (nI ((86 + (4 * en)) + 2)) := eyn14.trans (nI_add (86 + (4 * en)) 2)
      refine lv_iload_n hx hb dX10_enter_80 rfl (lv_at hl 3 rfl) ?_
      refine va_iast hx hb hK hP hD hS 0 0 rfl rfl (vp_in_nI (n := ((86 + (4 * en)) + 2)) (N := 326) (show ((86 + (4 * en)) + 2) < 326 by omega) (by decide)) dX10_enter_81 (fun H locs hP hD hS => ?_)
      obtain ⟨hP, hD⟩ : PDq D A [(h0, .inl (cA 0, 326, .inl (upd fn12 (((nI ((86 + (4 * en)) + 2))).toNatClampNeg) a)))] H := ⟨hP, hD⟩
      have hn16 : RI cn pq en dy (upd fn12 (((nI ((86 + (4 * en)) + 2))).toNatClampNeg) a) := RI.putI hn13 ((86 + (4 * en)) + 2) a (by omega) (by omega)
      generalize (upd fn12 (((nI ((86 + (4 * en)) + 2))).toNatClampNeg) a) = fn15 at hP hD hn16
      obtain ⟨hP, hD⟩ : PDq D A [(h0, .inl (cA 0, 326, .inl fn15))] H := ⟨hP, hD⟩
      refine lv_aload_n hx hb dX10_enter_82 rfl (lv_at hl 1 rfl) ?_
      refine lv_iload hx hb dX10_enter_83 (lv_at hl 0 rfl) ?_
      refine lv_iconst (v := 3) hx hb dX10_enter_85 (by decide) ?_
      refine lv_iadd hx hb dX10_enter_86 ?_
      refine lv_topi (fun yn17 eyn17 => ?_)
      obtain rfl : yn17 = (nI ((86 + (4 * en)) + 3)) := eyn17.trans (nI_add (86 + (4 * en)) 3)
      refine lv_iload_n hx hb dX10_enter_87 rfl (lv_at hl 4 rfl) ?_
      refine va_iast hx hb hK hP hD hS 0 0 rfl rfl (vp_in_nI (n := ((86 + (4 * en)) + 3)) (N := 326) (show ((86 + (4 * en)) + 3) < 326 by omega) (by decide)) dX10_enter_88 (fun H locs hP hD hS => ?_)
      obtain ⟨hP, hD⟩ : PDq D A [(h0, .inl (cA 0, 326, .inl (upd fn15 (((nI ((86 + (4 * en)) + 3))).toNatClampNeg) j)))] H := ⟨hP, hD⟩
      have hn19 : RI cn pq en dy (upd fn15 (((nI ((86 + (4 * en)) + 3))).toNatClampNeg) j) := RI.putI hn16 ((86 + (4 * en)) + 3) j (by omega) (by omega)
      generalize (upd fn15 (((nI ((86 + (4 * en)) + 3))).toNatClampNeg) j) = fn18 at hP hD hn19
      obtain ⟨hP, hD⟩ : PDq D A [(h0, .inl (cA 0, 326, .inl fn18))] H := ⟨hP, hD⟩
      refine lv_aload_n hx hb dX10_enter_89 rfl (lv_at hl 1 rfl) ?_
      refine lv_bipush (v := 15) hx hb dX10_enter_90 (by decide) ?_
      refine lv_dup2_11 hx hb dX10_enter_92 rfl rfl ?_
      refine va_iald hx hb hK hP 0 0 rfl rfl (vp_in_iff.mpr (by decide)) dX10_enter_93 ?_
      refine lv_topi (fun yn20 eyn20 => ?_)
      obtain rfl : yn20 = (nI en) := eyn20.trans hn19.2.2.1
      refine lv_iconst (v := 1) hx hb dX10_enter_94 (by decide) ?_
      refine lv_iadd hx hb dX10_enter_95 ?_
      refine lv_topi (fun yn21 eyn21 => ?_)
      obtain rfl : yn21 = (nI (en + 1)) := eyn21.trans (nI_add en 1)
      refine va_iast hx hb hK hP hD hS 0 0 rfl rfl (vp_in_iff.mpr (by decide)) dX10_enter_96 (fun H locs hP hD hS => ?_)
      obtain ⟨hP, hD⟩ : PDq D A [(h0, .inl (cA 0, 326, .inl (upd fn18 15 (nI (en + 1)))))] H := ⟨hP, hD⟩
      have hn23 : RI cn pq (en + 1) dy (upd fn18 15 (nI (en + 1))) := RI.ent hn19 (en + 1)
      generalize (upd fn18 15 (nI (en + 1))) = fn22 at hP hD hn23
      obtain ⟨hP, hD⟩ : PDq D A [(h0, .inl (cA 0, 326, .inl fn22))] H := ⟨hP, hD⟩
      obtain ⟨hP9, hD9⟩ := PDq.sub (ws' := [(h0, .inl (cA 0, 326, .inl fn22))]) hP hD [0] (by decide) rfl
      refine W.widen (k := 0) (n := 0) (Nat.le_of_ble_eq_true rfl) (Nat.le_of_ble_eq_true rfl) ?_
      exact (W.vret hx hb hr (fun t ht hW => ⟨⟨(), rfl, trivial, (en + 1), fn22, (by omega), hn23, by rw [ht]; exact hP9, hD9⟩, hS.F ht⟩) hS.2.2 dX10_enter_97)
    · skip
      have hn24 : en = 60 := (nI_eq (a := en) (b := 60) (by omega) (by omega)).mp c3
      refine lv_bipush (v := 90) hx hb dX10_enter_14 (by decide) ?_
      refine lv_istore (lv' := [(4, .int 90), (0, .ref h0), (1, .int k), (2, .int a), (3, .int j)]) hx hb dX10_enter_16 hl (by decide) rfl (fun ls hl => ?_)
      have loop1 : ∀ (n1 i1 : Nat) (f0_1 : Nat → Int32) (H : Heap) (locs : List Loc) (ls : Array Slot), i1 + n1 = 326 → RI cn pq en dy f0_1 → 90 ≤ i1 → va_P D vwCl [(h0, .inl (cA 0, 326, .inl f0_1))] H → va_D A [(h0, .inl (cA 0, 326, .inl f0_1))] → va_S A s.heap H locs → lv_has ls 5 [(4, .int (nI i1)), (0, .ref h0), (1, .int k), (2, .int a), (3, .int j)] → W p l e (headSpec wsX10_enter ({ frames := 0, cells := 0, slots := 0, locals := 0 } : Room)).room s m ([.ref h0, .int k, .int a, .int j] : List Value).toArray below meth c H locs 0 0 (MQ below (va_Qv (fun _ : Unit => True) (fun (_ : Unit) t => ∃ e2 : Nat, ∃ zs : Nat → Int32, e2 ≤ 60 ∧ RI cn pq e2 dy zs ∧ Wq D A [(h0, .inl (cA 0, 326, .inl zs))] t) A) ([.ref h0, .int k, .int a, .int j] : List Value).toArray s 0 0 A) (F0 m 18 ls []) := by
        intro n1
        induction n1 with
        | zero =>
          intro i1 f0_1 H locs ls hi1 hf0_1 hv0_1 hP hD hS hl
          obtain rfl : 326 = i1 := by omega
          refine lv_iload hx hb dX10_enter_18 (lv_at hl 0 rfl) ?_
          refine lv_sipush (v := 326) hx hb dX10_enter_20 (by decide) ?_
          refine lv_icmp_ge (tgt := 42) hx hb dX10_enter_23 (by decide) (fun c25 => ?_) (fun c9 => absurd (nI_le (a := 326) (b := 326) (show 326 ≤ 326 by omega) (by omega)) c9)
          refine lv_aload_n hx hb dX10_enter_42 rfl (lv_at hl 1 rfl) ?_
          refine lv_bipush (v := 15) hx hb dX10_enter_43 (by decide) ?_
          refine lv_dup2_11 hx hb dX10_enter_45 rfl rfl ?_
          refine va_iald hx hb hK hP 0 0 rfl rfl (vp_in_iff.mpr (by decide)) dX10_enter_46 ?_
          refine lv_topi (fun yn26 eyn26 => ?_)
          obtain rfl : yn26 = (nI en) := eyn26.trans hf0_1.2.2.1
          refine lv_iconst (v := 1) hx hb dX10_enter_47 (by decide) ?_
          refine lv_isub hx hb dX10_enter_48 ?_
          refine lv_topi (fun yn27 eyn27 => ?_)
          obtain rfl : yn27 = (nI (en - 1)) := eyn27.trans (nI_sub (a := en) (b := 1) (by omega))
          refine va_iast hx hb hK hP hD hS 0 0 rfl rfl (vp_in_iff.mpr (by decide)) dX10_enter_49 (fun H locs hP hD hS => ?_)
          obtain ⟨hP, hD⟩ : PDq D A [(h0, .inl (cA 0, 326, .inl (upd f0_1 15 (nI (en - 1)))))] H := ⟨hP, hD⟩
          have hn29 : RI cn pq (en - 1) dy (upd f0_1 15 (nI (en - 1))) := RI.ent hf0_1 (en - 1)
          generalize (upd f0_1 15 (nI (en - 1))) = fn28 at hP hD hn29
          obtain ⟨hP, hD⟩ : PDq D A [(h0, .inl (cA 0, 326, .inl fn28))] H := ⟨hP, hD⟩
          refine lv_bipush (v := 86) hx hb dX10_enter_50 (by decide) ?_
          refine lv_iconst (v := 4) hx hb dX10_enter_52 (by decide) ?_
          refine lv_aload_n hx hb dX10_enter_53 rfl (lv_at hl 1 rfl) ?_
          refine lv_bipush (v := 15) hx hb dX10_enter_54 (by decide) ?_
          refine va_iald hx hb hK hP 0 0 rfl rfl (vp_in_iff.mpr (by decide)) dX10_enter_56 ?_
          refine lv_topi (fun yn30 eyn30 => ?_)
          obtain rfl : yn30 = (nI (en - 1)) := eyn30.trans hn29.2.2.1
          refine lv_imul hx hb dX10_enter_57 ?_
          refine lv_topi (fun yn31 eyn31 => ?_)
          obtain rfl : yn31 = (nI (4 * (en - 1))) := eyn31.trans (nI_mul 4 (en - 1))
          refine lv_iadd hx hb dX10_enter_58 ?_
          refine lv_topi (fun yn32 eyn32 => ?_)
          obtain rfl : yn32 = (nI (86 + (4 * (en - 1)))) := eyn32.trans (nI_add 86 (4 * (en - 1)))
          refine lv_istore (lv' := [(4, .int (nI (86 + (4 * (en - 1))))), (0, .ref h0), (1, .int k), (2, .int a), (3, .int j)]) hx hb dX10_enter_59 hl (by decide) rfl (fun ls hl => ?_)
          refine lv_aload_n hx hb dX10_enter_61 rfl (lv_at hl 1 rfl) ?_
          refine lv_iload hx hb dX10_enter_62 (lv_at hl 0 rfl) ?_
          refine lv_iload_n hx hb dX10_enter_64 rfl (lv_at hl 2 rfl) ?_
          refine va_iast hx hb hK hP hD hS 0 0 rfl rfl (vp_in_nI (n := (86 + (4 * (en - 1)))) (N := 326) (show (86 + (4 * (en - 1))) < 326 by omega) (by decide)) dX10_enter_65 (fun H locs hP hD hS => ?_)
          obtain ⟨hP, hD⟩ : PDq D A [(h0, .inl (cA 0, 326, .inl (upd fn28 (((nI (86 + (4 * (en - 1))))).toNatClampNeg) k)))] H := ⟨hP, hD⟩
          have hn34 : RI cn pq (en - 1) dy (upd fn28 (((nI (86 + (4 * (en - 1))))).toNatClampNeg) k) := RI.putI hn29 (86 + (4 * (en - 1))) k (by omega) (by omega)
          generalize (upd fn28 (((nI (86 + (4 * (en - 1))))).toNatClampNeg) k) = fn33 at hP hD hn34
          obtain ⟨hP, hD⟩ : PDq D A [(h0, .inl (cA 0, 326, .inl fn33))] H := ⟨hP, hD⟩
          refine lv_aload_n hx hb dX10_enter_66 rfl (lv_at hl 1 rfl) ?_
          refine lv_iload hx hb dX10_enter_67 (lv_at hl 0 rfl) ?_
          refine lv_iconst (v := 1) hx hb dX10_enter_69 (by decide) ?_
          refine lv_iadd hx hb dX10_enter_70 ?_
          refine lv_topi (fun yn35 eyn35 => ?_)
          obtain rfl : yn35 = (nI ((86 + (4 * (en - 1))) + 1)) := eyn35.trans (nI_add (86 + (4 * (en - 1))) 1)
          refine lv_aload_n hx hb dX10_enter_71 rfl (lv_at hl 1 rfl) ?_
          refine lv_iconst (v := 4) hx hb dX10_enter_72 (by decide) ?_
          refine va_iald hx hb hK hP 0 0 rfl rfl (vp_in_iff.mpr (by decide)) dX10_enter_73 ?_
          refine lv_topi (fun yn36 eyn36 => ?_)
          obtain rfl : yn36 = (nI dy) := eyn36.trans hn34.2.2.2.1
          refine va_iast hx hb hK hP hD hS 0 0 rfl rfl (vp_in_nI (n := ((86 + (4 * (en - 1))) + 1)) (N := 326) (show ((86 + (4 * (en - 1))) + 1) < 326 by omega) (by decide)) dX10_enter_74 (fun H locs hP hD hS => ?_)
          obtain ⟨hP, hD⟩ : PDq D A [(h0, .inl (cA 0, 326, .inl (upd fn33 (((nI ((86 + (4 * (en - 1))) + 1))).toNatClampNeg) (nI dy))))] H := ⟨hP, hD⟩
          have hn38 : RI cn pq (en - 1) dy (upd fn33 (((nI ((86 + (4 * (en - 1))) + 1))).toNatClampNeg) (nI dy)) := RI.putI hn34 ((86 + (4 * (en - 1))) + 1) (nI dy) (by omega) (by omega)
          generalize (upd fn33 (((nI ((86 + (4 * (en - 1))) + 1))).toNatClampNeg) (nI dy)) = fn37 at hP hD hn38
          obtain ⟨hP, hD⟩ : PDq D A [(h0, .inl (cA 0, 326, .inl fn37))] H := ⟨hP, hD⟩
          refine lv_aload_n hx hb dX10_enter_75 rfl (lv_at hl 1 rfl) ?_
          refine lv_iload hx hb dX10_enter_76 (lv_at hl 0 rfl) ?_
          refine lv_iconst (v := 2) hx hb dX10_enter_78 (by decide) ?_
          refine lv_iadd hx hb dX10_enter_79 ?_
          refine lv_topi (fun yn39 eyn39 => ?_)
          obtain rfl : yn39 = (nI ((86 + (4 * (en - 1))) + 2)) := eyn39.trans (nI_add (86 + (4 * (en - 1))) 2)
          refine lv_iload_n hx hb dX10_enter_80 rfl (lv_at hl 3 rfl) ?_
          refine va_iast hx hb hK hP hD hS 0 0 rfl rfl (vp_in_nI (n := ((86 + (4 * (en - 1))) + 2)) (N := 326) (show ((86 + (4 * (en - 1))) + 2) < 326 by omega) (by decide)) dX10_enter_81 (fun H locs hP hD hS => ?_)
          obtain ⟨hP, hD⟩ : PDq D A [(h0, .inl (cA 0, 326, .inl (upd fn37 (((nI ((86 + (4 * (en - 1))) + 2))).toNatClampNeg) a)))] H := ⟨hP, hD⟩
          have hn41 : RI cn pq (en - 1) dy (upd fn37 (((nI ((86 + (4 * (en - 1))) + 2))).toNatClampNeg) a) := RI.putI hn38 ((86 + (4 * (en - 1))) + 2) a (by omega) (by omega)
          generalize (upd fn37 (((nI ((86 + (4 * (en - 1))) + 2))).toNatClampNeg) a) = fn40 at hP hD hn41
          obtain ⟨hP, hD⟩ : PDq D A [(h0, .inl (cA 0, 326, .inl fn40))] H := ⟨hP, hD⟩
          refine lv_aload_n hx hb dX10_enter_82 rfl (lv_at hl 1 rfl) ?_
          refine lv_iload hx hb dX10_enter_83 (lv_at hl 0 rfl) ?_
          refine lv_iconst (v := 3) hx hb dX10_enter_85 (by decide) ?_
          refine lv_iadd hx hb dX10_enter_86 ?_
          refine lv_topi (fun yn42 eyn42 => ?_)
          obtain rfl : yn42 = (nI ((86 + (4 * (en - 1))) + 3)) := eyn42.trans (nI_add (86 + (4 * (en - 1))) 3)
          refine lv_iload_n hx hb dX10_enter_87 rfl (lv_at hl 4 rfl) ?_
          refine va_iast hx hb hK hP hD hS 0 0 rfl rfl (vp_in_nI (n := ((86 + (4 * (en - 1))) + 3)) (N := 326) (show ((86 + (4 * (en - 1))) + 3) < 326 by omega) (by decide)) dX10_enter_88 (fun H locs hP hD hS => ?_)
          obtain ⟨hP, hD⟩ : PDq D A [(h0, .inl (cA 0, 326, .inl (upd fn40 (((nI ((86 + (4 * (en - 1))) + 3))).toNatClampNeg) j)))] H := ⟨hP, hD⟩
          have hn44 : RI cn pq (en - 1) dy (upd fn40 (((nI ((86 + (4 * (en - 1))) + 3))).toNatClampNeg) j) := RI.putI hn41 ((86 + (4 * (en - 1))) + 3) j (by omega) (by omega)
          generalize (upd fn40 (((nI ((86 + (4 * (en - 1))) + 3))).toNatClampNeg) j) = fn43 at hP hD hn44
          obtain ⟨hP, hD⟩ : PDq D A [(h0, .inl (cA 0, 326, .inl fn43))] H := ⟨hP, hD⟩
          refine lv_aload_n hx hb dX10_enter_89 rfl (lv_at hl 1 rfl) ?_
          refine lv_bipush (v := 15) hx hb dX10_enter_90 (by decide) ?_
          refine lv_dup2_11 hx hb dX10_enter_92 rfl rfl ?_
          refine va_iald hx hb hK hP 0 0 rfl rfl (vp_in_iff.mpr (by decide)) dX10_enter_93 ?_
          refine lv_topi (fun yn45 eyn45 => ?_)
          obtain rfl : yn45 = (nI (en - 1)) := eyn45.trans hn44.2.2.1
          refine lv_iconst (v := 1) hx hb dX10_enter_94 (by decide) ?_
          refine lv_iadd hx hb dX10_enter_95 ?_
          refine lv_topi (fun yn46 eyn46 => ?_)
          obtain rfl : yn46 = (nI ((en - 1) + 1)) := eyn46.trans (nI_add (en - 1) 1)
          refine va_iast hx hb hK hP hD hS 0 0 rfl rfl (vp_in_iff.mpr (by decide)) dX10_enter_96 (fun H locs hP hD hS => ?_)
          obtain ⟨hP, hD⟩ : PDq D A [(h0, .inl (cA 0, 326, .inl (upd fn43 15 (nI ((en - 1) + 1)))))] H := ⟨hP, hD⟩
          have hn48 : RI cn pq ((en - 1) + 1) dy (upd fn43 15 (nI ((en - 1) + 1))) := RI.ent hn44 ((en - 1) + 1)
          generalize (upd fn43 15 (nI ((en - 1) + 1))) = fn47 at hP hD hn48
          obtain ⟨hP, hD⟩ : PDq D A [(h0, .inl (cA 0, 326, .inl fn47))] H := ⟨hP, hD⟩
          obtain ⟨hP9, hD9⟩ := PDq.sub (ws' := [(h0, .inl (cA 0, 326, .inl fn47))]) hP hD [0] (by decide) rfl
          refine W.widen (k := 0) (n := 0) (Nat.le_of_ble_eq_true rfl) (Nat.le_of_ble_eq_true rfl) ?_
          exact (W.vret hx hb hr (fun t ht hW => ⟨⟨(), rfl, trivial, ((en - 1) + 1), fn47, (by omega), hn48, by rw [ht]; exact hP9, hD9⟩, hS.F ht⟩) hS.2.2 dX10_enter_97)
        | succ n1 ih1 =>
          intro i1 f0_1 H locs ls hi1 hf0_1 hv0_1 hP hD hS hl
          refine lv_iload hx hb dX10_enter_18 (lv_at hl 0 rfl) ?_
          refine lv_sipush (v := 326) hx hb dX10_enter_20 (by decide) ?_
          refine lv_icmp_ge (tgt := 42) hx hb dX10_enter_23 (by decide) (fun c9 => absurd c9 (nI_ge (a := i1) (b := 326) (show i1 < 326 by omega) (by omega))) (fun c49 => ?_)
          refine lv_aload_n hx hb dX10_enter_26 rfl (lv_at hl 1 rfl) ?_
          refine lv_iload hx hb dX10_enter_27 (lv_at hl 0 rfl) ?_
          refine lv_iconst (v := 4) hx hb dX10_enter_29 (by decide) ?_
          refine lv_isub hx hb dX10_enter_30 ?_
          refine lv_topi (fun yn50 eyn50 => ?_)
          obtain rfl : yn50 = (nI (i1 - 4)) := eyn50.trans (nI_sub (a := i1) (b := 4) (by omega))
          refine lv_aload_n hx hb dX10_enter_31 rfl (lv_at hl 1 rfl) ?_
          refine lv_iload hx hb dX10_enter_32 (lv_at hl 0 rfl) ?_
          refine va_iald hx hb hK hP 0 0 rfl rfl (vp_in_nI (n := i1) (N := 326) (show i1 < 326 by omega) (by decide)) dX10_enter_34 ?_
          refine lv_topi (fun yn51 eyn51 => ?_)
          refine va_iast hx hb hK hP hD hS 0 0 rfl rfl (vp_in_nI (n := (i1 - 4)) (N := 326) (show (i1 - 4) < 326 by omega) (by decide)) dX10_enter_35 (fun H locs hP hD hS => ?_)
          obtain ⟨hP, hD⟩ : PDq D A [(h0, .inl (cA 0, 326, .inl (upd f0_1 (((nI (i1 - 4))).toNatClampNeg) yn51)))] H := ⟨hP, hD⟩
          have hn53 : RI cn pq en dy (upd f0_1 (((nI (i1 - 4))).toNatClampNeg) yn51) := RI.putI hf0_1 (i1 - 4) yn51 (by omega) (by omega)
          generalize (upd f0_1 (((nI (i1 - 4))).toNatClampNeg) yn51) = fn52 at hP hD hn53
          obtain ⟨hP, hD⟩ : PDq D A [(h0, .inl (cA 0, 326, .inl fn52))] H := ⟨hP, hD⟩
          refine lv_iinc (v := (nI (i1 + 1))) (lv' := [(4, .int (nI (i1 + 1))), (0, .ref h0), (1, .int k), (2, .int a), (3, .int j)]) hx hb dX10_enter_36 hl (k := 0) rfl (nI_1 _) (by decide) rfl (fun ls hl => ?_)
          refine lv_goto (tgt := 18) hx hb dX10_enter_39 (by decide) ?_
          obtain ⟨hP9, hD9⟩ := PDq.sub (ws' := [(h0, .inl (cA 0, 326, .inl fn52))]) hP hD [0] (by decide) rfl
          exact ih1 (i1 + 1) fn52 H _ ls (by omega) hn53 (by omega) hP9 hD9 hS (lv_sub hl [0, 1, 2, 3, 4] rfl)
      obtain ⟨hP9, hD9⟩ := PDq.sub (ws' := [(h0, .inl (cA 0, 326, .inl fs))]) hP hD [0] (by decide) rfl
      exact loop1 (326 - 90) 90 fs _ _ ls (by omega) hri (by omega) hP9 hD9 hS (lv_sub hl [0, 1, 2, 3, 4] rfl)
  · skip
    rw [c1] at hl
    have hl : lv_has ls 5 [(0, .ref h0), (1, .int k), (2, .int 0), (3, .int j)] := hl
    obtain ⟨hP9, hD9⟩ := PDq.sub (ws' := [(h0, .inl (cA 0, 326, .inl fs))]) hP hD [0] (by decide) rfl
    refine W.widen (k := 0) (n := 0) (Nat.le_of_ble_eq_true rfl) (Nat.le_of_ble_eq_true rfl) ?_
    exact (W.vret hx hb hr (fun t ht hW => ⟨⟨(), rfl, trivial, en, fs, hen, hri, by rw [ht]; exact hP9, hD9⟩, hS.F ht⟩) hS.2.2 dX10_enter_4)

set_option maxHeartbeats 4000000 in
set_option maxRecDepth 100000 in
/-- reference: makePayment -/
theorem r_makePayment (l : Launch) (D : va_G) (cA : Nat → ClassId) (sa : Nat → Nat) (w0 : Nat) (ed : Nat) (nb : Nat) (ol : Nat) (v0 : Nat) (v1 : Nat) (v2 : Nat) (v3 : Nat) (v4 : Nat) (v9 : Nat) (v13 : Nat) (v27 : Nat) (v28 : Nat) (v29 : Nat) (v30 : Nat) (v31 : Nat) (v32 : Nat) (v33 : Nat) (v34 : Nat) (v35 : Nat) (v36 : Nat) (v37 : Nat) (g8 : Int32) (g11 : Int32) (g12 : Int32) (g14 : Int32) (g15 : Int32) (g16 : Int32) (g17 : Int32) (g18 : Int32) (g19 : Int32) (g20 : Int32) (g21 : Int32) (g22 : Int32) (g23 : Int32) (g24 : Int32) (g26 : Int32) (g5 : Int64) (g6 : Int64) (g25 : Int64) (cn : Nat) (pq : Nat) (en : Nat) (dy : Nat) (fs : Nat → Int32) (mi : Nat) (a : Int32) (sz : Nat) (hcn : cn ≤ 10) (hpq : pq ≤ 8) (hen : en ≤ 60) (hdy : dy ≤ 20000) (hri : RI cn pq en dy fs) (hmi : mi < 10) : Met l yX10_makePayment wsX10_makePayment ({ frames := 1, cells := 0, slots := 0, locals := 24 }) (va_Pc [.ref w0, .int (nI mi), .int a] (Wd D cA sa [(oX10 w0 v0 v1 v2 v3 v4 g5 g6 (nI ed) g8 v9 (nI nb) g11 g12 v13 g14 g15 g16 g17 g18 g19 g20 g21 g22 g23 g24 g25 g26 v27 v28 v29 v30 v31 v32 v33 v34 v35 v36 v37 (nI ol)), (v0, .inl (cA 0, 326, .inl fs))] sz)) (va_Qi (fun (r : Int32) (_ : Unit) => True) (fun (_ : Unit) t => ∃ e2 : Nat, ∃ zs : Nat → Int32, e2 ≤ 60 ∧ RI cn pq e2 dy zs ∧ Wq D (va_A [(oX10 w0 v0 v1 v2 v3 v4 g5 g6 (nI ed) g8 v9 (nI nb) g11 g12 v13 g14 g15 g16 g17 g18 g19 g20 g21 g22 g23 g24 g25 g26 v27 v28 v29 v30 v31 v32 v33 v34 v35 v36 v37 (nI ol)), (v0, .inl (cA 0, 326, .inl fs))] sz) [(oX10 w0 v0 v1 v2 v3 v4 g5 g6 (nI ed) g8 v9 (nI nb) g11 g12 v13 g14 g15 g16 g17 g18 g19 g20 g21 g22 g23 g24 g25 g26 v27 v28 v29 v30 v31 v32 v33 v34 v35 v36 v37 (nI ol)), (v0, .inl (cA 0, 326, .inl zs))] t) (va_A [(oX10 w0 v0 v1 v2 v3 v4 g5 g6 (nI ed) g8 v9 (nI nb) g11 g12 v13 g14 g15 g16 g17 g18 g19 g20 g21 g22 g23 g24 g25 g26 v27 v28 v29 v30 v31 v32 v33 v34 v35 v36 v37 (nI ol)), (v0, .inl (cA 0, 326, .inl fs))] sz)) 0 0 (va_A [(oX10 w0 v0 v1 v2 v3 v4 g5 g6 (nI ed) g8 v9 (nI nb) g11 g12 v13 g14 g15 g16 g17 g18 g19 g20 g21 g22 g23 g24 g25 g26 v27 v28 v29 v30 v31 v32 v33 v34 v35 v36 v37 (nI ol)), (v0, .inl (cA 0, 326, .inl fs))] sz) := by
  refine Met.ofW (cc := cX10_makePayment) (maxL := 4) (ret := (some .int)) (by decide) rfl ?_
  intro p e s m args below meth c s₁ B hml hv
  obtain ⟨rfl, hsz, hP, hK, hD0, hC, hZ⟩ := hv
  have hx := B.exec
  have hb := B.bytes
  have hr := B.returns
  have hts := atoms_spec (ws := wsX10_makePayment) B.pre
  have hown : s.vm.findClass RX10 = some m.cls := findClass_of_methodNamed B.named
  have hlocks := B.notSynchronized
  subst hsz
  have hD := hD0.self (sz := s.heap.size)
  generalize hAe : va_A [(oX10 w0 v0 v1 v2 v3 v4 g5 g6 (nI ed) g8 v9 (nI nb) g11 g12 v13 g14 g15 g16 g17 g18 g19 g20 g21 g22 g23 g24 g25 g26 v27 v28 v29 v30 v31 v32 v33 v34 v35 v36 v37 (nI ol)), (v0, .inl (cA 0, 326, .inl fs))] s.heap.size = A at hD hZ ⊢
  have hA : ∀ q : Nat, s.heap.size ≤ q → A q := fun q h => by rw [← hAe]; exact Or.inr h
  have hS : va_S A s.heap s.heap [] := va_S.rf
  have hP : va_P D vwCl [(oX10 w0 v0 v1 v2 v3 v4 g5 g6 (nI ed) g8 v9 (nI nb) g11 g12 v13 g14 g15 g16 g17 g18 g19 g20 g21 g22 g23 g24 g25 g26 v27 v28 v29 v30 v31 v32 v33 v34 v35 v36 v37 (nI ol)), (v0, .inl (cA 0, 326, .inl fs))] s.heap := hP
  have hl := lv_entry ([.ref w0, .int (nI mi), .int a]) (n := 4) (Nat.le_of_ble_eq_true rfl)
  rw [lg_entry_eq]
  generalize (lg_sl ([.ref w0, .int (nI mi), .int a]) ++ List.replicate (4 - (lg_sl ([.ref w0, .int (nI mi), .int a])).length) Slot.unset).toArray = ls at hl ⊢
  have hl : lv_has ls 4 [(0, .ref w0), (1, .int (nI mi)), (2, .int a)] := hl
  have inX10 : ∀ w ∈ u_ws RX10 TX10 39, w ∈ wsX10_makePayment := by decide +kernel
  refine lv_aload_n hx hb dX10_makePayment_0 rfl (lv_at hl 0 rfl) ?_
  refine lv_iload_n hx hb dX10_makePayment_1 rfl (lv_at hl 2 rfl) ?_
  obtain ⟨hPc, hDc, hFc⟩ := PDq.cut (wc := [(oX10 w0 v0 v1 v2 v3 v4 g5 g6 (nI ed) g8 v9 (nI nb) g11 g12 v13 g14 g15 g16 g17 g18 g19 g20 g21 g22 g23 g24 g25 g26 v27 v28 v29 v30 v31 v32 v33 v34 v35 v36 v37 (nI ol)), (v0, .inl (cA 0, 326, .inl fs))]) hP hD hS hA [0, 1] (by decide) rfl
  refine va_calli (va_runV (As := [.int a]) (rest := []) ⟨hx, hb, hml, hown, hts⟩ (r_feeOf l D cA sa w0 ed nb ol v0 v1 v2 v3 v4 v9 v13 v27 v28 v29 v30 v31 v32 v33 v34 v35 v36 v37 g8 g11 g12 g14 g15 g16 g17 g18 g19 g20 g21 g22 g23 g24 g26 g5 g6 g25 cn pq en dy fs a s.heap.size hcn hpq hen hdy hri) (cwV 1 hts gX10_makePayment_X10_feeOf rfl rfl rfl (by decide +kernel) ⟨(Nat.le_of_ble_eq_true rfl), (Nat.le_of_ble_eq_true rfl)⟩) ⟨Wd.blind, va_recv hK hPc (ci := 11) (q0 := 0) rfl rfl, fun U hU hW => ⟨rfl, Wd.call hPc hDc hK hC hZ hS hFc U hU hW⟩⟩ rfl rfl hl.1 rfl (lv_room (Nat.le_of_ble_eq_true rfl)) dX10_makePayment_2 ⟨(Nat.le_of_ble_eq_true rfl), (Nat.le_of_ble_eq_true rfl)⟩) hS (fun q _ h => hFc q h) hFc (fun rn1 u t H1 locs ht hvm hw hB hz1 hk1 hS => ?_)
  obtain ⟨hP1, hD1⟩ := hB
  rw [ht] at hP1
  obtain ⟨hP, hD⟩ := PDq.join (w := [(oX10 w0 v0 v1 v2 v3 v4 g5 g6 (nI ed) g8 v9 (nI nb) g11 g12 v13 g14 g15 g16 g17 g18 g19 g20 g21 g22 g23 g24 g25 g26 v27 v28 v29 v30 v31 v32 v33 v34 v35 v36 v37 (nI ol)), (v0, .inl (cA 0, 326, .inl fs))]) 0 hP hD [0, 1] [] rfl rfl (by decide) (by decide) hk1 hFc hP1 hD1 rfl
  generalize H1 = H at hP hS ⊢
  refine lv_istore_n (lv' := [(3, .int rn1), (0, .ref w0), (1, .int (nI mi)), (2, .int a)]) hx hb dX10_makePayment_5 rfl hl (by decide) rfl (fun ls hl => ?_)
  refine lv_aload_n hx hb dX10_makePayment_6 rfl (lv_at hl 1 rfl) ?_
  refine va_get (D := D) (ci := 11) (v := .ref v0) (C := RX10) (T := TX10) (N := 39) hx hb hts inX10 hown hK hP 0 rfl rfl 0 (by decide) (hts (.fieldLink RX10 7 "EscrowDeskModel" "s" "[I") (by decide +kernel)) (fun _ h9 => h9) rfl dX10_makePayment_7 ?_
  refine lv_bipush (v := 6) hx hb dX10_makePayment_10 (by decide) ?_
  refine lv_dup2_11 hx hb dX10_makePayment_12 rfl rfl ?_
  refine va_iald hx hb hK hP 1 0 rfl rfl (vp_in_iff.mpr (by decide)) dX10_makePayment_13 ?_
  refine lv_topi (fun yn2 eyn2 => ?_)
  refine lv_iload_n hx hb dX10_makePayment_14 rfl (lv_at hl 3 rfl) ?_
  refine lv_isub hx hb dX10_makePayment_15 ?_
  refine lv_topi (fun yn3 eyn3 => ?_)
  refine va_iast hx hb hK hP hD hS 1 0 rfl rfl (vp_in_iff.mpr (by decide)) dX10_makePayment_16 (fun H locs hP hD hS => ?_)
  obtain ⟨hP, hD⟩ : PDq D A [(oX10 w0 v0 v1 v2 v3 v4 g5 g6 (nI ed) g8 v9 (nI nb) g11 g12 v13 g14 g15 g16 g17 g18 g19 g20 g21 g22 g23 g24 g25 g26 v27 v28 v29 v30 v31 v32 v33 v34 v35 v36 v37 (nI ol)), (v0, .inl (cA 0, 326, .inl (upd fs 6 yn3)))] H := ⟨hP, hD⟩
  have hn5 : RI cn pq en dy (upd fs 6 yn3) := RI.put hri 6 yn3 (by decide) (by decide) (by decide) (by decide) (by decide)
  generalize (upd fs 6 yn3) = fn4 at hP hD hn5
  obtain ⟨hP, hD⟩ : PDq D A [(oX10 w0 v0 v1 v2 v3 v4 g5 g6 (nI ed) g8 v9 (nI nb) g11 g12 v13 g14 g15 g16 g17 g18 g19 g20 g21 g22 g23 g24 g25 g26 v27 v28 v29 v30 v31 v32 v33 v34 v35 v36 v37 (nI ol)), (v0, .inl (cA 0, 326, .inl fn4))] H := ⟨hP, hD⟩
  refine lv_aload_n hx hb dX10_makePayment_17 rfl (lv_at hl 1 rfl) ?_
  refine va_get (D := D) (ci := 11) (v := .ref v0) (C := RX10) (T := TX10) (N := 39) hx hb hts inX10 hown hK hP 0 rfl rfl 0 (by decide) (hts (.fieldLink RX10 7 "EscrowDeskModel" "s" "[I") (by decide +kernel)) (fun _ h9 => h9) rfl dX10_makePayment_18 ?_
  refine lv_bipush (v := 10) hx hb dX10_makePayment_21 (by decide) ?_
  refine lv_dup2_11 hx hb dX10_makePayment_23 rfl rfl ?_
  refine va_iald hx hb hK hP 1 0 rfl rfl (vp_in_iff.mpr (by decide)) dX10_makePayment_24 ?_
  refine lv_topi (fun yn6 eyn6 => ?_)
  refine lv_iload_n hx hb dX10_makePayment_25 rfl (lv_at hl 3 rfl) ?_
  refine lv_iadd hx hb dX10_makePayment_26 ?_
  refine lv_topi (fun yn7 eyn7 => ?_)
  refine va_iast hx hb hK hP hD hS 1 0 rfl rfl (vp_in_iff.mpr (by decide)) dX10_makePayment_27 (fun H locs hP hD hS => ?_)
  obtain ⟨hP, hD⟩ : PDq D A [(oX10 w0 v0 v1 v2 v3 v4 g5 g6 (nI ed) g8 v9 (nI nb) g11 g12 v13 g14 g15 g16 g17 g18 g19 g20 g21 g22 g23 g24 g25 g26 v27 v28 v29 v30 v31 v32 v33 v34 v35 v36 v37 (nI ol)), (v0, .inl (cA 0, 326, .inl (upd fn4 10 yn7)))] H := ⟨hP, hD⟩
  have hn9 : RI cn pq en dy (upd fn4 10 yn7) := RI.put hn5 10 yn7 (by decide) (by decide) (by decide) (by decide) (by decide)
  generalize (upd fn4 10 yn7) = fn8 at hP hD hn9
  obtain ⟨hP, hD⟩ : PDq D A [(oX10 w0 v0 v1 v2 v3 v4 g5 g6 (nI ed) g8 v9 (nI nb) g11 g12 v13 g14 g15 g16 g17 g18 g19 g20 g21 g22 g23 g24 g25 g26 v27 v28 v29 v30 v31 v32 v33 v34 v35 v36 v37 (nI ol)), (v0, .inl (cA 0, 326, .inl fn8))] H := ⟨hP, hD⟩
  refine lv_aload_n hx hb dX10_makePayment_28 rfl (lv_at hl 1 rfl) ?_
  refine va_get (D := D) (ci := 11) (v := .ref v0) (C := RX10) (T := TX10) (N := 39) hx hb hts inX10 hown hK hP 0 rfl rfl 0 (by decide) (hts (.fieldLink RX10 7 "EscrowDeskModel" "s" "[I") (by decide +kernel)) (fun _ h9 => h9) rfl dX10_makePayment_29 ?_
  refine lv_bipush (v := 9) hx hb dX10_makePayment_32 (by decide) ?_
  refine lv_dup2_11 hx hb dX10_makePayment_34 rfl rfl ?_
  refine va_iald hx hb hK hP 1 0 rfl rfl (vp_in_iff.mpr (by decide)) dX10_makePayment_35 ?_
  refine lv_topi (fun yn10 eyn10 => ?_)
  refine lv_iload_n hx hb dX10_makePayment_36 rfl (lv_at hl 0 rfl) ?_
  refine lv_iadd hx hb dX10_makePayment_37 ?_
  refine lv_topi (fun yn11 eyn11 => ?_)
  refine va_iast hx hb hK hP hD hS 1 0 rfl rfl (vp_in_iff.mpr (by decide)) dX10_makePayment_38 (fun H locs hP hD hS => ?_)
  obtain ⟨hP, hD⟩ : PDq D A [(oX10 w0 v0 v1 v2 v3 v4 g5 g6 (nI ed) g8 v9 (nI nb) g11 g12 v13 g14 g15 g16 g17 g18 g19 g20 g21 g22 g23 g24 g25 g26 v27 v28 v29 v30 v31 v32 v33 v34 v35 v36 v37 (nI ol)), (v0, .inl (cA 0, 326, .inl (upd fn8 9 yn11)))] H := ⟨hP, hD⟩
  have hn13 : RI cn pq en dy (upd fn8 9 yn11) := RI.put hn9 9 yn11 (by decide) (by decide) (by decide) (by decide) (by decide)
  generalize (upd fn8 9 yn11) = fn12 at hP hD hn13
  obtain ⟨hP, hD⟩ : PDq D A [(oX10 w0 v0 v1 v2 v3 v4 g5 g6 (nI ed) g8 v9 (nI nb) g11 g12 v13 g14 g15 g16 g17 g18 g19 g20 g21 g22 g23 g24 g25 g26 v27 v28 v29 v30 v31 v32 v33 v34 v35 v36 v37 (nI ol)), (v0, .inl (cA 0, 326, .inl fn12))] H := ⟨hP, hD⟩
  refine lv_aload_n hx hb dX10_makePayment_39 rfl (lv_at hl 1 rfl) ?_
  refine lv_iload_n hx hb dX10_makePayment_40 rfl (lv_at hl 2 rfl) ?_
  refine lv_iconst (v := 1) hx hb dX10_makePayment_41 (by decide) ?_
  refine lv_aload_n hx hb dX10_makePayment_42 rfl (lv_at hl 1 rfl) ?_
  refine lv_iload_n hx hb dX10_makePayment_43 rfl (lv_at hl 2 rfl) ?_
  refine lv_iconst (v := 1) hx hb dX10_makePayment_44 (by decide) ?_
  obtain ⟨hPc, hDc, hFc⟩ := PDq.cut (wc := [(oX10 w0 v0 v1 v2 v3 v4 g5 g6 (nI ed) g8 v9 (nI nb) g11 g12 v13 g14 g15 g16 g17 g18 g19 g20 g21 g22 g23 g24 g25 g26 v27 v28 v29 v30 v31 v32 v33 v34 v35 v36 v37 (nI ol)), (v0, .inl (cA 0, 326, .inl fn12))]) hP hD hS hA [0, 1] (by decide) rfl
  refine va_calli (va_runV (As := [.int (nI mi), .int 1]) (rest := [.int 1, .int (nI mi), .ref w0]) ⟨hx, hb, hml, hown, hts⟩ (r_of l D cA sa w0 ed nb ol v0 v1 v2 v3 v4 v9 v13 v27 v28 v29 v30 v31 v32 v33 v34 v35 v36 v37 g8 g11 g12 g14 g15 g16 g17 g18 g19 g20 g21 g22 g23 g24 g26 g5 g6 g25 fn12 mi 1 H.size hmi (by omega)) (cwV 2 hts gX10_makePayment_X10_of rfl rfl rfl (by decide +kernel) ⟨(Nat.le_of_ble_eq_true rfl), (Nat.le_of_ble_eq_true rfl)⟩) ⟨Wd.blind, va_recv hK hPc (ci := 11) (q0 := 0) rfl rfl, fun U hU hW => ⟨rfl, Wd.call hPc hDc hK hC hZ hS hFc U hU hW⟩⟩ rfl rfl hl.1 rfl (lv_room (Nat.le_of_ble_eq_true rfl)) dX10_makePayment_45 ⟨(Nat.le_of_ble_eq_true rfl), (Nat.le_of_ble_eq_true rfl)⟩) hS (fun q _ h => hFc q h) hFc (fun rn14 u t H1 locs ht hvm hw hB hz1 hk1 hS => ?_)
  obtain ⟨hP1, hD1⟩ := hB
  rw [ht] at hP1
  obtain ⟨hP, hD⟩ := PDq.join (w := [(oX10 w0 v0 v1 v2 v3 v4 g5 g6 (nI ed) g8 v9 (nI nb) g11 g12 v13 g14 g15 g16 g17 g18 g19 g20 g21 g22 g23 g24 g25 g26 v27 v28 v29 v30 v31 v32 v33 v34 v35 v36 v37 (nI ol)), (v0, .inl (cA 0, 326, .inl fn12))]) 0 hP hD [0, 1] [] rfl rfl (by decide) (by decide) hk1 hFc hP1 hD1 rfl
  generalize H1 = H at hP hS ⊢
  obtain rfl : rn14 = (fn12 (16 + 7 * mi + 1)) := hw
  refine lv_iload_n hx hb dX10_makePayment_48 rfl (lv_at hl 3 rfl) ?_
  refine lv_iadd hx hb dX10_makePayment_49 ?_
  refine lv_topi (fun yn15 eyn15 => ?_)
  obtain ⟨hPc, hDc, hFc⟩ := PDq.cut (wc := [(oX10 w0 v0 v1 v2 v3 v4 g5 g6 (nI ed) g8 v9 (nI nb) g11 g12 v13 g14 g15 g16 g17 g18 g19 g20 g21 g22 g23 g24 g25 g26 v27 v28 v29 v30 v31 v32 v33 v34 v35 v36 v37 (nI ol)), (v0, .inl (cA 0, 326, .inl fn12))]) hP hD hS hA [0, 1] (by decide) rfl
  refine va_callv (va_runV (As := [.int (nI mi), .int 1, .int yn15]) (rest := []) ⟨hx, hb, hml, hown, hts⟩ (r_set l D cA sa w0 ed nb ol v0 v1 v2 v3 v4 v9 v13 v27 v28 v29 v30 v31 v32 v33 v34 v35 v36 v37 g8 g11 g12 g14 g15 g16 g17 g18 g19 g20 g21 g22 g23 g24 g26 g5 g6 g25 cn pq en dy fn12 mi 1 yn15 H.size hcn hpq hen hdy hn13 hmi (by omega)) (cwV 3 hts gX10_makePayment_X10_set rfl rfl rfl (by decide +kernel) ⟨(Nat.le_of_ble_eq_true rfl), (Nat.le_of_ble_eq_true rfl)⟩) ⟨Wd.blind, va_recv hK hPc (ci := 11) (q0 := 0) rfl rfl, fun U hU hW => ⟨rfl, Wd.call hPc hDc hK hC hZ hS hFc U hU hW⟩⟩ rfl rfl hl.1 rfl (lv_room (Nat.le_of_ble_eq_true rfl)) dX10_makePayment_50 ⟨(Nat.le_of_ble_eq_true rfl), (Nat.le_of_ble_eq_true rfl)⟩) hS (fun q _ h => hFc q h) hFc (fun u t H1 locs ht hvm hw hB hz1 hk1 hS => ?_)
  obtain ⟨fn16, hn17, hP1, hD1⟩ := hB
  rw [ht] at hP1
  obtain ⟨hP, hD⟩ := PDq.join (w := [(oX10 w0 v0 v1 v2 v3 v4 g5 g6 (nI ed) g8 v9 (nI nb) g11 g12 v13 g14 g15 g16 g17 g18 g19 g20 g21 g22 g23 g24 g25 g26 v27 v28 v29 v30 v31 v32 v33 v34 v35 v36 v37 (nI ol)), (v0, .inl (cA 0, 326, .inl fn16))]) 0 hP hD [0, 1] [] rfl rfl (by decide) (by decide) hk1 hFc hP1 hD1 rfl
  generalize H1 = H at hP hS ⊢
  refine lv_aload_n hx hb dX10_makePayment_53 rfl (lv_at hl 1 rfl) ?_
  refine va_get (D := D) (ci := 11) (v := .ref v0) (C := RX10) (T := TX10) (N := 39) hx hb hts inX10 hown hK hP 0 rfl rfl 0 (by decide) (hts (.fieldLink RX10 7 "EscrowDeskModel" "s" "[I") (by decide +kernel)) (fun _ h9 => h9) rfl dX10_makePayment_54 ?_
  refine lv_iconst (v := 1) hx hb dX10_makePayment_57 (by decide) ?_
  refine lv_iload_n hx hb dX10_makePayment_58 rfl (lv_at hl 3 rfl) ?_
  refine lv_iload_n hx hb dX10_makePayment_59 rfl (lv_at hl 2 rfl) ?_
  obtain ⟨hPc, hDc, hFc⟩ := PDq.cut (wc := [(v0, .inl (cA 0, 326, .inl fn16))]) hP hD hS hA [1] (by decide) rfl
  refine va_callv (va_runS (As := [.ref v0, .int 1, .int a, .int (nI mi)]) (rest := []) ⟨hx, hb, hml, hown, hts⟩ (r_enter l D cA sa v0 cn pq en dy fn16 1 a (nI mi) H.size hcn hpq hen hdy hn17) (va_cwS 4 hts gX10_makePayment_X10_enter rfl rfl rfl (by decide +kernel) ⟨(Nat.le_of_ble_eq_true rfl), (Nat.le_of_ble_eq_true rfl)⟩) ⟨Wd.blind, fun U hU hW => ⟨rfl, Wd.call hPc hDc hK hC hZ hS hFc U hU hW⟩⟩ rfl rfl hl.1 rfl (lv_room (Nat.le_of_ble_eq_true rfl)) dX10_makePayment_60 ⟨(Nat.le_of_ble_eq_true rfl), (Nat.le_of_ble_eq_true rfl)⟩) hS (fun q _ h => hFc q h) hFc (fun u t H1 locs ht hvm hw hB hz1 hk1 hS => ?_)
  obtain ⟨qn18, fn19, hn20, hn21, hP1, hD1⟩ := hB
  rw [ht] at hP1
  obtain ⟨hP, hD⟩ := PDq.join (w := [(oX10 w0 v0 v1 v2 v3 v4 g5 g6 (nI ed) g8 v9 (nI nb) g11 g12 v13 g14 g15 g16 g17 g18 g19 g20 g21 g22 g23 g24 g25 g26 v27 v28 v29 v30 v31 v32 v33 v34 v35 v36 v37 (nI ol)), (v0, .inl (cA 0, 326, .inl fn19))]) 1 hP hD [1] [0] rfl rfl (by decide) (by decide) hk1 hFc hP1 hD1 rfl
  generalize H1 = H at hP hS ⊢
  refine lv_iload_n hx hb dX10_makePayment_63 rfl (lv_at hl 0 rfl) ?_
  obtain ⟨hP9, hD9⟩ := PDq.sub (ws' := [(oX10 w0 v0 v1 v2 v3 v4 g5 g6 (nI ed) g8 v9 (nI nb) g11 g12 v13 g14 g15 g16 g17 g18 g19 g20 g21 g22 g23 g24 g25 g26 v27 v28 v29 v30 v31 v32 v33 v34 v35 v36 v37 (nI ol)), (v0, .inl (cA 0, 326, .inl fn19))]) hP hD [0, 1] (by decide) rfl
  refine W.widen (k := 0) (n := 0) (Nat.le_of_ble_eq_true rfl) (Nat.le_of_ble_eq_true rfl) ?_
  exact (W.iret (v := rn1) hx hb hr (fun t ht hW => ⟨⟨rn1, (), rfl, trivial, qn18, fn19, hn20, hn21, by rw [ht]; exact hP9, hD9⟩, hS.F ht⟩) hS.2.2 dX10_makePayment_64)

set_option maxHeartbeats 4000000 in
set_option maxRecDepth 100000 in
/-- reference: refund -/
theorem r_refund (l : Launch) (D : va_G) (cA : Nat → ClassId) (sa : Nat → Nat) (w0 : Nat) (ed : Nat) (nb : Nat) (ol : Nat) (v0 : Nat) (v1 : Nat) (v2 : Nat) (v3 : Nat) (v4 : Nat) (v9 : Nat) (v13 : Nat) (v27 : Nat) (v28 : Nat) (v29 : Nat) (v30 : Nat) (v31 : Nat) (v32 : Nat) (v33 : Nat) (v34 : Nat) (v35 : Nat) (v36 : Nat) (v37 : Nat) (g8 : Int32) (g11 : Int32) (g12 : Int32) (g14 : Int32) (g15 : Int32) (g16 : Int32) (g17 : Int32) (g18 : Int32) (g19 : Int32) (g20 : Int32) (g21 : Int32) (g22 : Int32) (g23 : Int32) (g24 : Int32) (g26 : Int32) (g5 : Int64) (g6 : Int64) (g25 : Int64) (cn : Nat) (pq : Nat) (en : Nat) (dy : Nat) (fs : Nat → Int32) (a : Int32) (b : Int32) (sz : Nat) (hcn : cn ≤ 10) (hpq : pq ≤ 8) (hen : en ≤ 60) (hdy : dy ≤ 20000) (hri : RI cn pq en dy fs) : Met l yX10_refund wsX10_refund ({ frames := 1, cells := 0, slots := 0, locals := 24 }) (va_Pc [.ref w0, .int a, .int b] (Wd D cA sa [(oX10 w0 v0 v1 v2 v3 v4 g5 g6 (nI ed) g8 v9 (nI nb) g11 g12 v13 g14 g15 g16 g17 g18 g19 g20 g21 g22 g23 g24 g25 g26 v27 v28 v29 v30 v31 v32 v33 v34 v35 v36 v37 (nI ol)), (v0, .inl (cA 0, 326, .inl fs))] sz)) (va_Qv (fun _ : Unit => True) (fun (_ : Unit) t => ∃ e2 : Nat, ∃ zs : Nat → Int32, e2 ≤ 60 ∧ RI cn pq e2 dy zs ∧ Wq D (va_A [(oX10 w0 v0 v1 v2 v3 v4 g5 g6 (nI ed) g8 v9 (nI nb) g11 g12 v13 g14 g15 g16 g17 g18 g19 g20 g21 g22 g23 g24 g25 g26 v27 v28 v29 v30 v31 v32 v33 v34 v35 v36 v37 (nI ol)), (v0, .inl (cA 0, 326, .inl fs))] sz) [(oX10 w0 v0 v1 v2 v3 v4 g5 g6 (nI ed) g8 v9 (nI nb) g11 g12 v13 g14 g15 g16 g17 g18 g19 g20 g21 g22 g23 g24 g25 g26 v27 v28 v29 v30 v31 v32 v33 v34 v35 v36 v37 (nI ol)), (v0, .inl (cA 0, 326, .inl zs))] t) (va_A [(oX10 w0 v0 v1 v2 v3 v4 g5 g6 (nI ed) g8 v9 (nI nb) g11 g12 v13 g14 g15 g16 g17 g18 g19 g20 g21 g22 g23 g24 g25 g26 v27 v28 v29 v30 v31 v32 v33 v34 v35 v36 v37 (nI ol)), (v0, .inl (cA 0, 326, .inl fs))] sz)) 0 0 (va_A [(oX10 w0 v0 v1 v2 v3 v4 g5 g6 (nI ed) g8 v9 (nI nb) g11 g12 v13 g14 g15 g16 g17 g18 g19 g20 g21 g22 g23 g24 g25 g26 v27 v28 v29 v30 v31 v32 v33 v34 v35 v36 v37 (nI ol)), (v0, .inl (cA 0, 326, .inl fs))] sz) := by
  refine Met.ofW (cc := cX10_refund) (maxL := 3) (ret := none) (by decide) rfl ?_
  intro p e s m args below meth c s₁ B hml hv
  obtain ⟨rfl, hsz, hP, hK, hD0, hC, hZ⟩ := hv
  have hx := B.exec
  have hb := B.bytes
  have hr := B.returns
  have hts := atoms_spec (ws := wsX10_refund) B.pre
  have hown : s.vm.findClass RX10 = some m.cls := findClass_of_methodNamed B.named
  have hlocks := B.notSynchronized
  subst hsz
  have hD := hD0.self (sz := s.heap.size)
  generalize hAe : va_A [(oX10 w0 v0 v1 v2 v3 v4 g5 g6 (nI ed) g8 v9 (nI nb) g11 g12 v13 g14 g15 g16 g17 g18 g19 g20 g21 g22 g23 g24 g25 g26 v27 v28 v29 v30 v31 v32 v33 v34 v35 v36 v37 (nI ol)), (v0, .inl (cA 0, 326, .inl fs))] s.heap.size = A at hD hZ ⊢
  have hA : ∀ q : Nat, s.heap.size ≤ q → A q := fun q h => by rw [← hAe]; exact Or.inr h
  have hS : va_S A s.heap s.heap [] := va_S.rf
  have hP : va_P D vwCl [(oX10 w0 v0 v1 v2 v3 v4 g5 g6 (nI ed) g8 v9 (nI nb) g11 g12 v13 g14 g15 g16 g17 g18 g19 g20 g21 g22 g23 g24 g25 g26 v27 v28 v29 v30 v31 v32 v33 v34 v35 v36 v37 (nI ol)), (v0, .inl (cA 0, 326, .inl fs))] s.heap := hP
  have hl := lv_entry ([.ref w0, .int a, .int b]) (n := 3) (Nat.le_of_ble_eq_true rfl)
  rw [lg_entry_eq]
  generalize (lg_sl ([.ref w0, .int a, .int b]) ++ List.replicate (3 - (lg_sl ([.ref w0, .int a, .int b])).length) Slot.unset).toArray = ls at hl ⊢
  have hl : lv_has ls 3 [(0, .ref w0), (1, .int a), (2, .int b)] := hl
  have inX10 : ∀ w ∈ u_ws RX10 TX10 39, w ∈ wsX10_refund := by decide +kernel
  refine lv_aload_n hx hb dX10_refund_0 rfl (lv_at hl 0 rfl) ?_
  refine va_get (D := D) (ci := 11) (v := .ref v0) (C := RX10) (T := TX10) (N := 39) hx hb hts inX10 hown hK hP 0 rfl rfl 0 (by decide) (hts (.fieldLink RX10 7 "EscrowDeskModel" "s" "[I") (by decide +kernel)) (fun _ h9 => h9) rfl dX10_refund_1 ?_
  refine lv_bipush (v := 6) hx hb dX10_refund_4 (by decide) ?_
  refine lv_dup2_11 hx hb dX10_refund_6 rfl rfl ?_
  refine va_iald hx hb hK hP 1 0 rfl rfl (vp_in_iff.mpr (by decide)) dX10_refund_7 ?_
  refine lv_topi (fun yn1 eyn1 => ?_)
  refine lv_iload_n hx hb dX10_refund_8 rfl (lv_at hl 1 rfl) ?_
  refine lv_isub hx hb dX10_refund_9 ?_
  refine lv_topi (fun yn2 eyn2 => ?_)
  refine va_iast hx hb hK hP hD hS 1 0 rfl rfl (vp_in_iff.mpr (by decide)) dX10_refund_10 (fun H locs hP hD hS => ?_)
  obtain ⟨hP, hD⟩ : PDq D A [(oX10 w0 v0 v1 v2 v3 v4 g5 g6 (nI ed) g8 v9 (nI nb) g11 g12 v13 g14 g15 g16 g17 g18 g19 g20 g21 g22 g23 g24 g25 g26 v27 v28 v29 v30 v31 v32 v33 v34 v35 v36 v37 (nI ol)), (v0, .inl (cA 0, 326, .inl (upd fs 6 yn2)))] H := ⟨hP, hD⟩
  have hn4 : RI cn pq en dy (upd fs 6 yn2) := RI.put hri 6 yn2 (by decide) (by decide) (by decide) (by decide) (by decide)
  generalize (upd fs 6 yn2) = fn3 at hP hD hn4
  obtain ⟨hP, hD⟩ : PDq D A [(oX10 w0 v0 v1 v2 v3 v4 g5 g6 (nI ed) g8 v9 (nI nb) g11 g12 v13 g14 g15 g16 g17 g18 g19 g20 g21 g22 g23 g24 g25 g26 v27 v28 v29 v30 v31 v32 v33 v34 v35 v36 v37 (nI ol)), (v0, .inl (cA 0, 326, .inl fn3))] H := ⟨hP, hD⟩
  refine lv_aload_n hx hb dX10_refund_11 rfl (lv_at hl 0 rfl) ?_
  refine va_get (D := D) (ci := 11) (v := .ref v0) (C := RX10) (T := TX10) (N := 39) hx hb hts inX10 hown hK hP 0 rfl rfl 0 (by decide) (hts (.fieldLink RX10 7 "EscrowDeskModel" "s" "[I") (by decide +kernel)) (fun _ h9 => h9) rfl dX10_refund_12 ?_
  refine lv_bipush (v := 11) hx hb dX10_refund_15 (by decide) ?_
  refine lv_dup2_11 hx hb dX10_refund_17 rfl rfl ?_
  refine va_iald hx hb hK hP 1 0 rfl rfl (vp_in_iff.mpr (by decide)) dX10_refund_18 ?_
  refine lv_topi (fun yn5 eyn5 => ?_)
  refine lv_iload_n hx hb dX10_refund_19 rfl (lv_at hl 1 rfl) ?_
  refine lv_iadd hx hb dX10_refund_20 ?_
  refine lv_topi (fun yn6 eyn6 => ?_)
  refine va_iast hx hb hK hP hD hS 1 0 rfl rfl (vp_in_iff.mpr (by decide)) dX10_refund_21 (fun H locs hP hD hS => ?_)
  obtain ⟨hP, hD⟩ : PDq D A [(oX10 w0 v0 v1 v2 v3 v4 g5 g6 (nI ed) g8 v9 (nI nb) g11 g12 v13 g14 g15 g16 g17 g18 g19 g20 g21 g22 g23 g24 g25 g26 v27 v28 v29 v30 v31 v32 v33 v34 v35 v36 v37 (nI ol)), (v0, .inl (cA 0, 326, .inl (upd fn3 11 yn6)))] H := ⟨hP, hD⟩
  have hn8 : RI cn pq en dy (upd fn3 11 yn6) := RI.put hn4 11 yn6 (by decide) (by decide) (by decide) (by decide) (by decide)
  generalize (upd fn3 11 yn6) = fn7 at hP hD hn8
  obtain ⟨hP, hD⟩ : PDq D A [(oX10 w0 v0 v1 v2 v3 v4 g5 g6 (nI ed) g8 v9 (nI nb) g11 g12 v13 g14 g15 g16 g17 g18 g19 g20 g21 g22 g23 g24 g25 g26 v27 v28 v29 v30 v31 v32 v33 v34 v35 v36 v37 (nI ol)), (v0, .inl (cA 0, 326, .inl fn7))] H := ⟨hP, hD⟩
  refine lv_aload_n hx hb dX10_refund_22 rfl (lv_at hl 0 rfl) ?_
  refine va_get (D := D) (ci := 11) (v := .ref v0) (C := RX10) (T := TX10) (N := 39) hx hb hts inX10 hown hK hP 0 rfl rfl 0 (by decide) (hts (.fieldLink RX10 7 "EscrowDeskModel" "s" "[I") (by decide +kernel)) (fun _ h9 => h9) rfl dX10_refund_23 ?_
  refine lv_iconst (v := 2) hx hb dX10_refund_26 (by decide) ?_
  refine lv_iload_n hx hb dX10_refund_27 rfl (lv_at hl 1 rfl) ?_
  refine lv_iload_n hx hb dX10_refund_28 rfl (lv_at hl 2 rfl) ?_
  obtain ⟨hPc, hDc, hFc⟩ := PDq.cut (wc := [(v0, .inl (cA 0, 326, .inl fn7))]) hP hD hS hA [1] (by decide) rfl
  refine va_callv (va_runS (As := [.ref v0, .int 2, .int a, .int b]) (rest := []) ⟨hx, hb, hml, hown, hts⟩ (r_enter l D cA sa v0 cn pq en dy fn7 2 a b H.size hcn hpq hen hdy hn8) (va_cwS 4 hts gX10_refund_X10_enter rfl rfl rfl (by decide +kernel) ⟨(Nat.le_of_ble_eq_true rfl), (Nat.le_of_ble_eq_true rfl)⟩) ⟨Wd.blind, fun U hU hW => ⟨rfl, Wd.call hPc hDc hK hC hZ hS hFc U hU hW⟩⟩ rfl rfl hl.1 rfl (lv_room (Nat.le_of_ble_eq_true rfl)) dX10_refund_29 ⟨(Nat.le_of_ble_eq_true rfl), (Nat.le_of_ble_eq_true rfl)⟩) hS (fun q _ h => hFc q h) hFc (fun u t H1 locs ht hvm hw hB hz1 hk1 hS => ?_)
  obtain ⟨qn9, fn10, hn11, hn12, hP1, hD1⟩ := hB
  rw [ht] at hP1
  obtain ⟨hP, hD⟩ := PDq.join (w := [(oX10 w0 v0 v1 v2 v3 v4 g5 g6 (nI ed) g8 v9 (nI nb) g11 g12 v13 g14 g15 g16 g17 g18 g19 g20 g21 g22 g23 g24 g25 g26 v27 v28 v29 v30 v31 v32 v33 v34 v35 v36 v37 (nI ol)), (v0, .inl (cA 0, 326, .inl fn10))]) 1 hP hD [1] [0] rfl rfl (by decide) (by decide) hk1 hFc hP1 hD1 rfl
  generalize H1 = H at hP hS ⊢
  obtain ⟨hP9, hD9⟩ := PDq.sub (ws' := [(oX10 w0 v0 v1 v2 v3 v4 g5 g6 (nI ed) g8 v9 (nI nb) g11 g12 v13 g14 g15 g16 g17 g18 g19 g20 g21 g22 g23 g24 g25 g26 v27 v28 v29 v30 v31 v32 v33 v34 v35 v36 v37 (nI ol)), (v0, .inl (cA 0, 326, .inl fn10))]) hP hD [0, 1] (by decide) rfl
  refine W.widen (k := 0) (n := 0) (Nat.le_of_ble_eq_true rfl) (Nat.le_of_ble_eq_true rfl) ?_
  exact (W.vret hx hb hr (fun t ht hW => ⟨⟨(), rfl, trivial, qn9, fn10, hn11, hn12, by rw [ht]; exact hP9, hD9⟩, hS.F ht⟩) hS.2.2 dX10_refund_32)

set_option maxHeartbeats 4000000 in
set_option maxRecDepth 100000 in
/-- reference: closeIfPaid -/
theorem r_closeIfPaid (l : Launch) (D : va_G) (cA : Nat → ClassId) (sa : Nat → Nat) (w0 : Nat) (ed : Nat) (nb : Nat) (ol : Nat) (v0 : Nat) (v1 : Nat) (v2 : Nat) (v3 : Nat) (v4 : Nat) (v9 : Nat) (v13 : Nat) (v27 : Nat) (v28 : Nat) (v29 : Nat) (v30 : Nat) (v31 : Nat) (v32 : Nat) (v33 : Nat) (v34 : Nat) (v35 : Nat) (v36 : Nat) (v37 : Nat) (g8 : Int32) (g11 : Int32) (g12 : Int32) (g14 : Int32) (g15 : Int32) (g16 : Int32) (g17 : Int32) (g18 : Int32) (g19 : Int32) (g20 : Int32) (g21 : Int32) (g22 : Int32) (g23 : Int32) (g24 : Int32) (g26 : Int32) (g5 : Int64) (g6 : Int64) (g25 : Int64) (cn : Nat) (pq : Nat) (en : Nat) (dy : Nat) (fs : Nat → Int32) (mi : Nat) (sz : Nat) (hcn : cn ≤ 10) (hpq : pq ≤ 8) (hen : en ≤ 60) (hdy : dy ≤ 20000) (hri : RI cn pq en dy fs) (hmi : mi < 10) : Met l yX10_closeIfPaid wsX10_closeIfPaid ({ frames := 3, cells := 0, slots := 0, locals := 64 }) (va_Pc [.ref w0, .int (nI mi)] (Wd D cA sa [(oX10 w0 v0 v1 v2 v3 v4 g5 g6 (nI ed) g8 v9 (nI nb) g11 g12 v13 g14 g15 g16 g17 g18 g19 g20 g21 g22 g23 g24 g25 g26 v27 v28 v29 v30 v31 v32 v33 v34 v35 v36 v37 (nI ol)), (v0, .inl (cA 0, 326, .inl fs))] sz)) (va_Qv (fun _ : Unit => True) (fun (_ : Unit) t => ∃ zs : Nat → Int32, RI cn pq en dy zs ∧ Wq D (va_A [(oX10 w0 v0 v1 v2 v3 v4 g5 g6 (nI ed) g8 v9 (nI nb) g11 g12 v13 g14 g15 g16 g17 g18 g19 g20 g21 g22 g23 g24 g25 g26 v27 v28 v29 v30 v31 v32 v33 v34 v35 v36 v37 (nI ol)), (v0, .inl (cA 0, 326, .inl fs))] sz) [(oX10 w0 v0 v1 v2 v3 v4 g5 g6 (nI ed) g8 v9 (nI nb) g11 g12 v13 g14 g15 g16 g17 g18 g19 g20 g21 g22 g23 g24 g25 g26 v27 v28 v29 v30 v31 v32 v33 v34 v35 v36 v37 (nI ol)), (v0, .inl (cA 0, 326, .inl zs))] t) (va_A [(oX10 w0 v0 v1 v2 v3 v4 g5 g6 (nI ed) g8 v9 (nI nb) g11 g12 v13 g14 g15 g16 g17 g18 g19 g20 g21 g22 g23 g24 g25 g26 v27 v28 v29 v30 v31 v32 v33 v34 v35 v36 v37 (nI ol)), (v0, .inl (cA 0, 326, .inl fs))] sz)) 0 0 (va_A [(oX10 w0 v0 v1 v2 v3 v4 g5 g6 (nI ed) g8 v9 (nI nb) g11 g12 v13 g14 g15 g16 g17 g18 g19 g20 g21 g22 g23 g24 g25 g26 v27 v28 v29 v30 v31 v32 v33 v34 v35 v36 v37 (nI ol)), (v0, .inl (cA 0, 326, .inl fs))] sz) := by
  refine Met.ofW (cc := cX10_closeIfPaid) (maxL := 2) (ret := none) (by decide) rfl ?_
  intro p e s m args below meth c s₁ B hml hv
  obtain ⟨rfl, hsz, hP, hK, hD0, hC, hZ⟩ := hv
  have hx := B.exec
  have hb := B.bytes
  have hr := B.returns
  have hts := atoms_spec (ws := wsX10_closeIfPaid) B.pre
  have hown : s.vm.findClass RX10 = some m.cls := findClass_of_methodNamed B.named
  have hlocks := B.notSynchronized
  subst hsz
  have hD := hD0.self (sz := s.heap.size)
  generalize hAe : va_A [(oX10 w0 v0 v1 v2 v3 v4 g5 g6 (nI ed) g8 v9 (nI nb) g11 g12 v13 g14 g15 g16 g17 g18 g19 g20 g21 g22 g23 g24 g25 g26 v27 v28 v29 v30 v31 v32 v33 v34 v35 v36 v37 (nI ol)), (v0, .inl (cA 0, 326, .inl fs))] s.heap.size = A at hD hZ ⊢
  have hA : ∀ q : Nat, s.heap.size ≤ q → A q := fun q h => by rw [← hAe]; exact Or.inr h
  have hS : va_S A s.heap s.heap [] := va_S.rf
  have hP : va_P D vwCl [(oX10 w0 v0 v1 v2 v3 v4 g5 g6 (nI ed) g8 v9 (nI nb) g11 g12 v13 g14 g15 g16 g17 g18 g19 g20 g21 g22 g23 g24 g25 g26 v27 v28 v29 v30 v31 v32 v33 v34 v35 v36 v37 (nI ol)), (v0, .inl (cA 0, 326, .inl fs))] s.heap := hP
  have hl := lv_entry ([.ref w0, .int (nI mi)]) (n := 2) (Nat.le_of_ble_eq_true rfl)
  rw [lg_entry_eq]
  generalize (lg_sl ([.ref w0, .int (nI mi)]) ++ List.replicate (2 - (lg_sl ([.ref w0, .int (nI mi)])).length) Slot.unset).toArray = ls at hl ⊢
  have hl : lv_has ls 2 [(0, .ref w0), (1, .int (nI mi))] := hl
  refine lv_aload_n hx hb dX10_closeIfPaid_0 rfl (lv_at hl 0 rfl) ?_
  refine lv_iload_n hx hb dX10_closeIfPaid_1 rfl (lv_at hl 1 rfl) ?_
  obtain ⟨hPc, hDc, hFc⟩ := PDq.cut (wc := [(oX10 w0 v0 v1 v2 v3 v4 g5 g6 (nI ed) g8 v9 (nI nb) g11 g12 v13 g14 g15 g16 g17 g18 g19 g20 g21 g22 g23 g24 g25 g26 v27 v28 v29 v30 v31 v32 v33 v34 v35 v36 v37 (nI ol)), (v0, .inl (cA 0, 326, .inl fs))]) hP hD hS hA [0, 1] (by decide) rfl
  refine va_calli (va_runV (As := [.int (nI mi)]) (rest := []) ⟨hx, hb, hml, hown, hts⟩ (r_remainingOf l D cA sa w0 ed nb ol v0 v1 v2 v3 v4 v9 v13 v27 v28 v29 v30 v31 v32 v33 v34 v35 v36 v37 g8 g11 g12 g14 g15 g16 g17 g18 g19 g20 g21 g22 g23 g24 g26 g5 g6 g25 fs mi s.heap.size hmi) (cwV 1 hts gX10_closeIfPaid_X10_remainingOf rfl rfl rfl (by decide +kernel) ⟨(Nat.le_of_ble_eq_true rfl), (Nat.le_of_ble_eq_true rfl)⟩) ⟨Wd.blind, va_recv hK hPc (ci := 11) (q0 := 0) rfl rfl, fun U hU hW => ⟨rfl, Wd.call hPc hDc hK hC hZ hS hFc U hU hW⟩⟩ rfl rfl hl.1 rfl (lv_room (Nat.le_of_ble_eq_true rfl)) dX10_closeIfPaid_2 ⟨(Nat.le_of_ble_eq_true rfl), (Nat.le_of_ble_eq_true rfl)⟩) hS (fun q _ h => hFc q h) hFc (fun rn1 u t H1 locs ht hvm hw hB hz1 hk1 hS => ?_)
  obtain ⟨hP1, hD1⟩ := hB
  rw [ht] at hP1
  obtain ⟨hP, hD⟩ := PDq.join (w := [(oX10 w0 v0 v1 v2 v3 v4 g5 g6 (nI ed) g8 v9 (nI nb) g11 g12 v13 g14 g15 g16 g17 g18 g19 g20 g21 g22 g23 g24 g25 g26 v27 v28 v29 v30 v31 v32 v33 v34 v35 v36 v37 (nI ol)), (v0, .inl (cA 0, 326, .inl fs))]) 0 hP hD [0, 1] [] rfl rfl (by decide) (by decide) hk1 hFc hP1 hD1 rfl
  generalize H1 = H at hP hS ⊢
  refine lv_if_ne (tgt := 15) hx hb dX10_closeIfPaid_5 (by decide) (fun c2 => ?_) (fun c2 => ?_)
  · skip
    obtain ⟨hP9, hD9⟩ := PDq.sub (ws' := [(oX10 w0 v0 v1 v2 v3 v4 g5 g6 (nI ed) g8 v9 (nI nb) g11 g12 v13 g14 g15 g16 g17 g18 g19 g20 g21 g22 g23 g24 g25 g26 v27 v28 v29 v30 v31 v32 v33 v34 v35 v36 v37 (nI ol)), (v0, .inl (cA 0, 326, .inl fs))]) hP hD [0, 1] (by decide) rfl
    refine W.widen (k := 0) (n := 0) (Nat.le_of_ble_eq_true rfl) (Nat.le_of_ble_eq_true rfl) ?_
    exact (W.vret hx hb hr (fun t ht hW => ⟨⟨(), rfl, trivial, fs, hri, by rw [ht]; exact hP9, hD9⟩, hS.F ht⟩) hS.2.2 dX10_closeIfPaid_15)
  · skip
    refine lv_aload_n hx hb dX10_closeIfPaid_8 rfl (lv_at hl 0 rfl) ?_
    refine lv_iload_n hx hb dX10_closeIfPaid_9 rfl (lv_at hl 1 rfl) ?_
    refine lv_iconst (v := 2) hx hb dX10_closeIfPaid_10 (by decide) ?_
    refine lv_iconst (v := 3) hx hb dX10_closeIfPaid_11 (by decide) ?_
    obtain ⟨hPc, hDc, hFc⟩ := PDq.cut (wc := [(oX10 w0 v0 v1 v2 v3 v4 g5 g6 (nI ed) g8 v9 (nI nb) g11 g12 v13 g14 g15 g16 g17 g18 g19 g20 g21 g22 g23 g24 g25 g26 v27 v28 v29 v30 v31 v32 v33 v34 v35 v36 v37 (nI ol)), (v0, .inl (cA 0, 326, .inl fs))]) hP hD hS hA [0, 1] (by decide) rfl
    refine va_callv (va_runV (As := [.int (nI mi), .int 2, .int 3]) (rest := []) ⟨hx, hb, hml, hown, hts⟩ (r_set l D cA sa w0 ed nb ol v0 v1 v2 v3 v4 v9 v13 v27 v28 v29 v30 v31 v32 v33 v34 v35 v36 v37 g8 g11 g12 g14 g15 g16 g17 g18 g19 g20 g21 g22 g23 g24 g26 g5 g6 g25 cn pq en dy fs mi 2 3 H.size hcn hpq hen hdy hri hmi (by omega)) (cwV 3 hts gX10_closeIfPaid_X10_set rfl rfl rfl (by decide +kernel) ⟨(Nat.le_of_ble_eq_true rfl), (Nat.le_of_ble_eq_true rfl)⟩) ⟨Wd.blind, va_recv hK hPc (ci := 11) (q0 := 0) rfl rfl, fun U hU hW => ⟨rfl, Wd.call hPc hDc hK hC hZ hS hFc U hU hW⟩⟩ rfl rfl hl.1 rfl (lv_room (Nat.le_of_ble_eq_true rfl)) dX10_closeIfPaid_12 ⟨(Nat.le_of_ble_eq_true rfl), (Nat.le_of_ble_eq_true rfl)⟩) hS (fun q _ h => hFc q h) hFc (fun u t H1 locs ht hvm hw hB hz1 hk1 hS => ?_)
    obtain ⟨fn3, hn4, hP1, hD1⟩ := hB
    rw [ht] at hP1
    obtain ⟨hP, hD⟩ := PDq.join (w := [(oX10 w0 v0 v1 v2 v3 v4 g5 g6 (nI ed) g8 v9 (nI nb) g11 g12 v13 g14 g15 g16 g17 g18 g19 g20 g21 g22 g23 g24 g25 g26 v27 v28 v29 v30 v31 v32 v33 v34 v35 v36 v37 (nI ol)), (v0, .inl (cA 0, 326, .inl fn3))]) 0 hP hD [0, 1] [] rfl rfl (by decide) (by decide) hk1 hFc hP1 hD1 rfl
    generalize H1 = H at hP hS ⊢
    obtain ⟨hP9, hD9⟩ := PDq.sub (ws' := [(oX10 w0 v0 v1 v2 v3 v4 g5 g6 (nI ed) g8 v9 (nI nb) g11 g12 v13 g14 g15 g16 g17 g18 g19 g20 g21 g22 g23 g24 g25 g26 v27 v28 v29 v30 v31 v32 v33 v34 v35 v36 v37 (nI ol)), (v0, .inl (cA 0, 326, .inl fn3))]) hP hD [0, 1] (by decide) rfl
    refine W.widen (k := 0) (n := 0) (Nat.le_of_ble_eq_true rfl) (Nat.le_of_ble_eq_true rfl) ?_
    exact (W.vret hx hb hr (fun t ht hW => ⟨⟨(), rfl, trivial, fn3, hn4, by rw [ht]; exact hP9, hD9⟩, hS.F ht⟩) hS.2.2 dX10_closeIfPaid_15)

set_option maxHeartbeats 4000000 in
set_option maxRecDepth 100000 in
/-- reference: isRipe -/
theorem r_isRipe (l : Launch) (D : va_G) (cA : Nat → ClassId) (sa : Nat → Nat) (w0 : Nat) (ed : Nat) (nb : Nat) (ol : Nat) (v0 : Nat) (v1 : Nat) (v2 : Nat) (v3 : Nat) (v4 : Nat) (v9 : Nat) (v13 : Nat) (v27 : Nat) (v28 : Nat) (v29 : Nat) (v30 : Nat) (v31 : Nat) (v32 : Nat) (v33 : Nat) (v34 : Nat) (v35 : Nat) (v36 : Nat) (v37 : Nat) (g8 : Int32) (g11 : Int32) (g12 : Int32) (g14 : Int32) (g15 : Int32) (g16 : Int32) (g17 : Int32) (g18 : Int32) (g19 : Int32) (g20 : Int32) (g21 : Int32) (g22 : Int32) (g23 : Int32) (g24 : Int32) (g26 : Int32) (g5 : Int64) (g6 : Int64) (g25 : Int64) (cn : Nat) (pq : Nat) (en : Nat) (dy : Nat) (fs : Nat → Int32) (mi : Nat) (sz : Nat) (hcn : cn ≤ 10) (hpq : pq ≤ 8) (hen : en ≤ 60) (hdy : dy ≤ 20000) (hri : RI cn pq en dy fs) (hmi : mi < 10) : Met l yX10_isRipe wsX10_isRipe ({ frames := 1, cells := 0, slots := 0, locals := 22 }) (va_Pc [.ref w0, .int (nI mi)] (Wd D cA sa [(oX10 w0 v0 v1 v2 v3 v4 g5 g6 (nI ed) g8 v9 (nI nb) g11 g12 v13 g14 g15 g16 g17 g18 g19 g20 g21 g22 g23 g24 g25 g26 v27 v28 v29 v30 v31 v32 v33 v34 v35 v36 v37 (nI ol)), (v0, .inl (cA 0, 326, .inl fs))] sz)) (va_Qi (fun (r : Int32) (_ : Unit) => r = 0 ∨ r = 1) (fun (_ : Unit) t => Wq D (va_A [(oX10 w0 v0 v1 v2 v3 v4 g5 g6 (nI ed) g8 v9 (nI nb) g11 g12 v13 g14 g15 g16 g17 g18 g19 g20 g21 g22 g23 g24 g25 g26 v27 v28 v29 v30 v31 v32 v33 v34 v35 v36 v37 (nI ol)), (v0, .inl (cA 0, 326, .inl fs))] sz) [(oX10 w0 v0 v1 v2 v3 v4 g5 g6 (nI ed) g8 v9 (nI nb) g11 g12 v13 g14 g15 g16 g17 g18 g19 g20 g21 g22 g23 g24 g25 g26 v27 v28 v29 v30 v31 v32 v33 v34 v35 v36 v37 (nI ol)), (v0, .inl (cA 0, 326, .inl fs))] t) (va_A [(oX10 w0 v0 v1 v2 v3 v4 g5 g6 (nI ed) g8 v9 (nI nb) g11 g12 v13 g14 g15 g16 g17 g18 g19 g20 g21 g22 g23 g24 g25 g26 v27 v28 v29 v30 v31 v32 v33 v34 v35 v36 v37 (nI ol)), (v0, .inl (cA 0, 326, .inl fs))] sz)) 0 0 (va_A [(oX10 w0 v0 v1 v2 v3 v4 g5 g6 (nI ed) g8 v9 (nI nb) g11 g12 v13 g14 g15 g16 g17 g18 g19 g20 g21 g22 g23 g24 g25 g26 v27 v28 v29 v30 v31 v32 v33 v34 v35 v36 v37 (nI ol)), (v0, .inl (cA 0, 326, .inl fs))] sz) := by
  refine Met.ofW (cc := cX10_isRipe) (maxL := 2) (ret := (some .boolean)) (by decide) rfl ?_
  intro p e s m args below meth c s₁ B hml hv
  obtain ⟨rfl, hsz, hP, hK, hD0, hC, hZ⟩ := hv
  have hx := B.exec
  have hb := B.bytes
  have hr := B.returns
  have hts := atoms_spec (ws := wsX10_isRipe) B.pre
  have hown : s.vm.findClass RX10 = some m.cls := findClass_of_methodNamed B.named
  have hlocks := B.notSynchronized
  subst hsz
  have hD := hD0.self (sz := s.heap.size)
  generalize hAe : va_A [(oX10 w0 v0 v1 v2 v3 v4 g5 g6 (nI ed) g8 v9 (nI nb) g11 g12 v13 g14 g15 g16 g17 g18 g19 g20 g21 g22 g23 g24 g25 g26 v27 v28 v29 v30 v31 v32 v33 v34 v35 v36 v37 (nI ol)), (v0, .inl (cA 0, 326, .inl fs))] s.heap.size = A at hD hZ ⊢
  have hA : ∀ q : Nat, s.heap.size ≤ q → A q := fun q h => by rw [← hAe]; exact Or.inr h
  have hS : va_S A s.heap s.heap [] := va_S.rf
  have hP : va_P D vwCl [(oX10 w0 v0 v1 v2 v3 v4 g5 g6 (nI ed) g8 v9 (nI nb) g11 g12 v13 g14 g15 g16 g17 g18 g19 g20 g21 g22 g23 g24 g25 g26 v27 v28 v29 v30 v31 v32 v33 v34 v35 v36 v37 (nI ol)), (v0, .inl (cA 0, 326, .inl fs))] s.heap := hP
  have hl := lv_entry ([.ref w0, .int (nI mi)]) (n := 2) (Nat.le_of_ble_eq_true rfl)
  rw [lg_entry_eq]
  generalize (lg_sl ([.ref w0, .int (nI mi)]) ++ List.replicate (2 - (lg_sl ([.ref w0, .int (nI mi)])).length) Slot.unset).toArray = ls at hl ⊢
  have hl : lv_has ls 2 [(0, .ref w0), (1, .int (nI mi))] := hl
  have inX10 : ∀ w ∈ u_ws RX10 TX10 39, w ∈ wsX10_isRipe := by decide +kernel
  refine lv_aload_n hx hb dX10_isRipe_0 rfl (lv_at hl 0 rfl) ?_
  refine lv_iload_n hx hb dX10_isRipe_1 rfl (lv_at hl 1 rfl) ?_
  refine lv_iconst (v := 2) hx hb dX10_isRipe_2 (by decide) ?_
  obtain ⟨hPc, hDc, hFc⟩ := PDq.cut (wc := [(oX10 w0 v0 v1 v2 v3 v4 g5 g6 (nI ed) g8 v9 (nI nb) g11 g12 v13 g14 g15 g16 g17 g18 g19 g20 g21 g22 g23 g24 g25 g26 v27 v28 v29 v30 v31 v32 v33 v34 v35 v36 v37 (nI ol)), (v0, .inl (cA 0, 326, .inl fs))]) hP hD hS hA [0, 1] (by decide) rfl
  refine va_calli (va_runV (As := [.int (nI mi), .int 2]) (rest := []) ⟨hx, hb, hml, hown, hts⟩ (r_of l D cA sa w0 ed nb ol v0 v1 v2 v3 v4 v9 v13 v27 v28 v29 v30 v31 v32 v33 v34 v35 v36 v37 g8 g11 g12 g14 g15 g16 g17 g18 g19 g20 g21 g22 g23 g24 g26 g5 g6 g25 fs mi 2 s.heap.size hmi (by omega)) (cwV 2 hts gX10_isRipe_X10_of rfl rfl rfl (by decide +kernel) ⟨(Nat.le_of_ble_eq_true rfl), (Nat.le_of_ble_eq_true rfl)⟩) ⟨Wd.blind, va_recv hK hPc (ci := 11) (q0 := 0) rfl rfl, fun U hU hW => ⟨rfl, Wd.call hPc hDc hK hC hZ hS hFc U hU hW⟩⟩ rfl rfl hl.1 rfl (lv_room (Nat.le_of_ble_eq_true rfl)) dX10_isRipe_3 ⟨(Nat.le_of_ble_eq_true rfl), (Nat.le_of_ble_eq_true rfl)⟩) hS (fun q _ h => hFc q h) hFc (fun rn1 u t H1 locs ht hvm hw hB hz1 hk1 hS => ?_)
  obtain ⟨hP1, hD1⟩ := hB
  rw [ht] at hP1
  obtain ⟨hP, hD⟩ := PDq.join (w := [(oX10 w0 v0 v1 v2 v3 v4 g5 g6 (nI ed) g8 v9 (nI nb) g11 g12 v13 g14 g15 g16 g17 g18 g19 g20 g21 g22 g23 g24 g25 g26 v27 v28 v29 v30 v31 v32 v33 v34 v35 v36 v37 (nI ol)), (v0, .inl (cA 0, 326, .inl fs))]) 0 hP hD [0, 1] [] rfl rfl (by decide) (by decide) hk1 hFc hP1 hD1 rfl
  generalize H1 = H at hP hS ⊢
  obtain rfl : rn1 = (fs (16 + 7 * mi + 2)) := hw
  refine lv_iconst (v := 1) hx hb dX10_isRipe_6 (by decide) ?_
  refine lv_icmp_ne (tgt := 36) hx hb dX10_isRipe_7 (by decide) (fun c2 => ?_) (fun c2 => ?_)
  · skip
    refine lv_iconst (v := 0) hx hb dX10_isRipe_36 (by decide) ?_
    obtain ⟨hP9, hD9⟩ := PDq.sub (ws' := [(oX10 w0 v0 v1 v2 v3 v4 g5 g6 (nI ed) g8 v9 (nI nb) g11 g12 v13 g14 g15 g16 g17 g18 g19 g20 g21 g22 g23 g24 g25 g26 v27 v28 v29 v30 v31 v32 v33 v34 v35 v36 v37 (nI ol)), (v0, .inl (cA 0, 326, .inl fs))]) hP hD [0, 1] (by decide) rfl
    refine W.widen (k := 0) (n := 0) (Nat.le_of_ble_eq_true rfl) (Nat.le_of_ble_eq_true rfl) ?_
    exact (W.zret (v := 0) hx hb hr (by first | rfl | decide) (fun t ht hW => ⟨⟨0, (), rfl, (by first | exact Or.inl rfl | exact Or.inr rfl), by rw [ht]; exact hP9, hD9⟩, hS.F ht⟩) hS.2.2 dX10_isRipe_37)
  · skip
    refine lv_aload_n hx hb dX10_isRipe_10 rfl (lv_at hl 0 rfl) ?_
    refine va_get (D := D) (ci := 11) (v := .ref v0) (C := RX10) (T := TX10) (N := 39) hx hb hts inX10 hown hK hP 0 rfl rfl 0 (by decide) (hts (.fieldLink RX10 7 "EscrowDeskModel" "s" "[I") (by decide +kernel)) (fun _ h9 => h9) rfl dX10_isRipe_11 ?_
    refine lv_iconst (v := 4) hx hb dX10_isRipe_14 (by decide) ?_
    refine va_iald hx hb hK hP 1 0 rfl rfl (vp_in_iff.mpr (by decide)) dX10_isRipe_15 ?_
    refine lv_topi (fun yn3 eyn3 => ?_)
    obtain rfl : yn3 = (nI dy) := eyn3.trans hri.2.2.2.1
    refine lv_aload_n hx hb dX10_isRipe_16 rfl (lv_at hl 0 rfl) ?_
    refine lv_iload_n hx hb dX10_isRipe_17 rfl (lv_at hl 1 rfl) ?_
    refine lv_iconst (v := 4) hx hb dX10_isRipe_18 (by decide) ?_
    obtain ⟨hPc, hDc, hFc⟩ := PDq.cut (wc := [(oX10 w0 v0 v1 v2 v3 v4 g5 g6 (nI ed) g8 v9 (nI nb) g11 g12 v13 g14 g15 g16 g17 g18 g19 g20 g21 g22 g23 g24 g25 g26 v27 v28 v29 v30 v31 v32 v33 v34 v35 v36 v37 (nI ol)), (v0, .inl (cA 0, 326, .inl fs))]) hP hD hS hA [0, 1] (by decide) rfl
    refine va_calli (va_runV (As := [.int (nI mi), .int 4]) (rest := [.int (nI dy)]) ⟨hx, hb, hml, hown, hts⟩ (r_of l D cA sa w0 ed nb ol v0 v1 v2 v3 v4 v9 v13 v27 v28 v29 v30 v31 v32 v33 v34 v35 v36 v37 g8 g11 g12 g14 g15 g16 g17 g18 g19 g20 g21 g22 g23 g24 g26 g5 g6 g25 fs mi 4 H.size hmi (by omega)) (cwV 2 hts gX10_isRipe_X10_of rfl rfl rfl (by decide +kernel) ⟨(Nat.le_of_ble_eq_true rfl), (Nat.le_of_ble_eq_true rfl)⟩) ⟨Wd.blind, va_recv hK hPc (ci := 11) (q0 := 0) rfl rfl, fun U hU hW => ⟨rfl, Wd.call hPc hDc hK hC hZ hS hFc U hU hW⟩⟩ rfl rfl hl.1 rfl (lv_room (Nat.le_of_ble_eq_true rfl)) dX10_isRipe_19 ⟨(Nat.le_of_ble_eq_true rfl), (Nat.le_of_ble_eq_true rfl)⟩) hS (fun q _ h => hFc q h) hFc (fun rn4 u t H1 locs ht hvm hw hB hz1 hk1 hS => ?_)
    obtain ⟨hP1, hD1⟩ := hB
    rw [ht] at hP1
    obtain ⟨hP, hD⟩ := PDq.join (w := [(oX10 w0 v0 v1 v2 v3 v4 g5 g6 (nI ed) g8 v9 (nI nb) g11 g12 v13 g14 g15 g16 g17 g18 g19 g20 g21 g22 g23 g24 g25 g26 v27 v28 v29 v30 v31 v32 v33 v34 v35 v36 v37 (nI ol)), (v0, .inl (cA 0, 326, .inl fs))]) 0 hP hD [0, 1] [] rfl rfl (by decide) (by decide) hk1 hFc hP1 hD1 rfl
    generalize H1 = H at hP hS ⊢
    obtain rfl : rn4 = (fs (16 + 7 * mi + 4)) := hw
    refine lv_aload_n hx hb dX10_isRipe_22 rfl (lv_at hl 0 rfl) ?_
    refine va_get (D := D) (ci := 11) (v := .ref v0) (C := RX10) (T := TX10) (N := 39) hx hb hts inX10 hown hK hP 0 rfl rfl 0 (by decide) (hts (.fieldLink RX10 7 "EscrowDeskModel" "s" "[I") (by decide +kernel)) (fun _ h9 => h9) rfl dX10_isRipe_23 ?_
    refine lv_iconst (v := 3) hx hb dX10_isRipe_26 (by decide) ?_
    refine va_iald hx hb hK hP 1 0 rfl rfl (vp_in_iff.mpr (by decide)) dX10_isRipe_27 ?_
    refine lv_topi (fun yn5 eyn5 => ?_)
    refine lv_iadd hx hb dX10_isRipe_28 ?_
    refine lv_topi (fun yn6 eyn6 => ?_)
    refine lv_icmp_lt (tgt := 36) hx hb dX10_isRipe_29 (by decide) (fun c7 => ?_) (fun c7 => ?_)
    · skip
      refine lv_iconst (v := 0) hx hb dX10_isRipe_36 (by decide) ?_
      obtain ⟨hP9, hD9⟩ := PDq.sub (ws' := [(oX10 w0 v0 v1 v2 v3 v4 g5 g6 (nI ed) g8 v9 (nI nb) g11 g12 v13 g14 g15 g16 g17 g18 g19 g20 g21 g22 g23 g24 g25 g26 v27 v28 v29 v30 v31 v32 v33 v34 v35 v36 v37 (nI ol)), (v0, .inl (cA 0, 326, .inl fs))]) hP hD [0, 1] (by decide) rfl
      refine W.widen (k := 0) (n := 0) (Nat.le_of_ble_eq_true rfl) (Nat.le_of_ble_eq_true rfl) ?_
      exact (W.zret (v := 0) hx hb hr (by first | rfl | decide) (fun t ht hW => ⟨⟨0, (), rfl, (by first | exact Or.inl rfl | exact Or.inr rfl), by rw [ht]; exact hP9, hD9⟩, hS.F ht⟩) hS.2.2 dX10_isRipe_37)
    · skip
      refine lv_iconst (v := 1) hx hb dX10_isRipe_32 (by decide) ?_
      refine lv_goto (tgt := 37) hx hb dX10_isRipe_33 (by decide) ?_
      obtain ⟨hP9, hD9⟩ := PDq.sub (ws' := [(oX10 w0 v0 v1 v2 v3 v4 g5 g6 (nI ed) g8 v9 (nI nb) g11 g12 v13 g14 g15 g16 g17 g18 g19 g20 g21 g22 g23 g24 g25 g26 v27 v28 v29 v30 v31 v32 v33 v34 v35 v36 v37 (nI ol)), (v0, .inl (cA 0, 326, .inl fs))]) hP hD [0, 1] (by decide) rfl
      refine W.widen (k := 0) (n := 0) (Nat.le_of_ble_eq_true rfl) (Nat.le_of_ble_eq_true rfl) ?_
      exact (W.zret (v := 1) hx hb hr (by first | rfl | decide) (fun t ht hW => ⟨⟨1, (), rfl, (by first | exact Or.inl rfl | exact Or.inr rfl), by rw [ht]; exact hP9, hD9⟩, hS.F ht⟩) hS.2.2 dX10_isRipe_37)

set_option maxHeartbeats 4000000 in
set_option maxRecDepth 100000 in
/-- reference: isFact -/
theorem r_isFact (l : Launch) (D : va_G) (cA : Nat → ClassId) (sa : Nat → Nat) (w0 : Nat) (ed : Nat) (nb : Nat) (ol : Nat) (v0 : Nat) (v1 : Nat) (v2 : Nat) (v3 : Nat) (v4 : Nat) (v9 : Nat) (v13 : Nat) (v27 : Nat) (v28 : Nat) (v29 : Nat) (v30 : Nat) (v31 : Nat) (v32 : Nat) (v33 : Nat) (v34 : Nat) (v35 : Nat) (v36 : Nat) (v37 : Nat) (g8 : Int32) (g11 : Int32) (g12 : Int32) (g14 : Int32) (g15 : Int32) (g16 : Int32) (g17 : Int32) (g18 : Int32) (g19 : Int32) (g20 : Int32) (g21 : Int32) (g22 : Int32) (g23 : Int32) (g24 : Int32) (g26 : Int32) (g5 : Int64) (g6 : Int64) (g25 : Int64) (cn : Nat) (pq : Nat) (en : Nat) (dy : Nat) (fs : Nat → Int32) (mi : Nat) (a : Int32) (b : Int32) (d : Int32) (x : Int32) (y : Int32) (sz : Nat) (hcn : cn ≤ 10) (hpq : pq ≤ 8) (hen : en ≤ 60) (hdy : dy ≤ 20000) (hri : RI cn pq en dy fs) (hmi : mi < 10) : Met l yX10_isFact wsX10_isFact ({ frames := 1, cells := 0, slots := 0, locals := 22 }) (va_Pc [.ref w0, .int (nI mi), .int a, .int b, .int d, .int x, .int y] (Wd D cA sa [(oX10 w0 v0 v1 v2 v3 v4 g5 g6 (nI ed) g8 v9 (nI nb) g11 g12 v13 g14 g15 g16 g17 g18 g19 g20 g21 g22 g23 g24 g25 g26 v27 v28 v29 v30 v31 v32 v33 v34 v35 v36 v37 (nI ol)), (v0, .inl (cA 0, 326, .inl fs))] sz)) (va_Qi (fun (r : Int32) (_ : Unit) => r = 0 ∨ r = 1) (fun (_ : Unit) t => Wq D (va_A [(oX10 w0 v0 v1 v2 v3 v4 g5 g6 (nI ed) g8 v9 (nI nb) g11 g12 v13 g14 g15 g16 g17 g18 g19 g20 g21 g22 g23 g24 g25 g26 v27 v28 v29 v30 v31 v32 v33 v34 v35 v36 v37 (nI ol)), (v0, .inl (cA 0, 326, .inl fs))] sz) [(oX10 w0 v0 v1 v2 v3 v4 g5 g6 (nI ed) g8 v9 (nI nb) g11 g12 v13 g14 g15 g16 g17 g18 g19 g20 g21 g22 g23 g24 g25 g26 v27 v28 v29 v30 v31 v32 v33 v34 v35 v36 v37 (nI ol)), (v0, .inl (cA 0, 326, .inl fs))] t) (va_A [(oX10 w0 v0 v1 v2 v3 v4 g5 g6 (nI ed) g8 v9 (nI nb) g11 g12 v13 g14 g15 g16 g17 g18 g19 g20 g21 g22 g23 g24 g25 g26 v27 v28 v29 v30 v31 v32 v33 v34 v35 v36 v37 (nI ol)), (v0, .inl (cA 0, 326, .inl fs))] sz)) 0 0 (va_A [(oX10 w0 v0 v1 v2 v3 v4 g5 g6 (nI ed) g8 v9 (nI nb) g11 g12 v13 g14 g15 g16 g17 g18 g19 g20 g21 g22 g23 g24 g25 g26 v27 v28 v29 v30 v31 v32 v33 v34 v35 v36 v37 (nI ol)), (v0, .inl (cA 0, 326, .inl fs))] sz) := by
  refine Met.ofW (cc := cX10_isFact) (maxL := 7) (ret := (some .boolean)) (by decide) rfl ?_
  intro p e s m args below meth c s₁ B hml hv
  obtain ⟨rfl, hsz, hP, hK, hD0, hC, hZ⟩ := hv
  have hx := B.exec
  have hb := B.bytes
  have hr := B.returns
  have hts := atoms_spec (ws := wsX10_isFact) B.pre
  have hown : s.vm.findClass RX10 = some m.cls := findClass_of_methodNamed B.named
  have hlocks := B.notSynchronized
  subst hsz
  have hD := hD0.self (sz := s.heap.size)
  generalize hAe : va_A [(oX10 w0 v0 v1 v2 v3 v4 g5 g6 (nI ed) g8 v9 (nI nb) g11 g12 v13 g14 g15 g16 g17 g18 g19 g20 g21 g22 g23 g24 g25 g26 v27 v28 v29 v30 v31 v32 v33 v34 v35 v36 v37 (nI ol)), (v0, .inl (cA 0, 326, .inl fs))] s.heap.size = A at hD hZ ⊢
  have hA : ∀ q : Nat, s.heap.size ≤ q → A q := fun q h => by rw [← hAe]; exact Or.inr h
  have hS : va_S A s.heap s.heap [] := va_S.rf
  have hP : va_P D vwCl [(oX10 w0 v0 v1 v2 v3 v4 g5 g6 (nI ed) g8 v9 (nI nb) g11 g12 v13 g14 g15 g16 g17 g18 g19 g20 g21 g22 g23 g24 g25 g26 v27 v28 v29 v30 v31 v32 v33 v34 v35 v36 v37 (nI ol)), (v0, .inl (cA 0, 326, .inl fs))] s.heap := hP
  have hl := lv_entry ([.ref w0, .int (nI mi), .int a, .int b, .int d, .int x, .int y]) (n := 7) (Nat.le_of_ble_eq_true rfl)
  rw [lg_entry_eq]
  generalize (lg_sl ([.ref w0, .int (nI mi), .int a, .int b, .int d, .int x, .int y]) ++ List.replicate (7 - (lg_sl ([.ref w0, .int (nI mi), .int a, .int b, .int d, .int x, .int y])).length) Slot.unset).toArray = ls at hl ⊢
  have hl : lv_has ls 7 [(0, .ref w0), (1, .int (nI mi)), (2, .int a), (3, .int b), (4, .int d), (5, .int x), (6, .int y)] := hl
  have inX10 : ∀ w ∈ u_ws RX10 TX10 39, w ∈ wsX10_isFact := by decide +kernel
  refine lv_iload_n hx hb dX10_isFact_0 rfl (lv_at hl 2 rfl) ?_
  by_cases hn1 : a = 0
  · skip
    refine W.eq (g2 := F0 m 1 ls [.int 0]) (by rw [hn1]) ?_
    refine lv_tableIn (off := 35) (tgt := 36) hx hb dX10_isFact_1 (by decide) (by decide) (by decide) (by decide) ?_
    refine lv_iload hx hb dX10_isFact_36 (lv_at hl 4 rfl) ?_
    refine lv_iload_n hx hb dX10_isFact_38 rfl (lv_at hl 3 rfl) ?_
    refine lv_icmp_lt (tgt := 46) hx hb dX10_isFact_39 (by decide) (fun c2 => ?_) (fun c2 => ?_)
    · skip
      refine lv_iconst (v := 0) hx hb dX10_isFact_46 (by decide) ?_
      obtain ⟨hP9, hD9⟩ := PDq.sub (ws' := [(oX10 w0 v0 v1 v2 v3 v4 g5 g6 (nI ed) g8 v9 (nI nb) g11 g12 v13 g14 g15 g16 g17 g18 g19 g20 g21 g22 g23 g24 g25 g26 v27 v28 v29 v30 v31 v32 v33 v34 v35 v36 v37 (nI ol)), (v0, .inl (cA 0, 326, .inl fs))]) hP hD [0, 1] (by decide) rfl
      refine W.widen (k := 0) (n := 0) (Nat.le_of_ble_eq_true rfl) (Nat.le_of_ble_eq_true rfl) ?_
      exact (W.zret (v := 0) hx hb hr (by first | rfl | decide) (fun t ht hW => ⟨⟨0, (), rfl, (by first | exact Or.inl rfl | exact Or.inr rfl), by rw [ht]; exact hP9, hD9⟩, hS.F ht⟩) hS.2.2 dX10_isFact_47)
    · skip
      refine lv_iconst (v := 1) hx hb dX10_isFact_42 (by decide) ?_
      refine lv_goto (tgt := 47) hx hb dX10_isFact_43 (by decide) ?_
      obtain ⟨hP9, hD9⟩ := PDq.sub (ws' := [(oX10 w0 v0 v1 v2 v3 v4 g5 g6 (nI ed) g8 v9 (nI nb) g11 g12 v13 g14 g15 g16 g17 g18 g19 g20 g21 g22 g23 g24 g25 g26 v27 v28 v29 v30 v31 v32 v33 v34 v35 v36 v37 (nI ol)), (v0, .inl (cA 0, 326, .inl fs))]) hP hD [0, 1] (by decide) rfl
      refine W.widen (k := 0) (n := 0) (Nat.le_of_ble_eq_true rfl) (Nat.le_of_ble_eq_true rfl) ?_
      exact (W.zret (v := 1) hx hb hr (by first | rfl | decide) (fun t ht hW => ⟨⟨1, (), rfl, (by first | exact Or.inl rfl | exact Or.inr rfl), by rw [ht]; exact hP9, hD9⟩, hS.F ht⟩) hS.2.2 dX10_isFact_47)
  · skip
    by_cases hn3 : a = 1
    · skip
      refine W.eq (g2 := F0 m 1 ls [.int 1]) (by rw [hn3]) ?_
      refine lv_tableIn (off := 47) (tgt := 48) hx hb dX10_isFact_1 (by decide) (by decide) (by decide) (by decide) ?_
      refine lv_iload hx hb dX10_isFact_48 (lv_at hl 5 rfl) ?_
      refine lv_iload_n hx hb dX10_isFact_50 rfl (lv_at hl 3 rfl) ?_
      refine lv_ishr hx hb dX10_isFact_51 ?_
      refine lv_topi (fun yn4 eyn4 => ?_)
      refine lv_iconst (v := 1) hx hb dX10_isFact_52 (by decide) ?_
      refine lv_iand hx hb dX10_isFact_53 ?_
      refine lv_topi (fun yn5 eyn5 => ?_)
      refine lv_iconst (v := 1) hx hb dX10_isFact_54 (by decide) ?_
      refine lv_icmp_ne (tgt := 62) hx hb dX10_isFact_55 (by decide) (fun c6 => ?_) (fun c6 => ?_)
      · skip
        refine lv_iconst (v := 0) hx hb dX10_isFact_62 (by decide) ?_
        obtain ⟨hP9, hD9⟩ := PDq.sub (ws' := [(oX10 w0 v0 v1 v2 v3 v4 g5 g6 (nI ed) g8 v9 (nI nb) g11 g12 v13 g14 g15 g16 g17 g18 g19 g20 g21 g22 g23 g24 g25 g26 v27 v28 v29 v30 v31 v32 v33 v34 v35 v36 v37 (nI ol)), (v0, .inl (cA 0, 326, .inl fs))]) hP hD [0, 1] (by decide) rfl
        refine W.widen (k := 0) (n := 0) (Nat.le_of_ble_eq_true rfl) (Nat.le_of_ble_eq_true rfl) ?_
        exact (W.zret (v := 0) hx hb hr (by first | rfl | decide) (fun t ht hW => ⟨⟨0, (), rfl, (by first | exact Or.inl rfl | exact Or.inr rfl), by rw [ht]; exact hP9, hD9⟩, hS.F ht⟩) hS.2.2 dX10_isFact_63)
      · skip
        refine lv_iconst (v := 1) hx hb dX10_isFact_58 (by decide) ?_
        refine lv_goto (tgt := 63) hx hb dX10_isFact_59 (by decide) ?_
        obtain ⟨hP9, hD9⟩ := PDq.sub (ws' := [(oX10 w0 v0 v1 v2 v3 v4 g5 g6 (nI ed) g8 v9 (nI nb) g11 g12 v13 g14 g15 g16 g17 g18 g19 g20 g21 g22 g23 g24 g25 g26 v27 v28 v29 v30 v31 v32 v33 v34 v35 v36 v37 (nI ol)), (v0, .inl (cA 0, 326, .inl fs))]) hP hD [0, 1] (by decide) rfl
        refine W.widen (k := 0) (n := 0) (Nat.le_of_ble_eq_true rfl) (Nat.le_of_ble_eq_true rfl) ?_
        exact (W.zret (v := 1) hx hb hr (by first | rfl | decide) (fun t ht hW => ⟨⟨1, (), rfl, (by first | exact Or.inl rfl | exact Or.inr rfl), by rw [ht]; exact hP9, hD9⟩, hS.F ht⟩) hS.2.2 dX10_isFact_63)
    · skip
      by_cases hn7 : a = 2
      · skip
        refine W.eq (g2 := F0 m 1 ls [.int 2]) (by rw [hn7]) ?_
        refine lv_tableIn (off := 63) (tgt := 64) hx hb dX10_isFact_1 (by decide) (by decide) (by decide) (by decide) ?_
        refine lv_iload hx hb dX10_isFact_64 (lv_at hl 6 rfl) ?_
        refine lv_iload_n hx hb dX10_isFact_66 rfl (lv_at hl 3 rfl) ?_
        refine lv_ishr hx hb dX10_isFact_67 ?_
        refine lv_topi (fun yn8 eyn8 => ?_)
        refine lv_iconst (v := 1) hx hb dX10_isFact_68 (by decide) ?_
        refine lv_iand hx hb dX10_isFact_69 ?_
        refine lv_topi (fun yn9 eyn9 => ?_)
        refine lv_iconst (v := 1) hx hb dX10_isFact_70 (by decide) ?_
        refine lv_icmp_ne (tgt := 78) hx hb dX10_isFact_71 (by decide) (fun c10 => ?_) (fun c10 => ?_)
        · skip
          refine lv_iconst (v := 0) hx hb dX10_isFact_78 (by decide) ?_
          obtain ⟨hP9, hD9⟩ := PDq.sub (ws' := [(oX10 w0 v0 v1 v2 v3 v4 g5 g6 (nI ed) g8 v9 (nI nb) g11 g12 v13 g14 g15 g16 g17 g18 g19 g20 g21 g22 g23 g24 g25 g26 v27 v28 v29 v30 v31 v32 v33 v34 v35 v36 v37 (nI ol)), (v0, .inl (cA 0, 326, .inl fs))]) hP hD [0, 1] (by decide) rfl
          refine W.widen (k := 0) (n := 0) (Nat.le_of_ble_eq_true rfl) (Nat.le_of_ble_eq_true rfl) ?_
          exact (W.zret (v := 0) hx hb hr (by first | rfl | decide) (fun t ht hW => ⟨⟨0, (), rfl, (by first | exact Or.inl rfl | exact Or.inr rfl), by rw [ht]; exact hP9, hD9⟩, hS.F ht⟩) hS.2.2 dX10_isFact_79)
        · skip
          refine lv_iconst (v := 1) hx hb dX10_isFact_74 (by decide) ?_
          refine lv_goto (tgt := 79) hx hb dX10_isFact_75 (by decide) ?_
          obtain ⟨hP9, hD9⟩ := PDq.sub (ws' := [(oX10 w0 v0 v1 v2 v3 v4 g5 g6 (nI ed) g8 v9 (nI nb) g11 g12 v13 g14 g15 g16 g17 g18 g19 g20 g21 g22 g23 g24 g25 g26 v27 v28 v29 v30 v31 v32 v33 v34 v35 v36 v37 (nI ol)), (v0, .inl (cA 0, 326, .inl fs))]) hP hD [0, 1] (by decide) rfl
          refine W.widen (k := 0) (n := 0) (Nat.le_of_ble_eq_true rfl) (Nat.le_of_ble_eq_true rfl) ?_
          exact (W.zret (v := 1) hx hb hr (by first | rfl | decide) (fun t ht hW => ⟨⟨1, (), rfl, (by first | exact Or.inl rfl | exact Or.inr rfl), by rw [ht]; exact hP9, hD9⟩, hS.F ht⟩) hS.2.2 dX10_isFact_79)
      · skip
        by_cases hn11 : a = 3
        · skip
          refine W.eq (g2 := F0 m 1 ls [.int 3]) (by rw [hn11]) ?_
          refine lv_tableIn (off := 79) (tgt := 80) hx hb dX10_isFact_1 (by decide) (by decide) (by decide) (by decide) ?_
          refine lv_aload_n hx hb dX10_isFact_80 rfl (lv_at hl 0 rfl) ?_
          refine va_get (D := D) (ci := 11) (v := .ref v0) (C := RX10) (T := TX10) (N := 39) hx hb hts inX10 hown hK hP 0 rfl rfl 0 (by decide) (hts (.fieldLink RX10 7 "EscrowDeskModel" "s" "[I") (by decide +kernel)) (fun _ h9 => h9) rfl dX10_isFact_81 ?_
          refine lv_bipush (v := 10) hx hb dX10_isFact_84 (by decide) ?_
          refine va_iald hx hb hK hP 1 0 rfl rfl (vp_in_iff.mpr (by decide)) dX10_isFact_86 ?_
          refine lv_topi (fun yn12 eyn12 => ?_)
          refine lv_iload_n hx hb dX10_isFact_87 rfl (lv_at hl 3 rfl) ?_
          refine lv_icmp_lt (tgt := 95) hx hb dX10_isFact_88 (by decide) (fun c13 => ?_) (fun c13 => ?_)
          · skip
            refine lv_iconst (v := 0) hx hb dX10_isFact_95 (by decide) ?_
            obtain ⟨hP9, hD9⟩ := PDq.sub (ws' := [(oX10 w0 v0 v1 v2 v3 v4 g5 g6 (nI ed) g8 v9 (nI nb) g11 g12 v13 g14 g15 g16 g17 g18 g19 g20 g21 g22 g23 g24 g25 g26 v27 v28 v29 v30 v31 v32 v33 v34 v35 v36 v37 (nI ol)), (v0, .inl (cA 0, 326, .inl fs))]) hP hD [0, 1] (by decide) rfl
            refine W.widen (k := 0) (n := 0) (Nat.le_of_ble_eq_true rfl) (Nat.le_of_ble_eq_true rfl) ?_
            exact (W.zret (v := 0) hx hb hr (by first | rfl | decide) (fun t ht hW => ⟨⟨0, (), rfl, (by first | exact Or.inl rfl | exact Or.inr rfl), by rw [ht]; exact hP9, hD9⟩, hS.F ht⟩) hS.2.2 dX10_isFact_96)
          · skip
            refine lv_iconst (v := 1) hx hb dX10_isFact_91 (by decide) ?_
            refine lv_goto (tgt := 96) hx hb dX10_isFact_92 (by decide) ?_
            obtain ⟨hP9, hD9⟩ := PDq.sub (ws' := [(oX10 w0 v0 v1 v2 v3 v4 g5 g6 (nI ed) g8 v9 (nI nb) g11 g12 v13 g14 g15 g16 g17 g18 g19 g20 g21 g22 g23 g24 g25 g26 v27 v28 v29 v30 v31 v32 v33 v34 v35 v36 v37 (nI ol)), (v0, .inl (cA 0, 326, .inl fs))]) hP hD [0, 1] (by decide) rfl
            refine W.widen (k := 0) (n := 0) (Nat.le_of_ble_eq_true rfl) (Nat.le_of_ble_eq_true rfl) ?_
            exact (W.zret (v := 1) hx hb hr (by first | rfl | decide) (fun t ht hW => ⟨⟨1, (), rfl, (by first | exact Or.inl rfl | exact Or.inr rfl), by rw [ht]; exact hP9, hD9⟩, hS.F ht⟩) hS.2.2 dX10_isFact_96)
        · skip
          by_cases hn14 : a = 4
          · skip
            refine W.eq (g2 := F0 m 1 ls [.int 4]) (by rw [hn14]) ?_
            refine lv_tableIn (off := 96) (tgt := 97) hx hb dX10_isFact_1 (by decide) (by decide) (by decide) (by decide) ?_
            refine lv_aload_n hx hb dX10_isFact_97 rfl (lv_at hl 0 rfl) ?_
            refine lv_iload_n hx hb dX10_isFact_98 rfl (lv_at hl 1 rfl) ?_
            refine lv_iconst (v := 5) hx hb dX10_isFact_99 (by decide) ?_
            obtain ⟨hPc, hDc, hFc⟩ := PDq.cut (wc := [(oX10 w0 v0 v1 v2 v3 v4 g5 g6 (nI ed) g8 v9 (nI nb) g11 g12 v13 g14 g15 g16 g17 g18 g19 g20 g21 g22 g23 g24 g25 g26 v27 v28 v29 v30 v31 v32 v33 v34 v35 v36 v37 (nI ol)), (v0, .inl (cA 0, 326, .inl fs))]) hP hD hS hA [0, 1] (by decide) rfl
            refine va_calli (va_runV (As := [.int (nI mi), .int 5]) (rest := []) ⟨hx, hb, hml, hown, hts⟩ (r_of l D cA sa w0 ed nb ol v0 v1 v2 v3 v4 v9 v13 v27 v28 v29 v30 v31 v32 v33 v34 v35 v36 v37 g8 g11 g12 g14 g15 g16 g17 g18 g19 g20 g21 g22 g23 g24 g26 g5 g6 g25 fs mi 5 s.heap.size hmi (by omega)) (cwV 2 hts gX10_isFact_X10_of rfl rfl rfl (by decide +kernel) ⟨(Nat.le_of_ble_eq_true rfl), (Nat.le_of_ble_eq_true rfl)⟩) ⟨Wd.blind, va_recv hK hPc (ci := 11) (q0 := 0) rfl rfl, fun U hU hW => ⟨rfl, Wd.call hPc hDc hK hC hZ hS hFc U hU hW⟩⟩ rfl rfl hl.1 rfl (lv_room (Nat.le_of_ble_eq_true rfl)) dX10_isFact_100 ⟨(Nat.le_of_ble_eq_true rfl), (Nat.le_of_ble_eq_true rfl)⟩) hS (fun q _ h => hFc q h) hFc (fun rn15 u t H1 locs ht hvm hw hB hz1 hk1 hS => ?_)
            obtain ⟨hP1, hD1⟩ := hB
            rw [ht] at hP1
            obtain ⟨hP, hD⟩ := PDq.join (w := [(oX10 w0 v0 v1 v2 v3 v4 g5 g6 (nI ed) g8 v9 (nI nb) g11 g12 v13 g14 g15 g16 g17 g18 g19 g20 g21 g22 g23 g24 g25 g26 v27 v28 v29 v30 v31 v32 v33 v34 v35 v36 v37 (nI ol)), (v0, .inl (cA 0, 326, .inl fs))]) 0 hP hD [0, 1] [] rfl rfl (by decide) (by decide) hk1 hFc hP1 hD1 rfl
            generalize H1 = H at hP hS ⊢
            obtain rfl : rn15 = (fs (16 + 7 * mi + 5)) := hw
            refine lv_iconst (v := 1) hx hb dX10_isFact_103 (by decide) ?_
            refine lv_icmp_ne (tgt := 111) hx hb dX10_isFact_104 (by decide) (fun c16 => ?_) (fun c16 => ?_)
            · skip
              refine lv_iconst (v := 0) hx hb dX10_isFact_111 (by decide) ?_
              obtain ⟨hP9, hD9⟩ := PDq.sub (ws' := [(oX10 w0 v0 v1 v2 v3 v4 g5 g6 (nI ed) g8 v9 (nI nb) g11 g12 v13 g14 g15 g16 g17 g18 g19 g20 g21 g22 g23 g24 g25 g26 v27 v28 v29 v30 v31 v32 v33 v34 v35 v36 v37 (nI ol)), (v0, .inl (cA 0, 326, .inl fs))]) hP hD [0, 1] (by decide) rfl
              refine W.widen (k := 0) (n := 0) (Nat.le_of_ble_eq_true rfl) (Nat.le_of_ble_eq_true rfl) ?_
              exact (W.zret (v := 0) hx hb hr (by first | rfl | decide) (fun t ht hW => ⟨⟨0, (), rfl, (by first | exact Or.inl rfl | exact Or.inr rfl), by rw [ht]; exact hP9, hD9⟩, hS.F ht⟩) hS.2.2 dX10_isFact_112)
            · skip
              refine lv_iconst (v := 1) hx hb dX10_isFact_107 (by decide) ?_
              refine lv_goto (tgt := 112) hx hb dX10_isFact_108 (by decide) ?_
              obtain ⟨hP9, hD9⟩ := PDq.sub (ws' := [(oX10 w0 v0 v1 v2 v3 v4 g5 g6 (nI ed) g8 v9 (nI nb) g11 g12 v13 g14 g15 g16 g17 g18 g19 g20 g21 g22 g23 g24 g25 g26 v27 v28 v29 v30 v31 v32 v33 v34 v35 v36 v37 (nI ol)), (v0, .inl (cA 0, 326, .inl fs))]) hP hD [0, 1] (by decide) rfl
              refine W.widen (k := 0) (n := 0) (Nat.le_of_ble_eq_true rfl) (Nat.le_of_ble_eq_true rfl) ?_
              exact (W.zret (v := 1) hx hb hr (by first | rfl | decide) (fun t ht hW => ⟨⟨1, (), rfl, (by first | exact Or.inl rfl | exact Or.inr rfl), by rw [ht]; exact hP9, hD9⟩, hS.F ht⟩) hS.2.2 dX10_isFact_112)
          · skip
            refine lv_tableOut (tgt := 113) hx hb dX10_isFact_1 (by have q0 : ¬ (a).toInt = 0 := fun e9 => hn1 (Int32.toInt_inj.mp (e9.trans (by decide))); have q1 : ¬ (a).toInt = 1 := fun e9 => hn3 (Int32.toInt_inj.mp (e9.trans (by decide))); have q2 : ¬ (a).toInt = 2 := fun e9 => hn7 (Int32.toInt_inj.mp (e9.trans (by decide))); have q3 : ¬ (a).toInt = 3 := fun e9 => hn11 (Int32.toInt_inj.mp (e9.trans (by decide))); have q4 : ¬ (a).toInt = 4 := fun e9 => hn14 (Int32.toInt_inj.mp (e9.trans (by decide))); omega) (by decide) ?_
            refine lv_iconst (v := 1) hx hb dX10_isFact_113 (by decide) ?_
            obtain ⟨hP9, hD9⟩ := PDq.sub (ws' := [(oX10 w0 v0 v1 v2 v3 v4 g5 g6 (nI ed) g8 v9 (nI nb) g11 g12 v13 g14 g15 g16 g17 g18 g19 g20 g21 g22 g23 g24 g25 g26 v27 v28 v29 v30 v31 v32 v33 v34 v35 v36 v37 (nI ol)), (v0, .inl (cA 0, 326, .inl fs))]) hP hD [0, 1] (by decide) rfl
            refine W.widen (k := 0) (n := 0) (Nat.le_of_ble_eq_true rfl) (Nat.le_of_ble_eq_true rfl) ?_
            exact (W.zret (v := 1) hx hb hr (by first | rfl | decide) (fun t ht hW => ⟨⟨1, (), rfl, (by first | exact Or.inl rfl | exact Or.inr rfl), by rw [ht]; exact hP9, hD9⟩, hS.F ht⟩) hS.2.2 dX10_isFact_114)

set_option maxHeartbeats 4000000 in
set_option maxRecDepth 100000 in
/-- reference: credit -/
theorem r_credit (l : Launch) (D : va_G) (cA : Nat → ClassId) (sa : Nat → Nat) (w0 : Nat) (ed : Nat) (nb : Nat) (ol : Nat) (v0 : Nat) (v1 : Nat) (v2 : Nat) (v3 : Nat) (v4 : Nat) (v9 : Nat) (v13 : Nat) (v27 : Nat) (v28 : Nat) (v29 : Nat) (v30 : Nat) (v31 : Nat) (v32 : Nat) (v33 : Nat) (v34 : Nat) (v35 : Nat) (v36 : Nat) (v37 : Nat) (g8 : Int32) (g11 : Int32) (g12 : Int32) (g14 : Int32) (g15 : Int32) (g16 : Int32) (g17 : Int32) (g18 : Int32) (g19 : Int32) (g20 : Int32) (g21 : Int32) (g22 : Int32) (g23 : Int32) (g24 : Int32) (g26 : Int32) (g5 : Int64) (g6 : Int64) (g25 : Int64) (cn : Nat) (pq : Nat) (en : Nat) (dy : Nat) (fs : Nat → Int32) (sz : Nat) (hcn : cn ≤ 10) (hpq : pq ≤ 8) (hen : en ≤ 60) (hdy : dy ≤ 20000) (hri : RI cn pq en dy fs) : Met l yX10_credit wsX10_credit ({ frames := 1, cells := 0, slots := 0, locals := 24 }) (va_Pc [.ref w0] (Wd D cA sa [(oX10 w0 v0 v1 v2 v3 v4 g5 g6 (nI ed) g8 v9 (nI nb) g11 g12 v13 g14 g15 g16 g17 g18 g19 g20 g21 g22 g23 g24 g25 g26 v27 v28 v29 v30 v31 v32 v33 v34 v35 v36 v37 (nI ol)), (v0, .inl (cA 0, 326, .inl fs))] sz)) (va_Qv (fun _ : Unit => True) (fun (_ : Unit) t => ∃ z8 : Int32, ∃ z14 : Int32, ∃ z15 : Int32, ∃ z16 : Int32, ∃ z17 : Int32, ∃ z18 : Int32, ∃ z19 : Int32, ∃ z20 : Int32, ∃ z21 : Int32, ∃ z22 : Int32, ∃ z23 : Int32, ∃ z24 : Int32, ∃ z26 : Int32, ∃ z5 : Int64, ∃ z6 : Int64, ∃ z25 : Int64, ∃ e2 : Nat, ∃ zs : Nat → Int32, e2 ≤ 60 ∧ RI cn pq e2 dy zs ∧ Wq D (va_A [(oX10 w0 v0 v1 v2 v3 v4 g5 g6 (nI ed) g8 v9 (nI nb) g11 g12 v13 g14 g15 g16 g17 g18 g19 g20 g21 g22 g23 g24 g25 g26 v27 v28 v29 v30 v31 v32 v33 v34 v35 v36 v37 (nI ol)), (v0, .inl (cA 0, 326, .inl fs))] sz) [(oX10 w0 v0 v1 v2 v3 v4 z5 z6 (nI ed) z8 v9 (nI nb) g11 g12 v13 z14 z15 z16 z17 z18 z19 z20 z21 z22 z23 z24 z25 z26 v27 v28 v29 v30 v31 v32 v33 v34 v35 v36 v37 (nI ol)), (v0, .inl (cA 0, 326, .inl zs))] t) (va_A [(oX10 w0 v0 v1 v2 v3 v4 g5 g6 (nI ed) g8 v9 (nI nb) g11 g12 v13 g14 g15 g16 g17 g18 g19 g20 g21 g22 g23 g24 g25 g26 v27 v28 v29 v30 v31 v32 v33 v34 v35 v36 v37 (nI ol)), (v0, .inl (cA 0, 326, .inl fs))] sz)) 0 0 (va_A [(oX10 w0 v0 v1 v2 v3 v4 g5 g6 (nI ed) g8 v9 (nI nb) g11 g12 v13 g14 g15 g16 g17 g18 g19 g20 g21 g22 g23 g24 g25 g26 v27 v28 v29 v30 v31 v32 v33 v34 v35 v36 v37 (nI ol)), (v0, .inl (cA 0, 326, .inl fs))] sz) := by
  refine Met.ofW (cc := cX10_credit) (maxL := 4) (ret := none) (by decide) rfl ?_
  intro p e s m args below meth c s₁ B hml hv
  obtain ⟨rfl, hsz, hP, hK, hD0, hC, hZ⟩ := hv
  have hx := B.exec
  have hb := B.bytes
  have hr := B.returns
  have hts := atoms_spec (ws := wsX10_credit) B.pre
  have hown : s.vm.findClass RX10 = some m.cls := findClass_of_methodNamed B.named
  have hlocks := B.notSynchronized
  subst hsz
  have hD := hD0.self (sz := s.heap.size)
  generalize hAe : va_A [(oX10 w0 v0 v1 v2 v3 v4 g5 g6 (nI ed) g8 v9 (nI nb) g11 g12 v13 g14 g15 g16 g17 g18 g19 g20 g21 g22 g23 g24 g25 g26 v27 v28 v29 v30 v31 v32 v33 v34 v35 v36 v37 (nI ol)), (v0, .inl (cA 0, 326, .inl fs))] s.heap.size = A at hD hZ ⊢
  have hA : ∀ q : Nat, s.heap.size ≤ q → A q := fun q h => by rw [← hAe]; exact Or.inr h
  have hS : va_S A s.heap s.heap [] := va_S.rf
  have hP : va_P D vwCl [(oX10 w0 v0 v1 v2 v3 v4 g5 g6 (nI ed) g8 v9 (nI nb) g11 g12 v13 g14 g15 g16 g17 g18 g19 g20 g21 g22 g23 g24 g25 g26 v27 v28 v29 v30 v31 v32 v33 v34 v35 v36 v37 (nI ol)), (v0, .inl (cA 0, 326, .inl fs))] s.heap := hP
  have hl := lv_entry ([.ref w0]) (n := 4) (Nat.le_of_ble_eq_true rfl)
  rw [lg_entry_eq]
  generalize (lg_sl ([.ref w0]) ++ List.replicate (4 - (lg_sl ([.ref w0])).length) Slot.unset).toArray = ls at hl ⊢
  have hl : lv_has ls 4 [(0, .ref w0)] := hl
  have inX10 : ∀ w ∈ u_ws RX10 TX10 39, w ∈ wsX10_credit := by decide +kernel
  refine lv_ldc2 (v := 10000) hx hb hown (hts (.constantLong RX10 268 10000) (by decide +kernel)) dX10_credit_0 ?_
  refine lv_aload_n hx hb dX10_credit_3 rfl (lv_at hl 0 rfl) ?_
  refine va_get (D := D) (ci := 11) (v := .ref v0) (C := RX10) (T := TX10) (N := 39) hx hb hts inX10 hown hK hP 0 rfl rfl 0 (by decide) (hts (.fieldLink RX10 7 "EscrowDeskModel" "s" "[I") (by decide +kernel)) (fun _ h9 => h9) rfl dX10_credit_4 ?_
  refine lv_iconst (v := 1) hx hb dX10_credit_7 (by decide) ?_
  obtain ⟨kn1, hn2, hn3, hn4⟩ := hri.2.2.2.2
  refine va_iald hx hb hK hP 1 0 rfl rfl (vp_in_iff.mpr (by decide)) dX10_credit_8 ?_
  refine lv_topi (fun yn5 eyn5 => ?_)
  obtain rfl : yn5 = (nI kn1) := eyn5.trans hn4
  refine lv_i2l (v := ((nI kn1).toInt64)) hx hb dX10_credit_9 rfl ?_
  refine lv_lmul hx hb dX10_credit_10 ?_
  refine lv_topl (fun yn6 eyn6 => ?_)
  refine lv_lstore_n (lv' := [(1, .long yn6), (0, .ref w0)]) hx hb dX10_credit_11 rfl hl (by decide) rfl (fun ls hl => ?_)
  refine lv_aload_n hx hb dX10_credit_12 rfl (lv_at hl 1 rfl) ?_
  refine va_get (D := D) (ci := 11) (v := .long g5) (C := RX10) (T := TX10) (N := 39) hx hb hts inX10 hown hK hP 0 rfl rfl 5 (by decide) (hts (.fieldLink RX10 86 "EscrowDeskModel" "parts" "J") (by decide +kernel)) (fun _ h9 => h9) rfl dX10_credit_13 ?_
  refine lv_lload_n hx hb dX10_credit_16 rfl (lv_at hl 0 rfl) ?_
  refine lv_ldiv hx hb dX10_credit_17 (bas_ne (n := kn1) (by omega) (by omega) eyn6) ?_
  refine lv_topl (fun yn7 eyn7 => ?_)
  refine lv_l2i (v := yn7.toInt32) hx hb dX10_credit_18 rfl ?_
  refine lv_topi (fun yn8 eyn8 => ?_)
  refine lv_istore_n (lv' := [(3, .int yn8), (1, .long yn6), (0, .ref w0)]) hx hb dX10_credit_19 rfl hl (by decide) rfl (fun ls hl => ?_)
  refine lv_aload_n hx hb dX10_credit_20 rfl (lv_at hl 2 rfl) ?_
  refine lv_aload_n hx hb dX10_credit_21 rfl (lv_at hl 2 rfl) ?_
  refine va_get (D := D) (ci := 11) (v := .long g5) (C := RX10) (T := TX10) (N := 39) hx hb hts inX10 hown hK hP 0 rfl rfl 5 (by decide) (hts (.fieldLink RX10 86 "EscrowDeskModel" "parts" "J") (by decide +kernel)) (fun _ h9 => h9) rfl dX10_credit_22 ?_
  refine lv_lload_n hx hb dX10_credit_25 rfl (lv_at hl 1 rfl) ?_
  refine lv_lrem hx hb dX10_credit_26 (bas_ne (n := kn1) (by omega) (by omega) eyn6) ?_
  refine lv_topl (fun yn9 eyn9 => ?_)
  refine va_put (D := D) (ci := 11) (v := .long yn9) (ty := .long) (C := RX10) (T := TX10) (N := 39) hx hb hts inX10 tyX10 tyX10_ok nmX10 hown hK hP hD hS 0 rfl rfl 5 (by decide) (hts (.fieldLink RX10 86 "EscrowDeskModel" "parts" "J") (by decide +kernel)) (fun _ h9 => h9) rfl (by decide +kernel) rfl rfl (Nat.le_of_ble_eq_true rfl) dX10_credit_27 (fun H locs hP hD hS => ?_)
  obtain ⟨hP, hD⟩ : PDq D A [(oX10 w0 v0 v1 v2 v3 v4 yn9 g6 (nI ed) g8 v9 (nI nb) g11 g12 v13 g14 g15 g16 g17 g18 g19 g20 g21 g22 g23 g24 g25 g26 v27 v28 v29 v30 v31 v32 v33 v34 v35 v36 v37 (nI ol)), (v0, .inl (cA 0, 326, .inl fs))] H := ⟨hP, hD⟩
  refine lv_aload_n hx hb dX10_credit_30 rfl (lv_at hl 2 rfl) ?_
  refine va_get (D := D) (ci := 11) (v := .ref v0) (C := RX10) (T := TX10) (N := 39) hx hb hts inX10 hown hK hP 0 rfl rfl 0 (by decide) (hts (.fieldLink RX10 7 "EscrowDeskModel" "s" "[I") (by decide +kernel)) (fun _ h9 => h9) rfl dX10_credit_31 ?_
  refine lv_bipush (v := 7) hx hb dX10_credit_34 (by decide) ?_
  refine lv_dup2_11 hx hb dX10_credit_36 rfl rfl ?_
  refine va_iald hx hb hK hP 1 0 rfl rfl (vp_in_iff.mpr (by decide)) dX10_credit_37 ?_
  refine lv_topi (fun yn10 eyn10 => ?_)
  refine lv_iload_n hx hb dX10_credit_38 rfl (lv_at hl 0 rfl) ?_
  refine lv_iadd hx hb dX10_credit_39 ?_
  refine lv_topi (fun yn11 eyn11 => ?_)
  refine va_iast hx hb hK hP hD hS 1 0 rfl rfl (vp_in_iff.mpr (by decide)) dX10_credit_40 (fun H locs hP hD hS => ?_)
  obtain ⟨hP, hD⟩ : PDq D A [(oX10 w0 v0 v1 v2 v3 v4 yn9 g6 (nI ed) g8 v9 (nI nb) g11 g12 v13 g14 g15 g16 g17 g18 g19 g20 g21 g22 g23 g24 g25 g26 v27 v28 v29 v30 v31 v32 v33 v34 v35 v36 v37 (nI ol)), (v0, .inl (cA 0, 326, .inl (upd fs 7 yn11)))] H := ⟨hP, hD⟩
  have hn13 : RI cn pq en dy (upd fs 7 yn11) := RI.put hri 7 yn11 (by decide) (by decide) (by decide) (by decide) (by decide)
  generalize (upd fs 7 yn11) = fn12 at hP hD hn13
  obtain ⟨hP, hD⟩ : PDq D A [(oX10 w0 v0 v1 v2 v3 v4 yn9 g6 (nI ed) g8 v9 (nI nb) g11 g12 v13 g14 g15 g16 g17 g18 g19 g20 g21 g22 g23 g24 g25 g26 v27 v28 v29 v30 v31 v32 v33 v34 v35 v36 v37 (nI ol)), (v0, .inl (cA 0, 326, .inl fn12))] H := ⟨hP, hD⟩
  refine lv_aload_n hx hb dX10_credit_41 rfl (lv_at hl 2 rfl) ?_
  refine va_get (D := D) (ci := 11) (v := .ref v0) (C := RX10) (T := TX10) (N := 39) hx hb hts inX10 hown hK hP 0 rfl rfl 0 (by decide) (hts (.fieldLink RX10 7 "EscrowDeskModel" "s" "[I") (by decide +kernel)) (fun _ h9 => h9) rfl dX10_credit_42 ?_
  refine lv_bipush (v := 8) hx hb dX10_credit_45 (by decide) ?_
  refine lv_dup2_11 hx hb dX10_credit_47 rfl rfl ?_
  refine va_iald hx hb hK hP 1 0 rfl rfl (vp_in_iff.mpr (by decide)) dX10_credit_48 ?_
  refine lv_topi (fun yn14 eyn14 => ?_)
  refine lv_iload_n hx hb dX10_credit_49 rfl (lv_at hl 0 rfl) ?_
  refine lv_iadd hx hb dX10_credit_50 ?_
  refine lv_topi (fun yn15 eyn15 => ?_)
  refine va_iast hx hb hK hP hD hS 1 0 rfl rfl (vp_in_iff.mpr (by decide)) dX10_credit_51 (fun H locs hP hD hS => ?_)
  obtain ⟨hP, hD⟩ : PDq D A [(oX10 w0 v0 v1 v2 v3 v4 yn9 g6 (nI ed) g8 v9 (nI nb) g11 g12 v13 g14 g15 g16 g17 g18 g19 g20 g21 g22 g23 g24 g25 g26 v27 v28 v29 v30 v31 v32 v33 v34 v35 v36 v37 (nI ol)), (v0, .inl (cA 0, 326, .inl (upd fn12 8 yn15)))] H := ⟨hP, hD⟩
  have hn17 : RI cn pq en dy (upd fn12 8 yn15) := RI.put hn13 8 yn15 (by decide) (by decide) (by decide) (by decide) (by decide)
  generalize (upd fn12 8 yn15) = fn16 at hP hD hn17
  obtain ⟨hP, hD⟩ : PDq D A [(oX10 w0 v0 v1 v2 v3 v4 yn9 g6 (nI ed) g8 v9 (nI nb) g11 g12 v13 g14 g15 g16 g17 g18 g19 g20 g21 g22 g23 g24 g25 g26 v27 v28 v29 v30 v31 v32 v33 v34 v35 v36 v37 (nI ol)), (v0, .inl (cA 0, 326, .inl fn16))] H := ⟨hP, hD⟩
  refine lv_aload_n hx hb dX10_credit_52 rfl (lv_at hl 2 rfl) ?_
  refine va_get (D := D) (ci := 11) (v := .ref v0) (C := RX10) (T := TX10) (N := 39) hx hb hts inX10 hown hK hP 0 rfl rfl 0 (by decide) (hts (.fieldLink RX10 7 "EscrowDeskModel" "s" "[I") (by decide +kernel)) (fun _ h9 => h9) rfl dX10_credit_53 ?_
  refine lv_iconst (v := 3) hx hb dX10_credit_56 (by decide) ?_
  refine lv_iload_n hx hb dX10_credit_57 rfl (lv_at hl 0 rfl) ?_
  refine lv_iconst (v := (-1)) hx hb dX10_credit_58 (by decide) ?_
  obtain ⟨hPc, hDc, hFc⟩ := PDq.cut (wc := [(v0, .inl (cA 0, 326, .inl fn16))]) hP hD hS hA [1] (by decide) rfl
  refine va_callv (va_runS (As := [.ref v0, .int 3, .int yn8, .int (-1)]) (rest := []) ⟨hx, hb, hml, hown, hts⟩ (r_enter l D cA sa v0 cn pq en dy fn16 3 yn8 (-1) H.size hcn hpq hen hdy hn17) (va_cwS 4 hts gX10_credit_X10_enter rfl rfl rfl (by decide +kernel) ⟨(Nat.le_of_ble_eq_true rfl), (Nat.le_of_ble_eq_true rfl)⟩) ⟨Wd.blind, fun U hU hW => ⟨rfl, Wd.call hPc hDc hK hC hZ hS hFc U hU hW⟩⟩ rfl rfl hl.1 rfl (lv_room (Nat.le_of_ble_eq_true rfl)) dX10_credit_59 ⟨(Nat.le_of_ble_eq_true rfl), (Nat.le_of_ble_eq_true rfl)⟩) hS (fun q _ h => hFc q h) hFc (fun u t H1 locs ht hvm hw hB hz1 hk1 hS => ?_)
  obtain ⟨qn18, fn19, hn20, hn21, hP1, hD1⟩ := hB
  rw [ht] at hP1
  obtain ⟨hP, hD⟩ := PDq.join (w := [(oX10 w0 v0 v1 v2 v3 v4 yn9 g6 (nI ed) g8 v9 (nI nb) g11 g12 v13 g14 g15 g16 g17 g18 g19 g20 g21 g22 g23 g24 g25 g26 v27 v28 v29 v30 v31 v32 v33 v34 v35 v36 v37 (nI ol)), (v0, .inl (cA 0, 326, .inl fn19))]) 1 hP hD [1] [0] rfl rfl (by decide) (by decide) hk1 hFc hP1 hD1 rfl
  generalize H1 = H at hP hS ⊢
  obtain ⟨hP9, hD9⟩ := PDq.sub (ws' := [(oX10 w0 v0 v1 v2 v3 v4 yn9 g6 (nI ed) g8 v9 (nI nb) g11 g12 v13 g14 g15 g16 g17 g18 g19 g20 g21 g22 g23 g24 g25 g26 v27 v28 v29 v30 v31 v32 v33 v34 v35 v36 v37 (nI ol)), (v0, .inl (cA 0, 326, .inl fn19))]) hP hD [0, 1] (by decide) rfl
  refine W.widen (k := 0) (n := 0) (Nat.le_of_ble_eq_true rfl) (Nat.le_of_ble_eq_true rfl) ?_
  exact (W.vret hx hb hr (fun t ht hW => ⟨⟨(), rfl, trivial, g8, g14, g15, g16, g17, g18, g19, g20, g21, g22, g23, g24, g26, yn9, g6, g25, qn18, fn19, hn20, hn21, by rw [ht]; exact hP9, hD9⟩, hS.F ht⟩) hS.2.2 dX10_credit_62)

set_option maxHeartbeats 4000000 in
set_option maxRecDepth 100000 in
/-- reference: holdsBy -/
theorem r_holdsBy (l : Launch) (D : va_G) (cA : Nat → ClassId) (sa : Nat → Nat) (w0 : Nat) (ed : Nat) (nb : Nat) (ol : Nat) (v0 : Nat) (v1 : Nat) (v2 : Nat) (v3 : Nat) (v4 : Nat) (v9 : Nat) (v13 : Nat) (v27 : Nat) (v28 : Nat) (v29 : Nat) (v30 : Nat) (v31 : Nat) (v32 : Nat) (v33 : Nat) (v34 : Nat) (v35 : Nat) (v36 : Nat) (v37 : Nat) (g8 : Int32) (g11 : Int32) (g12 : Int32) (g14 : Int32) (g15 : Int32) (g16 : Int32) (g17 : Int32) (g18 : Int32) (g19 : Int32) (g20 : Int32) (g21 : Int32) (g22 : Int32) (g23 : Int32) (g24 : Int32) (g26 : Int32) (g5 : Int64) (g6 : Int64) (g25 : Int64) (cn : Nat) (pq : Nat) (en : Nat) (dy : Nat) (fs : Nat → Int32) (fc : Nat → Int32) (fq : Nat → Int32) (fk : Nat → Int32) (mi : Nat) (d : Int32) (x : Int32) (y : Int32) (sz : Nat) (hcn : cn ≤ 10) (hpq : pq ≤ 8) (hen : en ≤ 60) (hdy : dy ≤ 20000) (hri : RI cn pq en dy fs) (hCW : CW cn fc fq) (hbit : Bit 400 fk) (hmi9 : mi < cn) : Met l yX10_holdsBy wsX10_holdsBy ({ frames := 2, cells := 0, slots := 0, locals := 48 }) (va_Pc [.ref w0, .int (nI mi), .int d, .int x, .int y] (Wd D cA sa [(oX10 w0 v0 v1 v2 v3 v4 g5 g6 (nI ed) g8 v9 (nI nb) g11 g12 v13 g14 g15 g16 g17 g18 g19 g20 g21 g22 g23 g24 g25 g26 v27 v28 v29 v30 v31 v32 v33 v34 v35 v36 v37 (nI ol)), (v0, .inl (cA 0, 326, .inl fs)), (v31, .inl (cA 0, 400, .inl fc)), (v33, .inl (cA 0, 11, .inl fq)), (v35, .inl (cA 4, 400, .inl fk))] sz)) (va_Qi (fun (r : Int32) (_ : Unit) => r = 0 ∨ r = 1) (fun (_ : Unit) t => ∃ zk : Nat → Int32, Bit 400 zk ∧ Wq D (va_A [(oX10 w0 v0 v1 v2 v3 v4 g5 g6 (nI ed) g8 v9 (nI nb) g11 g12 v13 g14 g15 g16 g17 g18 g19 g20 g21 g22 g23 g24 g25 g26 v27 v28 v29 v30 v31 v32 v33 v34 v35 v36 v37 (nI ol)), (v0, .inl (cA 0, 326, .inl fs)), (v31, .inl (cA 0, 400, .inl fc)), (v33, .inl (cA 0, 11, .inl fq)), (v35, .inl (cA 4, 400, .inl fk))] sz) [(oX10 w0 v0 v1 v2 v3 v4 g5 g6 (nI ed) g8 v9 (nI nb) g11 g12 v13 g14 g15 g16 g17 g18 g19 g20 g21 g22 g23 g24 g25 g26 v27 v28 v29 v30 v31 v32 v33 v34 v35 v36 v37 (nI ol)), (v0, .inl (cA 0, 326, .inl fs)), (v31, .inl (cA 0, 400, .inl fc)), (v33, .inl (cA 0, 11, .inl fq)), (v35, .inl (cA 4, 400, .inl zk))] t) (va_A [(oX10 w0 v0 v1 v2 v3 v4 g5 g6 (nI ed) g8 v9 (nI nb) g11 g12 v13 g14 g15 g16 g17 g18 g19 g20 g21 g22 g23 g24 g25 g26 v27 v28 v29 v30 v31 v32 v33 v34 v35 v36 v37 (nI ol)), (v0, .inl (cA 0, 326, .inl fs)), (v31, .inl (cA 0, 400, .inl fc)), (v33, .inl (cA 0, 11, .inl fq)), (v35, .inl (cA 4, 400, .inl fk))] sz)) 0 0 (va_A [(oX10 w0 v0 v1 v2 v3 v4 g5 g6 (nI ed) g8 v9 (nI nb) g11 g12 v13 g14 g15 g16 g17 g18 g19 g20 g21 g22 g23 g24 g25 g26 v27 v28 v29 v30 v31 v32 v33 v34 v35 v36 v37 (nI ol)), (v0, .inl (cA 0, 326, .inl fs)), (v31, .inl (cA 0, 400, .inl fc)), (v33, .inl (cA 0, 11, .inl fq)), (v35, .inl (cA 4, 400, .inl fk))] sz) := by
  refine Met.ofW (cc := cX10_holdsBy) (maxL := 8) (ret := (some .boolean)) (by decide) rfl ?_
  intro p e s m args below meth c s₁ B hml hv
  obtain ⟨rfl, hsz, hP, hK, hD0, hC, hZ⟩ := hv
  have hx := B.exec
  have hb := B.bytes
  have hr := B.returns
  have hts := atoms_spec (ws := wsX10_holdsBy) B.pre
  have hown : s.vm.findClass RX10 = some m.cls := findClass_of_methodNamed B.named
  have hlocks := B.notSynchronized
  subst hsz
  have hD := hD0.self (sz := s.heap.size)
  generalize hAe : va_A [(oX10 w0 v0 v1 v2 v3 v4 g5 g6 (nI ed) g8 v9 (nI nb) g11 g12 v13 g14 g15 g16 g17 g18 g19 g20 g21 g22 g23 g24 g25 g26 v27 v28 v29 v30 v31 v32 v33 v34 v35 v36 v37 (nI ol)), (v0, .inl (cA 0, 326, .inl fs)), (v31, .inl (cA 0, 400, .inl fc)), (v33, .inl (cA 0, 11, .inl fq)), (v35, .inl (cA 4, 400, .inl fk))] s.heap.size = A at hD hZ ⊢
  have hA : ∀ q : Nat, s.heap.size ≤ q → A q := fun q h => by rw [← hAe]; exact Or.inr h
  have hS : va_S A s.heap s.heap [] := va_S.rf
  have hP : va_P D vwCl [(oX10 w0 v0 v1 v2 v3 v4 g5 g6 (nI ed) g8 v9 (nI nb) g11 g12 v13 g14 g15 g16 g17 g18 g19 g20 g21 g22 g23 g24 g25 g26 v27 v28 v29 v30 v31 v32 v33 v34 v35 v36 v37 (nI ol)), (v0, .inl (cA 0, 326, .inl fs)), (v31, .inl (cA 0, 400, .inl fc)), (v33, .inl (cA 0, 11, .inl fq)), (v35, .inl (cA 4, 400, .inl fk))] s.heap := hP
  have hl := lv_entry ([.ref w0, .int (nI mi), .int d, .int x, .int y]) (n := 8) (Nat.le_of_ble_eq_true rfl)
  rw [lg_entry_eq]
  generalize (lg_sl ([.ref w0, .int (nI mi), .int d, .int x, .int y]) ++ List.replicate (8 - (lg_sl ([.ref w0, .int (nI mi), .int d, .int x, .int y])).length) Slot.unset).toArray = ls at hl ⊢
  have hl : lv_has ls 8 [(0, .ref w0), (1, .int (nI mi)), (2, .int d), (3, .int x), (4, .int y)] := hl
  have inX10 : ∀ w ∈ u_ws RX10 TX10 39, w ∈ wsX10_holdsBy := by decide +kernel
  obtain ⟨ca, cb, hab, hb4, hea, heb, hpf⟩ := hCW mi hmi9
  refine lv_iconst (v := 0) hx hb dX10_holdsBy_0 (by decide) ?_
  refine lv_istore (lv' := [(5, .int 0), (0, .ref w0), (1, .int (nI mi)), (2, .int d), (3, .int x), (4, .int y)]) hx hb dX10_holdsBy_1 hl (by decide) rfl (fun ls hl => ?_)
  refine lv_aload_n hx hb dX10_holdsBy_3 rfl (lv_at hl 1 rfl) ?_
  refine va_get (D := D) (ci := 11) (v := .ref v33) (C := RX10) (T := TX10) (N := 39) hx hb hts inX10 hown hK hP 0 rfl rfl 33 (by decide) (hts (.fieldLink RX10 54 "EscrowDeskModel" "codeFrom" "[I") (by decide +kernel)) (fun _ h9 => h9) rfl dX10_holdsBy_4 ?_
  refine lv_iload_n hx hb dX10_holdsBy_7 rfl (lv_at hl 2 rfl) ?_
  refine va_iald hx hb hK hP 3 0 rfl rfl (vp_in_nI (n := mi) (N := 11) (show mi < 11 by omega) (by decide)) dX10_holdsBy_8 ?_
  refine lv_topi (fun yn1 eyn1 => ?_)
  obtain rfl : yn1 = (nI ca) := eyn1.trans (by first | exact hea | (rw [nI_clamp (by omega)]; exact hea))
  refine lv_istore (lv' := [(6, .int (nI ca)), (5, .int 0), (0, .ref w0), (1, .int (nI mi)), (2, .int d), (3, .int x), (4, .int y)]) hx hb dX10_holdsBy_9 hl (by decide) rfl (fun ls hl => ?_)
  have loop1 : ∀ (n1 i1 : Nat) (tp : Nat) (f4_1 : Nat → Int32) (H : Heap) (locs : List Loc) (ls : Array Slot), i1 + n1 = cb → Bit 400 f4_1 → tp + ca ≤ i1 → Pfx fc (cb - i1) i1 tp → va_P D vwCl [(oX10 w0 v0 v1 v2 v3 v4 g5 g6 (nI ed) g8 v9 (nI nb) g11 g12 v13 g14 g15 g16 g17 g18 g19 g20 g21 g22 g23 g24 g25 g26 v27 v28 v29 v30 v31 v32 v33 v34 v35 v36 v37 (nI ol)), (v0, .inl (cA 0, 326, .inl fs)), (v31, .inl (cA 0, 400, .inl fc)), (v33, .inl (cA 0, 11, .inl fq)), (v35, .inl (cA 4, 400, .inl f4_1))] H → va_D A [(oX10 w0 v0 v1 v2 v3 v4 g5 g6 (nI ed) g8 v9 (nI nb) g11 g12 v13 g14 g15 g16 g17 g18 g19 g20 g21 g22 g23 g24 g25 g26 v27 v28 v29 v30 v31 v32 v33 v34 v35 v36 v37 (nI ol)), (v0, .inl (cA 0, 326, .inl fs)), (v31, .inl (cA 0, 400, .inl fc)), (v33, .inl (cA 0, 11, .inl fq)), (v35, .inl (cA 4, 400, .inl f4_1))] → va_S A s.heap H locs → lv_has ls 8 [(6, .int (nI i1)), (5, .int (nI tp)), (0, .ref w0), (1, .int (nI mi)), (2, .int d), (3, .int x), (4, .int y)] → W p l e (headSpec wsX10_holdsBy ({ frames := 2, cells := 0, slots := 0, locals := 48 } : Room)).room s m ([.ref w0, .int (nI mi), .int d, .int x, .int y] : List Value).toArray below meth c H locs 0 0 (MQ below (va_Qi (fun (r : Int32) (_ : Unit) => r = 0 ∨ r = 1) (fun (_ : Unit) t => ∃ zk : Nat → Int32, Bit 400 zk ∧ Wq D A [(oX10 w0 v0 v1 v2 v3 v4 g5 g6 (nI ed) g8 v9 (nI nb) g11 g12 v13 g14 g15 g16 g17 g18 g19 g20 g21 g22 g23 g24 g25 g26 v27 v28 v29 v30 v31 v32 v33 v34 v35 v36 v37 (nI ol)), (v0, .inl (cA 0, 326, .inl fs)), (v31, .inl (cA 0, 400, .inl fc)), (v33, .inl (cA 0, 11, .inl fq)), (v35, .inl (cA 4, 400, .inl zk))] t) A) ([.ref w0, .int (nI mi), .int d, .int x, .int y] : List Value).toArray s 0 0 A) (F0 m 11 ls []) := by
    intro n1
    induction n1 with
    | zero =>
      intro i1 tp f4_1 H locs ls hi1 hf0_1 hv0_1 hv1_1 hP hD hS hl
      obtain rfl : cb = i1 := by omega
      refine lv_iload hx hb dX10_holdsBy_11 (lv_at hl 0 rfl) ?_
      refine lv_aload_n hx hb dX10_holdsBy_13 rfl (lv_at hl 2 rfl) ?_
      refine va_get (D := D) (ci := 11) (v := .ref v33) (C := RX10) (T := TX10) (N := 39) hx hb hts inX10 hown hK hP 0 rfl rfl 33 (by decide) (hts (.fieldLink RX10 54 "EscrowDeskModel" "codeFrom" "[I") (by decide +kernel)) (fun _ h9 => h9) rfl dX10_holdsBy_14 ?_
      refine lv_iload_n hx hb dX10_holdsBy_17 rfl (lv_at hl 3 rfl) ?_
      refine lv_iconst (v := 1) hx hb dX10_holdsBy_18 (by decide) ?_
      refine lv_iadd hx hb dX10_holdsBy_19 ?_
      refine lv_topi (fun yn2 eyn2 => ?_)
      obtain rfl : yn2 = (nI (mi + 1)) := eyn2.trans (nI_add mi 1)
      refine va_iald hx hb hK hP 3 0 rfl rfl (vp_in_nI (n := (mi + 1)) (N := 11) (show (mi + 1) < 11 by omega) (by decide)) dX10_holdsBy_20 ?_
      refine lv_topi (fun yn3 eyn3 => ?_)
      obtain rfl : yn3 = (nI cb) := eyn3.trans (by first | exact heb | (rw [nI_clamp (by omega)]; exact heb))
      refine lv_icmp_ge (tgt := 187) hx hb dX10_holdsBy_21 (by decide) (fun c4 => ?_) (fun c9 => absurd (nI_le (a := cb) (b := cb) (show cb ≤ cb by omega) (by omega)) c9)
      refine lv_aload_n hx hb dX10_holdsBy_187 rfl (lv_at hl 2 rfl) ?_
      refine va_get (D := D) (ci := 11) (v := .ref v35) (C := RX10) (T := TX10) (N := 39) hx hb hts inX10 hown hK hP 0 rfl rfl 35 (by decide) (hts (.fieldLink RX10 60 "EscrowDeskModel" "stack" "[Z") (by decide +kernel)) (fun _ h9 => h9) rfl dX10_holdsBy_188 ?_
      refine lv_iconst (v := 0) hx hb dX10_holdsBy_191 (by decide) ?_
      refine va_zald hx hb hK hP 4 4 rfl rfl (vp_in_iff.mpr (by decide)) dX10_holdsBy_192 ?_
      refine lv_topi (fun yn5 eyn5 => ?_)
      have hn6 : yn5 = 0 ∨ yn5 = 1 := by rw [eyn5]; exact hf0_1 _ (by decide)
      obtain ⟨hP9, hD9⟩ := PDq.sub (ws' := [(oX10 w0 v0 v1 v2 v3 v4 g5 g6 (nI ed) g8 v9 (nI nb) g11 g12 v13 g14 g15 g16 g17 g18 g19 g20 g21 g22 g23 g24 g25 g26 v27 v28 v29 v30 v31 v32 v33 v34 v35 v36 v37 (nI ol)), (v0, .inl (cA 0, 326, .inl fs)), (v31, .inl (cA 0, 400, .inl fc)), (v33, .inl (cA 0, 11, .inl fq)), (v35, .inl (cA 4, 400, .inl f4_1))]) hP hD [0, 1, 2, 3, 4] (by decide) rfl
      refine W.widen (k := 0) (n := 0) (Nat.le_of_ble_eq_true rfl) (Nat.le_of_ble_eq_true rfl) ?_
      exact (W.zret (v := yn5) hx hb hr (by rcases hn6 with h9 | h9 <;> rw [h9] <;> rfl) (fun t ht hW => ⟨⟨yn5, (), rfl, hn6, f4_1, hf0_1, by rw [ht]; exact hP9, hD9⟩, hS.F ht⟩) hS.2.2 dX10_holdsBy_193)
    | succ n1 ih1 =>
      intro i1 tp f4_1 H locs ls hi1 hf0_1 hv0_1 hv1_1 hP hD hS hl
      refine lv_iload hx hb dX10_holdsBy_11 (lv_at hl 0 rfl) ?_
      refine lv_aload_n hx hb dX10_holdsBy_13 rfl (lv_at hl 2 rfl) ?_
      refine va_get (D := D) (ci := 11) (v := .ref v33) (C := RX10) (T := TX10) (N := 39) hx hb hts inX10 hown hK hP 0 rfl rfl 33 (by decide) (hts (.fieldLink RX10 54 "EscrowDeskModel" "codeFrom" "[I") (by decide +kernel)) (fun _ h9 => h9) rfl dX10_holdsBy_14 ?_
      refine lv_iload_n hx hb dX10_holdsBy_17 rfl (lv_at hl 3 rfl) ?_
      refine lv_iconst (v := 1) hx hb dX10_holdsBy_18 (by decide) ?_
      refine lv_iadd hx hb dX10_holdsBy_19 ?_
      refine lv_topi (fun yn7 eyn7 => ?_)
      obtain rfl : yn7 = (nI (mi + 1)) := eyn7.trans (nI_add mi 1)
      refine va_iald hx hb hK hP 3 0 rfl rfl (vp_in_nI (n := (mi + 1)) (N := 11) (show (mi + 1) < 11 by omega) (by decide)) dX10_holdsBy_20 ?_
      refine lv_topi (fun yn8 eyn8 => ?_)
      obtain rfl : yn8 = (nI cb) := eyn8.trans (by first | exact heb | (rw [nI_clamp (by omega)]; exact heb))
      refine lv_icmp_ge (tgt := 187) hx hb dX10_holdsBy_21 (by decide) (fun c9 => absurd c9 (nI_ge (a := i1) (b := cb) (show i1 < cb by omega) (by omega))) (fun c9 => ?_)
      refine lv_aload_n hx hb dX10_holdsBy_24 rfl (lv_at hl 2 rfl) ?_
      refine va_get (D := D) (ci := 11) (v := .ref v31) (C := RX10) (T := TX10) (N := 39) hx hb hts inX10 hown hK hP 0 rfl rfl 31 (by decide) (hts (.fieldLink RX10 48 "EscrowDeskModel" "code" "[I") (by decide +kernel)) (fun _ h9 => h9) rfl dX10_holdsBy_25 ?_
      refine lv_iload hx hb dX10_holdsBy_28 (lv_at hl 0 rfl) ?_
      refine va_iald hx hb hK hP 2 0 rfl rfl (vp_in_nI (n := i1) (N := 400) (show i1 < 400 by omega) (by decide)) dX10_holdsBy_30 ?_
      refine lv_topi (fun yn10 eyn10 => ?_)
      refine lv_istore (lv' := [(7, .int yn10), (6, .int (nI i1)), (5, .int (nI tp)), (0, .ref w0), (1, .int (nI mi)), (2, .int d), (3, .int x), (4, .int y)]) hx hb dX10_holdsBy_31 hl (by decide) rfl (fun ls hl => ?_)
      refine lv_iload hx hb dX10_holdsBy_33 (lv_at hl 0 rfl) ?_
      refine lv_bipush (v := (-3)) hx hb dX10_holdsBy_35 (by decide) ?_
      refine lv_icmp_ne (tgt := 69) hx hb dX10_holdsBy_37 (by decide) (fun c11 => ?_) (fun c11 => ?_)
      · skip
        refine lv_iload hx hb dX10_holdsBy_69 (lv_at hl 0 rfl) ?_
        refine lv_if_ge (tgt := 152) hx hb dX10_holdsBy_71 (by decide) (fun c12 => ?_) (fun c12 => ?_)
        · skip
          have hn14 := pfx_push hv1_1 (by omega) (fun q9 => c11 (by rw [eyn10, nI_clamp (by omega)]; exact q9)) (fun q9 => absurd c12 (Int32.not_le.mpr (by rw [eyn10, nI_clamp (by omega)]; exact q9)))
          refine lv_aload_n hx hb dX10_holdsBy_152 rfl (lv_at hl 3 rfl) ?_
          refine va_get (D := D) (ci := 11) (v := .ref v35) (C := RX10) (T := TX10) (N := 39) hx hb hts inX10 hown hK hP 0 rfl rfl 35 (by decide) (hts (.fieldLink RX10 60 "EscrowDeskModel" "stack" "[Z") (by decide +kernel)) (fun _ h9 => h9) rfl dX10_holdsBy_153 ?_
          refine lv_iload hx hb dX10_holdsBy_156 (lv_at hl 2 rfl) ?_
          refine lv_aload_n hx hb dX10_holdsBy_158 rfl (lv_at hl 3 rfl) ?_
          refine lv_iload_n hx hb dX10_holdsBy_159 rfl (lv_at hl 4 rfl) ?_
          refine lv_iload hx hb dX10_holdsBy_160 (lv_at hl 0 rfl) ?_
          refine lv_ldc (v := 100000) hx hb hown (hts (.constant RX10 201 100000) (by decide +kernel)) dX10_holdsBy_162 ?_
          refine lv_idiv hx hb dX10_holdsBy_164 (by decide) ?_
          refine lv_topi (fun yn15 eyn15 => ?_)
          refine lv_iload hx hb dX10_holdsBy_165 (lv_at hl 0 rfl) ?_
          refine lv_ldc (v := 100000) hx hb hown (hts (.constant RX10 201 100000) (by decide +kernel)) dX10_holdsBy_167 ?_
          refine lv_irem hx hb dX10_holdsBy_169 (by decide) ?_
          refine lv_topi (fun yn16 eyn16 => ?_)
          refine lv_iload_n hx hb dX10_holdsBy_170 rfl (lv_at hl 5 rfl) ?_
          refine lv_iload_n hx hb dX10_holdsBy_171 rfl (lv_at hl 6 rfl) ?_
          refine lv_iload hx hb dX10_holdsBy_172 (lv_at hl 7 rfl) ?_
          obtain ⟨hPc, hDc, hFc⟩ := PDq.cut (wc := [(oX10 w0 v0 v1 v2 v3 v4 g5 g6 (nI ed) g8 v9 (nI nb) g11 g12 v13 g14 g15 g16 g17 g18 g19 g20 g21 g22 g23 g24 g25 g26 v27 v28 v29 v30 v31 v32 v33 v34 v35 v36 v37 (nI ol)), (v0, .inl (cA 0, 326, .inl fs))]) hP hD hS hA [0, 1] (by decide) rfl
          refine va_calli (va_runV (As := [.int (nI mi), .int yn15, .int yn16, .int d, .int x, .int y]) (rest := [.int (nI tp), .ref v35]) ⟨hx, hb, hml, hown, hts⟩ (r_isFact l D cA sa w0 ed nb ol v0 v1 v2 v3 v4 v9 v13 v27 v28 v29 v30 v31 v32 v33 v34 v35 v36 v37 g8 g11 g12 g14 g15 g16 g17 g18 g19 g20 g21 g22 g23 g24 g26 g5 g6 g25 cn pq en dy fs mi yn15 yn16 d x y H.size hcn hpq hen hdy hri (by omega)) (cwV 6 hts gX10_holdsBy_X10_isFact rfl rfl rfl (by decide +kernel) ⟨(Nat.le_of_ble_eq_true rfl), (Nat.le_of_ble_eq_true rfl)⟩) ⟨Wd.blind, va_recv hK hPc (ci := 11) (q0 := 0) rfl rfl, fun U hU hW => ⟨rfl, Wd.call hPc hDc hK hC hZ hS hFc U hU hW⟩⟩ rfl rfl hl.1 rfl (lv_room (Nat.le_of_ble_eq_true rfl)) dX10_holdsBy_174 ⟨(Nat.le_of_ble_eq_true rfl), (Nat.le_of_ble_eq_true rfl)⟩) hS (fun q _ h => hFc q h) hFc (fun rn17 u t H1 locs ht hvm hw hB hz1 hk1 hS => ?_)
          obtain ⟨hP1, hD1⟩ := hB
          rw [ht] at hP1
          obtain ⟨hP, hD⟩ := PDq.join (w := [(v31, .inl (cA 0, 400, .inl fc)), (v33, .inl (cA 0, 11, .inl fq)), (v35, .inl (cA 4, 400, .inl f4_1)), (oX10 w0 v0 v1 v2 v3 v4 g5 g6 (nI ed) g8 v9 (nI nb) g11 g12 v13 g14 g15 g16 g17 g18 g19 g20 g21 g22 g23 g24 g25 g26 v27 v28 v29 v30 v31 v32 v33 v34 v35 v36 v37 (nI ol)), (v0, .inl (cA 0, 326, .inl fs))]) 3 hP hD [0, 1] [2, 3, 4] rfl rfl (by decide) (by decide) hk1 hFc hP1 hD1 rfl
          generalize H1 = H at hP hS ⊢
          have hn18 := hw
          refine va_zast hx hb hK hP hD hS 2 4 rfl rfl (vp_in_nI (n := tp) (N := 400) (show tp < 400 by omega) (by decide)) dX10_holdsBy_177 (fun H locs hP hD hS => ?_)
          obtain ⟨hP, hD⟩ : PDq D A [(v31, .inl (cA 0, 400, .inl fc)), (v33, .inl (cA 0, 11, .inl fq)), (v35, .inl (cA 4, 400, .inl (upd f4_1 (((nI tp)).toNatClampNeg) (vp_nar .boolean rn17)))), (oX10 w0 v0 v1 v2 v3 v4 g5 g6 (nI ed) g8 v9 (nI nb) g11 g12 v13 g14 g15 g16 g17 g18 g19 g20 g21 g22 g23 g24 g25 g26 v27 v28 v29 v30 v31 v32 v33 v34 v35 v36 v37 (nI ol)), (v0, .inl (cA 0, 326, .inl fs))] H := ⟨hP, hD⟩
          have hn20 : Bit 400 (upd f4_1 (((nI tp)).toNatClampNeg) (vp_nar .boolean rn17)) := Bit.put hf0_1 _ hn18
          generalize (upd f4_1 (((nI tp)).toNatClampNeg) (vp_nar .boolean rn17)) = fn19 at hP hD hn20
          obtain ⟨hP, hD⟩ : PDq D A [(v31, .inl (cA 0, 400, .inl fc)), (v33, .inl (cA 0, 11, .inl fq)), (v35, .inl (cA 4, 400, .inl fn19)), (oX10 w0 v0 v1 v2 v3 v4 g5 g6 (nI ed) g8 v9 (nI nb) g11 g12 v13 g14 g15 g16 g17 g18 g19 g20 g21 g22 g23 g24 g25 g26 v27 v28 v29 v30 v31 v32 v33 v34 v35 v36 v37 (nI ol)), (v0, .inl (cA 0, 326, .inl fs))] H := ⟨hP, hD⟩
          refine lv_iinc (v := (nI (tp + 1))) (lv' := [(5, .int (nI (tp + 1))), (7, .int yn10), (6, .int (nI i1)), (0, .ref w0), (1, .int (nI mi)), (2, .int d), (3, .int x), (4, .int y)]) hx hb dX10_holdsBy_178 hl (k := 2) rfl (nI_1 _) (by decide) rfl (fun ls hl => ?_)
          refine lv_iinc (v := (nI (i1 + 1))) (lv' := [(6, .int (nI (i1 + 1))), (5, .int (nI (tp + 1))), (7, .int yn10), (0, .ref w0), (1, .int (nI mi)), (2, .int d), (3, .int x), (4, .int y)]) hx hb dX10_holdsBy_181 hl (k := 2) rfl (nI_1 _) (by decide) rfl (fun ls hl => ?_)
          refine lv_goto (tgt := 11) hx hb dX10_holdsBy_184 (by decide) ?_
          obtain ⟨hP9, hD9⟩ := PDq.sub (ws' := [(oX10 w0 v0 v1 v2 v3 v4 g5 g6 (nI ed) g8 v9 (nI nb) g11 g12 v13 g14 g15 g16 g17 g18 g19 g20 g21 g22 g23 g24 g25 g26 v27 v28 v29 v30 v31 v32 v33 v34 v35 v36 v37 (nI ol)), (v0, .inl (cA 0, 326, .inl fs)), (v31, .inl (cA 0, 400, .inl fc)), (v33, .inl (cA 0, 11, .inl fq)), (v35, .inl (cA 4, 400, .inl fn19))]) hP hD [3, 4, 0, 1, 2] (by decide) rfl
          exact ih1 (i1 + 1) (tp + 1) fn19 H _ ls (by omega) hn20 (by omega) hn14 hP9 hD9 hS (lv_sub hl [0, 1, 3, 4, 5, 6, 7] rfl)
        · skip
          obtain ⟨hn21, hn22⟩ := pfx_bin hv1_1 (by omega) (fun q9 => c11 (by rw [eyn10, nI_clamp (by omega)]; exact q9)) (by have q9 := Int32.not_le.mp c12; rw [eyn10, nI_clamp (by omega)] at q9; exact q9)
          refine lv_iinc (v := (nI (tp - 1))) (lv' := [(5, .int (nI (tp - 1))), (7, .int yn10), (6, .int (nI i1)), (0, .ref w0), (1, .int (nI mi)), (2, .int d), (3, .int x), (4, .int y)]) hx hb dX10_holdsBy_74 hl (k := 2) rfl (nI_dec (a := tp) (b := (tp - 1)) (by omega)) (by decide) rfl (fun ls hl => ?_)
          refine lv_aload_n hx hb dX10_holdsBy_77 rfl (lv_at hl 3 rfl) ?_
          refine va_get (D := D) (ci := 11) (v := .ref v35) (C := RX10) (T := TX10) (N := 39) hx hb hts inX10 hown hK hP 0 rfl rfl 35 (by decide) (hts (.fieldLink RX10 60 "EscrowDeskModel" "stack" "[Z") (by decide +kernel)) (fun _ h9 => h9) rfl dX10_holdsBy_78 ?_
          refine lv_iload hx hb dX10_holdsBy_81 (lv_at hl 0 rfl) ?_
          refine lv_iconst (v := 1) hx hb dX10_holdsBy_83 (by decide) ?_
          refine lv_isub hx hb dX10_holdsBy_84 ?_
          refine lv_topi (fun yn23 eyn23 => ?_)
          obtain rfl : yn23 = (nI ((tp - 1) - 1)) := eyn23.trans (nI_sub (a := (tp - 1)) (b := 1) (by omega))
          refine lv_iload hx hb dX10_holdsBy_85 (lv_at hl 1 rfl) ?_
          refine lv_iconst (v := (-1)) hx hb dX10_holdsBy_87 (by decide) ?_
          refine lv_icmp_ne (tgt := 121) hx hb dX10_holdsBy_88 (by decide) (fun c24 => ?_) (fun c24 => ?_)
          · skip
            refine lv_aload_n hx hb dX10_holdsBy_121 rfl (lv_at hl 3 rfl) ?_
            refine va_get (D := D) (ci := 11) (v := .ref v35) (C := RX10) (T := TX10) (N := 39) hx hb hts inX10 hown hK hP 0 rfl rfl 35 (by decide) (hts (.fieldLink RX10 60 "EscrowDeskModel" "stack" "[Z") (by decide +kernel)) (fun _ h9 => h9) rfl dX10_holdsBy_122 ?_
            refine lv_iload hx hb dX10_holdsBy_125 (lv_at hl 0 rfl) ?_
            refine lv_iconst (v := 1) hx hb dX10_holdsBy_127 (by decide) ?_
            refine lv_isub hx hb dX10_holdsBy_128 ?_
            refine lv_topi (fun yn25 eyn25 => ?_)
            obtain rfl : yn25 = (nI ((tp - 1) - 1)) := eyn25.trans (nI_sub (a := (tp - 1)) (b := 1) (by omega))
            refine va_zald hx hb hK hP 4 4 rfl rfl (vp_in_nI (n := ((tp - 1) - 1)) (N := 400) (show ((tp - 1) - 1) < 400 by omega) (by decide)) dX10_holdsBy_129 ?_
            refine lv_topi (fun yn26 eyn26 => ?_)
            have hn27 : yn26 = 0 ∨ yn26 = 1 := by rw [eyn26]; exact hf0_1 _ (by rw [nI_clamp (by omega)]; omega)
            refine lv_if_ne (tgt := 143) hx hb dX10_holdsBy_130 (by decide) (fun c28 => ?_) (fun c28 => ?_)
            · skip
              refine lv_iconst (v := 1) hx hb dX10_holdsBy_143 (by decide) ?_
              refine lv_goto (tgt := 148) hx hb dX10_holdsBy_144 (by decide) ?_
              refine va_zast hx hb hK hP hD hS 4 4 rfl rfl (vp_in_nI (n := ((tp - 1) - 1)) (N := 400) (show ((tp - 1) - 1) < 400 by omega) (by decide)) dX10_holdsBy_148 (fun H locs hP hD hS => ?_)
              obtain ⟨hP, hD⟩ : PDq D A [(oX10 w0 v0 v1 v2 v3 v4 g5 g6 (nI ed) g8 v9 (nI nb) g11 g12 v13 g14 g15 g16 g17 g18 g19 g20 g21 g22 g23 g24 g25 g26 v27 v28 v29 v30 v31 v32 v33 v34 v35 v36 v37 (nI ol)), (v0, .inl (cA 0, 326, .inl fs)), (v31, .inl (cA 0, 400, .inl fc)), (v33, .inl (cA 0, 11, .inl fq)), (v35, .inl (cA 4, 400, .inl (upd f4_1 (((nI ((tp - 1) - 1))).toNatClampNeg) (vp_nar .boolean 1))))] H := ⟨hP, hD⟩
              have hn30 : Bit 400 (upd f4_1 (((nI ((tp - 1) - 1))).toNatClampNeg) (vp_nar .boolean 1)) := Bit.put hf0_1 _ (by first | exact Or.inl rfl | exact Or.inr rfl)
              generalize (upd f4_1 (((nI ((tp - 1) - 1))).toNatClampNeg) (vp_nar .boolean 1)) = fn29 at hP hD hn30
              obtain ⟨hP, hD⟩ : PDq D A [(oX10 w0 v0 v1 v2 v3 v4 g5 g6 (nI ed) g8 v9 (nI nb) g11 g12 v13 g14 g15 g16 g17 g18 g19 g20 g21 g22 g23 g24 g25 g26 v27 v28 v29 v30 v31 v32 v33 v34 v35 v36 v37 (nI ol)), (v0, .inl (cA 0, 326, .inl fs)), (v31, .inl (cA 0, 400, .inl fc)), (v33, .inl (cA 0, 11, .inl fq)), (v35, .inl (cA 4, 400, .inl fn29))] H := ⟨hP, hD⟩
              refine lv_goto (tgt := 181) hx hb dX10_holdsBy_149 (by decide) ?_
              refine lv_iinc (v := (nI (i1 + 1))) (lv' := [(6, .int (nI (i1 + 1))), (5, .int (nI (tp - 1))), (7, .int yn10), (0, .ref w0), (1, .int (nI mi)), (2, .int d), (3, .int x), (4, .int y)]) hx hb dX10_holdsBy_181 hl (k := 2) rfl (nI_1 _) (by decide) rfl (fun ls hl => ?_)
              refine lv_goto (tgt := 11) hx hb dX10_holdsBy_184 (by decide) ?_
              obtain ⟨hP9, hD9⟩ := PDq.sub (ws' := [(oX10 w0 v0 v1 v2 v3 v4 g5 g6 (nI ed) g8 v9 (nI nb) g11 g12 v13 g14 g15 g16 g17 g18 g19 g20 g21 g22 g23 g24 g25 g26 v27 v28 v29 v30 v31 v32 v33 v34 v35 v36 v37 (nI ol)), (v0, .inl (cA 0, 326, .inl fs)), (v31, .inl (cA 0, 400, .inl fc)), (v33, .inl (cA 0, 11, .inl fq)), (v35, .inl (cA 4, 400, .inl fn29))]) hP hD [0, 1, 2, 3, 4] (by decide) rfl
              exact ih1 (i1 + 1) (tp - 1) fn29 H _ ls (by omega) hn30 (by omega) hn22 hP9 hD9 hS (lv_sub hl [0, 1, 3, 4, 5, 6, 7] rfl)
            · skip
              refine lv_aload_n hx hb dX10_holdsBy_133 rfl (lv_at hl 3 rfl) ?_
              refine va_get (D := D) (ci := 11) (v := .ref v35) (C := RX10) (T := TX10) (N := 39) hx hb hts inX10 hown hK hP 0 rfl rfl 35 (by decide) (hts (.fieldLink RX10 60 "EscrowDeskModel" "stack" "[Z") (by decide +kernel)) (fun _ h9 => h9) rfl dX10_holdsBy_134 ?_
              refine lv_iload hx hb dX10_holdsBy_137 (lv_at hl 0 rfl) ?_
              refine va_zald hx hb hK hP 4 4 rfl rfl (vp_in_nI (n := (tp - 1)) (N := 400) (show (tp - 1) < 400 by omega) (by decide)) dX10_holdsBy_139 ?_
              refine lv_topi (fun yn31 eyn31 => ?_)
              have hn32 : yn31 = 0 ∨ yn31 = 1 := by rw [eyn31]; exact hf0_1 _ (by rw [nI_clamp (by omega)]; omega)
              refine lv_if_eq (tgt := 147) hx hb dX10_holdsBy_140 (by decide) (fun c33 => ?_) (fun c33 => ?_)
              · skip
                refine lv_iconst (v := 0) hx hb dX10_holdsBy_147 (by decide) ?_
                refine va_zast hx hb hK hP hD hS 4 4 rfl rfl (vp_in_nI (n := ((tp - 1) - 1)) (N := 400) (show ((tp - 1) - 1) < 400 by omega) (by decide)) dX10_holdsBy_148 (fun H locs hP hD hS => ?_)
                obtain ⟨hP, hD⟩ : PDq D A [(oX10 w0 v0 v1 v2 v3 v4 g5 g6 (nI ed) g8 v9 (nI nb) g11 g12 v13 g14 g15 g16 g17 g18 g19 g20 g21 g22 g23 g24 g25 g26 v27 v28 v29 v30 v31 v32 v33 v34 v35 v36 v37 (nI ol)), (v0, .inl (cA 0, 326, .inl fs)), (v31, .inl (cA 0, 400, .inl fc)), (v33, .inl (cA 0, 11, .inl fq)), (v35, .inl (cA 4, 400, .inl (upd f4_1 (((nI ((tp - 1) - 1))).toNatClampNeg) (vp_nar .boolean 0))))] H := ⟨hP, hD⟩
                have hn35 : Bit 400 (upd f4_1 (((nI ((tp - 1) - 1))).toNatClampNeg) (vp_nar .boolean 0)) := Bit.put hf0_1 _ (by first | exact Or.inl rfl | exact Or.inr rfl)
                generalize (upd f4_1 (((nI ((tp - 1) - 1))).toNatClampNeg) (vp_nar .boolean 0)) = fn34 at hP hD hn35
                obtain ⟨hP, hD⟩ : PDq D A [(oX10 w0 v0 v1 v2 v3 v4 g5 g6 (nI ed) g8 v9 (nI nb) g11 g12 v13 g14 g15 g16 g17 g18 g19 g20 g21 g22 g23 g24 g25 g26 v27 v28 v29 v30 v31 v32 v33 v34 v35 v36 v37 (nI ol)), (v0, .inl (cA 0, 326, .inl fs)), (v31, .inl (cA 0, 400, .inl fc)), (v33, .inl (cA 0, 11, .inl fq)), (v35, .inl (cA 4, 400, .inl fn34))] H := ⟨hP, hD⟩
                refine lv_goto (tgt := 181) hx hb dX10_holdsBy_149 (by decide) ?_
                refine lv_iinc (v := (nI (i1 + 1))) (lv' := [(6, .int (nI (i1 + 1))), (5, .int (nI (tp - 1))), (7, .int yn10), (0, .ref w0), (1, .int (nI mi)), (2, .int d), (3, .int x), (4, .int y)]) hx hb dX10_holdsBy_181 hl (k := 2) rfl (nI_1 _) (by decide) rfl (fun ls hl => ?_)
                refine lv_goto (tgt := 11) hx hb dX10_holdsBy_184 (by decide) ?_
                obtain ⟨hP9, hD9⟩ := PDq.sub (ws' := [(oX10 w0 v0 v1 v2 v3 v4 g5 g6 (nI ed) g8 v9 (nI nb) g11 g12 v13 g14 g15 g16 g17 g18 g19 g20 g21 g22 g23 g24 g25 g26 v27 v28 v29 v30 v31 v32 v33 v34 v35 v36 v37 (nI ol)), (v0, .inl (cA 0, 326, .inl fs)), (v31, .inl (cA 0, 400, .inl fc)), (v33, .inl (cA 0, 11, .inl fq)), (v35, .inl (cA 4, 400, .inl fn34))]) hP hD [0, 1, 2, 3, 4] (by decide) rfl
                exact ih1 (i1 + 1) (tp - 1) fn34 H _ ls (by omega) hn35 (by omega) hn22 hP9 hD9 hS (lv_sub hl [0, 1, 3, 4, 5, 6, 7] rfl)
              · skip
                refine lv_iconst (v := 1) hx hb dX10_holdsBy_143 (by decide) ?_
                refine lv_goto (tgt := 148) hx hb dX10_holdsBy_144 (by decide) ?_
                refine va_zast hx hb hK hP hD hS 4 4 rfl rfl (vp_in_nI (n := ((tp - 1) - 1)) (N := 400) (show ((tp - 1) - 1) < 400 by omega) (by decide)) dX10_holdsBy_148 (fun H locs hP hD hS => ?_)
                obtain ⟨hP, hD⟩ : PDq D A [(oX10 w0 v0 v1 v2 v3 v4 g5 g6 (nI ed) g8 v9 (nI nb) g11 g12 v13 g14 g15 g16 g17 g18 g19 g20 g21 g22 g23 g24 g25 g26 v27 v28 v29 v30 v31 v32 v33 v34 v35 v36 v37 (nI ol)), (v0, .inl (cA 0, 326, .inl fs)), (v31, .inl (cA 0, 400, .inl fc)), (v33, .inl (cA 0, 11, .inl fq)), (v35, .inl (cA 4, 400, .inl (upd f4_1 (((nI ((tp - 1) - 1))).toNatClampNeg) (vp_nar .boolean 1))))] H := ⟨hP, hD⟩
                have hn37 : Bit 400 (upd f4_1 (((nI ((tp - 1) - 1))).toNatClampNeg) (vp_nar .boolean 1)) := Bit.put hf0_1 _ (by first | exact Or.inl rfl | exact Or.inr rfl)
                generalize (upd f4_1 (((nI ((tp - 1) - 1))).toNatClampNeg) (vp_nar .boolean 1)) = fn36 at hP hD hn37
                obtain ⟨hP, hD⟩ : PDq D A [(oX10 w0 v0 v1 v2 v3 v4 g5 g6 (nI ed) g8 v9 (nI nb) g11 g12 v13 g14 g15 g16 g17 g18 g19 g20 g21 g22 g23 g24 g25 g26 v27 v28 v29 v30 v31 v32 v33 v34 v35 v36 v37 (nI ol)), (v0, .inl (cA 0, 326, .inl fs)), (v31, .inl (cA 0, 400, .inl fc)), (v33, .inl (cA 0, 11, .inl fq)), (v35, .inl (cA 4, 400, .inl fn36))] H := ⟨hP, hD⟩
                refine lv_goto (tgt := 181) hx hb dX10_holdsBy_149 (by decide) ?_
                refine lv_iinc (v := (nI (i1 + 1))) (lv' := [(6, .int (nI (i1 + 1))), (5, .int (nI (tp - 1))), (7, .int yn10), (0, .ref w0), (1, .int (nI mi)), (2, .int d), (3, .int x), (4, .int y)]) hx hb dX10_holdsBy_181 hl (k := 2) rfl (nI_1 _) (by decide) rfl (fun ls hl => ?_)
                refine lv_goto (tgt := 11) hx hb dX10_holdsBy_184 (by decide) ?_
                obtain ⟨hP9, hD9⟩ := PDq.sub (ws' := [(oX10 w0 v0 v1 v2 v3 v4 g5 g6 (nI ed) g8 v9 (nI nb) g11 g12 v13 g14 g15 g16 g17 g18 g19 g20 g21 g22 g23 g24 g25 g26 v27 v28 v29 v30 v31 v32 v33 v34 v35 v36 v37 (nI ol)), (v0, .inl (cA 0, 326, .inl fs)), (v31, .inl (cA 0, 400, .inl fc)), (v33, .inl (cA 0, 11, .inl fq)), (v35, .inl (cA 4, 400, .inl fn36))]) hP hD [0, 1, 2, 3, 4] (by decide) rfl
                exact ih1 (i1 + 1) (tp - 1) fn36 H _ ls (by omega) hn37 (by omega) hn22 hP9 hD9 hS (lv_sub hl [0, 1, 3, 4, 5, 6, 7] rfl)
          · skip
            rw [c24] at hl
            have hl : lv_has ls 8 [(5, .int (nI (tp - 1))), (7, .int (-1)), (6, .int (nI i1)), (0, .ref w0), (1, .int (nI mi)), (2, .int d), (3, .int x), (4, .int y)] := hl
            refine lv_aload_n hx hb dX10_holdsBy_91 rfl (lv_at hl 3 rfl) ?_
            refine va_get (D := D) (ci := 11) (v := .ref v35) (C := RX10) (T := TX10) (N := 39) hx hb hts inX10 hown hK hP 0 rfl rfl 35 (by decide) (hts (.fieldLink RX10 60 "EscrowDeskModel" "stack" "[Z") (by decide +kernel)) (fun _ h9 => h9) rfl dX10_holdsBy_92 ?_
            refine lv_iload hx hb dX10_holdsBy_95 (lv_at hl 0 rfl) ?_
            refine lv_iconst (v := 1) hx hb dX10_holdsBy_97 (by decide) ?_
            refine lv_isub hx hb dX10_holdsBy_98 ?_
            refine lv_topi (fun yn38 eyn38 => ?_)
            obtain rfl : yn38 = (nI ((tp - 1) - 1)) := eyn38.trans (nI_sub (a := (tp - 1)) (b := 1) (by omega))
            refine va_zald hx hb hK hP 4 4 rfl rfl (vp_in_nI (n := ((tp - 1) - 1)) (N := 400) (show ((tp - 1) - 1) < 400 by omega) (by decide)) dX10_holdsBy_99 ?_
            refine lv_topi (fun yn39 eyn39 => ?_)
            have hn40 : yn39 = 0 ∨ yn39 = 1 := by rw [eyn39]; exact hf0_1 _ (by rw [nI_clamp (by omega)]; omega)
            refine lv_if_eq (tgt := 117) hx hb dX10_holdsBy_100 (by decide) (fun c41 => ?_) (fun c41 => ?_)
            · skip
              refine lv_iconst (v := 0) hx hb dX10_holdsBy_117 (by decide) ?_
              refine lv_goto (tgt := 148) hx hb dX10_holdsBy_118 (by decide) ?_
              refine va_zast hx hb hK hP hD hS 4 4 rfl rfl (vp_in_nI (n := ((tp - 1) - 1)) (N := 400) (show ((tp - 1) - 1) < 400 by omega) (by decide)) dX10_holdsBy_148 (fun H locs hP hD hS => ?_)
              obtain ⟨hP, hD⟩ : PDq D A [(oX10 w0 v0 v1 v2 v3 v4 g5 g6 (nI ed) g8 v9 (nI nb) g11 g12 v13 g14 g15 g16 g17 g18 g19 g20 g21 g22 g23 g24 g25 g26 v27 v28 v29 v30 v31 v32 v33 v34 v35 v36 v37 (nI ol)), (v0, .inl (cA 0, 326, .inl fs)), (v31, .inl (cA 0, 400, .inl fc)), (v33, .inl (cA 0, 11, .inl fq)), (v35, .inl (cA 4, 400, .inl (upd f4_1 (((nI ((tp - 1) - 1))).toNatClampNeg) (vp_nar .boolean 0))))] H := ⟨hP, hD⟩
              have hn43 : Bit 400 (upd f4_1 (((nI ((tp - 1) - 1))).toNatClampNeg) (vp_nar .boolean 0)) := Bit.put hf0_1 _ (by first | exact Or.inl rfl | exact Or.inr rfl)
              generalize (upd f4_1 (((nI ((tp - 1) - 1))).toNatClampNeg) (vp_nar .boolean 0)) = fn42 at hP hD hn43
              obtain ⟨hP, hD⟩ : PDq D A [(oX10 w0 v0 v1 v2 v3 v4 g5 g6 (nI ed) g8 v9 (nI nb) g11 g12 v13 g14 g15 g16 g17 g18 g19 g20 g21 g22 g23 g24 g25 g26 v27 v28 v29 v30 v31 v32 v33 v34 v35 v36 v37 (nI ol)), (v0, .inl (cA 0, 326, .inl fs)), (v31, .inl (cA 0, 400, .inl fc)), (v33, .inl (cA 0, 11, .inl fq)), (v35, .inl (cA 4, 400, .inl fn42))] H := ⟨hP, hD⟩
              refine lv_goto (tgt := 181) hx hb dX10_holdsBy_149 (by decide) ?_
              refine lv_iinc (v := (nI (i1 + 1))) (lv' := [(6, .int (nI (i1 + 1))), (5, .int (nI (tp - 1))), (7, .int (-1)), (0, .ref w0), (1, .int (nI mi)), (2, .int d), (3, .int x), (4, .int y)]) hx hb dX10_holdsBy_181 hl (k := 2) rfl (nI_1 _) (by decide) rfl (fun ls hl => ?_)
              refine lv_goto (tgt := 11) hx hb dX10_holdsBy_184 (by decide) ?_
              obtain ⟨hP9, hD9⟩ := PDq.sub (ws' := [(oX10 w0 v0 v1 v2 v3 v4 g5 g6 (nI ed) g8 v9 (nI nb) g11 g12 v13 g14 g15 g16 g17 g18 g19 g20 g21 g22 g23 g24 g25 g26 v27 v28 v29 v30 v31 v32 v33 v34 v35 v36 v37 (nI ol)), (v0, .inl (cA 0, 326, .inl fs)), (v31, .inl (cA 0, 400, .inl fc)), (v33, .inl (cA 0, 11, .inl fq)), (v35, .inl (cA 4, 400, .inl fn42))]) hP hD [0, 1, 2, 3, 4] (by decide) rfl
              exact ih1 (i1 + 1) (tp - 1) fn42 H _ ls (by omega) hn43 (by omega) hn22 hP9 hD9 hS (lv_sub hl [0, 1, 3, 4, 5, 6, 7] rfl)
            · skip
              refine lv_aload_n hx hb dX10_holdsBy_103 rfl (lv_at hl 3 rfl) ?_
              refine va_get (D := D) (ci := 11) (v := .ref v35) (C := RX10) (T := TX10) (N := 39) hx hb hts inX10 hown hK hP 0 rfl rfl 35 (by decide) (hts (.fieldLink RX10 60 "EscrowDeskModel" "stack" "[Z") (by decide +kernel)) (fun _ h9 => h9) rfl dX10_holdsBy_104 ?_
              refine lv_iload hx hb dX10_holdsBy_107 (lv_at hl 0 rfl) ?_
              refine va_zald hx hb hK hP 4 4 rfl rfl (vp_in_nI (n := (tp - 1)) (N := 400) (show (tp - 1) < 400 by omega) (by decide)) dX10_holdsBy_109 ?_
              refine lv_topi (fun yn44 eyn44 => ?_)
              have hn45 : yn44 = 0 ∨ yn44 = 1 := by rw [eyn44]; exact hf0_1 _ (by rw [nI_clamp (by omega)]; omega)
              refine lv_if_eq (tgt := 117) hx hb dX10_holdsBy_110 (by decide) (fun c46 => ?_) (fun c46 => ?_)
              · skip
                refine lv_iconst (v := 0) hx hb dX10_holdsBy_117 (by decide) ?_
                refine lv_goto (tgt := 148) hx hb dX10_holdsBy_118 (by decide) ?_
                refine va_zast hx hb hK hP hD hS 4 4 rfl rfl (vp_in_nI (n := ((tp - 1) - 1)) (N := 400) (show ((tp - 1) - 1) < 400 by omega) (by decide)) dX10_holdsBy_148 (fun H locs hP hD hS => ?_)
                obtain ⟨hP, hD⟩ : PDq D A [(oX10 w0 v0 v1 v2 v3 v4 g5 g6 (nI ed) g8 v9 (nI nb) g11 g12 v13 g14 g15 g16 g17 g18 g19 g20 g21 g22 g23 g24 g25 g26 v27 v28 v29 v30 v31 v32 v33 v34 v35 v36 v37 (nI ol)), (v0, .inl (cA 0, 326, .inl fs)), (v31, .inl (cA 0, 400, .inl fc)), (v33, .inl (cA 0, 11, .inl fq)), (v35, .inl (cA 4, 400, .inl (upd f4_1 (((nI ((tp - 1) - 1))).toNatClampNeg) (vp_nar .boolean 0))))] H := ⟨hP, hD⟩
                have hn48 : Bit 400 (upd f4_1 (((nI ((tp - 1) - 1))).toNatClampNeg) (vp_nar .boolean 0)) := Bit.put hf0_1 _ (by first | exact Or.inl rfl | exact Or.inr rfl)
                generalize (upd f4_1 (((nI ((tp - 1) - 1))).toNatClampNeg) (vp_nar .boolean 0)) = fn47 at hP hD hn48
                obtain ⟨hP, hD⟩ : PDq D A [(oX10 w0 v0 v1 v2 v3 v4 g5 g6 (nI ed) g8 v9 (nI nb) g11 g12 v13 g14 g15 g16 g17 g18 g19 g20 g21 g22 g23 g24 g25 g26 v27 v28 v29 v30 v31 v32 v33 v34 v35 v36 v37 (nI ol)), (v0, .inl (cA 0, 326, .inl fs)), (v31, .inl (cA 0, 400, .inl fc)), (v33, .inl (cA 0, 11, .inl fq)), (v35, .inl (cA 4, 400, .inl fn47))] H := ⟨hP, hD⟩
                refine lv_goto (tgt := 181) hx hb dX10_holdsBy_149 (by decide) ?_
                refine lv_iinc (v := (nI (i1 + 1))) (lv' := [(6, .int (nI (i1 + 1))), (5, .int (nI (tp - 1))), (7, .int (-1)), (0, .ref w0), (1, .int (nI mi)), (2, .int d), (3, .int x), (4, .int y)]) hx hb dX10_holdsBy_181 hl (k := 2) rfl (nI_1 _) (by decide) rfl (fun ls hl => ?_)
                refine lv_goto (tgt := 11) hx hb dX10_holdsBy_184 (by decide) ?_
                obtain ⟨hP9, hD9⟩ := PDq.sub (ws' := [(oX10 w0 v0 v1 v2 v3 v4 g5 g6 (nI ed) g8 v9 (nI nb) g11 g12 v13 g14 g15 g16 g17 g18 g19 g20 g21 g22 g23 g24 g25 g26 v27 v28 v29 v30 v31 v32 v33 v34 v35 v36 v37 (nI ol)), (v0, .inl (cA 0, 326, .inl fs)), (v31, .inl (cA 0, 400, .inl fc)), (v33, .inl (cA 0, 11, .inl fq)), (v35, .inl (cA 4, 400, .inl fn47))]) hP hD [0, 1, 2, 3, 4] (by decide) rfl
                exact ih1 (i1 + 1) (tp - 1) fn47 H _ ls (by omega) hn48 (by omega) hn22 hP9 hD9 hS (lv_sub hl [0, 1, 3, 4, 5, 6, 7] rfl)
              · skip
                refine lv_iconst (v := 1) hx hb dX10_holdsBy_113 (by decide) ?_
                refine lv_goto (tgt := 148) hx hb dX10_holdsBy_114 (by decide) ?_
                refine va_zast hx hb hK hP hD hS 4 4 rfl rfl (vp_in_nI (n := ((tp - 1) - 1)) (N := 400) (show ((tp - 1) - 1) < 400 by omega) (by decide)) dX10_holdsBy_148 (fun H locs hP hD hS => ?_)
                obtain ⟨hP, hD⟩ : PDq D A [(oX10 w0 v0 v1 v2 v3 v4 g5 g6 (nI ed) g8 v9 (nI nb) g11 g12 v13 g14 g15 g16 g17 g18 g19 g20 g21 g22 g23 g24 g25 g26 v27 v28 v29 v30 v31 v32 v33 v34 v35 v36 v37 (nI ol)), (v0, .inl (cA 0, 326, .inl fs)), (v31, .inl (cA 0, 400, .inl fc)), (v33, .inl (cA 0, 11, .inl fq)), (v35, .inl (cA 4, 400, .inl (upd f4_1 (((nI ((tp - 1) - 1))).toNatClampNeg) (vp_nar .boolean 1))))] H := ⟨hP, hD⟩
                have hn50 : Bit 400 (upd f4_1 (((nI ((tp - 1) - 1))).toNatClampNeg) (vp_nar .boolean 1)) := Bit.put hf0_1 _ (by first | exact Or.inl rfl | exact Or.inr rfl)
                generalize (upd f4_1 (((nI ((tp - 1) - 1))).toNatClampNeg) (vp_nar .boolean 1)) = fn49 at hP hD hn50
                obtain ⟨hP, hD⟩ : PDq D A [(oX10 w0 v0 v1 v2 v3 v4 g5 g6 (nI ed) g8 v9 (nI nb) g11 g12 v13 g14 g15 g16 g17 g18 g19 g20 g21 g22 g23 g24 g25 g26 v27 v28 v29 v30 v31 v32 v33 v34 v35 v36 v37 (nI ol)), (v0, .inl (cA 0, 326, .inl fs)), (v31, .inl (cA 0, 400, .inl fc)), (v33, .inl (cA 0, 11, .inl fq)), (v35, .inl (cA 4, 400, .inl fn49))] H := ⟨hP, hD⟩
                refine lv_goto (tgt := 181) hx hb dX10_holdsBy_149 (by decide) ?_
                refine lv_iinc (v := (nI (i1 + 1))) (lv' := [(6, .int (nI (i1 + 1))), (5, .int (nI (tp - 1))), (7, .int (-1)), (0, .ref w0), (1, .int (nI mi)), (2, .int d), (3, .int x), (4, .int y)]) hx hb dX10_holdsBy_181 hl (k := 2) rfl (nI_1 _) (by decide) rfl (fun ls hl => ?_)
                refine lv_goto (tgt := 11) hx hb dX10_holdsBy_184 (by decide) ?_
                obtain ⟨hP9, hD9⟩ := PDq.sub (ws' := [(oX10 w0 v0 v1 v2 v3 v4 g5 g6 (nI ed) g8 v9 (nI nb) g11 g12 v13 g14 g15 g16 g17 g18 g19 g20 g21 g22 g23 g24 g25 g26 v27 v28 v29 v30 v31 v32 v33 v34 v35 v36 v37 (nI ol)), (v0, .inl (cA 0, 326, .inl fs)), (v31, .inl (cA 0, 400, .inl fc)), (v33, .inl (cA 0, 11, .inl fq)), (v35, .inl (cA 4, 400, .inl fn49))]) hP hD [0, 1, 2, 3, 4] (by decide) rfl
                exact ih1 (i1 + 1) (tp - 1) fn49 H _ ls (by omega) hn50 (by omega) hn22 hP9 hD9 hS (lv_sub hl [0, 1, 3, 4, 5, 6, 7] rfl)
      · skip
        rw [c11] at hl
        have hl : lv_has ls 8 [(7, .int (-3)), (6, .int (nI i1)), (5, .int (nI tp)), (0, .ref w0), (1, .int (nI mi)), (2, .int d), (3, .int x), (4, .int y)] := hl
        obtain ⟨hn51, hn52⟩ := pfx_not hv1_1 (by omega) (by rw [← c11, eyn10, nI_clamp (by omega)])
        refine lv_aload_n hx hb dX10_holdsBy_40 rfl (lv_at hl 3 rfl) ?_
        refine va_get (D := D) (ci := 11) (v := .ref v35) (C := RX10) (T := TX10) (N := 39) hx hb hts inX10 hown hK hP 0 rfl rfl 35 (by decide) (hts (.fieldLink RX10 60 "EscrowDeskModel" "stack" "[Z") (by decide +kernel)) (fun _ h9 => h9) rfl dX10_holdsBy_41 ?_
        refine lv_iload hx hb dX10_holdsBy_44 (lv_at hl 2 rfl) ?_
        refine lv_iconst (v := 1) hx hb dX10_holdsBy_46 (by decide) ?_
        refine lv_isub hx hb dX10_holdsBy_47 ?_
        refine lv_topi (fun yn53 eyn53 => ?_)
        obtain rfl : yn53 = (nI (tp - 1)) := eyn53.trans (nI_sub (a := tp) (b := 1) (by omega))
        refine lv_aload_n hx hb dX10_holdsBy_48 rfl (lv_at hl 3 rfl) ?_
        refine va_get (D := D) (ci := 11) (v := .ref v35) (C := RX10) (T := TX10) (N := 39) hx hb hts inX10 hown hK hP 0 rfl rfl 35 (by decide) (hts (.fieldLink RX10 60 "EscrowDeskModel" "stack" "[Z") (by decide +kernel)) (fun _ h9 => h9) rfl dX10_holdsBy_49 ?_
        refine lv_iload hx hb dX10_holdsBy_52 (lv_at hl 2 rfl) ?_
        refine lv_iconst (v := 1) hx hb dX10_holdsBy_54 (by decide) ?_
        refine lv_isub hx hb dX10_holdsBy_55 ?_
        refine lv_topi (fun yn54 eyn54 => ?_)
        obtain rfl : yn54 = (nI (tp - 1)) := eyn54.trans (nI_sub (a := tp) (b := 1) (by omega))
        refine va_zald hx hb hK hP 4 4 rfl rfl (vp_in_nI (n := (tp - 1)) (N := 400) (show (tp - 1) < 400 by omega) (by decide)) dX10_holdsBy_56 ?_
        refine lv_topi (fun yn55 eyn55 => ?_)
        have hn56 : yn55 = 0 ∨ yn55 = 1 := by rw [eyn55]; exact hf0_1 _ (by rw [nI_clamp (by omega)]; omega)
        refine lv_if_ne (tgt := 64) hx hb dX10_holdsBy_57 (by decide) (fun c57 => ?_) (fun c57 => ?_)
        · skip
          refine lv_iconst (v := 0) hx hb dX10_holdsBy_64 (by decide) ?_
          refine va_zast hx hb hK hP hD hS 4 4 rfl rfl (vp_in_nI (n := (tp - 1)) (N := 400) (show (tp - 1) < 400 by omega) (by decide)) dX10_holdsBy_65 (fun H locs hP hD hS => ?_)
          obtain ⟨hP, hD⟩ : PDq D A [(oX10 w0 v0 v1 v2 v3 v4 g5 g6 (nI ed) g8 v9 (nI nb) g11 g12 v13 g14 g15 g16 g17 g18 g19 g20 g21 g22 g23 g24 g25 g26 v27 v28 v29 v30 v31 v32 v33 v34 v35 v36 v37 (nI ol)), (v0, .inl (cA 0, 326, .inl fs)), (v31, .inl (cA 0, 400, .inl fc)), (v33, .inl (cA 0, 11, .inl fq)), (v35, .inl (cA 4, 400, .inl (upd f4_1 (((nI (tp - 1))).toNatClampNeg) (vp_nar .boolean 0))))] H := ⟨hP, hD⟩
          have hn59 : Bit 400 (upd f4_1 (((nI (tp - 1))).toNatClampNeg) (vp_nar .boolean 0)) := Bit.put hf0_1 _ (by first | exact Or.inl rfl | exact Or.inr rfl)
          generalize (upd f4_1 (((nI (tp - 1))).toNatClampNeg) (vp_nar .boolean 0)) = fn58 at hP hD hn59
          obtain ⟨hP, hD⟩ : PDq D A [(oX10 w0 v0 v1 v2 v3 v4 g5 g6 (nI ed) g8 v9 (nI nb) g11 g12 v13 g14 g15 g16 g17 g18 g19 g20 g21 g22 g23 g24 g25 g26 v27 v28 v29 v30 v31 v32 v33 v34 v35 v36 v37 (nI ol)), (v0, .inl (cA 0, 326, .inl fs)), (v31, .inl (cA 0, 400, .inl fc)), (v33, .inl (cA 0, 11, .inl fq)), (v35, .inl (cA 4, 400, .inl fn58))] H := ⟨hP, hD⟩
          refine lv_goto (tgt := 181) hx hb dX10_holdsBy_66 (by decide) ?_
          refine lv_iinc (v := (nI (i1 + 1))) (lv' := [(6, .int (nI (i1 + 1))), (7, .int (-3)), (5, .int (nI tp)), (0, .ref w0), (1, .int (nI mi)), (2, .int d), (3, .int x), (4, .int y)]) hx hb dX10_holdsBy_181 hl (k := 1) rfl (nI_1 _) (by decide) rfl (fun ls hl => ?_)
          refine lv_goto (tgt := 11) hx hb dX10_holdsBy_184 (by decide) ?_
          obtain ⟨hP9, hD9⟩ := PDq.sub (ws' := [(oX10 w0 v0 v1 v2 v3 v4 g5 g6 (nI ed) g8 v9 (nI nb) g11 g12 v13 g14 g15 g16 g17 g18 g19 g20 g21 g22 g23 g24 g25 g26 v27 v28 v29 v30 v31 v32 v33 v34 v35 v36 v37 (nI ol)), (v0, .inl (cA 0, 326, .inl fs)), (v31, .inl (cA 0, 400, .inl fc)), (v33, .inl (cA 0, 11, .inl fq)), (v35, .inl (cA 4, 400, .inl fn58))]) hP hD [0, 1, 2, 3, 4] (by decide) rfl
          exact ih1 (i1 + 1) tp fn58 H _ ls (by omega) hn59 (by omega) hn52 hP9 hD9 hS (lv_sub hl [0, 2, 3, 4, 5, 6, 7] rfl)
        · skip
          refine lv_iconst (v := 1) hx hb dX10_holdsBy_60 (by decide) ?_
          refine lv_goto (tgt := 65) hx hb dX10_holdsBy_61 (by decide) ?_
          refine va_zast hx hb hK hP hD hS 4 4 rfl rfl (vp_in_nI (n := (tp - 1)) (N := 400) (show (tp - 1) < 400 by omega) (by decide)) dX10_holdsBy_65 (fun H locs hP hD hS => ?_)
          obtain ⟨hP, hD⟩ : PDq D A [(oX10 w0 v0 v1 v2 v3 v4 g5 g6 (nI ed) g8 v9 (nI nb) g11 g12 v13 g14 g15 g16 g17 g18 g19 g20 g21 g22 g23 g24 g25 g26 v27 v28 v29 v30 v31 v32 v33 v34 v35 v36 v37 (nI ol)), (v0, .inl (cA 0, 326, .inl fs)), (v31, .inl (cA 0, 400, .inl fc)), (v33, .inl (cA 0, 11, .inl fq)), (v35, .inl (cA 4, 400, .inl (upd f4_1 (((nI (tp - 1))).toNatClampNeg) (vp_nar .boolean 1))))] H := ⟨hP, hD⟩
          have hn61 : Bit 400 (upd f4_1 (((nI (tp - 1))).toNatClampNeg) (vp_nar .boolean 1)) := Bit.put hf0_1 _ (by first | exact Or.inl rfl | exact Or.inr rfl)
          generalize (upd f4_1 (((nI (tp - 1))).toNatClampNeg) (vp_nar .boolean 1)) = fn60 at hP hD hn61
          obtain ⟨hP, hD⟩ : PDq D A [(oX10 w0 v0 v1 v2 v3 v4 g5 g6 (nI ed) g8 v9 (nI nb) g11 g12 v13 g14 g15 g16 g17 g18 g19 g20 g21 g22 g23 g24 g25 g26 v27 v28 v29 v30 v31 v32 v33 v34 v35 v36 v37 (nI ol)), (v0, .inl (cA 0, 326, .inl fs)), (v31, .inl (cA 0, 400, .inl fc)), (v33, .inl (cA 0, 11, .inl fq)), (v35, .inl (cA 4, 400, .inl fn60))] H := ⟨hP, hD⟩
          refine lv_goto (tgt := 181) hx hb dX10_holdsBy_66 (by decide) ?_
          refine lv_iinc (v := (nI (i1 + 1))) (lv' := [(6, .int (nI (i1 + 1))), (7, .int (-3)), (5, .int (nI tp)), (0, .ref w0), (1, .int (nI mi)), (2, .int d), (3, .int x), (4, .int y)]) hx hb dX10_holdsBy_181 hl (k := 1) rfl (nI_1 _) (by decide) rfl (fun ls hl => ?_)
          refine lv_goto (tgt := 11) hx hb dX10_holdsBy_184 (by decide) ?_
          obtain ⟨hP9, hD9⟩ := PDq.sub (ws' := [(oX10 w0 v0 v1 v2 v3 v4 g5 g6 (nI ed) g8 v9 (nI nb) g11 g12 v13 g14 g15 g16 g17 g18 g19 g20 g21 g22 g23 g24 g25 g26 v27 v28 v29 v30 v31 v32 v33 v34 v35 v36 v37 (nI ol)), (v0, .inl (cA 0, 326, .inl fs)), (v31, .inl (cA 0, 400, .inl fc)), (v33, .inl (cA 0, 11, .inl fq)), (v35, .inl (cA 4, 400, .inl fn60))]) hP hD [0, 1, 2, 3, 4] (by decide) rfl
          exact ih1 (i1 + 1) tp fn60 H _ ls (by omega) hn61 (by omega) hn52 hP9 hD9 hS (lv_sub hl [0, 2, 3, 4, 5, 6, 7] rfl)
  obtain ⟨hP9, hD9⟩ := PDq.sub (ws' := [(oX10 w0 v0 v1 v2 v3 v4 g5 g6 (nI ed) g8 v9 (nI nb) g11 g12 v13 g14 g15 g16 g17 g18 g19 g20 g21 g22 g23 g24 g25 g26 v27 v28 v29 v30 v31 v32 v33 v34 v35 v36 v37 (nI ol)), (v0, .inl (cA 0, 326, .inl fs)), (v31, .inl (cA 0, 400, .inl fc)), (v33, .inl (cA 0, 11, .inl fq)), (v35, .inl (cA 4, 400, .inl fk))]) hP hD [0, 1, 2, 3, 4] (by decide) rfl
  exact loop1 (cb - ca) ca 0 fk _ _ ls (by omega) hbit (by omega) hpf hP9 hD9 hS (lv_sub hl [0, 1, 2, 3, 4, 5, 6] rfl)

set_option maxHeartbeats 4000000 in
set_option maxRecDepth 100000 in
/-- reference: copy -/
theorem r_copy (l : Launch) (D : va_G) (cA : Nat → ClassId) (sa : Nat → Nat) (h0 : Nat) (h1 : Nat) (cn : Nat) (pq : Nat) (en : Nat) (dy : Nat) (fs : Nat → Int32) (gt : Nat → Int32) (sz : Nat) (hcn : cn ≤ 10) (hpq : pq ≤ 8) (hen : en ≤ 60) (hdy : dy ≤ 20000) (hri : RI cn pq en dy fs) : Met l yX10_copy wsX10_copy ({ frames := 0, cells := 0, slots := 0, locals := 0 }) (va_Pc [.ref h0, .ref h1] (Wd D cA sa [(h0, .inl (cA 0, 326, .inl fs)), (h1, .inl (cA 0, 326, .inl gt))] sz)) (va_Qv (fun _ : Unit => True) (fun (_ : Unit) t => ∃ zs : Nat → Int32, RI cn pq en dy zs ∧ Wq D (va_A [(h0, .inl (cA 0, 326, .inl fs)), (h1, .inl (cA 0, 326, .inl gt))] sz) [(h0, .inl (cA 0, 326, .inl fs)), (h1, .inl (cA 0, 326, .inl zs))] t) (va_A [(h0, .inl (cA 0, 326, .inl fs)), (h1, .inl (cA 0, 326, .inl gt))] sz)) 0 0 (va_A [(h0, .inl (cA 0, 326, .inl fs)), (h1, .inl (cA 0, 326, .inl gt))] sz) := by
  refine Met.ofW (cc := cX10_copy) (maxL := 3) (ret := none) (by decide) rfl ?_
  intro p e s m args below meth c s₁ B hml hv
  obtain ⟨rfl, hsz, hP, hK, hD0, hC, hZ⟩ := hv
  have hx := B.exec
  have hb := B.bytes
  have hr := B.returns
  have hts := atoms_spec (ws := wsX10_copy) B.pre
  have hown : s.vm.findClass RX10 = some m.cls := findClass_of_methodNamed B.named
  have hlocks := B.notSynchronized
  subst hsz
  have hD := hD0.self (sz := s.heap.size)
  generalize hAe : va_A [(h0, .inl (cA 0, 326, .inl fs)), (h1, .inl (cA 0, 326, .inl gt))] s.heap.size = A at hD hZ ⊢
  have hA : ∀ q : Nat, s.heap.size ≤ q → A q := fun q h => by rw [← hAe]; exact Or.inr h
  have hS : va_S A s.heap s.heap [] := va_S.rf
  have hP : va_P D vwCl [(h0, .inl (cA 0, 326, .inl fs)), (h1, .inl (cA 0, 326, .inl gt))] s.heap := hP
  have hl := lv_entry ([.ref h0, .ref h1]) (n := 3) (Nat.le_of_ble_eq_true rfl)
  rw [lg_entry_eq]
  generalize (lg_sl ([.ref h0, .ref h1]) ++ List.replicate (3 - (lg_sl ([.ref h0, .ref h1])).length) Slot.unset).toArray = ls at hl ⊢
  have hl : lv_has ls 3 [(0, .ref h0), (1, .ref h1)] := hl
  refine lv_iconst (v := 0) hx hb dX10_copy_0 (by decide) ?_
  refine lv_istore_n (lv' := [(2, .int 0), (0, .ref h0), (1, .ref h1)]) hx hb dX10_copy_1 rfl hl (by decide) rfl (fun ls hl => ?_)
  have loop1 : ∀ (n1 i1 : Nat) (f1_1 : Nat → Int32) (H : Heap) (locs : List Loc) (ls : Array Slot), i1 + n1 = 326 → Cp i1 fs f1_1 → va_P D vwCl [(h0, .inl (cA 0, 326, .inl fs)), (h1, .inl (cA 0, 326, .inl f1_1))] H → va_D A [(h0, .inl (cA 0, 326, .inl fs)), (h1, .inl (cA 0, 326, .inl f1_1))] → va_S A s.heap H locs → lv_has ls 3 [(2, .int (nI i1)), (0, .ref h0), (1, .ref h1)] → W p l e (headSpec wsX10_copy ({ frames := 0, cells := 0, slots := 0, locals := 0 } : Room)).room s m ([.ref h0, .ref h1] : List Value).toArray below meth c H locs 0 0 (MQ below (va_Qv (fun _ : Unit => True) (fun (_ : Unit) t => ∃ zs : Nat → Int32, RI cn pq en dy zs ∧ Wq D A [(h0, .inl (cA 0, 326, .inl fs)), (h1, .inl (cA 0, 326, .inl zs))] t) A) ([.ref h0, .ref h1] : List Value).toArray s 0 0 A) (F0 m 2 ls []) := by
    intro n1
    induction n1 with
    | zero =>
      intro i1 f1_1 H locs ls hi1 hv0_1 hP hD hS hl
      obtain rfl : 326 = i1 := by omega
      refine lv_iload_n hx hb dX10_copy_2 rfl (lv_at hl 0 rfl) ?_
      refine lv_sipush (v := 326) hx hb dX10_copy_3 (by decide) ?_
      refine lv_icmp_ge (tgt := 21) hx hb dX10_copy_6 (by decide) (fun c1 => ?_) (fun c9 => absurd (nI_le (a := 326) (b := 326) (show 326 ≤ 326 by omega) (by omega)) c9)
      obtain ⟨hP9, hD9⟩ := PDq.sub (ws' := [(h0, .inl (cA 0, 326, .inl fs)), (h1, .inl (cA 0, 326, .inl f1_1))]) hP hD [0, 1] (by decide) rfl
      refine W.widen (k := 0) (n := 0) (Nat.le_of_ble_eq_true rfl) (Nat.le_of_ble_eq_true rfl) ?_
      exact (W.vret hx hb hr (fun t ht hW => ⟨⟨(), rfl, trivial, f1_1, (RI.same hri hv0_1), by rw [ht]; exact hP9, hD9⟩, hS.F ht⟩) hS.2.2 dX10_copy_21)
    | succ n1 ih1 =>
      intro i1 f1_1 H locs ls hi1 hv0_1 hP hD hS hl
      refine lv_iload_n hx hb dX10_copy_2 rfl (lv_at hl 0 rfl) ?_
      refine lv_sipush (v := 326) hx hb dX10_copy_3 (by decide) ?_
      refine lv_icmp_ge (tgt := 21) hx hb dX10_copy_6 (by decide) (fun c9 => absurd c9 (nI_ge (a := i1) (b := 326) (show i1 < 326 by omega) (by omega))) (fun c2 => ?_)
      refine lv_aload_n hx hb dX10_copy_9 rfl (lv_at hl 2 rfl) ?_
      refine lv_iload_n hx hb dX10_copy_10 rfl (lv_at hl 0 rfl) ?_
      refine lv_aload_n hx hb dX10_copy_11 rfl (lv_at hl 1 rfl) ?_
      refine lv_iload_n hx hb dX10_copy_12 rfl (lv_at hl 0 rfl) ?_
      refine va_iald hx hb hK hP 0 0 rfl rfl (vp_in_nI (n := i1) (N := 326) (show i1 < 326 by omega) (by decide)) dX10_copy_13 ?_
      refine lv_topi (fun yn3 eyn3 => ?_)
      refine va_iast hx hb hK hP hD hS 1 0 rfl rfl (vp_in_nI (n := i1) (N := 326) (show i1 < 326 by omega) (by decide)) dX10_copy_14 (fun H locs hP hD hS => ?_)
      obtain ⟨hP, hD⟩ : PDq D A [(h0, .inl (cA 0, 326, .inl fs)), (h1, .inl (cA 0, 326, .inl (upd f1_1 (((nI i1)).toNatClampNeg) yn3)))] H := ⟨hP, hD⟩
      have hn5 : Cp (i1 + 1) fs (upd f1_1 (((nI i1)).toNatClampNeg) yn3) := (by rw [eyn3]; exact Cp.step (by omega) hv0_1)
      generalize (upd f1_1 (((nI i1)).toNatClampNeg) yn3) = fn4 at hP hD hn5
      obtain ⟨hP, hD⟩ : PDq D A [(h0, .inl (cA 0, 326, .inl fs)), (h1, .inl (cA 0, 326, .inl fn4))] H := ⟨hP, hD⟩
      refine lv_iinc (v := (nI (i1 + 1))) (lv' := [(2, .int (nI (i1 + 1))), (0, .ref h0), (1, .ref h1)]) hx hb dX10_copy_15 hl (k := 0) rfl (nI_1 _) (by decide) rfl (fun ls hl => ?_)
      refine lv_goto (tgt := 2) hx hb dX10_copy_18 (by decide) ?_
      obtain ⟨hP9, hD9⟩ := PDq.sub (ws' := [(h0, .inl (cA 0, 326, .inl fs)), (h1, .inl (cA 0, 326, .inl fn4))]) hP hD [0, 1] (by decide) rfl
      exact ih1 (i1 + 1) fn4 H _ ls (by omega) hn5 hP9 hD9 hS (lv_sub hl [0, 1, 2] rfl)
  obtain ⟨hP9, hD9⟩ := PDq.sub (ws' := [(h0, .inl (cA 0, 326, .inl fs)), (h1, .inl (cA 0, 326, .inl gt))]) hP hD [0, 1] (by decide) rfl
  exact loop1 (326 - 0) 0 gt _ _ ls (by omega) (fun j hj => absurd hj (Nat.not_lt_zero j)) hP9 hD9 hS (lv_sub hl [0, 1, 2] rfl)

set_option maxHeartbeats 4000000 in
set_option maxRecDepth 100000 in
/-- reference: reset -/
theorem r_reset (l : Launch) (D : va_G) (cA : Nat → ClassId) (sa : Nat → Nat) (h0 : Nat) (fs : Nat → Int32) (sz : Nat) : Met l yX10_reset wsX10_reset ({ frames := 0, cells := 0, slots := 0, locals := 0 }) (va_Pc [.ref h0] (Wd D cA sa [(h0, .inl (cA 0, 326, .inl fs))] sz)) (va_Qv (fun _ : Unit => True) (fun (_ : Unit) t => ∃ zs : Nat → Int32, RI 0 0 0 0 zs ∧ Wq D (va_A [(h0, .inl (cA 0, 326, .inl fs))] sz) [(h0, .inl (cA 0, 326, .inl zs))] t) (va_A [(h0, .inl (cA 0, 326, .inl fs))] sz)) 0 0 (va_A [(h0, .inl (cA 0, 326, .inl fs))] sz) := by
  refine Met.ofW (cc := cX10_reset) (maxL := 2) (ret := none) (by decide) rfl ?_
  intro p e s m args below meth c s₁ B hml hv
  obtain ⟨rfl, hsz, hP, hK, hD0, hC, hZ⟩ := hv
  have hx := B.exec
  have hb := B.bytes
  have hr := B.returns
  have hts := atoms_spec (ws := wsX10_reset) B.pre
  have hown : s.vm.findClass RX10 = some m.cls := findClass_of_methodNamed B.named
  have hlocks := B.notSynchronized
  subst hsz
  have hD := hD0.self (sz := s.heap.size)
  generalize hAe : va_A [(h0, .inl (cA 0, 326, .inl fs))] s.heap.size = A at hD hZ ⊢
  have hA : ∀ q : Nat, s.heap.size ≤ q → A q := fun q h => by rw [← hAe]; exact Or.inr h
  have hS : va_S A s.heap s.heap [] := va_S.rf
  have hP : va_P D vwCl [(h0, .inl (cA 0, 326, .inl fs))] s.heap := hP
  have hl := lv_entry ([.ref h0]) (n := 2) (Nat.le_of_ble_eq_true rfl)
  rw [lg_entry_eq]
  generalize (lg_sl ([.ref h0]) ++ List.replicate (2 - (lg_sl ([.ref h0])).length) Slot.unset).toArray = ls at hl ⊢
  have hl : lv_has ls 2 [(0, .ref h0)] := hl
  refine lv_iconst (v := 0) hx hb dX10_reset_0 (by decide) ?_
  refine lv_istore_n (lv' := [(1, .int 0), (0, .ref h0)]) hx hb dX10_reset_1 rfl hl (by decide) rfl (fun ls hl => ?_)
  have loop1 : ∀ (n1 i1 : Nat) (f0_1 : Nat → Int32) (H : Heap) (locs : List Loc) (ls : Array Slot), i1 + n1 = 326 → Nul i1 f0_1 → va_P D vwCl [(h0, .inl (cA 0, 326, .inl f0_1))] H → va_D A [(h0, .inl (cA 0, 326, .inl f0_1))] → va_S A s.heap H locs → lv_has ls 2 [(1, .int (nI i1)), (0, .ref h0)] → W p l e (headSpec wsX10_reset ({ frames := 0, cells := 0, slots := 0, locals := 0 } : Room)).room s m ([.ref h0] : List Value).toArray below meth c H locs 0 0 (MQ below (va_Qv (fun _ : Unit => True) (fun (_ : Unit) t => ∃ zs : Nat → Int32, RI 0 0 0 0 zs ∧ Wq D A [(h0, .inl (cA 0, 326, .inl zs))] t) A) ([.ref h0] : List Value).toArray s 0 0 A) (F0 m 2 ls []) := by
    intro n1
    induction n1 with
    | zero =>
      intro i1 f0_1 H locs ls hi1 hv0_1 hP hD hS hl
      obtain rfl : 326 = i1 := by omega
      refine lv_iload_n hx hb dX10_reset_2 rfl (lv_at hl 0 rfl) ?_
      refine lv_sipush (v := 326) hx hb dX10_reset_3 (by decide) ?_
      refine lv_icmp_ge (tgt := 19) hx hb dX10_reset_6 (by decide) (fun c1 => ?_) (fun c9 => absurd (nI_le (a := 326) (b := 326) (show 326 ≤ 326 by omega) (by omega)) c9)
      refine lv_aload_n hx hb dX10_reset_19 rfl (lv_at hl 1 rfl) ?_
      refine lv_iconst (v := 1) hx hb dX10_reset_20 (by decide) ?_
      refine lv_sipush (v := 365) hx hb dX10_reset_21 (by decide) ?_
      refine va_iast hx hb hK hP hD hS 0 0 rfl rfl (vp_in_iff.mpr (by decide)) dX10_reset_24 (fun H locs hP hD hS => ?_)
      obtain ⟨hP, hD⟩ : PDq D A [(h0, .inl (cA 0, 326, .inl (upd f0_1 1 365)))] H := ⟨hP, hD⟩
      have hn3 : RI 0 0 0 0 (upd f0_1 1 365) := (Nul.ri hv0_1)
      generalize (upd f0_1 1 365) = fn2 at hP hD hn3
      obtain ⟨hP, hD⟩ : PDq D A [(h0, .inl (cA 0, 326, .inl fn2))] H := ⟨hP, hD⟩
      obtain ⟨hP9, hD9⟩ := PDq.sub (ws' := [(h0, .inl (cA 0, 326, .inl fn2))]) hP hD [0] (by decide) rfl
      refine W.widen (k := 0) (n := 0) (Nat.le_of_ble_eq_true rfl) (Nat.le_of_ble_eq_true rfl) ?_
      exact (W.vret hx hb hr (fun t ht hW => ⟨⟨(), rfl, trivial, fn2, hn3, by rw [ht]; exact hP9, hD9⟩, hS.F ht⟩) hS.2.2 dX10_reset_25)
    | succ n1 ih1 =>
      intro i1 f0_1 H locs ls hi1 hv0_1 hP hD hS hl
      refine lv_iload_n hx hb dX10_reset_2 rfl (lv_at hl 0 rfl) ?_
      refine lv_sipush (v := 326) hx hb dX10_reset_3 (by decide) ?_
      refine lv_icmp_ge (tgt := 19) hx hb dX10_reset_6 (by decide) (fun c9 => absurd c9 (nI_ge (a := i1) (b := 326) (show i1 < 326 by omega) (by omega))) (fun c4 => ?_)
      refine lv_aload_n hx hb dX10_reset_9 rfl (lv_at hl 1 rfl) ?_
      refine lv_iload_n hx hb dX10_reset_10 rfl (lv_at hl 0 rfl) ?_
      refine lv_iconst (v := 0) hx hb dX10_reset_11 (by decide) ?_
      refine va_iast hx hb hK hP hD hS 0 0 rfl rfl (vp_in_nI (n := i1) (N := 326) (show i1 < 326 by omega) (by decide)) dX10_reset_12 (fun H locs hP hD hS => ?_)
      obtain ⟨hP, hD⟩ : PDq D A [(h0, .inl (cA 0, 326, .inl (upd f0_1 (((nI i1)).toNatClampNeg) 0)))] H := ⟨hP, hD⟩
      have hn6 : Nul (i1 + 1) (upd f0_1 (((nI i1)).toNatClampNeg) 0) := (Nul.stepZ (by omega) hv0_1)
      generalize (upd f0_1 (((nI i1)).toNatClampNeg) 0) = fn5 at hP hD hn6
      obtain ⟨hP, hD⟩ : PDq D A [(h0, .inl (cA 0, 326, .inl fn5))] H := ⟨hP, hD⟩
      refine lv_iinc (v := (nI (i1 + 1))) (lv' := [(1, .int (nI (i1 + 1))), (0, .ref h0)]) hx hb dX10_reset_13 hl (k := 0) rfl (nI_1 _) (by decide) rfl (fun ls hl => ?_)
      refine lv_goto (tgt := 2) hx hb dX10_reset_16 (by decide) ?_
      obtain ⟨hP9, hD9⟩ := PDq.sub (ws' := [(h0, .inl (cA 0, 326, .inl fn5))]) hP hD [0] (by decide) rfl
      exact ih1 (i1 + 1) fn5 H _ ls (by omega) hn6 hP9 hD9 hS (lv_sub hl [0, 1] rfl)
  obtain ⟨hP9, hD9⟩ := PDq.sub (ws' := [(h0, .inl (cA 0, 326, .inl fs))]) hP hD [0] (by decide) rfl
  exact loop1 (326 - 0) 0 fs _ _ ls (by omega) (fun j hj => absurd hj (Nat.not_lt_zero j)) hP9 hD9 hS (lv_sub hl [0, 1] rfl)

set_option maxHeartbeats 4000000 in
set_option maxRecDepth 100000 in
/-- reference: remember -/
theorem r_remember (l : Launch) (D : va_G) (cA : Nat → ClassId) (sa : Nat → Nat) (w0 : Nat) (ed : Nat) (nb : Nat) (ol : Nat) (v0 : Nat) (v1 : Nat) (v2 : Nat) (v3 : Nat) (v4 : Nat) (v9 : Nat) (v13 : Nat) (v27 : Nat) (v28 : Nat) (v29 : Nat) (v30 : Nat) (v31 : Nat) (v32 : Nat) (v33 : Nat) (v34 : Nat) (v35 : Nat) (v36 : Nat) (v37 : Nat) (g8 : Int32) (g11 : Int32) (g12 : Int32) (g14 : Int32) (g15 : Int32) (g16 : Int32) (g17 : Int32) (g18 : Int32) (g19 : Int32) (g20 : Int32) (g21 : Int32) (g22 : Int32) (g23 : Int32) (g24 : Int32) (g26 : Int32) (g5 : Int64) (g6 : Int64) (g25 : Int64) (cn : Nat) (pq : Nat) (en : Nat) (dy : Nat) (fs : Nat → Int32) (fh : Nat → Int32) (fl : Nat → Int64) (sz : Nat) (hcn : cn ≤ 10) (hpq : pq ≤ 8) (hen : en ≤ 60) (hdy : dy ≤ 20000) (hri : RI cn pq en dy fs) (hed : ed ≤ 10) (hHI : HI cn pq ed fh) (hd9 : dy ≤ 9999) : Met l yX10_remember wsX10_remember ({ frames := 0, cells := 0, slots := 0, locals := 0 }) (va_Pc [.ref w0] (Wd D cA sa [(oX10 w0 v0 v1 v2 v3 v4 g5 g6 (nI ed) g8 v9 (nI nb) g11 g12 v13 g14 g15 g16 g17 g18 g19 g20 g21 g22 g23 g24 g25 g26 v27 v28 v29 v30 v31 v32 v33 v34 v35 v36 v37 (nI ol)), (v0, .inl (cA 0, 326, .inl fs)), (v3, .inl (cA 0, 3260, .inl fh)), (v4, .inl (cA 1, 10, .inr (.inl fl)))] sz)) (va_Qv (fun _ : Unit => True) (fun (_ : Unit) t => ∃ ed2 : Nat, ∃ zh : Nat → Int32, ∃ zl : Nat → Int64, ed2 ≤ 10 ∧ HI cn pq ed2 zh ∧ Wq D (va_A [(oX10 w0 v0 v1 v2 v3 v4 g5 g6 (nI ed) g8 v9 (nI nb) g11 g12 v13 g14 g15 g16 g17 g18 g19 g20 g21 g22 g23 g24 g25 g26 v27 v28 v29 v30 v31 v32 v33 v34 v35 v36 v37 (nI ol)), (v0, .inl (cA 0, 326, .inl fs)), (v3, .inl (cA 0, 3260, .inl fh)), (v4, .inl (cA 1, 10, .inr (.inl fl)))] sz) [(oX10 w0 v0 v1 v2 v3 v4 g5 g6 (nI ed2) g8 v9 (nI nb) g11 g12 v13 g14 g15 g16 g17 g18 g19 g20 g21 g22 g23 g24 g25 g26 v27 v28 v29 v30 v31 v32 v33 v34 v35 v36 v37 (nI ol)), (v0, .inl (cA 0, 326, .inl fs)), (v3, .inl (cA 0, 3260, .inl zh)), (v4, .inl (cA 1, 10, .inr (.inl zl)))] t) (va_A [(oX10 w0 v0 v1 v2 v3 v4 g5 g6 (nI ed) g8 v9 (nI nb) g11 g12 v13 g14 g15 g16 g17 g18 g19 g20 g21 g22 g23 g24 g25 g26 v27 v28 v29 v30 v31 v32 v33 v34 v35 v36 v37 (nI ol)), (v0, .inl (cA 0, 326, .inl fs)), (v3, .inl (cA 0, 3260, .inl fh)), (v4, .inl (cA 1, 10, .inr (.inl fl)))] sz)) 0 0 (va_A [(oX10 w0 v0 v1 v2 v3 v4 g5 g6 (nI ed) g8 v9 (nI nb) g11 g12 v13 g14 g15 g16 g17 g18 g19 g20 g21 g22 g23 g24 g25 g26 v27 v28 v29 v30 v31 v32 v33 v34 v35 v36 v37 (nI ol)), (v0, .inl (cA 0, 326, .inl fs)), (v3, .inl (cA 0, 3260, .inl fh)), (v4, .inl (cA 1, 10, .inr (.inl fl)))] sz) := by
  refine Met.ofW (cc := cX10_remember) (maxL := 2) (ret := none) (by decide) rfl ?_
  intro p e s m args below meth c s₁ B hml hv
  obtain ⟨rfl, hsz, hP, hK, hD0, hC, hZ⟩ := hv
  have hx := B.exec
  have hb := B.bytes
  have hr := B.returns
  have hts := atoms_spec (ws := wsX10_remember) B.pre
  have hown : s.vm.findClass RX10 = some m.cls := findClass_of_methodNamed B.named
  have hlocks := B.notSynchronized
  subst hsz
  have hD := hD0.self (sz := s.heap.size)
  generalize hAe : va_A [(oX10 w0 v0 v1 v2 v3 v4 g5 g6 (nI ed) g8 v9 (nI nb) g11 g12 v13 g14 g15 g16 g17 g18 g19 g20 g21 g22 g23 g24 g25 g26 v27 v28 v29 v30 v31 v32 v33 v34 v35 v36 v37 (nI ol)), (v0, .inl (cA 0, 326, .inl fs)), (v3, .inl (cA 0, 3260, .inl fh)), (v4, .inl (cA 1, 10, .inr (.inl fl)))] s.heap.size = A at hD hZ ⊢
  have hA : ∀ q : Nat, s.heap.size ≤ q → A q := fun q h => by rw [← hAe]; exact Or.inr h
  have hS : va_S A s.heap s.heap [] := va_S.rf
  have hP : va_P D vwCl [(oX10 w0 v0 v1 v2 v3 v4 g5 g6 (nI ed) g8 v9 (nI nb) g11 g12 v13 g14 g15 g16 g17 g18 g19 g20 g21 g22 g23 g24 g25 g26 v27 v28 v29 v30 v31 v32 v33 v34 v35 v36 v37 (nI ol)), (v0, .inl (cA 0, 326, .inl fs)), (v3, .inl (cA 0, 3260, .inl fh)), (v4, .inl (cA 1, 10, .inr (.inl fl)))] s.heap := hP
  have hl := lv_entry ([.ref w0]) (n := 2) (Nat.le_of_ble_eq_true rfl)
  rw [lg_entry_eq]
  generalize (lg_sl ([.ref w0]) ++ List.replicate (2 - (lg_sl ([.ref w0])).length) Slot.unset).toArray = ls at hl ⊢
  have hl : lv_has ls 2 [(0, .ref w0)] := hl
  have inX10 : ∀ w ∈ u_ws RX10 TX10 39, w ∈ wsX10_remember := by decide +kernel
  refine lv_aload_n hx hb dX10_remember_0 rfl (lv_at hl 0 rfl) ?_
  refine va_get (D := D) (ci := 11) (v := .int (nI ed)) (C := RX10) (T := TX10) (N := 39) hx hb hts inX10 hown hK hP 0 rfl rfl 7 (by decide) (hts (.fieldLink RX10 83 "EscrowDeskModel" "edits" "I") (by decide +kernel)) (fun _ h9 => h9) rfl dX10_remember_1 ?_
  refine lv_bipush (v := 10) hx hb dX10_remember_4 (by decide) ?_
  refine lv_icmp_ne (tgt := 80) hx hb dX10_remember_6 (by decide) (fun c1 => ?_) (fun c1 => ?_)
  · skip
    have hn2 : ¬ ed = 10 := fun h9 => c1 ((nI_eq (a := ed) (b := 10) (by omega) (by omega)).mpr h9)
    refine lv_iconst (v := 0) hx hb dX10_remember_80 (by decide) ?_
    refine lv_istore_n (lv' := [(1, .int 0), (0, .ref w0)]) hx hb dX10_remember_81 rfl hl (by decide) rfl (fun ls hl => ?_)
    have loop1 : ∀ (n1 i1 : Nat) (f2_1 : Nat → Int32) (H : Heap) (locs : List Loc) (ls : Array Slot), i1 + n1 = 326 → Hcp ed i1 fs fh f2_1 → va_P D vwCl [(oX10 w0 v0 v1 v2 v3 v4 g5 g6 (nI ed) g8 v9 (nI nb) g11 g12 v13 g14 g15 g16 g17 g18 g19 g20 g21 g22 g23 g24 g25 g26 v27 v28 v29 v30 v31 v32 v33 v34 v35 v36 v37 (nI ol)), (v0, .inl (cA 0, 326, .inl fs)), (v3, .inl (cA 0, 3260, .inl f2_1)), (v4, .inl (cA 1, 10, .inr (.inl fl)))] H → va_D A [(oX10 w0 v0 v1 v2 v3 v4 g5 g6 (nI ed) g8 v9 (nI nb) g11 g12 v13 g14 g15 g16 g17 g18 g19 g20 g21 g22 g23 g24 g25 g26 v27 v28 v29 v30 v31 v32 v33 v34 v35 v36 v37 (nI ol)), (v0, .inl (cA 0, 326, .inl fs)), (v3, .inl (cA 0, 3260, .inl f2_1)), (v4, .inl (cA 1, 10, .inr (.inl fl)))] → va_S A s.heap H locs → lv_has ls 2 [(1, .int (nI i1)), (0, .ref w0)] → W p l e (headSpec wsX10_remember ({ frames := 0, cells := 0, slots := 0, locals := 0 } : Room)).room s m ([.ref w0] : List Value).toArray below meth c H locs 0 0 (MQ below (va_Qv (fun _ : Unit => True) (fun (_ : Unit) t => ∃ ed2 : Nat, ∃ zh : Nat → Int32, ∃ zl : Nat → Int64, ed2 ≤ 10 ∧ HI cn pq ed2 zh ∧ Wq D A [(oX10 w0 v0 v1 v2 v3 v4 g5 g6 (nI ed2) g8 v9 (nI nb) g11 g12 v13 g14 g15 g16 g17 g18 g19 g20 g21 g22 g23 g24 g25 g26 v27 v28 v29 v30 v31 v32 v33 v34 v35 v36 v37 (nI ol)), (v0, .inl (cA 0, 326, .inl fs)), (v3, .inl (cA 0, 3260, .inl zh)), (v4, .inl (cA 1, 10, .inr (.inl zl)))] t) A) ([.ref w0] : List Value).toArray s 0 0 A) (F0 m 82 ls []) := by
      intro n1
      induction n1 with
      | zero =>
        intro i1 f2_1 H locs ls hi1 hv0_1 hP hD hS hl
        obtain rfl : 326 = i1 := by omega
        refine lv_iload_n hx hb dX10_remember_82 rfl (lv_at hl 0 rfl) ?_
        refine lv_sipush (v := 326) hx hb dX10_remember_83 (by decide) ?_
        refine lv_icmp_ge (tgt := 116) hx hb dX10_remember_86 (by decide) (fun c3 => ?_) (fun c9 => absurd (nI_le (a := 326) (b := 326) (show 326 ≤ 326 by omega) (by omega)) c9)
        refine lv_aload_n hx hb dX10_remember_116 rfl (lv_at hl 1 rfl) ?_
        refine va_get (D := D) (ci := 11) (v := .ref v4) (C := RX10) (T := TX10) (N := 39) hx hb hts inX10 hown hK hP 0 rfl rfl 4 (by decide) (hts (.fieldLink RX10 22 "EscrowDeskModel" "historyParts" "[J") (by decide +kernel)) (fun _ h9 => h9) rfl dX10_remember_117 ?_
        refine lv_aload_n hx hb dX10_remember_120 rfl (lv_at hl 1 rfl) ?_
        refine va_get (D := D) (ci := 11) (v := .int (nI ed)) (C := RX10) (T := TX10) (N := 39) hx hb hts inX10 hown hK hP 0 rfl rfl 7 (by decide) (hts (.fieldLink RX10 83 "EscrowDeskModel" "edits" "I") (by decide +kernel)) (fun _ h9 => h9) rfl dX10_remember_121 ?_
        refine lv_aload_n hx hb dX10_remember_124 rfl (lv_at hl 1 rfl) ?_
        refine va_get (D := D) (ci := 11) (v := .long g5) (C := RX10) (T := TX10) (N := 39) hx hb hts inX10 hown hK hP 0 rfl rfl 5 (by decide) (hts (.fieldLink RX10 86 "EscrowDeskModel" "parts" "J") (by decide +kernel)) (fun _ h9 => h9) rfl dX10_remember_125 ?_
        refine va_last hx hb hK hP hD hS 3 1 rfl rfl (vp_in_nI (n := ed) (N := 10) (show ed < 10 by omega) (by decide)) dX10_remember_128 (fun H locs hP hD hS => ?_)
        obtain ⟨hP, hD⟩ : PDq D A [(oX10 w0 v0 v1 v2 v3 v4 g5 g6 (nI ed) g8 v9 (nI nb) g11 g12 v13 g14 g15 g16 g17 g18 g19 g20 g21 g22 g23 g24 g25 g26 v27 v28 v29 v30 v31 v32 v33 v34 v35 v36 v37 (nI ol)), (v0, .inl (cA 0, 326, .inl fs)), (v3, .inl (cA 0, 3260, .inl f2_1)), (v4, .inl (cA 1, 10, .inr (.inl (vp_updL fl (((nI ed)).toNatClampNeg) g5))))] H := ⟨hP, hD⟩
        generalize (vp_updL fl (((nI ed)).toNatClampNeg) g5) = fn4 at hP hD
        obtain ⟨hP, hD⟩ : PDq D A [(oX10 w0 v0 v1 v2 v3 v4 g5 g6 (nI ed) g8 v9 (nI nb) g11 g12 v13 g14 g15 g16 g17 g18 g19 g20 g21 g22 g23 g24 g25 g26 v27 v28 v29 v30 v31 v32 v33 v34 v35 v36 v37 (nI ol)), (v0, .inl (cA 0, 326, .inl fs)), (v3, .inl (cA 0, 3260, .inl f2_1)), (v4, .inl (cA 1, 10, .inr (.inl fn4)))] H := ⟨hP, hD⟩
        refine lv_aload_n hx hb dX10_remember_129 rfl (lv_at hl 1 rfl) ?_
        refine lv_dup hx hb dX10_remember_130 rfl ?_
        refine va_get (D := D) (ci := 11) (v := .int (nI ed)) (C := RX10) (T := TX10) (N := 39) hx hb hts inX10 hown hK hP 0 rfl rfl 7 (by decide) (hts (.fieldLink RX10 83 "EscrowDeskModel" "edits" "I") (by decide +kernel)) (fun _ h9 => h9) rfl dX10_remember_131 ?_
        refine lv_iconst (v := 1) hx hb dX10_remember_134 (by decide) ?_
        refine lv_iadd hx hb dX10_remember_135 ?_
        refine lv_topi (fun yn5 eyn5 => ?_)
        obtain rfl : yn5 = (nI (ed + 1)) := eyn5.trans (nI_add ed 1)
        refine va_put (D := D) (ci := 11) (v := .int (nI (ed + 1))) (ty := .int) (C := RX10) (T := TX10) (N := 39) hx hb hts inX10 tyX10 tyX10_ok nmX10 hown hK hP hD hS 0 rfl rfl 7 (by decide) (hts (.fieldLink RX10 83 "EscrowDeskModel" "edits" "I") (by decide +kernel)) (fun _ h9 => h9) rfl (by decide +kernel) rfl rfl (Nat.le_of_ble_eq_true rfl) dX10_remember_136 (fun H locs hP hD hS => ?_)
        obtain ⟨hP, hD⟩ : PDq D A [(oX10 w0 v0 v1 v2 v3 v4 g5 g6 (nI (ed + 1)) g8 v9 (nI nb) g11 g12 v13 g14 g15 g16 g17 g18 g19 g20 g21 g22 g23 g24 g25 g26 v27 v28 v29 v30 v31 v32 v33 v34 v35 v36 v37 (nI ol)), (v0, .inl (cA 0, 326, .inl fs)), (v3, .inl (cA 0, 3260, .inl f2_1)), (v4, .inl (cA 1, 10, .inr (.inl fn4)))] H := ⟨hP, hD⟩
        obtain ⟨hP9, hD9⟩ := PDq.sub (ws' := [(oX10 w0 v0 v1 v2 v3 v4 g5 g6 (nI (ed + 1)) g8 v9 (nI nb) g11 g12 v13 g14 g15 g16 g17 g18 g19 g20 g21 g22 g23 g24 g25 g26 v27 v28 v29 v30 v31 v32 v33 v34 v35 v36 v37 (nI ol)), (v0, .inl (cA 0, 326, .inl fs)), (v3, .inl (cA 0, 3260, .inl f2_1)), (v4, .inl (cA 1, 10, .inr (.inl fn4)))]) hP hD [0, 1, 2, 3] (by decide) rfl
        refine W.widen (k := 0) (n := 0) (Nat.le_of_ble_eq_true rfl) (Nat.le_of_ble_eq_true rfl) ?_
        exact (W.vret hx hb hr (fun t ht hW => ⟨⟨(), rfl, trivial, (ed + 1), f2_1, fn4, (by omega), (Hcp.hi hv0_1 hHI hri hen (by omega)), by rw [ht]; exact hP9, hD9⟩, hS.F ht⟩) hS.2.2 dX10_remember_139)
      | succ n1 ih1 =>
        intro i1 f2_1 H locs ls hi1 hv0_1 hP hD hS hl
        refine lv_iload_n hx hb dX10_remember_82 rfl (lv_at hl 0 rfl) ?_
        refine lv_sipush (v := 326) hx hb dX10_remember_83 (by decide) ?_
        refine lv_icmp_ge (tgt := 116) hx hb dX10_remember_86 (by decide) (fun c9 => absurd c9 (nI_ge (a := i1) (b := 326) (show i1 < 326 by omega) (by omega))) (fun c6 => ?_)
        refine lv_aload_n hx hb dX10_remember_89 rfl (lv_at hl 1 rfl) ?_
        refine va_get (D := D) (ci := 11) (v := .ref v3) (C := RX10) (T := TX10) (N := 39) hx hb hts inX10 hown hK hP 0 rfl rfl 3 (by decide) (hts (.fieldLink RX10 19 "EscrowDeskModel" "history" "[I") (by decide +kernel)) (fun _ h9 => h9) rfl dX10_remember_90 ?_
        refine lv_sipush (v := 326) hx hb dX10_remember_93 (by decide) ?_
        refine lv_aload_n hx hb dX10_remember_96 rfl (lv_at hl 1 rfl) ?_
        refine va_get (D := D) (ci := 11) (v := .int (nI ed)) (C := RX10) (T := TX10) (N := 39) hx hb hts inX10 hown hK hP 0 rfl rfl 7 (by decide) (hts (.fieldLink RX10 83 "EscrowDeskModel" "edits" "I") (by decide +kernel)) (fun _ h9 => h9) rfl dX10_remember_97 ?_
        refine lv_imul hx hb dX10_remember_100 ?_
        refine lv_topi (fun yn7 eyn7 => ?_)
        obtain rfl : yn7 = (nI (326 * ed)) := eyn7.trans (nI_mul 326 ed)
        refine lv_iload_n hx hb dX10_remember_101 rfl (lv_at hl 0 rfl) ?_
        refine lv_iadd hx hb dX10_remember_102 ?_
        refine lv_topi (fun yn8 eyn8 => ?_)
        obtain rfl : yn8 = (nI ((326 * ed) + i1)) := eyn8.trans (nI_add (326 * ed) i1)
        refine lv_aload_n hx hb dX10_remember_103 rfl (lv_at hl 1 rfl) ?_
        refine va_get (D := D) (ci := 11) (v := .ref v0) (C := RX10) (T := TX10) (N := 39) hx hb hts inX10 hown hK hP 0 rfl rfl 0 (by decide) (hts (.fieldLink RX10 7 "EscrowDeskModel" "s" "[I") (by decide +kernel)) (fun _ h9 => h9) rfl dX10_remember_104 ?_
        refine lv_iload_n hx hb dX10_remember_107 rfl (lv_at hl 0 rfl) ?_
        refine va_iald hx hb hK hP 1 0 rfl rfl (vp_in_nI (n := i1) (N := 326) (show i1 < 326 by omega) (by decide)) dX10_remember_108 ?_
        refine lv_topi (fun yn9 eyn9 => ?_)
        refine va_iast hx hb hK hP hD hS 2 0 rfl rfl (vp_in_nI (n := ((326 * ed) + i1)) (N := 3260) (show ((326 * ed) + i1) < 3260 by omega) (by decide)) dX10_remember_109 (fun H locs hP hD hS => ?_)
        obtain ⟨hP, hD⟩ : PDq D A [(oX10 w0 v0 v1 v2 v3 v4 g5 g6 (nI ed) g8 v9 (nI nb) g11 g12 v13 g14 g15 g16 g17 g18 g19 g20 g21 g22 g23 g24 g25 g26 v27 v28 v29 v30 v31 v32 v33 v34 v35 v36 v37 (nI ol)), (v0, .inl (cA 0, 326, .inl fs)), (v3, .inl (cA 0, 3260, .inl (upd f2_1 (((nI ((326 * ed) + i1))).toNatClampNeg) yn9))), (v4, .inl (cA 1, 10, .inr (.inl fl)))] H := ⟨hP, hD⟩
        have hn11 : Hcp ed (i1 + 1) fs fh (upd f2_1 (((nI ((326 * ed) + i1))).toNatClampNeg) yn9) := (by rw [eyn9]; exact Hcp.step (n := ed) (by omega) hv0_1)
        generalize (upd f2_1 (((nI ((326 * ed) + i1))).toNatClampNeg) yn9) = fn10 at hP hD hn11
        obtain ⟨hP, hD⟩ : PDq D A [(oX10 w0 v0 v1 v2 v3 v4 g5 g6 (nI ed) g8 v9 (nI nb) g11 g12 v13 g14 g15 g16 g17 g18 g19 g20 g21 g22 g23 g24 g25 g26 v27 v28 v29 v30 v31 v32 v33 v34 v35 v36 v37 (nI ol)), (v0, .inl (cA 0, 326, .inl fs)), (v3, .inl (cA 0, 3260, .inl fn10)), (v4, .inl (cA 1, 10, .inr (.inl fl)))] H := ⟨hP, hD⟩
        refine lv_iinc (v := (nI (i1 + 1))) (lv' := [(1, .int (nI (i1 + 1))), (0, .ref w0)]) hx hb dX10_remember_110 hl (k := 0) rfl (nI_1 _) (by decide) rfl (fun ls hl => ?_)
        refine lv_goto (tgt := 82) hx hb dX10_remember_113 (by decide) ?_
        obtain ⟨hP9, hD9⟩ := PDq.sub (ws' := [(oX10 w0 v0 v1 v2 v3 v4 g5 g6 (nI ed) g8 v9 (nI nb) g11 g12 v13 g14 g15 g16 g17 g18 g19 g20 g21 g22 g23 g24 g25 g26 v27 v28 v29 v30 v31 v32 v33 v34 v35 v36 v37 (nI ol)), (v0, .inl (cA 0, 326, .inl fs)), (v3, .inl (cA 0, 3260, .inl fn10)), (v4, .inl (cA 1, 10, .inr (.inl fl)))]) hP hD [0, 1, 2, 3] (by decide) rfl
        exact ih1 (i1 + 1) fn10 H _ ls (by omega) hn11 hP9 hD9 hS (lv_sub hl [0, 1] rfl)
    obtain ⟨hP9, hD9⟩ := PDq.sub (ws' := [(oX10 w0 v0 v1 v2 v3 v4 g5 g6 (nI ed) g8 v9 (nI nb) g11 g12 v13 g14 g15 g16 g17 g18 g19 g20 g21 g22 g23 g24 g25 g26 v27 v28 v29 v30 v31 v32 v33 v34 v35 v36 v37 (nI ol)), (v0, .inl (cA 0, 326, .inl fs)), (v3, .inl (cA 0, 3260, .inl fh)), (v4, .inl (cA 1, 10, .inr (.inl fl)))]) hP hD [0, 1, 2, 3] (by decide) rfl
    exact loop1 (326 - 0) 0 fh _ _ ls (by omega) (Hcp.zero ed fs fh) hP9 hD9 hS (lv_sub hl [0, 1] rfl)
  · skip
    have hn12 : ed = 10 := (nI_eq (a := ed) (b := 10) (by omega) (by omega)).mp c1
    refine lv_sipush (v := 326) hx hb dX10_remember_9 (by decide) ?_
    refine lv_istore_n (lv' := [(1, .int 326), (0, .ref w0)]) hx hb dX10_remember_12 rfl hl (by decide) rfl (fun ls hl => ?_)
    have loop2 : ∀ (n2 i2 : Nat) (f2_2 : Nat → Int32) (H : Heap) (locs : List Loc) (ls : Array Slot), i2 + n2 = 3260 → 326 ≤ i2 → Shf i2 fh f2_2 → va_P D vwCl [(oX10 w0 v0 v1 v2 v3 v4 g5 g6 (nI ed) g8 v9 (nI nb) g11 g12 v13 g14 g15 g16 g17 g18 g19 g20 g21 g22 g23 g24 g25 g26 v27 v28 v29 v30 v31 v32 v33 v34 v35 v36 v37 (nI ol)), (v0, .inl (cA 0, 326, .inl fs)), (v3, .inl (cA 0, 3260, .inl f2_2)), (v4, .inl (cA 1, 10, .inr (.inl fl)))] H → va_D A [(oX10 w0 v0 v1 v2 v3 v4 g5 g6 (nI ed) g8 v9 (nI nb) g11 g12 v13 g14 g15 g16 g17 g18 g19 g20 g21 g22 g23 g24 g25 g26 v27 v28 v29 v30 v31 v32 v33 v34 v35 v36 v37 (nI ol)), (v0, .inl (cA 0, 326, .inl fs)), (v3, .inl (cA 0, 3260, .inl f2_2)), (v4, .inl (cA 1, 10, .inr (.inl fl)))] → va_S A s.heap H locs → lv_has ls 2 [(1, .int (nI i2)), (0, .ref w0)] → W p l e (headSpec wsX10_remember ({ frames := 0, cells := 0, slots := 0, locals := 0 } : Room)).room s m ([.ref w0] : List Value).toArray below meth c H locs 0 0 (MQ below (va_Qv (fun _ : Unit => True) (fun (_ : Unit) t => ∃ ed2 : Nat, ∃ zh : Nat → Int32, ∃ zl : Nat → Int64, ed2 ≤ 10 ∧ HI cn pq ed2 zh ∧ Wq D A [(oX10 w0 v0 v1 v2 v3 v4 g5 g6 (nI ed2) g8 v9 (nI nb) g11 g12 v13 g14 g15 g16 g17 g18 g19 g20 g21 g22 g23 g24 g25 g26 v27 v28 v29 v30 v31 v32 v33 v34 v35 v36 v37 (nI ol)), (v0, .inl (cA 0, 326, .inl fs)), (v3, .inl (cA 0, 3260, .inl zh)), (v4, .inl (cA 1, 10, .inr (.inl zl)))] t) A) ([.ref w0] : List Value).toArray s 0 0 A) (F0 m 13 ls []) := by
      intro n2
      induction n2 with
      | zero =>
        intro i2 f2_2 H locs ls hi2 hv0_2 hv1_2 hP hD hS hl
        obtain rfl : 3260 = i2 := by omega
        refine lv_iload_n hx hb dX10_remember_13 rfl (lv_at hl 0 rfl) ?_
        refine lv_sipush (v := 3260) hx hb dX10_remember_14 (by decide) ?_
        refine lv_icmp_ge (tgt := 42) hx hb dX10_remember_17 (by decide) (fun c13 => ?_) (fun c9 => absurd (nI_le (a := 3260) (b := 3260) (show 3260 ≤ 3260 by omega) (by omega)) c9)
        have hn14 := Shf.hi hv1_2 hHI (by omega)
        refine lv_iconst (v := 1) hx hb dX10_remember_42 (by decide) ?_
        refine lv_istore_n (lv' := [(1, .int 1), (0, .ref w0)]) hx hb dX10_remember_43 rfl hl (by decide) rfl (fun ls hl => ?_)
        have loop3 : ∀ (n3 i3 : Nat) (f3_3 : Nat → Int64) (H : Heap) (locs : List Loc) (ls : Array Slot), i3 + n3 = 10 → 1 ≤ i3 → va_P D vwCl [(oX10 w0 v0 v1 v2 v3 v4 g5 g6 (nI ed) g8 v9 (nI nb) g11 g12 v13 g14 g15 g16 g17 g18 g19 g20 g21 g22 g23 g24 g25 g26 v27 v28 v29 v30 v31 v32 v33 v34 v35 v36 v37 (nI ol)), (v0, .inl (cA 0, 326, .inl fs)), (v3, .inl (cA 0, 3260, .inl f2_2)), (v4, .inl (cA 1, 10, .inr (.inl f3_3)))] H → va_D A [(oX10 w0 v0 v1 v2 v3 v4 g5 g6 (nI ed) g8 v9 (nI nb) g11 g12 v13 g14 g15 g16 g17 g18 g19 g20 g21 g22 g23 g24 g25 g26 v27 v28 v29 v30 v31 v32 v33 v34 v35 v36 v37 (nI ol)), (v0, .inl (cA 0, 326, .inl fs)), (v3, .inl (cA 0, 3260, .inl f2_2)), (v4, .inl (cA 1, 10, .inr (.inl f3_3)))] → va_S A s.heap H locs → lv_has ls 2 [(1, .int (nI i3)), (0, .ref w0)] → W p l e (headSpec wsX10_remember ({ frames := 0, cells := 0, slots := 0, locals := 0 } : Room)).room s m ([.ref w0] : List Value).toArray below meth c H locs 0 0 (MQ below (va_Qv (fun _ : Unit => True) (fun (_ : Unit) t => ∃ ed2 : Nat, ∃ zh : Nat → Int32, ∃ zl : Nat → Int64, ed2 ≤ 10 ∧ HI cn pq ed2 zh ∧ Wq D A [(oX10 w0 v0 v1 v2 v3 v4 g5 g6 (nI ed2) g8 v9 (nI nb) g11 g12 v13 g14 g15 g16 g17 g18 g19 g20 g21 g22 g23 g24 g25 g26 v27 v28 v29 v30 v31 v32 v33 v34 v35 v36 v37 (nI ol)), (v0, .inl (cA 0, 326, .inl fs)), (v3, .inl (cA 0, 3260, .inl zh)), (v4, .inl (cA 1, 10, .inr (.inl zl)))] t) A) ([.ref w0] : List Value).toArray s 0 0 A) (F0 m 44 ls []) := by
          intro n3
          induction n3 with
          | zero =>
            intro i3 f3_3 H locs ls hi3 hv0_3 hP hD hS hl
            obtain rfl : 10 = i3 := by omega
            refine lv_iload_n hx hb dX10_remember_44 rfl (lv_at hl 0 rfl) ?_
            refine lv_bipush (v := 10) hx hb dX10_remember_45 (by decide) ?_
            refine lv_icmp_ge (tgt := 70) hx hb dX10_remember_47 (by decide) (fun c15 => ?_) (fun c9 => absurd (nI_le (a := 10) (b := 10) (show 10 ≤ 10 by omega) (by omega)) c9)
            refine lv_aload_n hx hb dX10_remember_70 rfl (lv_at hl 1 rfl) ?_
            refine lv_dup hx hb dX10_remember_71 rfl ?_
            refine va_get (D := D) (ci := 11) (v := .int (nI ed)) (C := RX10) (T := TX10) (N := 39) hx hb hts inX10 hown hK hP 0 rfl rfl 7 (by decide) (hts (.fieldLink RX10 83 "EscrowDeskModel" "edits" "I") (by decide +kernel)) (fun _ h9 => h9) rfl dX10_remember_72 ?_
            refine lv_iconst (v := 1) hx hb dX10_remember_75 (by decide) ?_
            refine lv_isub hx hb dX10_remember_76 ?_
            refine lv_topi (fun yn16 eyn16 => ?_)
            obtain rfl : yn16 = (nI (ed - 1)) := eyn16.trans (nI_sub (a := ed) (b := 1) (by omega))
            refine va_put (D := D) (ci := 11) (v := .int (nI (ed - 1))) (ty := .int) (C := RX10) (T := TX10) (N := 39) hx hb hts inX10 tyX10 tyX10_ok nmX10 hown hK hP hD hS 0 rfl rfl 7 (by decide) (hts (.fieldLink RX10 83 "EscrowDeskModel" "edits" "I") (by decide +kernel)) (fun _ h9 => h9) rfl (by decide +kernel) rfl rfl (Nat.le_of_ble_eq_true rfl) dX10_remember_77 (fun H locs hP hD hS => ?_)
            obtain ⟨hP, hD⟩ : PDq D A [(oX10 w0 v0 v1 v2 v3 v4 g5 g6 (nI (ed - 1)) g8 v9 (nI nb) g11 g12 v13 g14 g15 g16 g17 g18 g19 g20 g21 g22 g23 g24 g25 g26 v27 v28 v29 v30 v31 v32 v33 v34 v35 v36 v37 (nI ol)), (v0, .inl (cA 0, 326, .inl fs)), (v3, .inl (cA 0, 3260, .inl f2_2)), (v4, .inl (cA 1, 10, .inr (.inl f3_3)))] H := ⟨hP, hD⟩
            refine lv_iconst (v := 0) hx hb dX10_remember_80 (by decide) ?_
            refine lv_istore_n (lv' := [(1, .int 0), (0, .ref w0)]) hx hb dX10_remember_81 rfl hl (by decide) rfl (fun ls hl => ?_)
            have loop4 : ∀ (n4 i4 : Nat) (f2_4 : Nat → Int32) (H : Heap) (locs : List Loc) (ls : Array Slot), i4 + n4 = 326 → Hcp (ed - 1) i4 fs f2_2 f2_4 → va_P D vwCl [(oX10 w0 v0 v1 v2 v3 v4 g5 g6 (nI (ed - 1)) g8 v9 (nI nb) g11 g12 v13 g14 g15 g16 g17 g18 g19 g20 g21 g22 g23 g24 g25 g26 v27 v28 v29 v30 v31 v32 v33 v34 v35 v36 v37 (nI ol)), (v0, .inl (cA 0, 326, .inl fs)), (v3, .inl (cA 0, 3260, .inl f2_4)), (v4, .inl (cA 1, 10, .inr (.inl f3_3)))] H → va_D A [(oX10 w0 v0 v1 v2 v3 v4 g5 g6 (nI (ed - 1)) g8 v9 (nI nb) g11 g12 v13 g14 g15 g16 g17 g18 g19 g20 g21 g22 g23 g24 g25 g26 v27 v28 v29 v30 v31 v32 v33 v34 v35 v36 v37 (nI ol)), (v0, .inl (cA 0, 326, .inl fs)), (v3, .inl (cA 0, 3260, .inl f2_4)), (v4, .inl (cA 1, 10, .inr (.inl f3_3)))] → va_S A s.heap H locs → lv_has ls 2 [(1, .int (nI i4)), (0, .ref w0)] → W p l e (headSpec wsX10_remember ({ frames := 0, cells := 0, slots := 0, locals := 0 } : Room)).room s m ([.ref w0] : List Value).toArray below meth c H locs 0 0 (MQ below (va_Qv (fun _ : Unit => True) (fun (_ : Unit) t => ∃ ed2 : Nat, ∃ zh : Nat → Int32, ∃ zl : Nat → Int64, ed2 ≤ 10 ∧ HI cn pq ed2 zh ∧ Wq D A [(oX10 w0 v0 v1 v2 v3 v4 g5 g6 (nI ed2) g8 v9 (nI nb) g11 g12 v13 g14 g15 g16 g17 g18 g19 g20 g21 g22 g23 g24 g25 g26 v27 v28 v29 v30 v31 v32 v33 v34 v35 v36 v37 (nI ol)), (v0, .inl (cA 0, 326, .inl fs)), (v3, .inl (cA 0, 3260, .inl zh)), (v4, .inl (cA 1, 10, .inr (.inl zl)))] t) A) ([.ref w0] : List Value).toArray s 0 0 A) (F0 m 82 ls []) := by
              intro n4
              induction n4 with
              | zero =>
                intro i4 f2_4 H locs ls hi4 hv0_4 hP hD hS hl
                obtain rfl : 326 = i4 := by omega
                refine lv_iload_n hx hb dX10_remember_82 rfl (lv_at hl 0 rfl) ?_
                refine lv_sipush (v := 326) hx hb dX10_remember_83 (by decide) ?_
                refine lv_icmp_ge (tgt := 116) hx hb dX10_remember_86 (by decide) (fun c17 => ?_) (fun c9 => absurd (nI_le (a := 326) (b := 326) (show 326 ≤ 326 by omega) (by omega)) c9)
                refine lv_aload_n hx hb dX10_remember_116 rfl (lv_at hl 1 rfl) ?_
                refine va_get (D := D) (ci := 11) (v := .ref v4) (C := RX10) (T := TX10) (N := 39) hx hb hts inX10 hown hK hP 0 rfl rfl 4 (by decide) (hts (.fieldLink RX10 22 "EscrowDeskModel" "historyParts" "[J") (by decide +kernel)) (fun _ h9 => h9) rfl dX10_remember_117 ?_
                refine lv_aload_n hx hb dX10_remember_120 rfl (lv_at hl 1 rfl) ?_
                refine va_get (D := D) (ci := 11) (v := .int (nI (ed - 1))) (C := RX10) (T := TX10) (N := 39) hx hb hts inX10 hown hK hP 0 rfl rfl 7 (by decide) (hts (.fieldLink RX10 83 "EscrowDeskModel" "edits" "I") (by decide +kernel)) (fun _ h9 => h9) rfl dX10_remember_121 ?_
                refine lv_aload_n hx hb dX10_remember_124 rfl (lv_at hl 1 rfl) ?_
                refine va_get (D := D) (ci := 11) (v := .long g5) (C := RX10) (T := TX10) (N := 39) hx hb hts inX10 hown hK hP 0 rfl rfl 5 (by decide) (hts (.fieldLink RX10 86 "EscrowDeskModel" "parts" "J") (by decide +kernel)) (fun _ h9 => h9) rfl dX10_remember_125 ?_
                refine va_last hx hb hK hP hD hS 3 1 rfl rfl (vp_in_nI (n := (ed - 1)) (N := 10) (show (ed - 1) < 10 by omega) (by decide)) dX10_remember_128 (fun H locs hP hD hS => ?_)
                obtain ⟨hP, hD⟩ : PDq D A [(oX10 w0 v0 v1 v2 v3 v4 g5 g6 (nI (ed - 1)) g8 v9 (nI nb) g11 g12 v13 g14 g15 g16 g17 g18 g19 g20 g21 g22 g23 g24 g25 g26 v27 v28 v29 v30 v31 v32 v33 v34 v35 v36 v37 (nI ol)), (v0, .inl (cA 0, 326, .inl fs)), (v3, .inl (cA 0, 3260, .inl f2_4)), (v4, .inl (cA 1, 10, .inr (.inl (vp_updL f3_3 (((nI (ed - 1))).toNatClampNeg) g5))))] H := ⟨hP, hD⟩
                generalize (vp_updL f3_3 (((nI (ed - 1))).toNatClampNeg) g5) = fn18 at hP hD
                obtain ⟨hP, hD⟩ : PDq D A [(oX10 w0 v0 v1 v2 v3 v4 g5 g6 (nI (ed - 1)) g8 v9 (nI nb) g11 g12 v13 g14 g15 g16 g17 g18 g19 g20 g21 g22 g23 g24 g25 g26 v27 v28 v29 v30 v31 v32 v33 v34 v35 v36 v37 (nI ol)), (v0, .inl (cA 0, 326, .inl fs)), (v3, .inl (cA 0, 3260, .inl f2_4)), (v4, .inl (cA 1, 10, .inr (.inl fn18)))] H := ⟨hP, hD⟩
                refine lv_aload_n hx hb dX10_remember_129 rfl (lv_at hl 1 rfl) ?_
                refine lv_dup hx hb dX10_remember_130 rfl ?_
                refine va_get (D := D) (ci := 11) (v := .int (nI (ed - 1))) (C := RX10) (T := TX10) (N := 39) hx hb hts inX10 hown hK hP 0 rfl rfl 7 (by decide) (hts (.fieldLink RX10 83 "EscrowDeskModel" "edits" "I") (by decide +kernel)) (fun _ h9 => h9) rfl dX10_remember_131 ?_
                refine lv_iconst (v := 1) hx hb dX10_remember_134 (by decide) ?_
                refine lv_iadd hx hb dX10_remember_135 ?_
                refine lv_topi (fun yn19 eyn19 => ?_)
                obtain rfl : yn19 = (nI ((ed - 1) + 1)) := eyn19.trans (nI_add (ed - 1) 1)
                refine va_put (D := D) (ci := 11) (v := .int (nI ((ed - 1) + 1))) (ty := .int) (C := RX10) (T := TX10) (N := 39) hx hb hts inX10 tyX10 tyX10_ok nmX10 hown hK hP hD hS 0 rfl rfl 7 (by decide) (hts (.fieldLink RX10 83 "EscrowDeskModel" "edits" "I") (by decide +kernel)) (fun _ h9 => h9) rfl (by decide +kernel) rfl rfl (Nat.le_of_ble_eq_true rfl) dX10_remember_136 (fun H locs hP hD hS => ?_)
                obtain ⟨hP, hD⟩ : PDq D A [(oX10 w0 v0 v1 v2 v3 v4 g5 g6 (nI ((ed - 1) + 1)) g8 v9 (nI nb) g11 g12 v13 g14 g15 g16 g17 g18 g19 g20 g21 g22 g23 g24 g25 g26 v27 v28 v29 v30 v31 v32 v33 v34 v35 v36 v37 (nI ol)), (v0, .inl (cA 0, 326, .inl fs)), (v3, .inl (cA 0, 3260, .inl f2_4)), (v4, .inl (cA 1, 10, .inr (.inl fn18)))] H := ⟨hP, hD⟩
                obtain ⟨hP9, hD9⟩ := PDq.sub (ws' := [(oX10 w0 v0 v1 v2 v3 v4 g5 g6 (nI ((ed - 1) + 1)) g8 v9 (nI nb) g11 g12 v13 g14 g15 g16 g17 g18 g19 g20 g21 g22 g23 g24 g25 g26 v27 v28 v29 v30 v31 v32 v33 v34 v35 v36 v37 (nI ol)), (v0, .inl (cA 0, 326, .inl fs)), (v3, .inl (cA 0, 3260, .inl f2_4)), (v4, .inl (cA 1, 10, .inr (.inl fn18)))]) hP hD [0, 1, 2, 3] (by decide) rfl
                refine W.widen (k := 0) (n := 0) (Nat.le_of_ble_eq_true rfl) (Nat.le_of_ble_eq_true rfl) ?_
                exact (W.vret hx hb hr (fun t ht hW => ⟨⟨(), rfl, trivial, ((ed - 1) + 1), f2_4, fn18, (by omega), (Hcp.hi hv0_4 hn14 hri hen (by omega)), by rw [ht]; exact hP9, hD9⟩, hS.F ht⟩) hS.2.2 dX10_remember_139)
              | succ n4 ih4 =>
                intro i4 f2_4 H locs ls hi4 hv0_4 hP hD hS hl
                refine lv_iload_n hx hb dX10_remember_82 rfl (lv_at hl 0 rfl) ?_
                refine lv_sipush (v := 326) hx hb dX10_remember_83 (by decide) ?_
                refine lv_icmp_ge (tgt := 116) hx hb dX10_remember_86 (by decide) (fun c9 => absurd c9 (nI_ge (a := i4) (b := 326) (show i4 < 326 by omega) (by omega))) (fun c20 => ?_)
                refine lv_aload_n hx hb dX10_remember_89 rfl (lv_at hl 1 rfl) ?_
                refine va_get (D := D) (ci := 11) (v := .ref v3) (C := RX10) (T := TX10) (N := 39) hx hb hts inX10 hown hK hP 0 rfl rfl 3 (by decide) (hts (.fieldLink RX10 19 "EscrowDeskModel" "history" "[I") (by decide +kernel)) (fun _ h9 => h9) rfl dX10_remember_90 ?_
                refine lv_sipush (v := 326) hx hb dX10_remember_93 (by decide) ?_
                refine lv_aload_n hx hb dX10_remember_96 rfl (lv_at hl 1 rfl) ?_
                refine va_get (D := D) (ci := 11) (v := .int (nI (ed - 1))) (C := RX10) (T := TX10) (N := 39) hx hb hts inX10 hown hK hP 0 rfl rfl 7 (by decide) (hts (.fieldLink RX10 83 "EscrowDeskModel" "edits" "I") (by decide +kernel)) (fun _ h9 => h9) rfl dX10_remember_97 ?_
                refine lv_imul hx hb dX10_remember_100 ?_
                refine lv_topi (fun yn21 eyn21 => ?_)
                obtain rfl : yn21 = (nI (326 * (ed - 1))) := eyn21.trans (nI_mul 326 (ed - 1))
                refine lv_iload_n hx hb dX10_remember_101 rfl (lv_at hl 0 rfl) ?_
                refine lv_iadd hx hb dX10_remember_102 ?_
                refine lv_topi (fun yn22 eyn22 => ?_)
                obtain rfl : yn22 = (nI ((326 * (ed - 1)) + i4)) := eyn22.trans (nI_add (326 * (ed - 1)) i4)
                refine lv_aload_n hx hb dX10_remember_103 rfl (lv_at hl 1 rfl) ?_
                refine va_get (D := D) (ci := 11) (v := .ref v0) (C := RX10) (T := TX10) (N := 39) hx hb hts inX10 hown hK hP 0 rfl rfl 0 (by decide) (hts (.fieldLink RX10 7 "EscrowDeskModel" "s" "[I") (by decide +kernel)) (fun _ h9 => h9) rfl dX10_remember_104 ?_
                refine lv_iload_n hx hb dX10_remember_107 rfl (lv_at hl 0 rfl) ?_
                refine va_iald hx hb hK hP 1 0 rfl rfl (vp_in_nI (n := i4) (N := 326) (show i4 < 326 by omega) (by decide)) dX10_remember_108 ?_
                refine lv_topi (fun yn23 eyn23 => ?_)
                refine va_iast hx hb hK hP hD hS 2 0 rfl rfl (vp_in_nI (n := ((326 * (ed - 1)) + i4)) (N := 3260) (show ((326 * (ed - 1)) + i4) < 3260 by omega) (by decide)) dX10_remember_109 (fun H locs hP hD hS => ?_)
                obtain ⟨hP, hD⟩ : PDq D A [(oX10 w0 v0 v1 v2 v3 v4 g5 g6 (nI (ed - 1)) g8 v9 (nI nb) g11 g12 v13 g14 g15 g16 g17 g18 g19 g20 g21 g22 g23 g24 g25 g26 v27 v28 v29 v30 v31 v32 v33 v34 v35 v36 v37 (nI ol)), (v0, .inl (cA 0, 326, .inl fs)), (v3, .inl (cA 0, 3260, .inl (upd f2_4 (((nI ((326 * (ed - 1)) + i4))).toNatClampNeg) yn23))), (v4, .inl (cA 1, 10, .inr (.inl f3_3)))] H := ⟨hP, hD⟩
                have hn25 : Hcp (ed - 1) (i4 + 1) fs f2_2 (upd f2_4 (((nI ((326 * (ed - 1)) + i4))).toNatClampNeg) yn23) := (by rw [eyn23]; exact Hcp.step (n := (ed - 1)) (by omega) hv0_4)
                generalize (upd f2_4 (((nI ((326 * (ed - 1)) + i4))).toNatClampNeg) yn23) = fn24 at hP hD hn25
                obtain ⟨hP, hD⟩ : PDq D A [(oX10 w0 v0 v1 v2 v3 v4 g5 g6 (nI (ed - 1)) g8 v9 (nI nb) g11 g12 v13 g14 g15 g16 g17 g18 g19 g20 g21 g22 g23 g24 g25 g26 v27 v28 v29 v30 v31 v32 v33 v34 v35 v36 v37 (nI ol)), (v0, .inl (cA 0, 326, .inl fs)), (v3, .inl (cA 0, 3260, .inl fn24)), (v4, .inl (cA 1, 10, .inr (.inl f3_3)))] H := ⟨hP, hD⟩
                refine lv_iinc (v := (nI (i4 + 1))) (lv' := [(1, .int (nI (i4 + 1))), (0, .ref w0)]) hx hb dX10_remember_110 hl (k := 0) rfl (nI_1 _) (by decide) rfl (fun ls hl => ?_)
                refine lv_goto (tgt := 82) hx hb dX10_remember_113 (by decide) ?_
                obtain ⟨hP9, hD9⟩ := PDq.sub (ws' := [(oX10 w0 v0 v1 v2 v3 v4 g5 g6 (nI (ed - 1)) g8 v9 (nI nb) g11 g12 v13 g14 g15 g16 g17 g18 g19 g20 g21 g22 g23 g24 g25 g26 v27 v28 v29 v30 v31 v32 v33 v34 v35 v36 v37 (nI ol)), (v0, .inl (cA 0, 326, .inl fs)), (v3, .inl (cA 0, 3260, .inl fn24)), (v4, .inl (cA 1, 10, .inr (.inl f3_3)))]) hP hD [0, 1, 2, 3] (by decide) rfl
                exact ih4 (i4 + 1) fn24 H _ ls (by omega) hn25 hP9 hD9 hS (lv_sub hl [0, 1] rfl)
            obtain ⟨hP9, hD9⟩ := PDq.sub (ws' := [(oX10 w0 v0 v1 v2 v3 v4 g5 g6 (nI (ed - 1)) g8 v9 (nI nb) g11 g12 v13 g14 g15 g16 g17 g18 g19 g20 g21 g22 g23 g24 g25 g26 v27 v28 v29 v30 v31 v32 v33 v34 v35 v36 v37 (nI ol)), (v0, .inl (cA 0, 326, .inl fs)), (v3, .inl (cA 0, 3260, .inl f2_2)), (v4, .inl (cA 1, 10, .inr (.inl f3_3)))]) hP hD [0, 1, 2, 3] (by decide) rfl
            exact loop4 (326 - 0) 0 f2_2 _ _ ls (by omega) (Hcp.zero (ed - 1) fs f2_2) hP9 hD9 hS (lv_sub hl [0, 1] rfl)
          | succ n3 ih3 =>
            intro i3 f3_3 H locs ls hi3 hv0_3 hP hD hS hl
            refine lv_iload_n hx hb dX10_remember_44 rfl (lv_at hl 0 rfl) ?_
            refine lv_bipush (v := 10) hx hb dX10_remember_45 (by decide) ?_
            refine lv_icmp_ge (tgt := 70) hx hb dX10_remember_47 (by decide) (fun c9 => absurd c9 (nI_ge (a := i3) (b := 10) (show i3 < 10 by omega) (by omega))) (fun c26 => ?_)
            refine lv_aload_n hx hb dX10_remember_50 rfl (lv_at hl 1 rfl) ?_
            refine va_get (D := D) (ci := 11) (v := .ref v4) (C := RX10) (T := TX10) (N := 39) hx hb hts inX10 hown hK hP 0 rfl rfl 4 (by decide) (hts (.fieldLink RX10 22 "EscrowDeskModel" "historyParts" "[J") (by decide +kernel)) (fun _ h9 => h9) rfl dX10_remember_51 ?_
            refine lv_iload_n hx hb dX10_remember_54 rfl (lv_at hl 0 rfl) ?_
            refine lv_iconst (v := 1) hx hb dX10_remember_55 (by decide) ?_
            refine lv_isub hx hb dX10_remember_56 ?_
            refine lv_topi (fun yn27 eyn27 => ?_)
            obtain rfl : yn27 = (nI (i3 - 1)) := eyn27.trans (nI_sub (a := i3) (b := 1) (by omega))
            refine lv_aload_n hx hb dX10_remember_57 rfl (lv_at hl 1 rfl) ?_
            refine va_get (D := D) (ci := 11) (v := .ref v4) (C := RX10) (T := TX10) (N := 39) hx hb hts inX10 hown hK hP 0 rfl rfl 4 (by decide) (hts (.fieldLink RX10 22 "EscrowDeskModel" "historyParts" "[J") (by decide +kernel)) (fun _ h9 => h9) rfl dX10_remember_58 ?_
            refine lv_iload_n hx hb dX10_remember_61 rfl (lv_at hl 0 rfl) ?_
            refine va_lald hx hb hK hP 3 1 rfl rfl (vp_in_nI (n := i3) (N := 10) (show i3 < 10 by omega) (by decide)) dX10_remember_62 ?_
            refine lv_topl (fun yn28 eyn28 => ?_)
            refine va_last hx hb hK hP hD hS 3 1 rfl rfl (vp_in_nI (n := (i3 - 1)) (N := 10) (show (i3 - 1) < 10 by omega) (by decide)) dX10_remember_63 (fun H locs hP hD hS => ?_)
            obtain ⟨hP, hD⟩ : PDq D A [(oX10 w0 v0 v1 v2 v3 v4 g5 g6 (nI ed) g8 v9 (nI nb) g11 g12 v13 g14 g15 g16 g17 g18 g19 g20 g21 g22 g23 g24 g25 g26 v27 v28 v29 v30 v31 v32 v33 v34 v35 v36 v37 (nI ol)), (v0, .inl (cA 0, 326, .inl fs)), (v3, .inl (cA 0, 3260, .inl f2_2)), (v4, .inl (cA 1, 10, .inr (.inl (vp_updL f3_3 (((nI (i3 - 1))).toNatClampNeg) yn28))))] H := ⟨hP, hD⟩
            generalize (vp_updL f3_3 (((nI (i3 - 1))).toNatClampNeg) yn28) = fn29 at hP hD
            obtain ⟨hP, hD⟩ : PDq D A [(oX10 w0 v0 v1 v2 v3 v4 g5 g6 (nI ed) g8 v9 (nI nb) g11 g12 v13 g14 g15 g16 g17 g18 g19 g20 g21 g22 g23 g24 g25 g26 v27 v28 v29 v30 v31 v32 v33 v34 v35 v36 v37 (nI ol)), (v0, .inl (cA 0, 326, .inl fs)), (v3, .inl (cA 0, 3260, .inl f2_2)), (v4, .inl (cA 1, 10, .inr (.inl fn29)))] H := ⟨hP, hD⟩
            refine lv_iinc (v := (nI (i3 + 1))) (lv' := [(1, .int (nI (i3 + 1))), (0, .ref w0)]) hx hb dX10_remember_64 hl (k := 0) rfl (nI_1 _) (by decide) rfl (fun ls hl => ?_)
            refine lv_goto (tgt := 44) hx hb dX10_remember_67 (by decide) ?_
            obtain ⟨hP9, hD9⟩ := PDq.sub (ws' := [(oX10 w0 v0 v1 v2 v3 v4 g5 g6 (nI ed) g8 v9 (nI nb) g11 g12 v13 g14 g15 g16 g17 g18 g19 g20 g21 g22 g23 g24 g25 g26 v27 v28 v29 v30 v31 v32 v33 v34 v35 v36 v37 (nI ol)), (v0, .inl (cA 0, 326, .inl fs)), (v3, .inl (cA 0, 3260, .inl f2_2)), (v4, .inl (cA 1, 10, .inr (.inl fn29)))]) hP hD [0, 1, 2, 3] (by decide) rfl
            exact ih3 (i3 + 1) fn29 H _ ls (by omega) (by omega) hP9 hD9 hS (lv_sub hl [0, 1] rfl)
        obtain ⟨hP9, hD9⟩ := PDq.sub (ws' := [(oX10 w0 v0 v1 v2 v3 v4 g5 g6 (nI ed) g8 v9 (nI nb) g11 g12 v13 g14 g15 g16 g17 g18 g19 g20 g21 g22 g23 g24 g25 g26 v27 v28 v29 v30 v31 v32 v33 v34 v35 v36 v37 (nI ol)), (v0, .inl (cA 0, 326, .inl fs)), (v3, .inl (cA 0, 3260, .inl f2_2)), (v4, .inl (cA 1, 10, .inr (.inl fl)))]) hP hD [0, 1, 2, 3] (by decide) rfl
        exact loop3 (10 - 1) 1 fl _ _ ls (by omega) (by omega) hP9 hD9 hS (lv_sub hl [0, 1] rfl)
      | succ n2 ih2 =>
        intro i2 f2_2 H locs ls hi2 hv0_2 hv1_2 hP hD hS hl
        refine lv_iload_n hx hb dX10_remember_13 rfl (lv_at hl 0 rfl) ?_
        refine lv_sipush (v := 3260) hx hb dX10_remember_14 (by decide) ?_
        refine lv_icmp_ge (tgt := 42) hx hb dX10_remember_17 (by decide) (fun c9 => absurd c9 (nI_ge (a := i2) (b := 3260) (show i2 < 3260 by omega) (by omega))) (fun c30 => ?_)
        refine lv_aload_n hx hb dX10_remember_20 rfl (lv_at hl 1 rfl) ?_
        refine va_get (D := D) (ci := 11) (v := .ref v3) (C := RX10) (T := TX10) (N := 39) hx hb hts inX10 hown hK hP 0 rfl rfl 3 (by decide) (hts (.fieldLink RX10 19 "EscrowDeskModel" "history" "[I") (by decide +kernel)) (fun _ h9 => h9) rfl dX10_remember_21 ?_
        refine lv_iload_n hx hb dX10_remember_24 rfl (lv_at hl 0 rfl) ?_
        refine lv_sipush (v := 326) hx hb dX10_remember_25 (by decide) ?_
        refine lv_isub hx hb dX10_remember_28 ?_
        refine lv_topi (fun yn31 eyn31 => ?_)
        obtain rfl : yn31 = (nI (i2 - 326)) := eyn31.trans (nI_sub (a := i2) (b := 326) (by omega))
        refine lv_aload_n hx hb dX10_remember_29 rfl (lv_at hl 1 rfl) ?_
        refine va_get (D := D) (ci := 11) (v := .ref v3) (C := RX10) (T := TX10) (N := 39) hx hb hts inX10 hown hK hP 0 rfl rfl 3 (by decide) (hts (.fieldLink RX10 19 "EscrowDeskModel" "history" "[I") (by decide +kernel)) (fun _ h9 => h9) rfl dX10_remember_30 ?_
        refine lv_iload_n hx hb dX10_remember_33 rfl (lv_at hl 0 rfl) ?_
        refine va_iald hx hb hK hP 2 0 rfl rfl (vp_in_nI (n := i2) (N := 3260) (show i2 < 3260 by omega) (by decide)) dX10_remember_34 ?_
        refine lv_topi (fun yn32 eyn32 => ?_)
        refine va_iast hx hb hK hP hD hS 2 0 rfl rfl (vp_in_nI (n := (i2 - 326)) (N := 3260) (show (i2 - 326) < 3260 by omega) (by decide)) dX10_remember_35 (fun H locs hP hD hS => ?_)
        obtain ⟨hP, hD⟩ : PDq D A [(oX10 w0 v0 v1 v2 v3 v4 g5 g6 (nI ed) g8 v9 (nI nb) g11 g12 v13 g14 g15 g16 g17 g18 g19 g20 g21 g22 g23 g24 g25 g26 v27 v28 v29 v30 v31 v32 v33 v34 v35 v36 v37 (nI ol)), (v0, .inl (cA 0, 326, .inl fs)), (v3, .inl (cA 0, 3260, .inl (upd f2_2 (((nI (i2 - 326))).toNatClampNeg) yn32))), (v4, .inl (cA 1, 10, .inr (.inl fl)))] H := ⟨hP, hD⟩
        have hn34 : Shf (i2 + 1) fh (upd f2_2 (((nI (i2 - 326))).toNatClampNeg) yn32) := (by rw [eyn32]; exact Shf.step (by omega) (by omega) hv1_2)
        generalize (upd f2_2 (((nI (i2 - 326))).toNatClampNeg) yn32) = fn33 at hP hD hn34
        obtain ⟨hP, hD⟩ : PDq D A [(oX10 w0 v0 v1 v2 v3 v4 g5 g6 (nI ed) g8 v9 (nI nb) g11 g12 v13 g14 g15 g16 g17 g18 g19 g20 g21 g22 g23 g24 g25 g26 v27 v28 v29 v30 v31 v32 v33 v34 v35 v36 v37 (nI ol)), (v0, .inl (cA 0, 326, .inl fs)), (v3, .inl (cA 0, 3260, .inl fn33)), (v4, .inl (cA 1, 10, .inr (.inl fl)))] H := ⟨hP, hD⟩
        refine lv_iinc (v := (nI (i2 + 1))) (lv' := [(1, .int (nI (i2 + 1))), (0, .ref w0)]) hx hb dX10_remember_36 hl (k := 0) rfl (nI_1 _) (by decide) rfl (fun ls hl => ?_)
        refine lv_goto (tgt := 13) hx hb dX10_remember_39 (by decide) ?_
        obtain ⟨hP9, hD9⟩ := PDq.sub (ws' := [(oX10 w0 v0 v1 v2 v3 v4 g5 g6 (nI ed) g8 v9 (nI nb) g11 g12 v13 g14 g15 g16 g17 g18 g19 g20 g21 g22 g23 g24 g25 g26 v27 v28 v29 v30 v31 v32 v33 v34 v35 v36 v37 (nI ol)), (v0, .inl (cA 0, 326, .inl fs)), (v3, .inl (cA 0, 3260, .inl fn33)), (v4, .inl (cA 1, 10, .inr (.inl fl)))]) hP hD [0, 1, 2, 3] (by decide) rfl
        exact ih2 (i2 + 1) fn33 H _ ls (by omega) (by omega) hn34 hP9 hD9 hS (lv_sub hl [0, 1] rfl)
    obtain ⟨hP9, hD9⟩ := PDq.sub (ws' := [(oX10 w0 v0 v1 v2 v3 v4 g5 g6 (nI ed) g8 v9 (nI nb) g11 g12 v13 g14 g15 g16 g17 g18 g19 g20 g21 g22 g23 g24 g25 g26 v27 v28 v29 v30 v31 v32 v33 v34 v35 v36 v37 (nI ol)), (v0, .inl (cA 0, 326, .inl fs)), (v3, .inl (cA 0, 3260, .inl fh)), (v4, .inl (cA 1, 10, .inr (.inl fl)))]) hP hD [0, 1, 2, 3] (by decide) rfl
    exact loop2 (3260 - 326) 326 fh _ _ ls (by omega) (by omega) (Shf.zero fh) hP9 hD9 hS (lv_sub hl [0, 1] rfl)

set_option maxHeartbeats 4000000 in
set_option maxRecDepth 100000 in
/-- reference: undo -/
theorem r_undo (l : Launch) (D : va_G) (cA : Nat → ClassId) (sa : Nat → Nat) (w0 : Nat) (ed : Nat) (nb : Nat) (ol : Nat) (v0 : Nat) (v1 : Nat) (v2 : Nat) (v3 : Nat) (v4 : Nat) (v9 : Nat) (v13 : Nat) (v27 : Nat) (v28 : Nat) (v29 : Nat) (v30 : Nat) (v31 : Nat) (v32 : Nat) (v33 : Nat) (v34 : Nat) (v35 : Nat) (v36 : Nat) (v37 : Nat) (g8 : Int32) (g11 : Int32) (g12 : Int32) (g14 : Int32) (g15 : Int32) (g16 : Int32) (g17 : Int32) (g18 : Int32) (g19 : Int32) (g20 : Int32) (g21 : Int32) (g22 : Int32) (g23 : Int32) (g24 : Int32) (g26 : Int32) (g5 : Int64) (g6 : Int64) (g25 : Int64) (cn : Nat) (pq : Nat) (en : Nat) (dy : Nat) (fs : Nat → Int32) (fh : Nat → Int32) (fl : Nat → Int64) (sz : Nat) (hcn : cn ≤ 10) (hpq : pq ≤ 8) (hen : en ≤ 60) (hdy : dy ≤ 20000) (hri : RI cn pq en dy fs) (hed : ed ≤ 10) (hHI : HI cn pq ed fh) (hd9 : dy ≤ 9999) : Met l yX10_undo wsX10_undo ({ frames := 0, cells := 0, slots := 0, locals := 0 }) (va_Pc [.ref w0] (Wd D cA sa [(oX10 w0 v0 v1 v2 v3 v4 g5 g6 (nI ed) g8 v9 (nI nb) g11 g12 v13 g14 g15 g16 g17 g18 g19 g20 g21 g22 g23 g24 g25 g26 v27 v28 v29 v30 v31 v32 v33 v34 v35 v36 v37 (nI ol)), (v0, .inl (cA 0, 326, .inl fs)), (v3, .inl (cA 0, 3260, .inl fh)), (v4, .inl (cA 1, 10, .inr (.inl fl)))] sz)) (va_Qi (fun (r : Int32) (_ : Unit) => True) (fun (_ : Unit) t => ∃ ed2 : Nat, ∃ e2 : Nat, ∃ d2 : Nat, ∃ z8 : Int32, ∃ z14 : Int32, ∃ z15 : Int32, ∃ z16 : Int32, ∃ z17 : Int32, ∃ z18 : Int32, ∃ z19 : Int32, ∃ z20 : Int32, ∃ z21 : Int32, ∃ z22 : Int32, ∃ z23 : Int32, ∃ z24 : Int32, ∃ z26 : Int32, ∃ z5 : Int64, ∃ z6 : Int64, ∃ z25 : Int64, ∃ zs : Nat → Int32, ed2 ≤ 10 ∧ HI cn pq ed2 fh ∧ e2 ≤ 60 ∧ d2 ≤ 9999 ∧ RI cn pq e2 d2 zs ∧ Wq D (va_A [(oX10 w0 v0 v1 v2 v3 v4 g5 g6 (nI ed) g8 v9 (nI nb) g11 g12 v13 g14 g15 g16 g17 g18 g19 g20 g21 g22 g23 g24 g25 g26 v27 v28 v29 v30 v31 v32 v33 v34 v35 v36 v37 (nI ol)), (v0, .inl (cA 0, 326, .inl fs)), (v3, .inl (cA 0, 3260, .inl fh)), (v4, .inl (cA 1, 10, .inr (.inl fl)))] sz) [(oX10 w0 v0 v1 v2 v3 v4 z5 z6 (nI ed2) z8 v9 (nI nb) g11 g12 v13 z14 z15 z16 z17 z18 z19 z20 z21 z22 z23 z24 z25 z26 v27 v28 v29 v30 v31 v32 v33 v34 v35 v36 v37 (nI ol)), (v0, .inl (cA 0, 326, .inl zs)), (v3, .inl (cA 0, 3260, .inl fh)), (v4, .inl (cA 1, 10, .inr (.inl fl)))] t) (va_A [(oX10 w0 v0 v1 v2 v3 v4 g5 g6 (nI ed) g8 v9 (nI nb) g11 g12 v13 g14 g15 g16 g17 g18 g19 g20 g21 g22 g23 g24 g25 g26 v27 v28 v29 v30 v31 v32 v33 v34 v35 v36 v37 (nI ol)), (v0, .inl (cA 0, 326, .inl fs)), (v3, .inl (cA 0, 3260, .inl fh)), (v4, .inl (cA 1, 10, .inr (.inl fl)))] sz)) 0 0 (va_A [(oX10 w0 v0 v1 v2 v3 v4 g5 g6 (nI ed) g8 v9 (nI nb) g11 g12 v13 g14 g15 g16 g17 g18 g19 g20 g21 g22 g23 g24 g25 g26 v27 v28 v29 v30 v31 v32 v33 v34 v35 v36 v37 (nI ol)), (v0, .inl (cA 0, 326, .inl fs)), (v3, .inl (cA 0, 3260, .inl fh)), (v4, .inl (cA 1, 10, .inr (.inl fl)))] sz) := by
  refine Met.ofW (cc := cX10_undo) (maxL := 2) (ret := (some .int)) (by decide) rfl ?_
  intro p e s m args below meth c s₁ B hml hv
  obtain ⟨rfl, hsz, hP, hK, hD0, hC, hZ⟩ := hv
  have hx := B.exec
  have hb := B.bytes
  have hr := B.returns
  have hts := atoms_spec (ws := wsX10_undo) B.pre
  have hown : s.vm.findClass RX10 = some m.cls := findClass_of_methodNamed B.named
  have hlocks := B.notSynchronized
  subst hsz
  have hD := hD0.self (sz := s.heap.size)
  generalize hAe : va_A [(oX10 w0 v0 v1 v2 v3 v4 g5 g6 (nI ed) g8 v9 (nI nb) g11 g12 v13 g14 g15 g16 g17 g18 g19 g20 g21 g22 g23 g24 g25 g26 v27 v28 v29 v30 v31 v32 v33 v34 v35 v36 v37 (nI ol)), (v0, .inl (cA 0, 326, .inl fs)), (v3, .inl (cA 0, 3260, .inl fh)), (v4, .inl (cA 1, 10, .inr (.inl fl)))] s.heap.size = A at hD hZ ⊢
  have hA : ∀ q : Nat, s.heap.size ≤ q → A q := fun q h => by rw [← hAe]; exact Or.inr h
  have hS : va_S A s.heap s.heap [] := va_S.rf
  have hP : va_P D vwCl [(oX10 w0 v0 v1 v2 v3 v4 g5 g6 (nI ed) g8 v9 (nI nb) g11 g12 v13 g14 g15 g16 g17 g18 g19 g20 g21 g22 g23 g24 g25 g26 v27 v28 v29 v30 v31 v32 v33 v34 v35 v36 v37 (nI ol)), (v0, .inl (cA 0, 326, .inl fs)), (v3, .inl (cA 0, 3260, .inl fh)), (v4, .inl (cA 1, 10, .inr (.inl fl)))] s.heap := hP
  have hl := lv_entry ([.ref w0]) (n := 2) (Nat.le_of_ble_eq_true rfl)
  rw [lg_entry_eq]
  generalize (lg_sl ([.ref w0]) ++ List.replicate (2 - (lg_sl ([.ref w0])).length) Slot.unset).toArray = ls at hl ⊢
  have hl : lv_has ls 2 [(0, .ref w0)] := hl
  have inX10 : ∀ w ∈ u_ws RX10 TX10 39, w ∈ wsX10_undo := by decide +kernel
  refine lv_aload_n hx hb dX10_undo_0 rfl (lv_at hl 0 rfl) ?_
  refine lv_iconst (v := 0) hx hb dX10_undo_1 (by decide) ?_
  refine va_put (D := D) (ci := 11) (v := .int 0) (ty := .int) (C := RX10) (T := TX10) (N := 39) hx hb hts inX10 tyX10 tyX10_ok nmX10 hown hK hP hD hS 0 rfl rfl 8 (by decide) (hts (.fieldLink RX10 80 "EscrowDeskModel" "thrown" "I") (by decide +kernel)) (fun _ h9 => h9) rfl (by decide +kernel) rfl rfl (Nat.le_of_ble_eq_true rfl) dX10_undo_2 (fun H locs hP hD hS => ?_)
  obtain ⟨hP, hD⟩ : PDq D A [(oX10 w0 v0 v1 v2 v3 v4 g5 g6 (nI ed) 0 v9 (nI nb) g11 g12 v13 g14 g15 g16 g17 g18 g19 g20 g21 g22 g23 g24 g25 g26 v27 v28 v29 v30 v31 v32 v33 v34 v35 v36 v37 (nI ol)), (v0, .inl (cA 0, 326, .inl fs)), (v3, .inl (cA 0, 3260, .inl fh)), (v4, .inl (cA 1, 10, .inr (.inl fl)))] H := ⟨hP, hD⟩
  refine lv_aload_n hx hb dX10_undo_5 rfl (lv_at hl 0 rfl) ?_
  refine va_get (D := D) (ci := 11) (v := .int (nI ed)) (C := RX10) (T := TX10) (N := 39) hx hb hts inX10 hown hK hP 0 rfl rfl 7 (by decide) (hts (.fieldLink RX10 83 "EscrowDeskModel" "edits" "I") (by decide +kernel)) (fun _ h9 => h9) rfl dX10_undo_6 ?_
  refine lv_if_ne (tgt := 14) hx hb dX10_undo_9 (by decide) (fun c1 => ?_) (fun c1 => ?_)
  · skip
    have hn2 : ¬ ed = 0 := fun h9 => c1 ((nI_eq (a := ed) (b := 0) (by omega) (by omega)).mpr h9)
    refine lv_aload_n hx hb dX10_undo_14 rfl (lv_at hl 0 rfl) ?_
    refine lv_dup hx hb dX10_undo_15 rfl ?_
    refine va_get (D := D) (ci := 11) (v := .int (nI ed)) (C := RX10) (T := TX10) (N := 39) hx hb hts inX10 hown hK hP 0 rfl rfl 7 (by decide) (hts (.fieldLink RX10 83 "EscrowDeskModel" "edits" "I") (by decide +kernel)) (fun _ h9 => h9) rfl dX10_undo_16 ?_
    refine lv_iconst (v := 1) hx hb dX10_undo_19 (by decide) ?_
    refine lv_isub hx hb dX10_undo_20 ?_
    refine lv_topi (fun yn3 eyn3 => ?_)
    obtain rfl : yn3 = (nI (ed - 1)) := eyn3.trans (nI_sub (a := ed) (b := 1) (by omega))
    refine va_put (D := D) (ci := 11) (v := .int (nI (ed - 1))) (ty := .int) (C := RX10) (T := TX10) (N := 39) hx hb hts inX10 tyX10 tyX10_ok nmX10 hown hK hP hD hS 0 rfl rfl 7 (by decide) (hts (.fieldLink RX10 83 "EscrowDeskModel" "edits" "I") (by decide +kernel)) (fun _ h9 => h9) rfl (by decide +kernel) rfl rfl (Nat.le_of_ble_eq_true rfl) dX10_undo_21 (fun H locs hP hD hS => ?_)
    obtain ⟨hP, hD⟩ : PDq D A [(oX10 w0 v0 v1 v2 v3 v4 g5 g6 (nI (ed - 1)) 0 v9 (nI nb) g11 g12 v13 g14 g15 g16 g17 g18 g19 g20 g21 g22 g23 g24 g25 g26 v27 v28 v29 v30 v31 v32 v33 v34 v35 v36 v37 (nI ol)), (v0, .inl (cA 0, 326, .inl fs)), (v3, .inl (cA 0, 3260, .inl fh)), (v4, .inl (cA 1, 10, .inr (.inl fl)))] H := ⟨hP, hD⟩
    refine lv_iconst (v := 0) hx hb dX10_undo_24 (by decide) ?_
    refine lv_istore_n (lv' := [(1, .int 0), (0, .ref w0)]) hx hb dX10_undo_25 rfl hl (by decide) rfl (fun ls hl => ?_)
    have loop1 : ∀ (n1 i1 : Nat) (f1_1 : Nat → Int32) (H : Heap) (locs : List Loc) (ls : Array Slot), i1 + n1 = 326 → Ucp i1 (ed - 1) fh f1_1 → va_P D vwCl [(oX10 w0 v0 v1 v2 v3 v4 g5 g6 (nI (ed - 1)) 0 v9 (nI nb) g11 g12 v13 g14 g15 g16 g17 g18 g19 g20 g21 g22 g23 g24 g25 g26 v27 v28 v29 v30 v31 v32 v33 v34 v35 v36 v37 (nI ol)), (v0, .inl (cA 0, 326, .inl f1_1)), (v3, .inl (cA 0, 3260, .inl fh)), (v4, .inl (cA 1, 10, .inr (.inl fl)))] H → va_D A [(oX10 w0 v0 v1 v2 v3 v4 g5 g6 (nI (ed - 1)) 0 v9 (nI nb) g11 g12 v13 g14 g15 g16 g17 g18 g19 g20 g21 g22 g23 g24 g25 g26 v27 v28 v29 v30 v31 v32 v33 v34 v35 v36 v37 (nI ol)), (v0, .inl (cA 0, 326, .inl f1_1)), (v3, .inl (cA 0, 3260, .inl fh)), (v4, .inl (cA 1, 10, .inr (.inl fl)))] → va_S A s.heap H locs → lv_has ls 2 [(1, .int (nI i1)), (0, .ref w0)] → W p l e (headSpec wsX10_undo ({ frames := 0, cells := 0, slots := 0, locals := 0 } : Room)).room s m ([.ref w0] : List Value).toArray below meth c H locs 0 0 (MQ below (va_Qi (fun (r : Int32) (_ : Unit) => True) (fun (_ : Unit) t => ∃ ed2 : Nat, ∃ e2 : Nat, ∃ d2 : Nat, ∃ z8 : Int32, ∃ z14 : Int32, ∃ z15 : Int32, ∃ z16 : Int32, ∃ z17 : Int32, ∃ z18 : Int32, ∃ z19 : Int32, ∃ z20 : Int32, ∃ z21 : Int32, ∃ z22 : Int32, ∃ z23 : Int32, ∃ z24 : Int32, ∃ z26 : Int32, ∃ z5 : Int64, ∃ z6 : Int64, ∃ z25 : Int64, ∃ zs : Nat → Int32, ed2 ≤ 10 ∧ HI cn pq ed2 fh ∧ e2 ≤ 60 ∧ d2 ≤ 9999 ∧ RI cn pq e2 d2 zs ∧ Wq D A [(oX10 w0 v0 v1 v2 v3 v4 z5 z6 (nI ed2) z8 v9 (nI nb) g11 g12 v13 z14 z15 z16 z17 z18 z19 z20 z21 z22 z23 z24 z25 z26 v27 v28 v29 v30 v31 v32 v33 v34 v35 v36 v37 (nI ol)), (v0, .inl (cA 0, 326, .inl zs)), (v3, .inl (cA 0, 3260, .inl fh)), (v4, .inl (cA 1, 10, .inr (.inl fl)))] t) A) ([.ref w0] : List Value).toArray s 0 0 A) (F0 m 26 ls []) := by
      intro n1
      induction n1 with
      | zero =>
        intro i1 f1_1 H locs ls hi1 hv0_1 hP hD hS hl
        obtain rfl : 326 = i1 := by omega
        refine lv_iload_n hx hb dX10_undo_26 rfl (lv_at hl 0 rfl) ?_
        refine lv_sipush (v := 326) hx hb dX10_undo_27 (by decide) ?_
        refine lv_icmp_ge (tgt := 60) hx hb dX10_undo_30 (by decide) (fun c4 => ?_) (fun c9 => absurd (nI_le (a := 326) (b := 326) (show 326 ≤ 326 by omega) (by omega)) c9)
        obtain ⟨kn5, kn6, hn7, hn8, hn9⟩ := Ucp.ri hv0_1 hHI (by omega)
        refine lv_aload_n hx hb dX10_undo_60 rfl (lv_at hl 1 rfl) ?_
        refine lv_aload_n hx hb dX10_undo_61 rfl (lv_at hl 1 rfl) ?_
        refine va_get (D := D) (ci := 11) (v := .ref v4) (C := RX10) (T := TX10) (N := 39) hx hb hts inX10 hown hK hP 0 rfl rfl 4 (by decide) (hts (.fieldLink RX10 22 "EscrowDeskModel" "historyParts" "[J") (by decide +kernel)) (fun _ h9 => h9) rfl dX10_undo_62 ?_
        refine lv_aload_n hx hb dX10_undo_65 rfl (lv_at hl 1 rfl) ?_
        refine va_get (D := D) (ci := 11) (v := .int (nI (ed - 1))) (C := RX10) (T := TX10) (N := 39) hx hb hts inX10 hown hK hP 0 rfl rfl 7 (by decide) (hts (.fieldLink RX10 83 "EscrowDeskModel" "edits" "I") (by decide +kernel)) (fun _ h9 => h9) rfl dX10_undo_66 ?_
        refine va_lald hx hb hK hP 3 1 rfl rfl (vp_in_nI (n := (ed - 1)) (N := 10) (show (ed - 1) < 10 by omega) (by decide)) dX10_undo_69 ?_
        refine lv_topl (fun yn10 eyn10 => ?_)
        refine va_put (D := D) (ci := 11) (v := .long yn10) (ty := .long) (C := RX10) (T := TX10) (N := 39) hx hb hts inX10 tyX10 tyX10_ok nmX10 hown hK hP hD hS 0 rfl rfl 5 (by decide) (hts (.fieldLink RX10 86 "EscrowDeskModel" "parts" "J") (by decide +kernel)) (fun _ h9 => h9) rfl (by decide +kernel) rfl rfl (Nat.le_of_ble_eq_true rfl) dX10_undo_70 (fun H locs hP hD hS => ?_)
        obtain ⟨hP, hD⟩ : PDq D A [(oX10 w0 v0 v1 v2 v3 v4 yn10 g6 (nI (ed - 1)) 0 v9 (nI nb) g11 g12 v13 g14 g15 g16 g17 g18 g19 g20 g21 g22 g23 g24 g25 g26 v27 v28 v29 v30 v31 v32 v33 v34 v35 v36 v37 (nI ol)), (v0, .inl (cA 0, 326, .inl f1_1)), (v3, .inl (cA 0, 3260, .inl fh)), (v4, .inl (cA 1, 10, .inr (.inl fl)))] H := ⟨hP, hD⟩
        refine lv_aload_n hx hb dX10_undo_73 rfl (lv_at hl 1 rfl) ?_
        refine va_get (D := D) (ci := 11) (v := .int (nI (ed - 1))) (C := RX10) (T := TX10) (N := 39) hx hb hts inX10 hown hK hP 0 rfl rfl 7 (by decide) (hts (.fieldLink RX10 83 "EscrowDeskModel" "edits" "I") (by decide +kernel)) (fun _ h9 => h9) rfl dX10_undo_74 ?_
        obtain ⟨hP9, hD9⟩ := PDq.sub (ws' := [(oX10 w0 v0 v1 v2 v3 v4 yn10 g6 (nI (ed - 1)) 0 v9 (nI nb) g11 g12 v13 g14 g15 g16 g17 g18 g19 g20 g21 g22 g23 g24 g25 g26 v27 v28 v29 v30 v31 v32 v33 v34 v35 v36 v37 (nI ol)), (v0, .inl (cA 0, 326, .inl f1_1)), (v3, .inl (cA 0, 3260, .inl fh)), (v4, .inl (cA 1, 10, .inr (.inl fl)))]) hP hD [0, 1, 2, 3] (by decide) rfl
        refine W.widen (k := 0) (n := 0) (Nat.le_of_ble_eq_true rfl) (Nat.le_of_ble_eq_true rfl) ?_
        exact (W.iret (v := (nI (ed - 1))) hx hb hr (fun t ht hW => ⟨⟨(nI (ed - 1)), (), rfl, trivial, (ed - 1), kn5, kn6, 0, g14, g15, g16, g17, g18, g19, g20, g21, g22, g23, g24, g26, yn10, g6, g25, f1_1, (by omega), (HI.less hHI), hn7, hn8, hn9, by rw [ht]; exact hP9, hD9⟩, hS.F ht⟩) hS.2.2 dX10_undo_77)
      | succ n1 ih1 =>
        intro i1 f1_1 H locs ls hi1 hv0_1 hP hD hS hl
        refine lv_iload_n hx hb dX10_undo_26 rfl (lv_at hl 0 rfl) ?_
        refine lv_sipush (v := 326) hx hb dX10_undo_27 (by decide) ?_
        refine lv_icmp_ge (tgt := 60) hx hb dX10_undo_30 (by decide) (fun c9 => absurd c9 (nI_ge (a := i1) (b := 326) (show i1 < 326 by omega) (by omega))) (fun c11 => ?_)
        refine lv_aload_n hx hb dX10_undo_33 rfl (lv_at hl 1 rfl) ?_
        refine va_get (D := D) (ci := 11) (v := .ref v0) (C := RX10) (T := TX10) (N := 39) hx hb hts inX10 hown hK hP 0 rfl rfl 0 (by decide) (hts (.fieldLink RX10 7 "EscrowDeskModel" "s" "[I") (by decide +kernel)) (fun _ h9 => h9) rfl dX10_undo_34 ?_
        refine lv_iload_n hx hb dX10_undo_37 rfl (lv_at hl 0 rfl) ?_
        refine lv_aload_n hx hb dX10_undo_38 rfl (lv_at hl 1 rfl) ?_
        refine va_get (D := D) (ci := 11) (v := .ref v3) (C := RX10) (T := TX10) (N := 39) hx hb hts inX10 hown hK hP 0 rfl rfl 3 (by decide) (hts (.fieldLink RX10 19 "EscrowDeskModel" "history" "[I") (by decide +kernel)) (fun _ h9 => h9) rfl dX10_undo_39 ?_
        refine lv_sipush (v := 326) hx hb dX10_undo_42 (by decide) ?_
        refine lv_aload_n hx hb dX10_undo_45 rfl (lv_at hl 1 rfl) ?_
        refine va_get (D := D) (ci := 11) (v := .int (nI (ed - 1))) (C := RX10) (T := TX10) (N := 39) hx hb hts inX10 hown hK hP 0 rfl rfl 7 (by decide) (hts (.fieldLink RX10 83 "EscrowDeskModel" "edits" "I") (by decide +kernel)) (fun _ h9 => h9) rfl dX10_undo_46 ?_
        refine lv_imul hx hb dX10_undo_49 ?_
        refine lv_topi (fun yn12 eyn12 => ?_)
        obtain rfl : yn12 = (nI (326 * (ed - 1))) := eyn12.trans (nI_mul 326 (ed - 1))
        refine lv_iload_n hx hb dX10_undo_50 rfl (lv_at hl 0 rfl) ?_
        refine lv_iadd hx hb dX10_undo_51 ?_
        refine lv_topi (fun yn13 eyn13 => ?_)
        obtain rfl : yn13 = (nI ((326 * (ed - 1)) + i1)) := eyn13.trans (nI_add (326 * (ed - 1)) i1)
        refine va_iald hx hb hK hP 2 0 rfl rfl (vp_in_nI (n := ((326 * (ed - 1)) + i1)) (N := 3260) (show ((326 * (ed - 1)) + i1) < 3260 by omega) (by decide)) dX10_undo_52 ?_
        refine lv_topi (fun yn14 eyn14 => ?_)
        refine va_iast hx hb hK hP hD hS 1 0 rfl rfl (vp_in_nI (n := i1) (N := 326) (show i1 < 326 by omega) (by decide)) dX10_undo_53 (fun H locs hP hD hS => ?_)
        obtain ⟨hP, hD⟩ : PDq D A [(oX10 w0 v0 v1 v2 v3 v4 g5 g6 (nI (ed - 1)) 0 v9 (nI nb) g11 g12 v13 g14 g15 g16 g17 g18 g19 g20 g21 g22 g23 g24 g25 g26 v27 v28 v29 v30 v31 v32 v33 v34 v35 v36 v37 (nI ol)), (v0, .inl (cA 0, 326, .inl (upd f1_1 (((nI i1)).toNatClampNeg) yn14))), (v3, .inl (cA 0, 3260, .inl fh)), (v4, .inl (cA 1, 10, .inr (.inl fl)))] H := ⟨hP, hD⟩
        have hn16 : Ucp (i1 + 1) (ed - 1) fh (upd f1_1 (((nI i1)).toNatClampNeg) yn14) := (by rw [eyn14]; exact Ucp.step (by omega) (by omega) hv0_1)
        generalize (upd f1_1 (((nI i1)).toNatClampNeg) yn14) = fn15 at hP hD hn16
        obtain ⟨hP, hD⟩ : PDq D A [(oX10 w0 v0 v1 v2 v3 v4 g5 g6 (nI (ed - 1)) 0 v9 (nI nb) g11 g12 v13 g14 g15 g16 g17 g18 g19 g20 g21 g22 g23 g24 g25 g26 v27 v28 v29 v30 v31 v32 v33 v34 v35 v36 v37 (nI ol)), (v0, .inl (cA 0, 326, .inl fn15)), (v3, .inl (cA 0, 3260, .inl fh)), (v4, .inl (cA 1, 10, .inr (.inl fl)))] H := ⟨hP, hD⟩
        refine lv_iinc (v := (nI (i1 + 1))) (lv' := [(1, .int (nI (i1 + 1))), (0, .ref w0)]) hx hb dX10_undo_54 hl (k := 0) rfl (nI_1 _) (by decide) rfl (fun ls hl => ?_)
        refine lv_goto (tgt := 26) hx hb dX10_undo_57 (by decide) ?_
        obtain ⟨hP9, hD9⟩ := PDq.sub (ws' := [(oX10 w0 v0 v1 v2 v3 v4 g5 g6 (nI (ed - 1)) 0 v9 (nI nb) g11 g12 v13 g14 g15 g16 g17 g18 g19 g20 g21 g22 g23 g24 g25 g26 v27 v28 v29 v30 v31 v32 v33 v34 v35 v36 v37 (nI ol)), (v0, .inl (cA 0, 326, .inl fn15)), (v3, .inl (cA 0, 3260, .inl fh)), (v4, .inl (cA 1, 10, .inr (.inl fl)))]) hP hD [0, 1, 2, 3] (by decide) rfl
        exact ih1 (i1 + 1) fn15 H _ ls (by omega) hn16 hP9 hD9 hS (lv_sub hl [0, 1] rfl)
    obtain ⟨hP9, hD9⟩ := PDq.sub (ws' := [(oX10 w0 v0 v1 v2 v3 v4 g5 g6 (nI (ed - 1)) 0 v9 (nI nb) g11 g12 v13 g14 g15 g16 g17 g18 g19 g20 g21 g22 g23 g24 g25 g26 v27 v28 v29 v30 v31 v32 v33 v34 v35 v36 v37 (nI ol)), (v0, .inl (cA 0, 326, .inl fs)), (v3, .inl (cA 0, 3260, .inl fh)), (v4, .inl (cA 1, 10, .inr (.inl fl)))]) hP hD [0, 1, 2, 3] (by decide) rfl
    exact loop1 (326 - 0) 0 fs _ _ ls (by omega) (fun j hj => absurd hj (Nat.not_lt_zero j)) hP9 hD9 hS (lv_sub hl [0, 1] rfl)
  · skip
    have hn17 : ed = 0 := (nI_eq (a := ed) (b := 0) (by omega) (by omega)).mp c1
    refine lv_iconst (v := (-1)) hx hb dX10_undo_12 (by decide) ?_
    obtain ⟨hP9, hD9⟩ := PDq.sub (ws' := [(oX10 w0 v0 v1 v2 v3 v4 g5 g6 (nI ed) 0 v9 (nI nb) g11 g12 v13 g14 g15 g16 g17 g18 g19 g20 g21 g22 g23 g24 g25 g26 v27 v28 v29 v30 v31 v32 v33 v34 v35 v36 v37 (nI ol)), (v0, .inl (cA 0, 326, .inl fs)), (v3, .inl (cA 0, 3260, .inl fh)), (v4, .inl (cA 1, 10, .inr (.inl fl)))]) hP hD [0, 1, 2, 3] (by decide) rfl
    refine W.widen (k := 0) (n := 0) (Nat.le_of_ble_eq_true rfl) (Nat.le_of_ble_eq_true rfl) ?_
    exact (W.iret (v := (-1)) hx hb hr (fun t ht hW => ⟨⟨(-1), (), rfl, trivial, ed, en, dy, 0, g14, g15, g16, g17, g18, g19, g20, g21, g22, g23, g24, g26, g5, g6, g25, fs, hed, hHI, hen, hd9, hri, by rw [ht]; exact hP9, hD9⟩, hS.F ht⟩) hS.2.2 dX10_undo_13)

set_option maxHeartbeats 4000000 in
set_option maxRecDepth 100000 in
/-- reference: holdsNow -/
theorem r_holdsNow (l : Launch) (D : va_G) (cA : Nat → ClassId) (sa : Nat → Nat) (w0 : Nat) (ed : Nat) (nb : Nat) (ol : Nat) (v0 : Nat) (v1 : Nat) (v2 : Nat) (v3 : Nat) (v4 : Nat) (v9 : Nat) (v13 : Nat) (v27 : Nat) (v28 : Nat) (v29 : Nat) (v30 : Nat) (v31 : Nat) (v32 : Nat) (v33 : Nat) (v34 : Nat) (v35 : Nat) (v36 : Nat) (v37 : Nat) (g8 : Int32) (g11 : Int32) (g12 : Int32) (g14 : Int32) (g15 : Int32) (g16 : Int32) (g17 : Int32) (g18 : Int32) (g19 : Int32) (g20 : Int32) (g21 : Int32) (g22 : Int32) (g23 : Int32) (g24 : Int32) (g26 : Int32) (g5 : Int64) (g6 : Int64) (g25 : Int64) (cn : Nat) (pq : Nat) (en : Nat) (dy : Nat) (fs : Nat → Int32) (fc : Nat → Int32) (fq : Nat → Int32) (fk : Nat → Int32) (mi : Nat) (sz : Nat) (hcn : cn ≤ 10) (hpq : pq ≤ 8) (hen : en ≤ 60) (hdy : dy ≤ 20000) (hri : RI cn pq en dy fs) (hCW : CW cn fc fq) (hbit : Bit 400 fk) (hmi9 : mi < cn) : Met l yX10_holdsNow wsX10_holdsNow ({ frames := 3, cells := 0, slots := 0, locals := 75 }) (va_Pc [.ref w0, .int (nI mi)] (Wd D cA sa [(oX10 w0 v0 v1 v2 v3 v4 g5 g6 (nI ed) g8 v9 (nI nb) g11 g12 v13 g14 g15 g16 g17 g18 g19 g20 g21 g22 g23 g24 g25 g26 v27 v28 v29 v30 v31 v32 v33 v34 v35 v36 v37 (nI ol)), (v0, .inl (cA 0, 326, .inl fs)), (v31, .inl (cA 0, 400, .inl fc)), (v33, .inl (cA 0, 11, .inl fq)), (v35, .inl (cA 4, 400, .inl fk))] sz)) (va_Qi (fun (r : Int32) (_ : Unit) => r = 0 ∨ r = 1) (fun (_ : Unit) t => ∃ zk : Nat → Int32, Bit 400 zk ∧ Wq D (va_A [(oX10 w0 v0 v1 v2 v3 v4 g5 g6 (nI ed) g8 v9 (nI nb) g11 g12 v13 g14 g15 g16 g17 g18 g19 g20 g21 g22 g23 g24 g25 g26 v27 v28 v29 v30 v31 v32 v33 v34 v35 v36 v37 (nI ol)), (v0, .inl (cA 0, 326, .inl fs)), (v31, .inl (cA 0, 400, .inl fc)), (v33, .inl (cA 0, 11, .inl fq)), (v35, .inl (cA 4, 400, .inl fk))] sz) [(oX10 w0 v0 v1 v2 v3 v4 g5 g6 (nI ed) g8 v9 (nI nb) g11 g12 v13 g14 g15 g16 g17 g18 g19 g20 g21 g22 g23 g24 g25 g26 v27 v28 v29 v30 v31 v32 v33 v34 v35 v36 v37 (nI ol)), (v0, .inl (cA 0, 326, .inl fs)), (v31, .inl (cA 0, 400, .inl fc)), (v33, .inl (cA 0, 11, .inl fq)), (v35, .inl (cA 4, 400, .inl zk))] t) (va_A [(oX10 w0 v0 v1 v2 v3 v4 g5 g6 (nI ed) g8 v9 (nI nb) g11 g12 v13 g14 g15 g16 g17 g18 g19 g20 g21 g22 g23 g24 g25 g26 v27 v28 v29 v30 v31 v32 v33 v34 v35 v36 v37 (nI ol)), (v0, .inl (cA 0, 326, .inl fs)), (v31, .inl (cA 0, 400, .inl fc)), (v33, .inl (cA 0, 11, .inl fq)), (v35, .inl (cA 4, 400, .inl fk))] sz)) 0 0 (va_A [(oX10 w0 v0 v1 v2 v3 v4 g5 g6 (nI ed) g8 v9 (nI nb) g11 g12 v13 g14 g15 g16 g17 g18 g19 g20 g21 g22 g23 g24 g25 g26 v27 v28 v29 v30 v31 v32 v33 v34 v35 v36 v37 (nI ol)), (v0, .inl (cA 0, 326, .inl fs)), (v31, .inl (cA 0, 400, .inl fc)), (v33, .inl (cA 0, 11, .inl fq)), (v35, .inl (cA 4, 400, .inl fk))] sz) := by
  refine Met.ofW (cc := cX10_holdsNow) (maxL := 2) (ret := (some .boolean)) (by decide) rfl ?_
  intro p e s m args below meth c s₁ B hml hv
  obtain ⟨rfl, hsz, hP, hK, hD0, hC, hZ⟩ := hv
  have hx := B.exec
  have hb := B.bytes
  have hr := B.returns
  have hts := atoms_spec (ws := wsX10_holdsNow) B.pre
  have hown : s.vm.findClass RX10 = some m.cls := findClass_of_methodNamed B.named
  have hlocks := B.notSynchronized
  subst hsz
  have hD := hD0.self (sz := s.heap.size)
  generalize hAe : va_A [(oX10 w0 v0 v1 v2 v3 v4 g5 g6 (nI ed) g8 v9 (nI nb) g11 g12 v13 g14 g15 g16 g17 g18 g19 g20 g21 g22 g23 g24 g25 g26 v27 v28 v29 v30 v31 v32 v33 v34 v35 v36 v37 (nI ol)), (v0, .inl (cA 0, 326, .inl fs)), (v31, .inl (cA 0, 400, .inl fc)), (v33, .inl (cA 0, 11, .inl fq)), (v35, .inl (cA 4, 400, .inl fk))] s.heap.size = A at hD hZ ⊢
  have hA : ∀ q : Nat, s.heap.size ≤ q → A q := fun q h => by rw [← hAe]; exact Or.inr h
  have hS : va_S A s.heap s.heap [] := va_S.rf
  have hP : va_P D vwCl [(oX10 w0 v0 v1 v2 v3 v4 g5 g6 (nI ed) g8 v9 (nI nb) g11 g12 v13 g14 g15 g16 g17 g18 g19 g20 g21 g22 g23 g24 g25 g26 v27 v28 v29 v30 v31 v32 v33 v34 v35 v36 v37 (nI ol)), (v0, .inl (cA 0, 326, .inl fs)), (v31, .inl (cA 0, 400, .inl fc)), (v33, .inl (cA 0, 11, .inl fq)), (v35, .inl (cA 4, 400, .inl fk))] s.heap := hP
  have hl := lv_entry ([.ref w0, .int (nI mi)]) (n := 2) (Nat.le_of_ble_eq_true rfl)
  rw [lg_entry_eq]
  generalize (lg_sl ([.ref w0, .int (nI mi)]) ++ List.replicate (2 - (lg_sl ([.ref w0, .int (nI mi)])).length) Slot.unset).toArray = ls at hl ⊢
  have hl : lv_has ls 2 [(0, .ref w0), (1, .int (nI mi))] := hl
  have inX10 : ∀ w ∈ u_ws RX10 TX10 39, w ∈ wsX10_holdsNow := by decide +kernel
  refine lv_aload_n hx hb dX10_holdsNow_0 rfl (lv_at hl 0 rfl) ?_
  refine lv_iload_n hx hb dX10_holdsNow_1 rfl (lv_at hl 1 rfl) ?_
  refine lv_aload_n hx hb dX10_holdsNow_2 rfl (lv_at hl 0 rfl) ?_
  refine va_get (D := D) (ci := 11) (v := .ref v0) (C := RX10) (T := TX10) (N := 39) hx hb hts inX10 hown hK hP 0 rfl rfl 0 (by decide) (hts (.fieldLink RX10 7 "EscrowDeskModel" "s" "[I") (by decide +kernel)) (fun _ h9 => h9) rfl dX10_holdsNow_3 ?_
  refine lv_iconst (v := 4) hx hb dX10_holdsNow_6 (by decide) ?_
  refine va_iald hx hb hK hP 1 0 rfl rfl (vp_in_iff.mpr (by decide)) dX10_holdsNow_7 ?_
  refine lv_topi (fun yn1 eyn1 => ?_)
  obtain rfl : yn1 = (nI dy) := eyn1.trans hri.2.2.2.1
  refine lv_aload_n hx hb dX10_holdsNow_8 rfl (lv_at hl 0 rfl) ?_
  refine va_get (D := D) (ci := 11) (v := .ref v0) (C := RX10) (T := TX10) (N := 39) hx hb hts inX10 hown hK hP 0 rfl rfl 0 (by decide) (hts (.fieldLink RX10 7 "EscrowDeskModel" "s" "[I") (by decide +kernel)) (fun _ h9 => h9) rfl dX10_holdsNow_9 ?_
  refine lv_bipush (v := 12) hx hb dX10_holdsNow_12 (by decide) ?_
  refine va_iald hx hb hK hP 1 0 rfl rfl (vp_in_iff.mpr (by decide)) dX10_holdsNow_14 ?_
  refine lv_topi (fun yn2 eyn2 => ?_)
  refine lv_aload_n hx hb dX10_holdsNow_15 rfl (lv_at hl 0 rfl) ?_
  obtain ⟨hPc, hDc, hFc⟩ := PDq.cut (wc := [(oX10 w0 v0 v1 v2 v3 v4 g5 g6 (nI ed) g8 v9 (nI nb) g11 g12 v13 g14 g15 g16 g17 g18 g19 g20 g21 g22 g23 g24 g25 g26 v27 v28 v29 v30 v31 v32 v33 v34 v35 v36 v37 (nI ol)), (v0, .inl (cA 0, 326, .inl fs))]) hP hD hS hA [0, 1] (by decide) rfl
  refine va_calli (va_runV (As := []) (rest := [.int yn2, .int (nI dy), .int (nI mi), .ref w0]) ⟨hx, hb, hml, hown, hts⟩ (r_doneSet l D cA sa w0 ed nb ol v0 v1 v2 v3 v4 v9 v13 v27 v28 v29 v30 v31 v32 v33 v34 v35 v36 v37 g8 g11 g12 g14 g15 g16 g17 g18 g19 g20 g21 g22 g23 g24 g26 g5 g6 g25 cn pq en dy fs s.heap.size hcn hpq hen hdy hri) (cwV 0 hts gX10_holdsNow_X10_doneSet rfl rfl rfl (by decide +kernel) ⟨(Nat.le_of_ble_eq_true rfl), (Nat.le_of_ble_eq_true rfl)⟩) ⟨Wd.blind, va_recv hK hPc (ci := 11) (q0 := 0) rfl rfl, fun U hU hW => ⟨rfl, Wd.call hPc hDc hK hC hZ hS hFc U hU hW⟩⟩ rfl rfl hl.1 rfl (lv_room (Nat.le_of_ble_eq_true rfl)) dX10_holdsNow_16 ⟨(Nat.le_of_ble_eq_true rfl), (Nat.le_of_ble_eq_true rfl)⟩) hS (fun q _ h => hFc q h) hFc (fun rn3 u t H1 locs ht hvm hw hB hz1 hk1 hS => ?_)
  obtain ⟨hP1, hD1⟩ := hB
  rw [ht] at hP1
  obtain ⟨hP, hD⟩ := PDq.join (w := [(v31, .inl (cA 0, 400, .inl fc)), (v33, .inl (cA 0, 11, .inl fq)), (v35, .inl (cA 4, 400, .inl fk)), (oX10 w0 v0 v1 v2 v3 v4 g5 g6 (nI ed) g8 v9 (nI nb) g11 g12 v13 g14 g15 g16 g17 g18 g19 g20 g21 g22 g23 g24 g25 g26 v27 v28 v29 v30 v31 v32 v33 v34 v35 v36 v37 (nI ol)), (v0, .inl (cA 0, 326, .inl fs))]) 3 hP hD [0, 1] [2, 3, 4] rfl rfl (by decide) (by decide) hk1 hFc hP1 hD1 rfl
  generalize H1 = H at hP hS ⊢
  obtain ⟨hPc, hDc, hFc⟩ := PDq.cut (wc := [(oX10 w0 v0 v1 v2 v3 v4 g5 g6 (nI ed) g8 v9 (nI nb) g11 g12 v13 g14 g15 g16 g17 g18 g19 g20 g21 g22 g23 g24 g25 g26 v27 v28 v29 v30 v31 v32 v33 v34 v35 v36 v37 (nI ol)), (v0, .inl (cA 0, 326, .inl fs)), (v31, .inl (cA 0, 400, .inl fc)), (v33, .inl (cA 0, 11, .inl fq)), (v35, .inl (cA 4, 400, .inl fk))]) hP hD hS hA [3, 4, 0, 1, 2] (by decide) rfl
  refine va_calli (va_runV (As := [.int (nI mi), .int (nI dy), .int yn2, .int rn3]) (rest := []) ⟨hx, hb, hml, hown, hts⟩ (r_holdsBy l D cA sa w0 ed nb ol v0 v1 v2 v3 v4 v9 v13 v27 v28 v29 v30 v31 v32 v33 v34 v35 v36 v37 g8 g11 g12 g14 g15 g16 g17 g18 g19 g20 g21 g22 g23 g24 g26 g5 g6 g25 cn pq en dy fs fc fq fk mi (nI dy) yn2 rn3 H.size hcn hpq hen hdy hri hCW hbit hmi9) (cwV 4 hts gX10_holdsNow_X10_holdsBy rfl rfl rfl (by decide +kernel) ⟨(Nat.le_of_ble_eq_true rfl), (Nat.le_of_ble_eq_true rfl)⟩) ⟨Wd.blind, va_recv hK hPc (ci := 11) (q0 := 0) rfl rfl, fun U hU hW => ⟨rfl, Wd.call hPc hDc hK hC hZ hS hFc U hU hW⟩⟩ rfl rfl hl.1 rfl (lv_room (Nat.le_of_ble_eq_true rfl)) dX10_holdsNow_19 ⟨(Nat.le_of_ble_eq_true rfl), (Nat.le_of_ble_eq_true rfl)⟩) hS (fun q _ h => hFc q h) hFc (fun rn4 u t H1 locs ht hvm hw hB hz1 hk1 hS => ?_)
  obtain ⟨fn5, hn6, hP1, hD1⟩ := hB
  rw [ht] at hP1
  obtain ⟨hP, hD⟩ := PDq.join (w := [(oX10 w0 v0 v1 v2 v3 v4 g5 g6 (nI ed) g8 v9 (nI nb) g11 g12 v13 g14 g15 g16 g17 g18 g19 g20 g21 g22 g23 g24 g25 g26 v27 v28 v29 v30 v31 v32 v33 v34 v35 v36 v37 (nI ol)), (v0, .inl (cA 0, 326, .inl fs)), (v31, .inl (cA 0, 400, .inl fc)), (v33, .inl (cA 0, 11, .inl fq)), (v35, .inl (cA 4, 400, .inl fn5))]) 0 hP hD [3, 4, 0, 1, 2] [] rfl rfl (by decide) (by decide) hk1 hFc hP1 hD1 rfl
  generalize H1 = H at hP hS ⊢
  have hn7 := hw
  obtain ⟨hP9, hD9⟩ := PDq.sub (ws' := [(oX10 w0 v0 v1 v2 v3 v4 g5 g6 (nI ed) g8 v9 (nI nb) g11 g12 v13 g14 g15 g16 g17 g18 g19 g20 g21 g22 g23 g24 g25 g26 v27 v28 v29 v30 v31 v32 v33 v34 v35 v36 v37 (nI ol)), (v0, .inl (cA 0, 326, .inl fs)), (v31, .inl (cA 0, 400, .inl fc)), (v33, .inl (cA 0, 11, .inl fq)), (v35, .inl (cA 4, 400, .inl fn5))]) hP hD [0, 1, 2, 3, 4] (by decide) rfl
  refine W.widen (k := 0) (n := 0) (Nat.le_of_ble_eq_true rfl) (Nat.le_of_ble_eq_true rfl) ?_
  exact (W.zret (v := rn4) hx hb hr (by rcases hn7 with h9 | h9 <;> rw [h9] <;> rfl) (fun t ht hW => ⟨⟨rn4, (), rfl, hn7, fn5, hn6, by rw [ht]; exact hP9, hD9⟩, hS.F ht⟩) hS.2.2 dX10_holdsNow_22)

set_option maxHeartbeats 4000000 in
set_option maxRecDepth 100000 in
/-- reference: becomeDue -/
theorem r_becomeDue (l : Launch) (D : va_G) (cA : Nat → ClassId) (sa : Nat → Nat) (w0 : Nat) (ed : Nat) (nb : Nat) (ol : Nat) (v0 : Nat) (v1 : Nat) (v2 : Nat) (v3 : Nat) (v4 : Nat) (v9 : Nat) (v13 : Nat) (v27 : Nat) (v28 : Nat) (v29 : Nat) (v30 : Nat) (v31 : Nat) (v32 : Nat) (v33 : Nat) (v34 : Nat) (v35 : Nat) (v36 : Nat) (v37 : Nat) (g8 : Int32) (g11 : Int32) (g12 : Int32) (g14 : Int32) (g15 : Int32) (g16 : Int32) (g17 : Int32) (g18 : Int32) (g19 : Int32) (g20 : Int32) (g21 : Int32) (g22 : Int32) (g23 : Int32) (g24 : Int32) (g26 : Int32) (g5 : Int64) (g6 : Int64) (g25 : Int64) (cn : Nat) (pq : Nat) (en : Nat) (dy : Nat) (fs : Nat → Int32) (fc : Nat → Int32) (fq : Nat → Int32) (fk : Nat → Int32) (sz : Nat) (hcn : cn ≤ 10) (hpq : pq ≤ 8) (hen : en ≤ 60) (hdy : dy ≤ 20000) (hri : RI cn pq en dy fs) (hCW : CW cn fc fq) (hbit : Bit 400 fk) : Met l yX10_becomeDue wsX10_becomeDue ({ frames := 3, cells := 0, slots := 0, locals := 75 }) (va_Pc [.ref w0] (Wd D cA sa [(oX10 w0 v0 v1 v2 v3 v4 g5 g6 (nI ed) g8 v9 (nI nb) g11 g12 v13 g14 g15 g16 g17 g18 g19 g20 g21 g22 g23 g24 g25 g26 v27 v28 v29 v30 v31 v32 v33 v34 v35 v36 v37 (nI ol)), (v0, .inl (cA 0, 326, .inl fs)), (v31, .inl (cA 0, 400, .inl fc)), (v33, .inl (cA 0, 11, .inl fq)), (v35, .inl (cA 4, 400, .inl fk))] sz)) (va_Qv (fun _ : Unit => True) (fun (_ : Unit) t => ∃ zs : Nat → Int32, ∃ zk : Nat → Int32, Bit 400 zk ∧ RI cn pq en dy zs ∧ Wq D (va_A [(oX10 w0 v0 v1 v2 v3 v4 g5 g6 (nI ed) g8 v9 (nI nb) g11 g12 v13 g14 g15 g16 g17 g18 g19 g20 g21 g22 g23 g24 g25 g26 v27 v28 v29 v30 v31 v32 v33 v34 v35 v36 v37 (nI ol)), (v0, .inl (cA 0, 326, .inl fs)), (v31, .inl (cA 0, 400, .inl fc)), (v33, .inl (cA 0, 11, .inl fq)), (v35, .inl (cA 4, 400, .inl fk))] sz) [(oX10 w0 v0 v1 v2 v3 v4 g5 g6 (nI ed) g8 v9 (nI nb) g11 g12 v13 g14 g15 g16 g17 g18 g19 g20 g21 g22 g23 g24 g25 g26 v27 v28 v29 v30 v31 v32 v33 v34 v35 v36 v37 (nI ol)), (v0, .inl (cA 0, 326, .inl zs)), (v31, .inl (cA 0, 400, .inl fc)), (v33, .inl (cA 0, 11, .inl fq)), (v35, .inl (cA 4, 400, .inl zk))] t) (va_A [(oX10 w0 v0 v1 v2 v3 v4 g5 g6 (nI ed) g8 v9 (nI nb) g11 g12 v13 g14 g15 g16 g17 g18 g19 g20 g21 g22 g23 g24 g25 g26 v27 v28 v29 v30 v31 v32 v33 v34 v35 v36 v37 (nI ol)), (v0, .inl (cA 0, 326, .inl fs)), (v31, .inl (cA 0, 400, .inl fc)), (v33, .inl (cA 0, 11, .inl fq)), (v35, .inl (cA 4, 400, .inl fk))] sz)) 0 0 (va_A [(oX10 w0 v0 v1 v2 v3 v4 g5 g6 (nI ed) g8 v9 (nI nb) g11 g12 v13 g14 g15 g16 g17 g18 g19 g20 g21 g22 g23 g24 g25 g26 v27 v28 v29 v30 v31 v32 v33 v34 v35 v36 v37 (nI ol)), (v0, .inl (cA 0, 326, .inl fs)), (v31, .inl (cA 0, 400, .inl fc)), (v33, .inl (cA 0, 11, .inl fq)), (v35, .inl (cA 4, 400, .inl fk))] sz) := by
  refine Met.ofW (cc := cX10_becomeDue) (maxL := 3) (ret := none) (by decide) rfl ?_
  intro p e s m args below meth c s₁ B hml hv
  obtain ⟨rfl, hsz, hP, hK, hD0, hC, hZ⟩ := hv
  have hx := B.exec
  have hb := B.bytes
  have hr := B.returns
  have hts := atoms_spec (ws := wsX10_becomeDue) B.pre
  have hown : s.vm.findClass RX10 = some m.cls := findClass_of_methodNamed B.named
  have hlocks := B.notSynchronized
  subst hsz
  have hD := hD0.self (sz := s.heap.size)
  generalize hAe : va_A [(oX10 w0 v0 v1 v2 v3 v4 g5 g6 (nI ed) g8 v9 (nI nb) g11 g12 v13 g14 g15 g16 g17 g18 g19 g20 g21 g22 g23 g24 g25 g26 v27 v28 v29 v30 v31 v32 v33 v34 v35 v36 v37 (nI ol)), (v0, .inl (cA 0, 326, .inl fs)), (v31, .inl (cA 0, 400, .inl fc)), (v33, .inl (cA 0, 11, .inl fq)), (v35, .inl (cA 4, 400, .inl fk))] s.heap.size = A at hD hZ ⊢
  have hA : ∀ q : Nat, s.heap.size ≤ q → A q := fun q h => by rw [← hAe]; exact Or.inr h
  have hS : va_S A s.heap s.heap [] := va_S.rf
  have hP : va_P D vwCl [(oX10 w0 v0 v1 v2 v3 v4 g5 g6 (nI ed) g8 v9 (nI nb) g11 g12 v13 g14 g15 g16 g17 g18 g19 g20 g21 g22 g23 g24 g25 g26 v27 v28 v29 v30 v31 v32 v33 v34 v35 v36 v37 (nI ol)), (v0, .inl (cA 0, 326, .inl fs)), (v31, .inl (cA 0, 400, .inl fc)), (v33, .inl (cA 0, 11, .inl fq)), (v35, .inl (cA 4, 400, .inl fk))] s.heap := hP
  have hl := lv_entry ([.ref w0]) (n := 3) (Nat.le_of_ble_eq_true rfl)
  rw [lg_entry_eq]
  generalize (lg_sl ([.ref w0]) ++ List.replicate (3 - (lg_sl ([.ref w0])).length) Slot.unset).toArray = ls at hl ⊢
  have hl : lv_has ls 3 [(0, .ref w0)] := hl
  have inX10 : ∀ w ∈ u_ws RX10 TX10 39, w ∈ wsX10_becomeDue := by decide +kernel
  refine lv_aload_n hx hb dX10_becomeDue_0 rfl (lv_at hl 0 rfl) ?_
  obtain ⟨hPc, hDc, hFc⟩ := PDq.cut (wc := [(oX10 w0 v0 v1 v2 v3 v4 g5 g6 (nI ed) g8 v9 (nI nb) g11 g12 v13 g14 g15 g16 g17 g18 g19 g20 g21 g22 g23 g24 g25 g26 v27 v28 v29 v30 v31 v32 v33 v34 v35 v36 v37 (nI ol)), (v0, .inl (cA 0, 326, .inl fs))]) hP hD hS hA [0, 1] (by decide) rfl
  refine va_calli (va_runV (As := []) (rest := []) ⟨hx, hb, hml, hown, hts⟩ (r_doneSet l D cA sa w0 ed nb ol v0 v1 v2 v3 v4 v9 v13 v27 v28 v29 v30 v31 v32 v33 v34 v35 v36 v37 g8 g11 g12 g14 g15 g16 g17 g18 g19 g20 g21 g22 g23 g24 g26 g5 g6 g25 cn pq en dy fs s.heap.size hcn hpq hen hdy hri) (cwV 0 hts gX10_becomeDue_X10_doneSet rfl rfl rfl (by decide +kernel) ⟨(Nat.le_of_ble_eq_true rfl), (Nat.le_of_ble_eq_true rfl)⟩) ⟨Wd.blind, va_recv hK hPc (ci := 11) (q0 := 0) rfl rfl, fun U hU hW => ⟨rfl, Wd.call hPc hDc hK hC hZ hS hFc U hU hW⟩⟩ rfl rfl hl.1 rfl (lv_room (Nat.le_of_ble_eq_true rfl)) dX10_becomeDue_1 ⟨(Nat.le_of_ble_eq_true rfl), (Nat.le_of_ble_eq_true rfl)⟩) hS (fun q _ h => hFc q h) hFc (fun rn1 u t H1 locs ht hvm hw hB hz1 hk1 hS => ?_)
  obtain ⟨hP1, hD1⟩ := hB
  rw [ht] at hP1
  obtain ⟨hP, hD⟩ := PDq.join (w := [(v31, .inl (cA 0, 400, .inl fc)), (v33, .inl (cA 0, 11, .inl fq)), (v35, .inl (cA 4, 400, .inl fk)), (oX10 w0 v0 v1 v2 v3 v4 g5 g6 (nI ed) g8 v9 (nI nb) g11 g12 v13 g14 g15 g16 g17 g18 g19 g20 g21 g22 g23 g24 g25 g26 v27 v28 v29 v30 v31 v32 v33 v34 v35 v36 v37 (nI ol)), (v0, .inl (cA 0, 326, .inl fs))]) 3 hP hD [0, 1] [2, 3, 4] rfl rfl (by decide) (by decide) hk1 hFc hP1 hD1 rfl
  generalize H1 = H at hP hS ⊢
  refine lv_istore_n (lv' := [(1, .int rn1), (0, .ref w0)]) hx hb dX10_becomeDue_4 rfl hl (by decide) rfl (fun ls hl => ?_)
  refine lv_iconst (v := 0) hx hb dX10_becomeDue_5 (by decide) ?_
  refine lv_istore_n (lv' := [(2, .int 0), (1, .int rn1), (0, .ref w0)]) hx hb dX10_becomeDue_6 rfl hl (by decide) rfl (fun ls hl => ?_)
  have loop1 : ∀ (n1 i1 : Nat) (f2_1 : Nat → Int32) (f4_1 : Nat → Int32) (H : Heap) (locs : List Loc) (ls : Array Slot), i1 + n1 = cn → RI cn pq en dy f4_1 → Bit 400 f2_1 → va_P D vwCl [(v31, .inl (cA 0, 400, .inl fc)), (v33, .inl (cA 0, 11, .inl fq)), (v35, .inl (cA 4, 400, .inl f2_1)), (oX10 w0 v0 v1 v2 v3 v4 g5 g6 (nI ed) g8 v9 (nI nb) g11 g12 v13 g14 g15 g16 g17 g18 g19 g20 g21 g22 g23 g24 g25 g26 v27 v28 v29 v30 v31 v32 v33 v34 v35 v36 v37 (nI ol)), (v0, .inl (cA 0, 326, .inl f4_1))] H → va_D A [(v31, .inl (cA 0, 400, .inl fc)), (v33, .inl (cA 0, 11, .inl fq)), (v35, .inl (cA 4, 400, .inl f2_1)), (oX10 w0 v0 v1 v2 v3 v4 g5 g6 (nI ed) g8 v9 (nI nb) g11 g12 v13 g14 g15 g16 g17 g18 g19 g20 g21 g22 g23 g24 g25 g26 v27 v28 v29 v30 v31 v32 v33 v34 v35 v36 v37 (nI ol)), (v0, .inl (cA 0, 326, .inl f4_1))] → va_S A s.heap H locs → lv_has ls 3 [(2, .int (nI i1)), (1, .int rn1), (0, .ref w0)] → W p l e (headSpec wsX10_becomeDue ({ frames := 3, cells := 0, slots := 0, locals := 75 } : Room)).room s m ([.ref w0] : List Value).toArray below meth c H locs 0 0 (MQ below (va_Qv (fun _ : Unit => True) (fun (_ : Unit) t => ∃ zs : Nat → Int32, ∃ zk : Nat → Int32, Bit 400 zk ∧ RI cn pq en dy zs ∧ Wq D A [(oX10 w0 v0 v1 v2 v3 v4 g5 g6 (nI ed) g8 v9 (nI nb) g11 g12 v13 g14 g15 g16 g17 g18 g19 g20 g21 g22 g23 g24 g25 g26 v27 v28 v29 v30 v31 v32 v33 v34 v35 v36 v37 (nI ol)), (v0, .inl (cA 0, 326, .inl zs)), (v31, .inl (cA 0, 400, .inl fc)), (v33, .inl (cA 0, 11, .inl fq)), (v35, .inl (cA 4, 400, .inl zk))] t) A) ([.ref w0] : List Value).toArray s 0 0 A) (F0 m 7 ls []) := by
    intro n1
    induction n1 with
    | zero =>
      intro i1 f2_1 f4_1 H locs ls hi1 hf0_1 hf1_1 hP hD hS hl
      obtain rfl : cn = i1 := by omega
      refine lv_iload_n hx hb dX10_becomeDue_7 rfl (lv_at hl 0 rfl) ?_
      refine lv_aload_n hx hb dX10_becomeDue_8 rfl (lv_at hl 2 rfl) ?_
      refine va_get (D := D) (ci := 11) (v := .ref v0) (C := RX10) (T := TX10) (N := 39) hx hb hts inX10 hown hK hP 3 rfl rfl 0 (by decide) (hts (.fieldLink RX10 7 "EscrowDeskModel" "s" "[I") (by decide +kernel)) (fun _ h9 => h9) rfl dX10_becomeDue_9 ?_
      refine lv_bipush (v := 13) hx hb dX10_becomeDue_12 (by decide) ?_
      refine va_iald hx hb hK hP 4 0 rfl rfl (vp_in_iff.mpr (by decide)) dX10_becomeDue_14 ?_
      refine lv_topi (fun yn2 eyn2 => ?_)
      obtain rfl : yn2 = (nI cn) := eyn2.trans hf0_1.1
      refine lv_icmp_ge (tgt := 74) hx hb dX10_becomeDue_15 (by decide) (fun c3 => ?_) (fun c9 => absurd (nI_le (a := cn) (b := cn) (show cn ≤ cn by omega) (by omega)) c9)
      obtain ⟨hP9, hD9⟩ := PDq.sub (ws' := [(oX10 w0 v0 v1 v2 v3 v4 g5 g6 (nI ed) g8 v9 (nI nb) g11 g12 v13 g14 g15 g16 g17 g18 g19 g20 g21 g22 g23 g24 g25 g26 v27 v28 v29 v30 v31 v32 v33 v34 v35 v36 v37 (nI ol)), (v0, .inl (cA 0, 326, .inl f4_1)), (v31, .inl (cA 0, 400, .inl fc)), (v33, .inl (cA 0, 11, .inl fq)), (v35, .inl (cA 4, 400, .inl f2_1))]) hP hD [3, 4, 0, 1, 2] (by decide) rfl
      refine W.widen (k := 0) (n := 0) (Nat.le_of_ble_eq_true rfl) (Nat.le_of_ble_eq_true rfl) ?_
      exact (W.vret hx hb hr (fun t ht hW => ⟨⟨(), rfl, trivial, f4_1, f2_1, hf1_1, hf0_1, by rw [ht]; exact hP9, hD9⟩, hS.F ht⟩) hS.2.2 dX10_becomeDue_74)
    | succ n1 ih1 =>
      intro i1 f2_1 f4_1 H locs ls hi1 hf0_1 hf1_1 hP hD hS hl
      refine lv_iload_n hx hb dX10_becomeDue_7 rfl (lv_at hl 0 rfl) ?_
      refine lv_aload_n hx hb dX10_becomeDue_8 rfl (lv_at hl 2 rfl) ?_
      refine va_get (D := D) (ci := 11) (v := .ref v0) (C := RX10) (T := TX10) (N := 39) hx hb hts inX10 hown hK hP 3 rfl rfl 0 (by decide) (hts (.fieldLink RX10 7 "EscrowDeskModel" "s" "[I") (by decide +kernel)) (fun _ h9 => h9) rfl dX10_becomeDue_9 ?_
      refine lv_bipush (v := 13) hx hb dX10_becomeDue_12 (by decide) ?_
      refine va_iald hx hb hK hP 4 0 rfl rfl (vp_in_iff.mpr (by decide)) dX10_becomeDue_14 ?_
      refine lv_topi (fun yn4 eyn4 => ?_)
      obtain rfl : yn4 = (nI cn) := eyn4.trans hf0_1.1
      refine lv_icmp_ge (tgt := 74) hx hb dX10_becomeDue_15 (by decide) (fun c9 => absurd c9 (nI_ge (a := i1) (b := cn) (show i1 < cn by omega) (by omega))) (fun c5 => ?_)
      refine lv_aload_n hx hb dX10_becomeDue_18 rfl (lv_at hl 2 rfl) ?_
      refine lv_iload_n hx hb dX10_becomeDue_19 rfl (lv_at hl 0 rfl) ?_
      refine lv_iconst (v := 2) hx hb dX10_becomeDue_20 (by decide) ?_
      obtain ⟨hPc, hDc, hFc⟩ := PDq.cut (wc := [(oX10 w0 v0 v1 v2 v3 v4 g5 g6 (nI ed) g8 v9 (nI nb) g11 g12 v13 g14 g15 g16 g17 g18 g19 g20 g21 g22 g23 g24 g25 g26 v27 v28 v29 v30 v31 v32 v33 v34 v35 v36 v37 (nI ol)), (v0, .inl (cA 0, 326, .inl f4_1))]) hP hD hS hA [3, 4] (by decide) rfl
      refine va_calli (va_runV (As := [.int (nI i1), .int 2]) (rest := []) ⟨hx, hb, hml, hown, hts⟩ (r_of l D cA sa w0 ed nb ol v0 v1 v2 v3 v4 v9 v13 v27 v28 v29 v30 v31 v32 v33 v34 v35 v36 v37 g8 g11 g12 g14 g15 g16 g17 g18 g19 g20 g21 g22 g23 g24 g26 g5 g6 g25 f4_1 i1 2 H.size (by omega) (by omega)) (cwV 2 hts gX10_becomeDue_X10_of rfl rfl rfl (by decide +kernel) ⟨(Nat.le_of_ble_eq_true rfl), (Nat.le_of_ble_eq_true rfl)⟩) ⟨Wd.blind, va_recv hK hPc (ci := 11) (q0 := 0) rfl rfl, fun U hU hW => ⟨rfl, Wd.call hPc hDc hK hC hZ hS hFc U hU hW⟩⟩ rfl rfl hl.1 rfl (lv_room (Nat.le_of_ble_eq_true rfl)) dX10_becomeDue_21 ⟨(Nat.le_of_ble_eq_true rfl), (Nat.le_of_ble_eq_true rfl)⟩) hS (fun q _ h => hFc q h) hFc (fun rn6 u t H1 locs ht hvm hw hB hz1 hk1 hS => ?_)
      obtain ⟨hP1, hD1⟩ := hB
      rw [ht] at hP1
      obtain ⟨hP, hD⟩ := PDq.join (w := [(v31, .inl (cA 0, 400, .inl fc)), (v33, .inl (cA 0, 11, .inl fq)), (v35, .inl (cA 4, 400, .inl f2_1)), (oX10 w0 v0 v1 v2 v3 v4 g5 g6 (nI ed) g8 v9 (nI nb) g11 g12 v13 g14 g15 g16 g17 g18 g19 g20 g21 g22 g23 g24 g25 g26 v27 v28 v29 v30 v31 v32 v33 v34 v35 v36 v37 (nI ol)), (v0, .inl (cA 0, 326, .inl f4_1))]) 3 hP hD [3, 4] [0, 1, 2] rfl rfl (by decide) (by decide) hk1 hFc hP1 hD1 rfl
      generalize H1 = H at hP hS ⊢
      obtain rfl : rn6 = (f4_1 (16 + 7 * i1 + 2)) := hw
      refine lv_if_ne (tgt := 68) hx hb dX10_becomeDue_24 (by decide) (fun c7 => ?_) (fun c7 => ?_)
      · skip
        refine lv_iinc (v := (nI (i1 + 1))) (lv' := [(2, .int (nI (i1 + 1))), (1, .int rn1), (0, .ref w0)]) hx hb dX10_becomeDue_68 hl (k := 0) rfl (nI_1 _) (by decide) rfl (fun ls hl => ?_)
        refine lv_goto (tgt := 7) hx hb dX10_becomeDue_71 (by decide) ?_
        obtain ⟨hP9, hD9⟩ := PDq.sub (ws' := [(v31, .inl (cA 0, 400, .inl fc)), (v33, .inl (cA 0, 11, .inl fq)), (v35, .inl (cA 4, 400, .inl f2_1)), (oX10 w0 v0 v1 v2 v3 v4 g5 g6 (nI ed) g8 v9 (nI nb) g11 g12 v13 g14 g15 g16 g17 g18 g19 g20 g21 g22 g23 g24 g25 g26 v27 v28 v29 v30 v31 v32 v33 v34 v35 v36 v37 (nI ol)), (v0, .inl (cA 0, 326, .inl f4_1))]) hP hD [0, 1, 2, 3, 4] (by decide) rfl
        exact ih1 (i1 + 1) f2_1 f4_1 H _ ls (by omega) hf0_1 hf1_1 hP9 hD9 hS (lv_sub hl [0, 1, 2] rfl)
      · skip
        refine lv_aload_n hx hb dX10_becomeDue_27 rfl (lv_at hl 2 rfl) ?_
        refine lv_iload_n hx hb dX10_becomeDue_28 rfl (lv_at hl 0 rfl) ?_
        refine lv_aload_n hx hb dX10_becomeDue_29 rfl (lv_at hl 2 rfl) ?_
        refine va_get (D := D) (ci := 11) (v := .ref v0) (C := RX10) (T := TX10) (N := 39) hx hb hts inX10 hown hK hP 3 rfl rfl 0 (by decide) (hts (.fieldLink RX10 7 "EscrowDeskModel" "s" "[I") (by decide +kernel)) (fun _ h9 => h9) rfl dX10_becomeDue_30 ?_
        refine lv_iconst (v := 4) hx hb dX10_becomeDue_33 (by decide) ?_
        refine va_iald hx hb hK hP 4 0 rfl rfl (vp_in_iff.mpr (by decide)) dX10_becomeDue_34 ?_
        refine lv_topi (fun yn8 eyn8 => ?_)
        obtain rfl : yn8 = (nI dy) := eyn8.trans hf0_1.2.2.2.1
        refine lv_aload_n hx hb dX10_becomeDue_35 rfl (lv_at hl 2 rfl) ?_
        refine va_get (D := D) (ci := 11) (v := .ref v0) (C := RX10) (T := TX10) (N := 39) hx hb hts inX10 hown hK hP 3 rfl rfl 0 (by decide) (hts (.fieldLink RX10 7 "EscrowDeskModel" "s" "[I") (by decide +kernel)) (fun _ h9 => h9) rfl dX10_becomeDue_36 ?_
        refine lv_bipush (v := 12) hx hb dX10_becomeDue_39 (by decide) ?_
        refine va_iald hx hb hK hP 4 0 rfl rfl (vp_in_iff.mpr (by decide)) dX10_becomeDue_41 ?_
        refine lv_topi (fun yn9 eyn9 => ?_)
        refine lv_iload_n hx hb dX10_becomeDue_42 rfl (lv_at hl 1 rfl) ?_
        obtain ⟨hPc, hDc, hFc⟩ := PDq.cut (wc := [(oX10 w0 v0 v1 v2 v3 v4 g5 g6 (nI ed) g8 v9 (nI nb) g11 g12 v13 g14 g15 g16 g17 g18 g19 g20 g21 g22 g23 g24 g25 g26 v27 v28 v29 v30 v31 v32 v33 v34 v35 v36 v37 (nI ol)), (v0, .inl (cA 0, 326, .inl f4_1)), (v31, .inl (cA 0, 400, .inl fc)), (v33, .inl (cA 0, 11, .inl fq)), (v35, .inl (cA 4, 400, .inl f2_1))]) hP hD hS hA [3, 4, 0, 1, 2] (by decide) rfl
        refine va_calli (va_runV (As := [.int (nI i1), .int (nI dy), .int yn9, .int rn1]) (rest := []) ⟨hx, hb, hml, hown, hts⟩ (r_holdsBy l D cA sa w0 ed nb ol v0 v1 v2 v3 v4 v9 v13 v27 v28 v29 v30 v31 v32 v33 v34 v35 v36 v37 g8 g11 g12 g14 g15 g16 g17 g18 g19 g20 g21 g22 g23 g24 g26 g5 g6 g25 cn pq en dy f4_1 fc fq f2_1 i1 (nI dy) yn9 rn1 H.size hcn hpq hen hdy hf0_1 hCW hf1_1 (by omega)) (cwV 4 hts gX10_becomeDue_X10_holdsBy rfl rfl rfl (by decide +kernel) ⟨(Nat.le_of_ble_eq_true rfl), (Nat.le_of_ble_eq_true rfl)⟩) ⟨Wd.blind, va_recv hK hPc (ci := 11) (q0 := 0) rfl rfl, fun U hU hW => ⟨rfl, Wd.call hPc hDc hK hC hZ hS hFc U hU hW⟩⟩ rfl rfl hl.1 rfl (lv_room (Nat.le_of_ble_eq_true rfl)) dX10_becomeDue_43 ⟨(Nat.le_of_ble_eq_true rfl), (Nat.le_of_ble_eq_true rfl)⟩) hS (fun q _ h => hFc q h) hFc (fun rn10 u t H1 locs ht hvm hw hB hz1 hk1 hS => ?_)
        obtain ⟨fn11, hn12, hP1, hD1⟩ := hB
        rw [ht] at hP1
        obtain ⟨hP, hD⟩ := PDq.join (w := [(oX10 w0 v0 v1 v2 v3 v4 g5 g6 (nI ed) g8 v9 (nI nb) g11 g12 v13 g14 g15 g16 g17 g18 g19 g20 g21 g22 g23 g24 g25 g26 v27 v28 v29 v30 v31 v32 v33 v34 v35 v36 v37 (nI ol)), (v0, .inl (cA 0, 326, .inl f4_1)), (v31, .inl (cA 0, 400, .inl fc)), (v33, .inl (cA 0, 11, .inl fq)), (v35, .inl (cA 4, 400, .inl fn11))]) 0 hP hD [3, 4, 0, 1, 2] [] rfl rfl (by decide) (by decide) hk1 hFc hP1 hD1 rfl
        generalize H1 = H at hP hS ⊢
        have hn13 := hw
        refine lv_if_eq (tgt := 68) hx hb dX10_becomeDue_46 (by decide) (fun c14 => ?_) (fun c14 => ?_)
        · skip
          refine lv_iinc (v := (nI (i1 + 1))) (lv' := [(2, .int (nI (i1 + 1))), (1, .int rn1), (0, .ref w0)]) hx hb dX10_becomeDue_68 hl (k := 0) rfl (nI_1 _) (by decide) rfl (fun ls hl => ?_)
          refine lv_goto (tgt := 7) hx hb dX10_becomeDue_71 (by decide) ?_
          obtain ⟨hP9, hD9⟩ := PDq.sub (ws' := [(v31, .inl (cA 0, 400, .inl fc)), (v33, .inl (cA 0, 11, .inl fq)), (v35, .inl (cA 4, 400, .inl fn11)), (oX10 w0 v0 v1 v2 v3 v4 g5 g6 (nI ed) g8 v9 (nI nb) g11 g12 v13 g14 g15 g16 g17 g18 g19 g20 g21 g22 g23 g24 g25 g26 v27 v28 v29 v30 v31 v32 v33 v34 v35 v36 v37 (nI ol)), (v0, .inl (cA 0, 326, .inl f4_1))]) hP hD [2, 3, 4, 0, 1] (by decide) rfl
          exact ih1 (i1 + 1) fn11 f4_1 H _ ls (by omega) hf0_1 hn12 hP9 hD9 hS (lv_sub hl [0, 1, 2] rfl)
        · skip
          refine lv_aload_n hx hb dX10_becomeDue_49 rfl (lv_at hl 2 rfl) ?_
          refine lv_iload_n hx hb dX10_becomeDue_50 rfl (lv_at hl 0 rfl) ?_
          refine lv_iconst (v := 2) hx hb dX10_becomeDue_51 (by decide) ?_
          refine lv_iconst (v := 1) hx hb dX10_becomeDue_52 (by decide) ?_
          obtain ⟨hPc, hDc, hFc⟩ := PDq.cut (wc := [(oX10 w0 v0 v1 v2 v3 v4 g5 g6 (nI ed) g8 v9 (nI nb) g11 g12 v13 g14 g15 g16 g17 g18 g19 g20 g21 g22 g23 g24 g25 g26 v27 v28 v29 v30 v31 v32 v33 v34 v35 v36 v37 (nI ol)), (v0, .inl (cA 0, 326, .inl f4_1))]) hP hD hS hA [0, 1] (by decide) rfl
          refine va_callv (va_runV (As := [.int (nI i1), .int 2, .int 1]) (rest := []) ⟨hx, hb, hml, hown, hts⟩ (r_set l D cA sa w0 ed nb ol v0 v1 v2 v3 v4 v9 v13 v27 v28 v29 v30 v31 v32 v33 v34 v35 v36 v37 g8 g11 g12 g14 g15 g16 g17 g18 g19 g20 g21 g22 g23 g24 g26 g5 g6 g25 cn pq en dy f4_1 i1 2 1 H.size hcn hpq hen hdy hf0_1 (by omega) (by omega)) (cwV 3 hts gX10_becomeDue_X10_set rfl rfl rfl (by decide +kernel) ⟨(Nat.le_of_ble_eq_true rfl), (Nat.le_of_ble_eq_true rfl)⟩) ⟨Wd.blind, va_recv hK hPc (ci := 11) (q0 := 0) rfl rfl, fun U hU hW => ⟨rfl, Wd.call hPc hDc hK hC hZ hS hFc U hU hW⟩⟩ rfl rfl hl.1 rfl (lv_room (Nat.le_of_ble_eq_true rfl)) dX10_becomeDue_53 ⟨(Nat.le_of_ble_eq_true rfl), (Nat.le_of_ble_eq_true rfl)⟩) hS (fun q _ h => hFc q h) hFc (fun u t H1 locs ht hvm hw hB hz1 hk1 hS => ?_)
          obtain ⟨fn15, hn16, hP1, hD1⟩ := hB
          rw [ht] at hP1
          obtain ⟨hP, hD⟩ := PDq.join (w := [(v31, .inl (cA 0, 400, .inl fc)), (v33, .inl (cA 0, 11, .inl fq)), (v35, .inl (cA 4, 400, .inl fn11)), (oX10 w0 v0 v1 v2 v3 v4 g5 g6 (nI ed) g8 v9 (nI nb) g11 g12 v13 g14 g15 g16 g17 g18 g19 g20 g21 g22 g23 g24 g25 g26 v27 v28 v29 v30 v31 v32 v33 v34 v35 v36 v37 (nI ol)), (v0, .inl (cA 0, 326, .inl fn15))]) 3 hP hD [0, 1] [2, 3, 4] rfl rfl (by decide) (by decide) hk1 hFc hP1 hD1 rfl
          generalize H1 = H at hP hS ⊢
          refine lv_aload_n hx hb dX10_becomeDue_56 rfl (lv_at hl 2 rfl) ?_
          refine lv_iload_n hx hb dX10_becomeDue_57 rfl (lv_at hl 0 rfl) ?_
          refine lv_iconst (v := 4) hx hb dX10_becomeDue_58 (by decide) ?_
          refine lv_aload_n hx hb dX10_becomeDue_59 rfl (lv_at hl 2 rfl) ?_
          refine va_get (D := D) (ci := 11) (v := .ref v0) (C := RX10) (T := TX10) (N := 39) hx hb hts inX10 hown hK hP 3 rfl rfl 0 (by decide) (hts (.fieldLink RX10 7 "EscrowDeskModel" "s" "[I") (by decide +kernel)) (fun _ h9 => h9) rfl dX10_becomeDue_60 ?_
          refine lv_iconst (v := 4) hx hb dX10_becomeDue_63 (by decide) ?_
          refine va_iald hx hb hK hP 4 0 rfl rfl (vp_in_iff.mpr (by decide)) dX10_becomeDue_64 ?_
          refine lv_topi (fun yn17 eyn17 => ?_)
          obtain rfl : yn17 = (nI dy) := eyn17.trans hn16.2.2.2.1
          obtain ⟨hPc, hDc, hFc⟩ := PDq.cut (wc := [(oX10 w0 v0 v1 v2 v3 v4 g5 g6 (nI ed) g8 v9 (nI nb) g11 g12 v13 g14 g15 g16 g17 g18 g19 g20 g21 g22 g23 g24 g25 g26 v27 v28 v29 v30 v31 v32 v33 v34 v35 v36 v37 (nI ol)), (v0, .inl (cA 0, 326, .inl fn15))]) hP hD hS hA [3, 4] (by decide) rfl
          refine va_callv (va_runV (As := [.int (nI i1), .int 4, .int (nI dy)]) (rest := []) ⟨hx, hb, hml, hown, hts⟩ (r_set l D cA sa w0 ed nb ol v0 v1 v2 v3 v4 v9 v13 v27 v28 v29 v30 v31 v32 v33 v34 v35 v36 v37 g8 g11 g12 g14 g15 g16 g17 g18 g19 g20 g21 g22 g23 g24 g26 g5 g6 g25 cn pq en dy fn15 i1 4 (nI dy) H.size hcn hpq hen hdy hn16 (by omega) (by omega)) (cwV 3 hts gX10_becomeDue_X10_set rfl rfl rfl (by decide +kernel) ⟨(Nat.le_of_ble_eq_true rfl), (Nat.le_of_ble_eq_true rfl)⟩) ⟨Wd.blind, va_recv hK hPc (ci := 11) (q0 := 0) rfl rfl, fun U hU hW => ⟨rfl, Wd.call hPc hDc hK hC hZ hS hFc U hU hW⟩⟩ rfl rfl hl.1 rfl (lv_room (Nat.le_of_ble_eq_true rfl)) dX10_becomeDue_65 ⟨(Nat.le_of_ble_eq_true rfl), (Nat.le_of_ble_eq_true rfl)⟩) hS (fun q _ h => hFc q h) hFc (fun u t H1 locs ht hvm hw hB hz1 hk1 hS => ?_)
          obtain ⟨fn18, hn19, hP1, hD1⟩ := hB
          rw [ht] at hP1
          obtain ⟨hP, hD⟩ := PDq.join (w := [(v31, .inl (cA 0, 400, .inl fc)), (v33, .inl (cA 0, 11, .inl fq)), (v35, .inl (cA 4, 400, .inl fn11)), (oX10 w0 v0 v1 v2 v3 v4 g5 g6 (nI ed) g8 v9 (nI nb) g11 g12 v13 g14 g15 g16 g17 g18 g19 g20 g21 g22 g23 g24 g25 g26 v27 v28 v29 v30 v31 v32 v33 v34 v35 v36 v37 (nI ol)), (v0, .inl (cA 0, 326, .inl fn18))]) 3 hP hD [3, 4] [0, 1, 2] rfl rfl (by decide) (by decide) hk1 hFc hP1 hD1 rfl
          generalize H1 = H at hP hS ⊢
          refine lv_iinc (v := (nI (i1 + 1))) (lv' := [(2, .int (nI (i1 + 1))), (1, .int rn1), (0, .ref w0)]) hx hb dX10_becomeDue_68 hl (k := 0) rfl (nI_1 _) (by decide) rfl (fun ls hl => ?_)
          refine lv_goto (tgt := 7) hx hb dX10_becomeDue_71 (by decide) ?_
          obtain ⟨hP9, hD9⟩ := PDq.sub (ws' := [(v31, .inl (cA 0, 400, .inl fc)), (v33, .inl (cA 0, 11, .inl fq)), (v35, .inl (cA 4, 400, .inl fn11)), (oX10 w0 v0 v1 v2 v3 v4 g5 g6 (nI ed) g8 v9 (nI nb) g11 g12 v13 g14 g15 g16 g17 g18 g19 g20 g21 g22 g23 g24 g25 g26 v27 v28 v29 v30 v31 v32 v33 v34 v35 v36 v37 (nI ol)), (v0, .inl (cA 0, 326, .inl fn18))]) hP hD [0, 1, 2, 3, 4] (by decide) rfl
          exact ih1 (i1 + 1) fn11 fn18 H _ ls (by omega) hn19 hn12 hP9 hD9 hS (lv_sub hl [0, 1, 2] rfl)
  obtain ⟨hP9, hD9⟩ := PDq.sub (ws' := [(v31, .inl (cA 0, 400, .inl fc)), (v33, .inl (cA 0, 11, .inl fq)), (v35, .inl (cA 4, 400, .inl fk)), (oX10 w0 v0 v1 v2 v3 v4 g5 g6 (nI ed) g8 v9 (nI nb) g11 g12 v13 g14 g15 g16 g17 g18 g19 g20 g21 g22 g23 g24 g25 g26 v27 v28 v29 v30 v31 v32 v33 v34 v35 v36 v37 (nI ol)), (v0, .inl (cA 0, 326, .inl fs))]) hP hD [0, 1, 2, 3, 4] (by decide) rfl
  exact loop1 (cn - 0) 0 fk fs _ _ ls (by omega) hri hbit hP9 hD9 hS (lv_sub hl [0, 1, 2] rfl)

set_option maxHeartbeats 4000000 in
set_option maxRecDepth 100000 in
/-- reference: dueBefore -/
theorem r_dueBefore (l : Launch) (D : va_G) (cA : Nat → ClassId) (sa : Nat → Nat) (w0 : Nat) (ed : Nat) (nb : Nat) (ol : Nat) (v0 : Nat) (v1 : Nat) (v2 : Nat) (v3 : Nat) (v4 : Nat) (v9 : Nat) (v13 : Nat) (v27 : Nat) (v28 : Nat) (v29 : Nat) (v30 : Nat) (v31 : Nat) (v32 : Nat) (v33 : Nat) (v34 : Nat) (v35 : Nat) (v36 : Nat) (v37 : Nat) (g8 : Int32) (g11 : Int32) (g12 : Int32) (g14 : Int32) (g15 : Int32) (g16 : Int32) (g17 : Int32) (g18 : Int32) (g19 : Int32) (g20 : Int32) (g21 : Int32) (g22 : Int32) (g23 : Int32) (g24 : Int32) (g26 : Int32) (g5 : Int64) (g6 : Int64) (g25 : Int64) (cn : Nat) (pq : Nat) (en : Nat) (dy : Nat) (fs : Nat → Int32) (mi : Nat) (sz : Nat) (hcn : cn ≤ 10) (hpq : pq ≤ 8) (hen : en ≤ 60) (hdy : dy ≤ 20000) (hri : RI cn pq en dy fs) (hmi9 : mi < cn) : Met l yX10_dueBefore wsX10_dueBefore ({ frames := 1, cells := 0, slots := 0, locals := 22 }) (va_Pc [.ref w0, .int (nI mi)] (Wd D cA sa [(oX10 w0 v0 v1 v2 v3 v4 g5 g6 (nI ed) g8 v9 (nI nb) g11 g12 v13 g14 g15 g16 g17 g18 g19 g20 g21 g22 g23 g24 g25 g26 v27 v28 v29 v30 v31 v32 v33 v34 v35 v36 v37 (nI ol)), (v0, .inl (cA 0, 326, .inl fs))] sz)) (va_Qi (fun (r : Int32) (_ : Unit) => ∃ n, n < cn ∧ r = nI n) (fun (_ : Unit) t => Wq D (va_A [(oX10 w0 v0 v1 v2 v3 v4 g5 g6 (nI ed) g8 v9 (nI nb) g11 g12 v13 g14 g15 g16 g17 g18 g19 g20 g21 g22 g23 g24 g25 g26 v27 v28 v29 v30 v31 v32 v33 v34 v35 v36 v37 (nI ol)), (v0, .inl (cA 0, 326, .inl fs))] sz) [(oX10 w0 v0 v1 v2 v3 v4 g5 g6 (nI ed) g8 v9 (nI nb) g11 g12 v13 g14 g15 g16 g17 g18 g19 g20 g21 g22 g23 g24 g25 g26 v27 v28 v29 v30 v31 v32 v33 v34 v35 v36 v37 (nI ol)), (v0, .inl (cA 0, 326, .inl fs))] t) (va_A [(oX10 w0 v0 v1 v2 v3 v4 g5 g6 (nI ed) g8 v9 (nI nb) g11 g12 v13 g14 g15 g16 g17 g18 g19 g20 g21 g22 g23 g24 g25 g26 v27 v28 v29 v30 v31 v32 v33 v34 v35 v36 v37 (nI ol)), (v0, .inl (cA 0, 326, .inl fs))] sz)) 0 0 (va_A [(oX10 w0 v0 v1 v2 v3 v4 g5 g6 (nI ed) g8 v9 (nI nb) g11 g12 v13 g14 g15 g16 g17 g18 g19 g20 g21 g22 g23 g24 g25 g26 v27 v28 v29 v30 v31 v32 v33 v34 v35 v36 v37 (nI ol)), (v0, .inl (cA 0, 326, .inl fs))] sz) := by
  refine Met.ofW (cc := cX10_dueBefore) (maxL := 5) (ret := (some .int)) (by decide) rfl ?_
  intro p e s m args below meth c s₁ B hml hv
  obtain ⟨rfl, hsz, hP, hK, hD0, hC, hZ⟩ := hv
  have hx := B.exec
  have hb := B.bytes
  have hr := B.returns
  have hts := atoms_spec (ws := wsX10_dueBefore) B.pre
  have hown : s.vm.findClass RX10 = some m.cls := findClass_of_methodNamed B.named
  have hlocks := B.notSynchronized
  subst hsz
  have hD := hD0.self (sz := s.heap.size)
  generalize hAe : va_A [(oX10 w0 v0 v1 v2 v3 v4 g5 g6 (nI ed) g8 v9 (nI nb) g11 g12 v13 g14 g15 g16 g17 g18 g19 g20 g21 g22 g23 g24 g25 g26 v27 v28 v29 v30 v31 v32 v33 v34 v35 v36 v37 (nI ol)), (v0, .inl (cA 0, 326, .inl fs))] s.heap.size = A at hD hZ ⊢
  have hA : ∀ q : Nat, s.heap.size ≤ q → A q := fun q h => by rw [← hAe]; exact Or.inr h
  have hS : va_S A s.heap s.heap [] := va_S.rf
  have hP : va_P D vwCl [(oX10 w0 v0 v1 v2 v3 v4 g5 g6 (nI ed) g8 v9 (nI nb) g11 g12 v13 g14 g15 g16 g17 g18 g19 g20 g21 g22 g23 g24 g25 g26 v27 v28 v29 v30 v31 v32 v33 v34 v35 v36 v37 (nI ol)), (v0, .inl (cA 0, 326, .inl fs))] s.heap := hP
  have hl := lv_entry ([.ref w0, .int (nI mi)]) (n := 5) (Nat.le_of_ble_eq_true rfl)
  rw [lg_entry_eq]
  generalize (lg_sl ([.ref w0, .int (nI mi)]) ++ List.replicate (5 - (lg_sl ([.ref w0, .int (nI mi)])).length) Slot.unset).toArray = ls at hl ⊢
  have hl : lv_has ls 5 [(0, .ref w0), (1, .int (nI mi))] := hl
  have inX10 : ∀ w ∈ u_ws RX10 TX10 39, w ∈ wsX10_dueBefore := by decide +kernel
  refine lv_iconst (v := 0) hx hb dX10_dueBefore_0 (by decide) ?_
  refine lv_istore_n (lv' := [(2, .int 0), (0, .ref w0), (1, .int (nI mi))]) hx hb dX10_dueBefore_1 rfl hl (by decide) rfl (fun ls hl => ?_)
  refine lv_iconst (v := 0) hx hb dX10_dueBefore_2 (by decide) ?_
  refine lv_istore_n (lv' := [(3, .int 0), (2, .int 0), (0, .ref w0), (1, .int (nI mi))]) hx hb dX10_dueBefore_3 rfl hl (by decide) rfl (fun ls hl => ?_)
  have loop1 : ∀ (n1 i1 : Nat) (nn : Nat) (H : Heap) (locs : List Loc) (ls : Array Slot), i1 + n1 = cn → nn ≤ i1 → i1 ≤ mi ∨ nn + 1 ≤ i1 → va_P D vwCl [(oX10 w0 v0 v1 v2 v3 v4 g5 g6 (nI ed) g8 v9 (nI nb) g11 g12 v13 g14 g15 g16 g17 g18 g19 g20 g21 g22 g23 g24 g25 g26 v27 v28 v29 v30 v31 v32 v33 v34 v35 v36 v37 (nI ol)), (v0, .inl (cA 0, 326, .inl fs))] H → va_D A [(oX10 w0 v0 v1 v2 v3 v4 g5 g6 (nI ed) g8 v9 (nI nb) g11 g12 v13 g14 g15 g16 g17 g18 g19 g20 g21 g22 g23 g24 g25 g26 v27 v28 v29 v30 v31 v32 v33 v34 v35 v36 v37 (nI ol)), (v0, .inl (cA 0, 326, .inl fs))] → va_S A s.heap H locs → lv_has ls 5 [(3, .int (nI i1)), (2, .int (nI nn)), (0, .ref w0), (1, .int (nI mi))] → W p l e (headSpec wsX10_dueBefore ({ frames := 1, cells := 0, slots := 0, locals := 22 } : Room)).room s m ([.ref w0, .int (nI mi)] : List Value).toArray below meth c H locs 0 0 (MQ below (va_Qi (fun (r : Int32) (_ : Unit) => ∃ n, n < cn ∧ r = nI n) (fun (_ : Unit) t => Wq D A [(oX10 w0 v0 v1 v2 v3 v4 g5 g6 (nI ed) g8 v9 (nI nb) g11 g12 v13 g14 g15 g16 g17 g18 g19 g20 g21 g22 g23 g24 g25 g26 v27 v28 v29 v30 v31 v32 v33 v34 v35 v36 v37 (nI ol)), (v0, .inl (cA 0, 326, .inl fs))] t) A) ([.ref w0, .int (nI mi)] : List Value).toArray s 0 0 A) (F0 m 4 ls []) := by
    intro n1
    induction n1 with
    | zero =>
      intro i1 nn H locs ls hi1 hv0_1 hv1_1 hP hD hS hl
      obtain rfl : cn = i1 := by omega
      refine lv_iload_n hx hb dX10_dueBefore_4 rfl (lv_at hl 0 rfl) ?_
      refine lv_aload_n hx hb dX10_dueBefore_5 rfl (lv_at hl 2 rfl) ?_
      refine va_get (D := D) (ci := 11) (v := .ref v0) (C := RX10) (T := TX10) (N := 39) hx hb hts inX10 hown hK hP 0 rfl rfl 0 (by decide) (hts (.fieldLink RX10 7 "EscrowDeskModel" "s" "[I") (by decide +kernel)) (fun _ h9 => h9) rfl dX10_dueBefore_6 ?_
      refine lv_bipush (v := 13) hx hb dX10_dueBefore_9 (by decide) ?_
      refine va_iald hx hb hK hP 1 0 rfl rfl (vp_in_iff.mpr (by decide)) dX10_dueBefore_11 ?_
      refine lv_topi (fun yn1 eyn1 => ?_)
      obtain rfl : yn1 = (nI cn) := eyn1.trans hri.1
      refine lv_icmp_ge (tgt := 90) hx hb dX10_dueBefore_12 (by decide) (fun c2 => ?_) (fun c9 => absurd (nI_le (a := cn) (b := cn) (show cn ≤ cn by omega) (by omega)) c9)
      refine lv_iload_n hx hb dX10_dueBefore_90 rfl (lv_at hl 1 rfl) ?_
      obtain ⟨hP9, hD9⟩ := PDq.sub (ws' := [(oX10 w0 v0 v1 v2 v3 v4 g5 g6 (nI ed) g8 v9 (nI nb) g11 g12 v13 g14 g15 g16 g17 g18 g19 g20 g21 g22 g23 g24 g25 g26 v27 v28 v29 v30 v31 v32 v33 v34 v35 v36 v37 (nI ol)), (v0, .inl (cA 0, 326, .inl fs))]) hP hD [0, 1] (by decide) rfl
      refine W.widen (k := 0) (n := 0) (Nat.le_of_ble_eq_true rfl) (Nat.le_of_ble_eq_true rfl) ?_
      exact (W.iret (v := (nI nn)) hx hb hr (fun t ht hW => ⟨⟨(nI nn), (), rfl, ⟨nn, by omega, rfl⟩, by rw [ht]; exact hP9, hD9⟩, hS.F ht⟩) hS.2.2 dX10_dueBefore_91)
    | succ n1 ih1 =>
      intro i1 nn H locs ls hi1 hv0_1 hv1_1 hP hD hS hl
      refine lv_iload_n hx hb dX10_dueBefore_4 rfl (lv_at hl 0 rfl) ?_
      refine lv_aload_n hx hb dX10_dueBefore_5 rfl (lv_at hl 2 rfl) ?_
      refine va_get (D := D) (ci := 11) (v := .ref v0) (C := RX10) (T := TX10) (N := 39) hx hb hts inX10 hown hK hP 0 rfl rfl 0 (by decide) (hts (.fieldLink RX10 7 "EscrowDeskModel" "s" "[I") (by decide +kernel)) (fun _ h9 => h9) rfl dX10_dueBefore_6 ?_
      refine lv_bipush (v := 13) hx hb dX10_dueBefore_9 (by decide) ?_
      refine va_iald hx hb hK hP 1 0 rfl rfl (vp_in_iff.mpr (by decide)) dX10_dueBefore_11 ?_
      refine lv_topi (fun yn3 eyn3 => ?_)
      obtain rfl : yn3 = (nI cn) := eyn3.trans hri.1
      refine lv_icmp_ge (tgt := 90) hx hb dX10_dueBefore_12 (by decide) (fun c9 => absurd c9 (nI_ge (a := i1) (b := cn) (show i1 < cn by omega) (by omega))) (fun c4 => ?_)
      refine lv_aload_n hx hb dX10_dueBefore_15 rfl (lv_at hl 2 rfl) ?_
      refine lv_iload_n hx hb dX10_dueBefore_16 rfl (lv_at hl 0 rfl) ?_
      refine lv_bipush (v := 6) hx hb dX10_dueBefore_17 (by decide) ?_
      obtain ⟨hPc, hDc, hFc⟩ := PDq.cut (wc := [(oX10 w0 v0 v1 v2 v3 v4 g5 g6 (nI ed) g8 v9 (nI nb) g11 g12 v13 g14 g15 g16 g17 g18 g19 g20 g21 g22 g23 g24 g25 g26 v27 v28 v29 v30 v31 v32 v33 v34 v35 v36 v37 (nI ol)), (v0, .inl (cA 0, 326, .inl fs))]) hP hD hS hA [0, 1] (by decide) rfl
      refine va_calli (va_runV (As := [.int (nI i1), .int 6]) (rest := []) ⟨hx, hb, hml, hown, hts⟩ (r_of l D cA sa w0 ed nb ol v0 v1 v2 v3 v4 v9 v13 v27 v28 v29 v30 v31 v32 v33 v34 v35 v36 v37 g8 g11 g12 g14 g15 g16 g17 g18 g19 g20 g21 g22 g23 g24 g26 g5 g6 g25 fs i1 6 H.size (by omega) (by omega)) (cwV 2 hts gX10_dueBefore_X10_of rfl rfl rfl (by decide +kernel) ⟨(Nat.le_of_ble_eq_true rfl), (Nat.le_of_ble_eq_true rfl)⟩) ⟨Wd.blind, va_recv hK hPc (ci := 11) (q0 := 0) rfl rfl, fun U hU hW => ⟨rfl, Wd.call hPc hDc hK hC hZ hS hFc U hU hW⟩⟩ rfl rfl hl.1 rfl (lv_room (Nat.le_of_ble_eq_true rfl)) dX10_dueBefore_19 ⟨(Nat.le_of_ble_eq_true rfl), (Nat.le_of_ble_eq_true rfl)⟩) hS (fun q _ h => hFc q h) hFc (fun rn5 u t H1 locs ht hvm hw hB hz1 hk1 hS => ?_)
      obtain ⟨hP1, hD1⟩ := hB
      rw [ht] at hP1
      obtain ⟨hP, hD⟩ := PDq.join (w := [(oX10 w0 v0 v1 v2 v3 v4 g5 g6 (nI ed) g8 v9 (nI nb) g11 g12 v13 g14 g15 g16 g17 g18 g19 g20 g21 g22 g23 g24 g25 g26 v27 v28 v29 v30 v31 v32 v33 v34 v35 v36 v37 (nI ol)), (v0, .inl (cA 0, 326, .inl fs))]) 0 hP hD [0, 1] [] rfl rfl (by decide) (by decide) hk1 hFc hP1 hD1 rfl
      generalize H1 = H at hP hS ⊢
      obtain rfl : rn5 = (fs (16 + 7 * i1 + 6)) := hw
      refine lv_aload_n hx hb dX10_dueBefore_22 rfl (lv_at hl 2 rfl) ?_
      refine lv_iload_n hx hb dX10_dueBefore_23 rfl (lv_at hl 3 rfl) ?_
      refine lv_bipush (v := 6) hx hb dX10_dueBefore_24 (by decide) ?_
      obtain ⟨hPc, hDc, hFc⟩ := PDq.cut (wc := [(oX10 w0 v0 v1 v2 v3 v4 g5 g6 (nI ed) g8 v9 (nI nb) g11 g12 v13 g14 g15 g16 g17 g18 g19 g20 g21 g22 g23 g24 g25 g26 v27 v28 v29 v30 v31 v32 v33 v34 v35 v36 v37 (nI ol)), (v0, .inl (cA 0, 326, .inl fs))]) hP hD hS hA [0, 1] (by decide) rfl
      refine va_calli (va_runV (As := [.int (nI mi), .int 6]) (rest := [.int (fs (16 + 7 * i1 + 6))]) ⟨hx, hb, hml, hown, hts⟩ (r_of l D cA sa w0 ed nb ol v0 v1 v2 v3 v4 v9 v13 v27 v28 v29 v30 v31 v32 v33 v34 v35 v36 v37 g8 g11 g12 g14 g15 g16 g17 g18 g19 g20 g21 g22 g23 g24 g26 g5 g6 g25 fs mi 6 H.size (by omega) (by omega)) (cwV 2 hts gX10_dueBefore_X10_of rfl rfl rfl (by decide +kernel) ⟨(Nat.le_of_ble_eq_true rfl), (Nat.le_of_ble_eq_true rfl)⟩) ⟨Wd.blind, va_recv hK hPc (ci := 11) (q0 := 0) rfl rfl, fun U hU hW => ⟨rfl, Wd.call hPc hDc hK hC hZ hS hFc U hU hW⟩⟩ rfl rfl hl.1 rfl (lv_room (Nat.le_of_ble_eq_true rfl)) dX10_dueBefore_26 ⟨(Nat.le_of_ble_eq_true rfl), (Nat.le_of_ble_eq_true rfl)⟩) hS (fun q _ h => hFc q h) hFc (fun rn6 u t H1 locs ht hvm hw hB hz1 hk1 hS => ?_)
      obtain ⟨hP1, hD1⟩ := hB
      rw [ht] at hP1
      obtain ⟨hP, hD⟩ := PDq.join (w := [(oX10 w0 v0 v1 v2 v3 v4 g5 g6 (nI ed) g8 v9 (nI nb) g11 g12 v13 g14 g15 g16 g17 g18 g19 g20 g21 g22 g23 g24 g25 g26 v27 v28 v29 v30 v31 v32 v33 v34 v35 v36 v37 (nI ol)), (v0, .inl (cA 0, 326, .inl fs))]) 0 hP hD [0, 1] [] rfl rfl (by decide) (by decide) hk1 hFc hP1 hD1 rfl
      generalize H1 = H at hP hS ⊢
      obtain rfl : rn6 = (fs (16 + 7 * mi + 6)) := hw
      refine lv_icmp_lt (tgt := 54) hx hb dX10_dueBefore_29 (by decide) (fun c7 => ?_) (fun c7 => ?_)
      · skip
        have hn8 : ¬ i1 = mi := fun q9 => by rw [q9] at c7; exact Int32.lt_irrefl c7
        refine lv_iconst (v := 1) hx hb dX10_dueBefore_54 (by decide) ?_
        refine lv_goto (tgt := 59) hx hb dX10_dueBefore_55 (by decide) ?_
        refine lv_istore (lv' := [(4, .int 1), (3, .int (nI i1)), (2, .int (nI nn)), (0, .ref w0), (1, .int (nI mi))]) hx hb dX10_dueBefore_59 hl (by decide) rfl (fun ls hl => ?_)
        refine lv_iload_n hx hb dX10_dueBefore_61 rfl (lv_at hl 2 rfl) ?_
        refine lv_aload_n hx hb dX10_dueBefore_62 rfl (lv_at hl 3 rfl) ?_
        refine lv_iload_n hx hb dX10_dueBefore_63 rfl (lv_at hl 1 rfl) ?_
        refine lv_iconst (v := 2) hx hb dX10_dueBefore_64 (by decide) ?_
        obtain ⟨hPc, hDc, hFc⟩ := PDq.cut (wc := [(oX10 w0 v0 v1 v2 v3 v4 g5 g6 (nI ed) g8 v9 (nI nb) g11 g12 v13 g14 g15 g16 g17 g18 g19 g20 g21 g22 g23 g24 g25 g26 v27 v28 v29 v30 v31 v32 v33 v34 v35 v36 v37 (nI ol)), (v0, .inl (cA 0, 326, .inl fs))]) hP hD hS hA [0, 1] (by decide) rfl
        refine va_calli (va_runV (As := [.int (nI i1), .int 2]) (rest := [.int (nI nn)]) ⟨hx, hb, hml, hown, hts⟩ (r_of l D cA sa w0 ed nb ol v0 v1 v2 v3 v4 v9 v13 v27 v28 v29 v30 v31 v32 v33 v34 v35 v36 v37 g8 g11 g12 g14 g15 g16 g17 g18 g19 g20 g21 g22 g23 g24 g26 g5 g6 g25 fs i1 2 H.size (by omega) (by omega)) (cwV 2 hts gX10_dueBefore_X10_of rfl rfl rfl (by decide +kernel) ⟨(Nat.le_of_ble_eq_true rfl), (Nat.le_of_ble_eq_true rfl)⟩) ⟨Wd.blind, va_recv hK hPc (ci := 11) (q0 := 0) rfl rfl, fun U hU hW => ⟨rfl, Wd.call hPc hDc hK hC hZ hS hFc U hU hW⟩⟩ rfl rfl hl.1 rfl (lv_room (Nat.le_of_ble_eq_true rfl)) dX10_dueBefore_65 ⟨(Nat.le_of_ble_eq_true rfl), (Nat.le_of_ble_eq_true rfl)⟩) hS (fun q _ h => hFc q h) hFc (fun rn9 u t H1 locs ht hvm hw hB hz1 hk1 hS => ?_)
        obtain ⟨hP1, hD1⟩ := hB
        rw [ht] at hP1
        obtain ⟨hP, hD⟩ := PDq.join (w := [(oX10 w0 v0 v1 v2 v3 v4 g5 g6 (nI ed) g8 v9 (nI nb) g11 g12 v13 g14 g15 g16 g17 g18 g19 g20 g21 g22 g23 g24 g25 g26 v27 v28 v29 v30 v31 v32 v33 v34 v35 v36 v37 (nI ol)), (v0, .inl (cA 0, 326, .inl fs))]) 0 hP hD [0, 1] [] rfl rfl (by decide) (by decide) hk1 hFc hP1 hD1 rfl
        generalize H1 = H at hP hS ⊢
        obtain rfl : rn9 = (fs (16 + 7 * i1 + 2)) := hw
        refine lv_iconst (v := 1) hx hb dX10_dueBefore_68 (by decide) ?_
        refine lv_icmp_ne (tgt := 81) hx hb dX10_dueBefore_69 (by decide) (fun c10 => ?_) (fun c10 => ?_)
        · skip
          refine lv_iconst (v := 0) hx hb dX10_dueBefore_81 (by decide) ?_
          refine lv_iadd hx hb dX10_dueBefore_82 ?_
          refine lv_topi (fun yn11 eyn11 => ?_)
          obtain rfl : yn11 = (nI (nn + 0)) := eyn11.trans (nI_add nn 0)
          refine lv_istore_n (lv' := [(2, .int (nI (nn + 0))), (4, .int 1), (3, .int (nI i1)), (0, .ref w0), (1, .int (nI mi))]) hx hb dX10_dueBefore_83 rfl hl (by decide) rfl (fun ls hl => ?_)
          refine lv_iinc (v := (nI (i1 + 1))) (lv' := [(3, .int (nI (i1 + 1))), (2, .int (nI (nn + 0))), (4, .int 1), (0, .ref w0), (1, .int (nI mi))]) hx hb dX10_dueBefore_84 hl (k := 2) rfl (nI_1 _) (by decide) rfl (fun ls hl => ?_)
          refine lv_goto (tgt := 4) hx hb dX10_dueBefore_87 (by decide) ?_
          obtain ⟨hP9, hD9⟩ := PDq.sub (ws' := [(oX10 w0 v0 v1 v2 v3 v4 g5 g6 (nI ed) g8 v9 (nI nb) g11 g12 v13 g14 g15 g16 g17 g18 g19 g20 g21 g22 g23 g24 g25 g26 v27 v28 v29 v30 v31 v32 v33 v34 v35 v36 v37 (nI ol)), (v0, .inl (cA 0, 326, .inl fs))]) hP hD [0, 1] (by decide) rfl
          exact ih1 (i1 + 1) (nn + 0) H _ ls (by omega) (by omega) (by omega) hP9 hD9 hS (lv_sub hl [0, 1, 3, 4] rfl)
        · skip
          refine lv_iload hx hb dX10_dueBefore_72 (lv_at hl 0 rfl) ?_
          refine lv_if_eq (tgt := 81) hx hb dX10_dueBefore_74 (by decide) (fun c9 => absurd c9 (by decide)) (fun c12 => ?_)
          refine lv_iconst (v := 1) hx hb dX10_dueBefore_77 (by decide) ?_
          refine lv_goto (tgt := 82) hx hb dX10_dueBefore_78 (by decide) ?_
          refine lv_iadd hx hb dX10_dueBefore_82 ?_
          refine lv_topi (fun yn13 eyn13 => ?_)
          obtain rfl : yn13 = (nI (nn + 1)) := eyn13.trans (nI_add nn 1)
          refine lv_istore_n (lv' := [(2, .int (nI (nn + 1))), (4, .int 1), (3, .int (nI i1)), (0, .ref w0), (1, .int (nI mi))]) hx hb dX10_dueBefore_83 rfl hl (by decide) rfl (fun ls hl => ?_)
          refine lv_iinc (v := (nI (i1 + 1))) (lv' := [(3, .int (nI (i1 + 1))), (2, .int (nI (nn + 1))), (4, .int 1), (0, .ref w0), (1, .int (nI mi))]) hx hb dX10_dueBefore_84 hl (k := 2) rfl (nI_1 _) (by decide) rfl (fun ls hl => ?_)
          refine lv_goto (tgt := 4) hx hb dX10_dueBefore_87 (by decide) ?_
          obtain ⟨hP9, hD9⟩ := PDq.sub (ws' := [(oX10 w0 v0 v1 v2 v3 v4 g5 g6 (nI ed) g8 v9 (nI nb) g11 g12 v13 g14 g15 g16 g17 g18 g19 g20 g21 g22 g23 g24 g25 g26 v27 v28 v29 v30 v31 v32 v33 v34 v35 v36 v37 (nI ol)), (v0, .inl (cA 0, 326, .inl fs))]) hP hD [0, 1] (by decide) rfl
          exact ih1 (i1 + 1) (nn + 1) H _ ls (by omega) (by omega) (by omega) hP9 hD9 hS (lv_sub hl [0, 1, 3, 4] rfl)
      · skip
        refine lv_aload_n hx hb dX10_dueBefore_32 rfl (lv_at hl 2 rfl) ?_
        refine lv_iload_n hx hb dX10_dueBefore_33 rfl (lv_at hl 0 rfl) ?_
        refine lv_bipush (v := 6) hx hb dX10_dueBefore_34 (by decide) ?_
        obtain ⟨hPc, hDc, hFc⟩ := PDq.cut (wc := [(oX10 w0 v0 v1 v2 v3 v4 g5 g6 (nI ed) g8 v9 (nI nb) g11 g12 v13 g14 g15 g16 g17 g18 g19 g20 g21 g22 g23 g24 g25 g26 v27 v28 v29 v30 v31 v32 v33 v34 v35 v36 v37 (nI ol)), (v0, .inl (cA 0, 326, .inl fs))]) hP hD hS hA [0, 1] (by decide) rfl
        refine va_calli (va_runV (As := [.int (nI i1), .int 6]) (rest := []) ⟨hx, hb, hml, hown, hts⟩ (r_of l D cA sa w0 ed nb ol v0 v1 v2 v3 v4 v9 v13 v27 v28 v29 v30 v31 v32 v33 v34 v35 v36 v37 g8 g11 g12 g14 g15 g16 g17 g18 g19 g20 g21 g22 g23 g24 g26 g5 g6 g25 fs i1 6 H.size (by omega) (by omega)) (cwV 2 hts gX10_dueBefore_X10_of rfl rfl rfl (by decide +kernel) ⟨(Nat.le_of_ble_eq_true rfl), (Nat.le_of_ble_eq_true rfl)⟩) ⟨Wd.blind, va_recv hK hPc (ci := 11) (q0 := 0) rfl rfl, fun U hU hW => ⟨rfl, Wd.call hPc hDc hK hC hZ hS hFc U hU hW⟩⟩ rfl rfl hl.1 rfl (lv_room (Nat.le_of_ble_eq_true rfl)) dX10_dueBefore_36 ⟨(Nat.le_of_ble_eq_true rfl), (Nat.le_of_ble_eq_true rfl)⟩) hS (fun q _ h => hFc q h) hFc (fun rn14 u t H1 locs ht hvm hw hB hz1 hk1 hS => ?_)
        obtain ⟨hP1, hD1⟩ := hB
        rw [ht] at hP1
        obtain ⟨hP, hD⟩ := PDq.join (w := [(oX10 w0 v0 v1 v2 v3 v4 g5 g6 (nI ed) g8 v9 (nI nb) g11 g12 v13 g14 g15 g16 g17 g18 g19 g20 g21 g22 g23 g24 g25 g26 v27 v28 v29 v30 v31 v32 v33 v34 v35 v36 v37 (nI ol)), (v0, .inl (cA 0, 326, .inl fs))]) 0 hP hD [0, 1] [] rfl rfl (by decide) (by decide) hk1 hFc hP1 hD1 rfl
        generalize H1 = H at hP hS ⊢
        obtain rfl : rn14 = (fs (16 + 7 * i1 + 6)) := hw
        refine lv_aload_n hx hb dX10_dueBefore_39 rfl (lv_at hl 2 rfl) ?_
        refine lv_iload_n hx hb dX10_dueBefore_40 rfl (lv_at hl 3 rfl) ?_
        refine lv_bipush (v := 6) hx hb dX10_dueBefore_41 (by decide) ?_
        obtain ⟨hPc, hDc, hFc⟩ := PDq.cut (wc := [(oX10 w0 v0 v1 v2 v3 v4 g5 g6 (nI ed) g8 v9 (nI nb) g11 g12 v13 g14 g15 g16 g17 g18 g19 g20 g21 g22 g23 g24 g25 g26 v27 v28 v29 v30 v31 v32 v33 v34 v35 v36 v37 (nI ol)), (v0, .inl (cA 0, 326, .inl fs))]) hP hD hS hA [0, 1] (by decide) rfl
        refine va_calli (va_runV (As := [.int (nI mi), .int 6]) (rest := [.int (fs (16 + 7 * i1 + 6))]) ⟨hx, hb, hml, hown, hts⟩ (r_of l D cA sa w0 ed nb ol v0 v1 v2 v3 v4 v9 v13 v27 v28 v29 v30 v31 v32 v33 v34 v35 v36 v37 g8 g11 g12 g14 g15 g16 g17 g18 g19 g20 g21 g22 g23 g24 g26 g5 g6 g25 fs mi 6 H.size (by omega) (by omega)) (cwV 2 hts gX10_dueBefore_X10_of rfl rfl rfl (by decide +kernel) ⟨(Nat.le_of_ble_eq_true rfl), (Nat.le_of_ble_eq_true rfl)⟩) ⟨Wd.blind, va_recv hK hPc (ci := 11) (q0 := 0) rfl rfl, fun U hU hW => ⟨rfl, Wd.call hPc hDc hK hC hZ hS hFc U hU hW⟩⟩ rfl rfl hl.1 rfl (lv_room (Nat.le_of_ble_eq_true rfl)) dX10_dueBefore_43 ⟨(Nat.le_of_ble_eq_true rfl), (Nat.le_of_ble_eq_true rfl)⟩) hS (fun q _ h => hFc q h) hFc (fun rn15 u t H1 locs ht hvm hw hB hz1 hk1 hS => ?_)
        obtain ⟨hP1, hD1⟩ := hB
        rw [ht] at hP1
        obtain ⟨hP, hD⟩ := PDq.join (w := [(oX10 w0 v0 v1 v2 v3 v4 g5 g6 (nI ed) g8 v9 (nI nb) g11 g12 v13 g14 g15 g16 g17 g18 g19 g20 g21 g22 g23 g24 g25 g26 v27 v28 v29 v30 v31 v32 v33 v34 v35 v36 v37 (nI ol)), (v0, .inl (cA 0, 326, .inl fs))]) 0 hP hD [0, 1] [] rfl rfl (by decide) (by decide) hk1 hFc hP1 hD1 rfl
        generalize H1 = H at hP hS ⊢
        obtain rfl : rn15 = (fs (16 + 7 * mi + 6)) := hw
        refine lv_icmp_ne (tgt := 58) hx hb dX10_dueBefore_46 (by decide) (fun c16 => ?_) (fun c16 => ?_)
        · skip
          refine lv_iconst (v := 0) hx hb dX10_dueBefore_58 (by decide) ?_
          refine lv_istore (lv' := [(4, .int 0), (3, .int (nI i1)), (2, .int (nI nn)), (0, .ref w0), (1, .int (nI mi))]) hx hb dX10_dueBefore_59 hl (by decide) rfl (fun ls hl => ?_)
          refine lv_iload_n hx hb dX10_dueBefore_61 rfl (lv_at hl 2 rfl) ?_
          refine lv_aload_n hx hb dX10_dueBefore_62 rfl (lv_at hl 3 rfl) ?_
          refine lv_iload_n hx hb dX10_dueBefore_63 rfl (lv_at hl 1 rfl) ?_
          refine lv_iconst (v := 2) hx hb dX10_dueBefore_64 (by decide) ?_
          obtain ⟨hPc, hDc, hFc⟩ := PDq.cut (wc := [(oX10 w0 v0 v1 v2 v3 v4 g5 g6 (nI ed) g8 v9 (nI nb) g11 g12 v13 g14 g15 g16 g17 g18 g19 g20 g21 g22 g23 g24 g25 g26 v27 v28 v29 v30 v31 v32 v33 v34 v35 v36 v37 (nI ol)), (v0, .inl (cA 0, 326, .inl fs))]) hP hD hS hA [0, 1] (by decide) rfl
          refine va_calli (va_runV (As := [.int (nI i1), .int 2]) (rest := [.int (nI nn)]) ⟨hx, hb, hml, hown, hts⟩ (r_of l D cA sa w0 ed nb ol v0 v1 v2 v3 v4 v9 v13 v27 v28 v29 v30 v31 v32 v33 v34 v35 v36 v37 g8 g11 g12 g14 g15 g16 g17 g18 g19 g20 g21 g22 g23 g24 g26 g5 g6 g25 fs i1 2 H.size (by omega) (by omega)) (cwV 2 hts gX10_dueBefore_X10_of rfl rfl rfl (by decide +kernel) ⟨(Nat.le_of_ble_eq_true rfl), (Nat.le_of_ble_eq_true rfl)⟩) ⟨Wd.blind, va_recv hK hPc (ci := 11) (q0 := 0) rfl rfl, fun U hU hW => ⟨rfl, Wd.call hPc hDc hK hC hZ hS hFc U hU hW⟩⟩ rfl rfl hl.1 rfl (lv_room (Nat.le_of_ble_eq_true rfl)) dX10_dueBefore_65 ⟨(Nat.le_of_ble_eq_true rfl), (Nat.le_of_ble_eq_true rfl)⟩) hS (fun q _ h => hFc q h) hFc (fun rn17 u t H1 locs ht hvm hw hB hz1 hk1 hS => ?_)
          obtain ⟨hP1, hD1⟩ := hB
          rw [ht] at hP1
          obtain ⟨hP, hD⟩ := PDq.join (w := [(oX10 w0 v0 v1 v2 v3 v4 g5 g6 (nI ed) g8 v9 (nI nb) g11 g12 v13 g14 g15 g16 g17 g18 g19 g20 g21 g22 g23 g24 g25 g26 v27 v28 v29 v30 v31 v32 v33 v34 v35 v36 v37 (nI ol)), (v0, .inl (cA 0, 326, .inl fs))]) 0 hP hD [0, 1] [] rfl rfl (by decide) (by decide) hk1 hFc hP1 hD1 rfl
          generalize H1 = H at hP hS ⊢
          obtain rfl : rn17 = (fs (16 + 7 * i1 + 2)) := hw
          refine lv_iconst (v := 1) hx hb dX10_dueBefore_68 (by decide) ?_
          refine lv_icmp_ne (tgt := 81) hx hb dX10_dueBefore_69 (by decide) (fun c18 => ?_) (fun c18 => ?_)
          · skip
            refine lv_iconst (v := 0) hx hb dX10_dueBefore_81 (by decide) ?_
            refine lv_iadd hx hb dX10_dueBefore_82 ?_
            refine lv_topi (fun yn19 eyn19 => ?_)
            obtain rfl : yn19 = (nI (nn + 0)) := eyn19.trans (nI_add nn 0)
            refine lv_istore_n (lv' := [(2, .int (nI (nn + 0))), (4, .int 0), (3, .int (nI i1)), (0, .ref w0), (1, .int (nI mi))]) hx hb dX10_dueBefore_83 rfl hl (by decide) rfl (fun ls hl => ?_)
            refine lv_iinc (v := (nI (i1 + 1))) (lv' := [(3, .int (nI (i1 + 1))), (2, .int (nI (nn + 0))), (4, .int 0), (0, .ref w0), (1, .int (nI mi))]) hx hb dX10_dueBefore_84 hl (k := 2) rfl (nI_1 _) (by decide) rfl (fun ls hl => ?_)
            refine lv_goto (tgt := 4) hx hb dX10_dueBefore_87 (by decide) ?_
            obtain ⟨hP9, hD9⟩ := PDq.sub (ws' := [(oX10 w0 v0 v1 v2 v3 v4 g5 g6 (nI ed) g8 v9 (nI nb) g11 g12 v13 g14 g15 g16 g17 g18 g19 g20 g21 g22 g23 g24 g25 g26 v27 v28 v29 v30 v31 v32 v33 v34 v35 v36 v37 (nI ol)), (v0, .inl (cA 0, 326, .inl fs))]) hP hD [0, 1] (by decide) rfl
            exact ih1 (i1 + 1) (nn + 0) H _ ls (by omega) (by omega) (by omega) hP9 hD9 hS (lv_sub hl [0, 1, 3, 4] rfl)
          · skip
            refine lv_iload hx hb dX10_dueBefore_72 (lv_at hl 0 rfl) ?_
            refine lv_if_eq (tgt := 81) hx hb dX10_dueBefore_74 (by decide) (fun c20 => ?_) (fun c9 => absurd c9 (by decide))
            refine lv_iconst (v := 0) hx hb dX10_dueBefore_81 (by decide) ?_
            refine lv_iadd hx hb dX10_dueBefore_82 ?_
            refine lv_topi (fun yn21 eyn21 => ?_)
            obtain rfl : yn21 = (nI (nn + 0)) := eyn21.trans (nI_add nn 0)
            refine lv_istore_n (lv' := [(2, .int (nI (nn + 0))), (4, .int 0), (3, .int (nI i1)), (0, .ref w0), (1, .int (nI mi))]) hx hb dX10_dueBefore_83 rfl hl (by decide) rfl (fun ls hl => ?_)
            refine lv_iinc (v := (nI (i1 + 1))) (lv' := [(3, .int (nI (i1 + 1))), (2, .int (nI (nn + 0))), (4, .int 0), (0, .ref w0), (1, .int (nI mi))]) hx hb dX10_dueBefore_84 hl (k := 2) rfl (nI_1 _) (by decide) rfl (fun ls hl => ?_)
            refine lv_goto (tgt := 4) hx hb dX10_dueBefore_87 (by decide) ?_
            obtain ⟨hP9, hD9⟩ := PDq.sub (ws' := [(oX10 w0 v0 v1 v2 v3 v4 g5 g6 (nI ed) g8 v9 (nI nb) g11 g12 v13 g14 g15 g16 g17 g18 g19 g20 g21 g22 g23 g24 g25 g26 v27 v28 v29 v30 v31 v32 v33 v34 v35 v36 v37 (nI ol)), (v0, .inl (cA 0, 326, .inl fs))]) hP hD [0, 1] (by decide) rfl
            exact ih1 (i1 + 1) (nn + 0) H _ ls (by omega) (by omega) (by omega) hP9 hD9 hS (lv_sub hl [0, 1, 3, 4] rfl)
        · skip
          refine lv_iload_n hx hb dX10_dueBefore_49 rfl (lv_at hl 0 rfl) ?_
          refine lv_iload_n hx hb dX10_dueBefore_50 rfl (lv_at hl 3 rfl) ?_
          refine lv_icmp_ge (tgt := 58) hx hb dX10_dueBefore_51 (by decide) (fun c22 => ?_) (fun c22 => ?_)
          · skip
            have hn23 : mi ≤ i1 := (nI_leI (a := mi) (b := i1) (by omega) (by omega)).mp c22
            refine lv_iconst (v := 0) hx hb dX10_dueBefore_58 (by decide) ?_
            refine lv_istore (lv' := [(4, .int 0), (3, .int (nI i1)), (2, .int (nI nn)), (0, .ref w0), (1, .int (nI mi))]) hx hb dX10_dueBefore_59 hl (by decide) rfl (fun ls hl => ?_)
            refine lv_iload_n hx hb dX10_dueBefore_61 rfl (lv_at hl 2 rfl) ?_
            refine lv_aload_n hx hb dX10_dueBefore_62 rfl (lv_at hl 3 rfl) ?_
            refine lv_iload_n hx hb dX10_dueBefore_63 rfl (lv_at hl 1 rfl) ?_
            refine lv_iconst (v := 2) hx hb dX10_dueBefore_64 (by decide) ?_
            obtain ⟨hPc, hDc, hFc⟩ := PDq.cut (wc := [(oX10 w0 v0 v1 v2 v3 v4 g5 g6 (nI ed) g8 v9 (nI nb) g11 g12 v13 g14 g15 g16 g17 g18 g19 g20 g21 g22 g23 g24 g25 g26 v27 v28 v29 v30 v31 v32 v33 v34 v35 v36 v37 (nI ol)), (v0, .inl (cA 0, 326, .inl fs))]) hP hD hS hA [0, 1] (by decide) rfl
            refine va_calli (va_runV (As := [.int (nI i1), .int 2]) (rest := [.int (nI nn)]) ⟨hx, hb, hml, hown, hts⟩ (r_of l D cA sa w0 ed nb ol v0 v1 v2 v3 v4 v9 v13 v27 v28 v29 v30 v31 v32 v33 v34 v35 v36 v37 g8 g11 g12 g14 g15 g16 g17 g18 g19 g20 g21 g22 g23 g24 g26 g5 g6 g25 fs i1 2 H.size (by omega) (by omega)) (cwV 2 hts gX10_dueBefore_X10_of rfl rfl rfl (by decide +kernel) ⟨(Nat.le_of_ble_eq_true rfl), (Nat.le_of_ble_eq_true rfl)⟩) ⟨Wd.blind, va_recv hK hPc (ci := 11) (q0 := 0) rfl rfl, fun U hU hW => ⟨rfl, Wd.call hPc hDc hK hC hZ hS hFc U hU hW⟩⟩ rfl rfl hl.1 rfl (lv_room (Nat.le_of_ble_eq_true rfl)) dX10_dueBefore_65 ⟨(Nat.le_of_ble_eq_true rfl), (Nat.le_of_ble_eq_true rfl)⟩) hS (fun q _ h => hFc q h) hFc (fun rn24 u t H1 locs ht hvm hw hB hz1 hk1 hS => ?_)
            obtain ⟨hP1, hD1⟩ := hB
            rw [ht] at hP1
            obtain ⟨hP, hD⟩ := PDq.join (w := [(oX10 w0 v0 v1 v2 v3 v4 g5 g6 (nI ed) g8 v9 (nI nb) g11 g12 v13 g14 g15 g16 g17 g18 g19 g20 g21 g22 g23 g24 g25 g26 v27 v28 v29 v30 v31 v32 v33 v34 v35 v36 v37 (nI ol)), (v0, .inl (cA 0, 326, .inl fs))]) 0 hP hD [0, 1] [] rfl rfl (by decide) (by decide) hk1 hFc hP1 hD1 rfl
            generalize H1 = H at hP hS ⊢
            obtain rfl : rn24 = (fs (16 + 7 * i1 + 2)) := hw
            refine lv_iconst (v := 1) hx hb dX10_dueBefore_68 (by decide) ?_
            refine lv_icmp_ne (tgt := 81) hx hb dX10_dueBefore_69 (by decide) (fun c25 => ?_) (fun c25 => ?_)
            · skip
              refine lv_iconst (v := 0) hx hb dX10_dueBefore_81 (by decide) ?_
              refine lv_iadd hx hb dX10_dueBefore_82 ?_
              refine lv_topi (fun yn26 eyn26 => ?_)
              obtain rfl : yn26 = (nI (nn + 0)) := eyn26.trans (nI_add nn 0)
              refine lv_istore_n (lv' := [(2, .int (nI (nn + 0))), (4, .int 0), (3, .int (nI i1)), (0, .ref w0), (1, .int (nI mi))]) hx hb dX10_dueBefore_83 rfl hl (by decide) rfl (fun ls hl => ?_)
              refine lv_iinc (v := (nI (i1 + 1))) (lv' := [(3, .int (nI (i1 + 1))), (2, .int (nI (nn + 0))), (4, .int 0), (0, .ref w0), (1, .int (nI mi))]) hx hb dX10_dueBefore_84 hl (k := 2) rfl (nI_1 _) (by decide) rfl (fun ls hl => ?_)
              refine lv_goto (tgt := 4) hx hb dX10_dueBefore_87 (by decide) ?_
              obtain ⟨hP9, hD9⟩ := PDq.sub (ws' := [(oX10 w0 v0 v1 v2 v3 v4 g5 g6 (nI ed) g8 v9 (nI nb) g11 g12 v13 g14 g15 g16 g17 g18 g19 g20 g21 g22 g23 g24 g25 g26 v27 v28 v29 v30 v31 v32 v33 v34 v35 v36 v37 (nI ol)), (v0, .inl (cA 0, 326, .inl fs))]) hP hD [0, 1] (by decide) rfl
              exact ih1 (i1 + 1) (nn + 0) H _ ls (by omega) (by omega) (by omega) hP9 hD9 hS (lv_sub hl [0, 1, 3, 4] rfl)
            · skip
              refine lv_iload hx hb dX10_dueBefore_72 (lv_at hl 0 rfl) ?_
              refine lv_if_eq (tgt := 81) hx hb dX10_dueBefore_74 (by decide) (fun c27 => ?_) (fun c9 => absurd c9 (by decide))
              refine lv_iconst (v := 0) hx hb dX10_dueBefore_81 (by decide) ?_
              refine lv_iadd hx hb dX10_dueBefore_82 ?_
              refine lv_topi (fun yn28 eyn28 => ?_)
              obtain rfl : yn28 = (nI (nn + 0)) := eyn28.trans (nI_add nn 0)
              refine lv_istore_n (lv' := [(2, .int (nI (nn + 0))), (4, .int 0), (3, .int (nI i1)), (0, .ref w0), (1, .int (nI mi))]) hx hb dX10_dueBefore_83 rfl hl (by decide) rfl (fun ls hl => ?_)
              refine lv_iinc (v := (nI (i1 + 1))) (lv' := [(3, .int (nI (i1 + 1))), (2, .int (nI (nn + 0))), (4, .int 0), (0, .ref w0), (1, .int (nI mi))]) hx hb dX10_dueBefore_84 hl (k := 2) rfl (nI_1 _) (by decide) rfl (fun ls hl => ?_)
              refine lv_goto (tgt := 4) hx hb dX10_dueBefore_87 (by decide) ?_
              obtain ⟨hP9, hD9⟩ := PDq.sub (ws' := [(oX10 w0 v0 v1 v2 v3 v4 g5 g6 (nI ed) g8 v9 (nI nb) g11 g12 v13 g14 g15 g16 g17 g18 g19 g20 g21 g22 g23 g24 g25 g26 v27 v28 v29 v30 v31 v32 v33 v34 v35 v36 v37 (nI ol)), (v0, .inl (cA 0, 326, .inl fs))]) hP hD [0, 1] (by decide) rfl
              exact ih1 (i1 + 1) (nn + 0) H _ ls (by omega) (by omega) (by omega) hP9 hD9 hS (lv_sub hl [0, 1, 3, 4] rfl)
          · skip
            have hn29 : i1 < mi := Nat.lt_of_not_le (fun h9 => c22 (nI_le (a := mi) (b := i1) h9 (by omega)))
            refine lv_iconst (v := 1) hx hb dX10_dueBefore_54 (by decide) ?_
            refine lv_goto (tgt := 59) hx hb dX10_dueBefore_55 (by decide) ?_
            refine lv_istore (lv' := [(4, .int 1), (3, .int (nI i1)), (2, .int (nI nn)), (0, .ref w0), (1, .int (nI mi))]) hx hb dX10_dueBefore_59 hl (by decide) rfl (fun ls hl => ?_)
            refine lv_iload_n hx hb dX10_dueBefore_61 rfl (lv_at hl 2 rfl) ?_
            refine lv_aload_n hx hb dX10_dueBefore_62 rfl (lv_at hl 3 rfl) ?_
            refine lv_iload_n hx hb dX10_dueBefore_63 rfl (lv_at hl 1 rfl) ?_
            refine lv_iconst (v := 2) hx hb dX10_dueBefore_64 (by decide) ?_
            obtain ⟨hPc, hDc, hFc⟩ := PDq.cut (wc := [(oX10 w0 v0 v1 v2 v3 v4 g5 g6 (nI ed) g8 v9 (nI nb) g11 g12 v13 g14 g15 g16 g17 g18 g19 g20 g21 g22 g23 g24 g25 g26 v27 v28 v29 v30 v31 v32 v33 v34 v35 v36 v37 (nI ol)), (v0, .inl (cA 0, 326, .inl fs))]) hP hD hS hA [0, 1] (by decide) rfl
            refine va_calli (va_runV (As := [.int (nI i1), .int 2]) (rest := [.int (nI nn)]) ⟨hx, hb, hml, hown, hts⟩ (r_of l D cA sa w0 ed nb ol v0 v1 v2 v3 v4 v9 v13 v27 v28 v29 v30 v31 v32 v33 v34 v35 v36 v37 g8 g11 g12 g14 g15 g16 g17 g18 g19 g20 g21 g22 g23 g24 g26 g5 g6 g25 fs i1 2 H.size (by omega) (by omega)) (cwV 2 hts gX10_dueBefore_X10_of rfl rfl rfl (by decide +kernel) ⟨(Nat.le_of_ble_eq_true rfl), (Nat.le_of_ble_eq_true rfl)⟩) ⟨Wd.blind, va_recv hK hPc (ci := 11) (q0 := 0) rfl rfl, fun U hU hW => ⟨rfl, Wd.call hPc hDc hK hC hZ hS hFc U hU hW⟩⟩ rfl rfl hl.1 rfl (lv_room (Nat.le_of_ble_eq_true rfl)) dX10_dueBefore_65 ⟨(Nat.le_of_ble_eq_true rfl), (Nat.le_of_ble_eq_true rfl)⟩) hS (fun q _ h => hFc q h) hFc (fun rn30 u t H1 locs ht hvm hw hB hz1 hk1 hS => ?_)
            obtain ⟨hP1, hD1⟩ := hB
            rw [ht] at hP1
            obtain ⟨hP, hD⟩ := PDq.join (w := [(oX10 w0 v0 v1 v2 v3 v4 g5 g6 (nI ed) g8 v9 (nI nb) g11 g12 v13 g14 g15 g16 g17 g18 g19 g20 g21 g22 g23 g24 g25 g26 v27 v28 v29 v30 v31 v32 v33 v34 v35 v36 v37 (nI ol)), (v0, .inl (cA 0, 326, .inl fs))]) 0 hP hD [0, 1] [] rfl rfl (by decide) (by decide) hk1 hFc hP1 hD1 rfl
            generalize H1 = H at hP hS ⊢
            obtain rfl : rn30 = (fs (16 + 7 * i1 + 2)) := hw
            refine lv_iconst (v := 1) hx hb dX10_dueBefore_68 (by decide) ?_
            refine lv_icmp_ne (tgt := 81) hx hb dX10_dueBefore_69 (by decide) (fun c31 => ?_) (fun c31 => ?_)
            · skip
              refine lv_iconst (v := 0) hx hb dX10_dueBefore_81 (by decide) ?_
              refine lv_iadd hx hb dX10_dueBefore_82 ?_
              refine lv_topi (fun yn32 eyn32 => ?_)
              obtain rfl : yn32 = (nI (nn + 0)) := eyn32.trans (nI_add nn 0)
              refine lv_istore_n (lv' := [(2, .int (nI (nn + 0))), (4, .int 1), (3, .int (nI i1)), (0, .ref w0), (1, .int (nI mi))]) hx hb dX10_dueBefore_83 rfl hl (by decide) rfl (fun ls hl => ?_)
              refine lv_iinc (v := (nI (i1 + 1))) (lv' := [(3, .int (nI (i1 + 1))), (2, .int (nI (nn + 0))), (4, .int 1), (0, .ref w0), (1, .int (nI mi))]) hx hb dX10_dueBefore_84 hl (k := 2) rfl (nI_1 _) (by decide) rfl (fun ls hl => ?_)
              refine lv_goto (tgt := 4) hx hb dX10_dueBefore_87 (by decide) ?_
              obtain ⟨hP9, hD9⟩ := PDq.sub (ws' := [(oX10 w0 v0 v1 v2 v3 v4 g5 g6 (nI ed) g8 v9 (nI nb) g11 g12 v13 g14 g15 g16 g17 g18 g19 g20 g21 g22 g23 g24 g25 g26 v27 v28 v29 v30 v31 v32 v33 v34 v35 v36 v37 (nI ol)), (v0, .inl (cA 0, 326, .inl fs))]) hP hD [0, 1] (by decide) rfl
              exact ih1 (i1 + 1) (nn + 0) H _ ls (by omega) (by omega) (by omega) hP9 hD9 hS (lv_sub hl [0, 1, 3, 4] rfl)
            · skip
              refine lv_iload hx hb dX10_dueBefore_72 (lv_at hl 0 rfl) ?_
              refine lv_if_eq (tgt := 81) hx hb dX10_dueBefore_74 (by decide) (fun c9 => absurd c9 (by decide)) (fun c33 => ?_)
              refine lv_iconst (v := 1) hx hb dX10_dueBefore_77 (by decide) ?_
              refine lv_goto (tgt := 82) hx hb dX10_dueBefore_78 (by decide) ?_
              refine lv_iadd hx hb dX10_dueBefore_82 ?_
              refine lv_topi (fun yn34 eyn34 => ?_)
              obtain rfl : yn34 = (nI (nn + 1)) := eyn34.trans (nI_add nn 1)
              refine lv_istore_n (lv' := [(2, .int (nI (nn + 1))), (4, .int 1), (3, .int (nI i1)), (0, .ref w0), (1, .int (nI mi))]) hx hb dX10_dueBefore_83 rfl hl (by decide) rfl (fun ls hl => ?_)
              refine lv_iinc (v := (nI (i1 + 1))) (lv' := [(3, .int (nI (i1 + 1))), (2, .int (nI (nn + 1))), (4, .int 1), (0, .ref w0), (1, .int (nI mi))]) hx hb dX10_dueBefore_84 hl (k := 2) rfl (nI_1 _) (by decide) rfl (fun ls hl => ?_)
              refine lv_goto (tgt := 4) hx hb dX10_dueBefore_87 (by decide) ?_
              obtain ⟨hP9, hD9⟩ := PDq.sub (ws' := [(oX10 w0 v0 v1 v2 v3 v4 g5 g6 (nI ed) g8 v9 (nI nb) g11 g12 v13 g14 g15 g16 g17 g18 g19 g20 g21 g22 g23 g24 g25 g26 v27 v28 v29 v30 v31 v32 v33 v34 v35 v36 v37 (nI ol)), (v0, .inl (cA 0, 326, .inl fs))]) hP hD [0, 1] (by decide) rfl
              exact ih1 (i1 + 1) (nn + 1) H _ ls (by omega) (by omega) (by omega) hP9 hD9 hS (lv_sub hl [0, 1, 3, 4] rfl)
  obtain ⟨hP9, hD9⟩ := PDq.sub (ws' := [(oX10 w0 v0 v1 v2 v3 v4 g5 g6 (nI ed) g8 v9 (nI nb) g11 g12 v13 g14 g15 g16 g17 g18 g19 g20 g21 g22 g23 g24 g25 g26 v27 v28 v29 v30 v31 v32 v33 v34 v35 v36 v37 (nI ol)), (v0, .inl (cA 0, 326, .inl fs))]) hP hD [0, 1] (by decide) rfl
  exact loop1 (cn - 0) 0 0 _ _ ls (by omega) (by omega) (by omega) hP9 hD9 hS (lv_sub hl [0, 1, 2, 3] rfl)

set_option maxHeartbeats 4000000 in
set_option maxRecDepth 100000 in
/-- reference: dueWith -/
theorem r_dueWith (l : Launch) (D : va_G) (cA : Nat → ClassId) (sa : Nat → Nat) (w0 : Nat) (ed : Nat) (nb : Nat) (ol : Nat) (v0 : Nat) (v1 : Nat) (v2 : Nat) (v3 : Nat) (v4 : Nat) (v9 : Nat) (v13 : Nat) (v27 : Nat) (v28 : Nat) (v29 : Nat) (v30 : Nat) (v31 : Nat) (v32 : Nat) (v33 : Nat) (v34 : Nat) (v35 : Nat) (v36 : Nat) (v37 : Nat) (g8 : Int32) (g11 : Int32) (g12 : Int32) (g14 : Int32) (g15 : Int32) (g16 : Int32) (g17 : Int32) (g18 : Int32) (g19 : Int32) (g20 : Int32) (g21 : Int32) (g22 : Int32) (g23 : Int32) (g24 : Int32) (g26 : Int32) (g5 : Int64) (g6 : Int64) (g25 : Int64) (cn : Nat) (pq : Nat) (en : Nat) (dy : Nat) (fs : Nat → Int32) (rk : Nat) (sz : Nat) (hcn : cn ≤ 10) (hpq : pq ≤ 8) (hen : en ≤ 60) (hdy : dy ≤ 20000) (hri : RI cn pq en dy fs) (hrk : rk < 2147483648) : Met l yX10_dueWith wsX10_dueWith ({ frames := 2, cells := 0, slots := 0, locals := 46 }) (va_Pc [.ref w0, .int (nI rk)] (Wd D cA sa [(oX10 w0 v0 v1 v2 v3 v4 g5 g6 (nI ed) g8 v9 (nI nb) g11 g12 v13 g14 g15 g16 g17 g18 g19 g20 g21 g22 g23 g24 g25 g26 v27 v28 v29 v30 v31 v32 v33 v34 v35 v36 v37 (nI ol)), (v0, .inl (cA 0, 326, .inl fs))] sz)) (va_Qi (fun (r : Int32) (_ : Unit) => r = -1 ∨ ∃ n, n < cn ∧ r = nI n ∧ rk < cn) (fun (_ : Unit) t => Wq D (va_A [(oX10 w0 v0 v1 v2 v3 v4 g5 g6 (nI ed) g8 v9 (nI nb) g11 g12 v13 g14 g15 g16 g17 g18 g19 g20 g21 g22 g23 g24 g25 g26 v27 v28 v29 v30 v31 v32 v33 v34 v35 v36 v37 (nI ol)), (v0, .inl (cA 0, 326, .inl fs))] sz) [(oX10 w0 v0 v1 v2 v3 v4 g5 g6 (nI ed) g8 v9 (nI nb) g11 g12 v13 g14 g15 g16 g17 g18 g19 g20 g21 g22 g23 g24 g25 g26 v27 v28 v29 v30 v31 v32 v33 v34 v35 v36 v37 (nI ol)), (v0, .inl (cA 0, 326, .inl fs))] t) (va_A [(oX10 w0 v0 v1 v2 v3 v4 g5 g6 (nI ed) g8 v9 (nI nb) g11 g12 v13 g14 g15 g16 g17 g18 g19 g20 g21 g22 g23 g24 g25 g26 v27 v28 v29 v30 v31 v32 v33 v34 v35 v36 v37 (nI ol)), (v0, .inl (cA 0, 326, .inl fs))] sz)) 0 0 (va_A [(oX10 w0 v0 v1 v2 v3 v4 g5 g6 (nI ed) g8 v9 (nI nb) g11 g12 v13 g14 g15 g16 g17 g18 g19 g20 g21 g22 g23 g24 g25 g26 v27 v28 v29 v30 v31 v32 v33 v34 v35 v36 v37 (nI ol)), (v0, .inl (cA 0, 326, .inl fs))] sz) := by
  refine Met.ofW (cc := cX10_dueWith) (maxL := 3) (ret := (some .int)) (by decide) rfl ?_
  intro p e s m args below meth c s₁ B hml hv
  obtain ⟨rfl, hsz, hP, hK, hD0, hC, hZ⟩ := hv
  have hx := B.exec
  have hb := B.bytes
  have hr := B.returns
  have hts := atoms_spec (ws := wsX10_dueWith) B.pre
  have hown : s.vm.findClass RX10 = some m.cls := findClass_of_methodNamed B.named
  have hlocks := B.notSynchronized
  subst hsz
  have hD := hD0.self (sz := s.heap.size)
  generalize hAe : va_A [(oX10 w0 v0 v1 v2 v3 v4 g5 g6 (nI ed) g8 v9 (nI nb) g11 g12 v13 g14 g15 g16 g17 g18 g19 g20 g21 g22 g23 g24 g25 g26 v27 v28 v29 v30 v31 v32 v33 v34 v35 v36 v37 (nI ol)), (v0, .inl (cA 0, 326, .inl fs))] s.heap.size = A at hD hZ ⊢
  have hA : ∀ q : Nat, s.heap.size ≤ q → A q := fun q h => by rw [← hAe]; exact Or.inr h
  have hS : va_S A s.heap s.heap [] := va_S.rf
  have hP : va_P D vwCl [(oX10 w0 v0 v1 v2 v3 v4 g5 g6 (nI ed) g8 v9 (nI nb) g11 g12 v13 g14 g15 g16 g17 g18 g19 g20 g21 g22 g23 g24 g25 g26 v27 v28 v29 v30 v31 v32 v33 v34 v35 v36 v37 (nI ol)), (v0, .inl (cA 0, 326, .inl fs))] s.heap := hP
  have hl := lv_entry ([.ref w0, .int (nI rk)]) (n := 3) (Nat.le_of_ble_eq_true rfl)
  rw [lg_entry_eq]
  generalize (lg_sl ([.ref w0, .int (nI rk)]) ++ List.replicate (3 - (lg_sl ([.ref w0, .int (nI rk)])).length) Slot.unset).toArray = ls at hl ⊢
  have hl : lv_has ls 3 [(0, .ref w0), (1, .int (nI rk))] := hl
  have inX10 : ∀ w ∈ u_ws RX10 TX10 39, w ∈ wsX10_dueWith := by decide +kernel
  refine lv_iconst (v := 0) hx hb dX10_dueWith_0 (by decide) ?_
  refine lv_istore_n (lv' := [(2, .int 0), (0, .ref w0), (1, .int (nI rk))]) hx hb dX10_dueWith_1 rfl hl (by decide) rfl (fun ls hl => ?_)
  have loop1 : ∀ (n1 i1 : Nat) (H : Heap) (locs : List Loc) (ls : Array Slot), i1 + n1 = cn → va_P D vwCl [(oX10 w0 v0 v1 v2 v3 v4 g5 g6 (nI ed) g8 v9 (nI nb) g11 g12 v13 g14 g15 g16 g17 g18 g19 g20 g21 g22 g23 g24 g25 g26 v27 v28 v29 v30 v31 v32 v33 v34 v35 v36 v37 (nI ol)), (v0, .inl (cA 0, 326, .inl fs))] H → va_D A [(oX10 w0 v0 v1 v2 v3 v4 g5 g6 (nI ed) g8 v9 (nI nb) g11 g12 v13 g14 g15 g16 g17 g18 g19 g20 g21 g22 g23 g24 g25 g26 v27 v28 v29 v30 v31 v32 v33 v34 v35 v36 v37 (nI ol)), (v0, .inl (cA 0, 326, .inl fs))] → va_S A s.heap H locs → lv_has ls 3 [(2, .int (nI i1)), (0, .ref w0), (1, .int (nI rk))] → W p l e (headSpec wsX10_dueWith ({ frames := 2, cells := 0, slots := 0, locals := 46 } : Room)).room s m ([.ref w0, .int (nI rk)] : List Value).toArray below meth c H locs 0 0 (MQ below (va_Qi (fun (r : Int32) (_ : Unit) => r = -1 ∨ ∃ n, n < cn ∧ r = nI n ∧ rk < cn) (fun (_ : Unit) t => Wq D A [(oX10 w0 v0 v1 v2 v3 v4 g5 g6 (nI ed) g8 v9 (nI nb) g11 g12 v13 g14 g15 g16 g17 g18 g19 g20 g21 g22 g23 g24 g25 g26 v27 v28 v29 v30 v31 v32 v33 v34 v35 v36 v37 (nI ol)), (v0, .inl (cA 0, 326, .inl fs))] t) A) ([.ref w0, .int (nI rk)] : List Value).toArray s 0 0 A) (F0 m 2 ls []) := by
    intro n1
    induction n1 with
    | zero =>
      intro i1 H locs ls hi1 hP hD hS hl
      obtain rfl : cn = i1 := by omega
      refine lv_iload_n hx hb dX10_dueWith_2 rfl (lv_at hl 0 rfl) ?_
      refine lv_aload_n hx hb dX10_dueWith_3 rfl (lv_at hl 1 rfl) ?_
      refine va_get (D := D) (ci := 11) (v := .ref v0) (C := RX10) (T := TX10) (N := 39) hx hb hts inX10 hown hK hP 0 rfl rfl 0 (by decide) (hts (.fieldLink RX10 7 "EscrowDeskModel" "s" "[I") (by decide +kernel)) (fun _ h9 => h9) rfl dX10_dueWith_4 ?_
      refine lv_bipush (v := 13) hx hb dX10_dueWith_7 (by decide) ?_
      refine va_iald hx hb hK hP 1 0 rfl rfl (vp_in_iff.mpr (by decide)) dX10_dueWith_9 ?_
      refine lv_topi (fun yn1 eyn1 => ?_)
      obtain rfl : yn1 = (nI cn) := eyn1.trans hri.1
      refine lv_icmp_ge (tgt := 40) hx hb dX10_dueWith_10 (by decide) (fun c2 => ?_) (fun c9 => absurd (nI_le (a := cn) (b := cn) (show cn ≤ cn by omega) (by omega)) c9)
      refine lv_iconst (v := (-1)) hx hb dX10_dueWith_40 (by decide) ?_
      obtain ⟨hP9, hD9⟩ := PDq.sub (ws' := [(oX10 w0 v0 v1 v2 v3 v4 g5 g6 (nI ed) g8 v9 (nI nb) g11 g12 v13 g14 g15 g16 g17 g18 g19 g20 g21 g22 g23 g24 g25 g26 v27 v28 v29 v30 v31 v32 v33 v34 v35 v36 v37 (nI ol)), (v0, .inl (cA 0, 326, .inl fs))]) hP hD [0, 1] (by decide) rfl
      refine W.widen (k := 0) (n := 0) (Nat.le_of_ble_eq_true rfl) (Nat.le_of_ble_eq_true rfl) ?_
      exact (W.iret (v := (-1)) hx hb hr (fun t ht hW => ⟨⟨(-1), (), rfl, Or.inl rfl, by rw [ht]; exact hP9, hD9⟩, hS.F ht⟩) hS.2.2 dX10_dueWith_41)
    | succ n1 ih1 =>
      intro i1 H locs ls hi1 hP hD hS hl
      refine lv_iload_n hx hb dX10_dueWith_2 rfl (lv_at hl 0 rfl) ?_
      refine lv_aload_n hx hb dX10_dueWith_3 rfl (lv_at hl 1 rfl) ?_
      refine va_get (D := D) (ci := 11) (v := .ref v0) (C := RX10) (T := TX10) (N := 39) hx hb hts inX10 hown hK hP 0 rfl rfl 0 (by decide) (hts (.fieldLink RX10 7 "EscrowDeskModel" "s" "[I") (by decide +kernel)) (fun _ h9 => h9) rfl dX10_dueWith_4 ?_
      refine lv_bipush (v := 13) hx hb dX10_dueWith_7 (by decide) ?_
      refine va_iald hx hb hK hP 1 0 rfl rfl (vp_in_iff.mpr (by decide)) dX10_dueWith_9 ?_
      refine lv_topi (fun yn3 eyn3 => ?_)
      obtain rfl : yn3 = (nI cn) := eyn3.trans hri.1
      refine lv_icmp_ge (tgt := 40) hx hb dX10_dueWith_10 (by decide) (fun c9 => absurd c9 (nI_ge (a := i1) (b := cn) (show i1 < cn by omega) (by omega))) (fun c4 => ?_)
      refine lv_aload_n hx hb dX10_dueWith_13 rfl (lv_at hl 1 rfl) ?_
      refine lv_iload_n hx hb dX10_dueWith_14 rfl (lv_at hl 0 rfl) ?_
      refine lv_iconst (v := 2) hx hb dX10_dueWith_15 (by decide) ?_
      obtain ⟨hPc, hDc, hFc⟩ := PDq.cut (wc := [(oX10 w0 v0 v1 v2 v3 v4 g5 g6 (nI ed) g8 v9 (nI nb) g11 g12 v13 g14 g15 g16 g17 g18 g19 g20 g21 g22 g23 g24 g25 g26 v27 v28 v29 v30 v31 v32 v33 v34 v35 v36 v37 (nI ol)), (v0, .inl (cA 0, 326, .inl fs))]) hP hD hS hA [0, 1] (by decide) rfl
      refine va_calli (va_runV (As := [.int (nI i1), .int 2]) (rest := []) ⟨hx, hb, hml, hown, hts⟩ (r_of l D cA sa w0 ed nb ol v0 v1 v2 v3 v4 v9 v13 v27 v28 v29 v30 v31 v32 v33 v34 v35 v36 v37 g8 g11 g12 g14 g15 g16 g17 g18 g19 g20 g21 g22 g23 g24 g26 g5 g6 g25 fs i1 2 H.size (by omega) (by omega)) (cwV 2 hts gX10_dueWith_X10_of rfl rfl rfl (by decide +kernel) ⟨(Nat.le_of_ble_eq_true rfl), (Nat.le_of_ble_eq_true rfl)⟩) ⟨Wd.blind, va_recv hK hPc (ci := 11) (q0 := 0) rfl rfl, fun U hU hW => ⟨rfl, Wd.call hPc hDc hK hC hZ hS hFc U hU hW⟩⟩ rfl rfl hl.1 rfl (lv_room (Nat.le_of_ble_eq_true rfl)) dX10_dueWith_16 ⟨(Nat.le_of_ble_eq_true rfl), (Nat.le_of_ble_eq_true rfl)⟩) hS (fun q _ h => hFc q h) hFc (fun rn5 u t H1 locs ht hvm hw hB hz1 hk1 hS => ?_)
      obtain ⟨hP1, hD1⟩ := hB
      rw [ht] at hP1
      obtain ⟨hP, hD⟩ := PDq.join (w := [(oX10 w0 v0 v1 v2 v3 v4 g5 g6 (nI ed) g8 v9 (nI nb) g11 g12 v13 g14 g15 g16 g17 g18 g19 g20 g21 g22 g23 g24 g25 g26 v27 v28 v29 v30 v31 v32 v33 v34 v35 v36 v37 (nI ol)), (v0, .inl (cA 0, 326, .inl fs))]) 0 hP hD [0, 1] [] rfl rfl (by decide) (by decide) hk1 hFc hP1 hD1 rfl
      generalize H1 = H at hP hS ⊢
      obtain rfl : rn5 = (fs (16 + 7 * i1 + 2)) := hw
      refine lv_iconst (v := 1) hx hb dX10_dueWith_19 (by decide) ?_
      refine lv_icmp_ne (tgt := 34) hx hb dX10_dueWith_20 (by decide) (fun c6 => ?_) (fun c6 => ?_)
      · skip
        refine lv_iinc (v := (nI (i1 + 1))) (lv' := [(2, .int (nI (i1 + 1))), (0, .ref w0), (1, .int (nI rk))]) hx hb dX10_dueWith_34 hl (k := 0) rfl (nI_1 _) (by decide) rfl (fun ls hl => ?_)
        refine lv_goto (tgt := 2) hx hb dX10_dueWith_37 (by decide) ?_
        obtain ⟨hP9, hD9⟩ := PDq.sub (ws' := [(oX10 w0 v0 v1 v2 v3 v4 g5 g6 (nI ed) g8 v9 (nI nb) g11 g12 v13 g14 g15 g16 g17 g18 g19 g20 g21 g22 g23 g24 g25 g26 v27 v28 v29 v30 v31 v32 v33 v34 v35 v36 v37 (nI ol)), (v0, .inl (cA 0, 326, .inl fs))]) hP hD [0, 1] (by decide) rfl
        exact ih1 (i1 + 1)  H _ ls (by omega) hP9 hD9 hS (lv_sub hl [0, 1, 2] rfl)
      · skip
        refine lv_aload_n hx hb dX10_dueWith_23 rfl (lv_at hl 1 rfl) ?_
        refine lv_iload_n hx hb dX10_dueWith_24 rfl (lv_at hl 0 rfl) ?_
        obtain ⟨hPc, hDc, hFc⟩ := PDq.cut (wc := [(oX10 w0 v0 v1 v2 v3 v4 g5 g6 (nI ed) g8 v9 (nI nb) g11 g12 v13 g14 g15 g16 g17 g18 g19 g20 g21 g22 g23 g24 g25 g26 v27 v28 v29 v30 v31 v32 v33 v34 v35 v36 v37 (nI ol)), (v0, .inl (cA 0, 326, .inl fs))]) hP hD hS hA [0, 1] (by decide) rfl
        refine va_calli (va_runV (As := [.int (nI i1)]) (rest := []) ⟨hx, hb, hml, hown, hts⟩ (r_dueBefore l D cA sa w0 ed nb ol v0 v1 v2 v3 v4 v9 v13 v27 v28 v29 v30 v31 v32 v33 v34 v35 v36 v37 g8 g11 g12 g14 g15 g16 g17 g18 g19 g20 g21 g22 g23 g24 g26 g5 g6 g25 cn pq en dy fs i1 H.size hcn hpq hen hdy hri (by omega)) (cwV 1 hts gX10_dueWith_X10_dueBefore rfl rfl rfl (by decide +kernel) ⟨(Nat.le_of_ble_eq_true rfl), (Nat.le_of_ble_eq_true rfl)⟩) ⟨Wd.blind, va_recv hK hPc (ci := 11) (q0 := 0) rfl rfl, fun U hU hW => ⟨rfl, Wd.call hPc hDc hK hC hZ hS hFc U hU hW⟩⟩ rfl rfl hl.1 rfl (lv_room (Nat.le_of_ble_eq_true rfl)) dX10_dueWith_25 ⟨(Nat.le_of_ble_eq_true rfl), (Nat.le_of_ble_eq_true rfl)⟩) hS (fun q _ h => hFc q h) hFc (fun rn7 u t H1 locs ht hvm hw hB hz1 hk1 hS => ?_)
        obtain ⟨hP1, hD1⟩ := hB
        rw [ht] at hP1
        obtain ⟨hP, hD⟩ := PDq.join (w := [(oX10 w0 v0 v1 v2 v3 v4 g5 g6 (nI ed) g8 v9 (nI nb) g11 g12 v13 g14 g15 g16 g17 g18 g19 g20 g21 g22 g23 g24 g25 g26 v27 v28 v29 v30 v31 v32 v33 v34 v35 v36 v37 (nI ol)), (v0, .inl (cA 0, 326, .inl fs))]) 0 hP hD [0, 1] [] rfl rfl (by decide) (by decide) hk1 hFc hP1 hD1 rfl
        generalize H1 = H at hP hS ⊢
        obtain ⟨kn8, hn9, hr9⟩ := hw
        subst hr9
        refine lv_iload_n hx hb dX10_dueWith_28 rfl (lv_at hl 2 rfl) ?_
        refine lv_icmp_ne (tgt := 34) hx hb dX10_dueWith_29 (by decide) (fun c10 => ?_) (fun c10 => ?_)
        · skip
          have hn11 : ¬ kn8 = rk := fun h9 => c10 (by rw [h9])
          refine lv_iinc (v := (nI (i1 + 1))) (lv' := [(2, .int (nI (i1 + 1))), (0, .ref w0), (1, .int (nI rk))]) hx hb dX10_dueWith_34 hl (k := 0) rfl (nI_1 _) (by decide) rfl (fun ls hl => ?_)
          refine lv_goto (tgt := 2) hx hb dX10_dueWith_37 (by decide) ?_
          obtain ⟨hP9, hD9⟩ := PDq.sub (ws' := [(oX10 w0 v0 v1 v2 v3 v4 g5 g6 (nI ed) g8 v9 (nI nb) g11 g12 v13 g14 g15 g16 g17 g18 g19 g20 g21 g22 g23 g24 g25 g26 v27 v28 v29 v30 v31 v32 v33 v34 v35 v36 v37 (nI ol)), (v0, .inl (cA 0, 326, .inl fs))]) hP hD [0, 1] (by decide) rfl
          exact ih1 (i1 + 1)  H _ ls (by omega) hP9 hD9 hS (lv_sub hl [0, 1, 2] rfl)
        · skip
          have hn12 : kn8 = rk := (nI_eq (a := kn8) (b := rk) (by omega) (by omega)).mp c10
          refine lv_iload_n hx hb dX10_dueWith_32 rfl (lv_at hl 0 rfl) ?_
          obtain ⟨hP9, hD9⟩ := PDq.sub (ws' := [(oX10 w0 v0 v1 v2 v3 v4 g5 g6 (nI ed) g8 v9 (nI nb) g11 g12 v13 g14 g15 g16 g17 g18 g19 g20 g21 g22 g23 g24 g25 g26 v27 v28 v29 v30 v31 v32 v33 v34 v35 v36 v37 (nI ol)), (v0, .inl (cA 0, 326, .inl fs))]) hP hD [0, 1] (by decide) rfl
          refine W.widen (k := 0) (n := 0) (Nat.le_of_ble_eq_true rfl) (Nat.le_of_ble_eq_true rfl) ?_
          exact (W.iret (v := (nI i1)) hx hb hr (fun t ht hW => ⟨⟨(nI i1), (), rfl, Or.inr ⟨i1, by omega, rfl, by omega⟩, by rw [ht]; exact hP9, hD9⟩, hS.F ht⟩) hS.2.2 dX10_dueWith_33)
  obtain ⟨hP9, hD9⟩ := PDq.sub (ws' := [(oX10 w0 v0 v1 v2 v3 v4 g5 g6 (nI ed) g8 v9 (nI nb) g11 g12 v13 g14 g15 g16 g17 g18 g19 g20 g21 g22 g23 g24 g25 g26 v27 v28 v29 v30 v31 v32 v33 v34 v35 v36 v37 (nI ol)), (v0, .inl (cA 0, 326, .inl fs))]) hP hD [0, 1] (by decide) rfl
  exact loop1 (cn - 0) 0  _ _ ls (by omega) hP9 hD9 hS (lv_sub hl [0, 1, 2] rfl)

set_option maxHeartbeats 4000000 in
set_option maxRecDepth 100000 in
/-- reference: dueWith -/
theorem r_dueWithA (l : Launch) (D : va_G) (cA : Nat → ClassId) (sa : Nat → Nat) (w0 : Nat) (ed : Nat) (nb : Nat) (ol : Nat) (v0 : Nat) (v1 : Nat) (v2 : Nat) (v3 : Nat) (v4 : Nat) (v9 : Nat) (v13 : Nat) (v27 : Nat) (v28 : Nat) (v29 : Nat) (v30 : Nat) (v31 : Nat) (v32 : Nat) (v33 : Nat) (v34 : Nat) (v35 : Nat) (v36 : Nat) (v37 : Nat) (g8 : Int32) (g11 : Int32) (g12 : Int32) (g14 : Int32) (g15 : Int32) (g16 : Int32) (g17 : Int32) (g18 : Int32) (g19 : Int32) (g20 : Int32) (g21 : Int32) (g22 : Int32) (g23 : Int32) (g24 : Int32) (g26 : Int32) (g5 : Int64) (g6 : Int64) (g25 : Int64) (cn : Nat) (pq : Nat) (en : Nat) (dy : Nat) (fs : Nat → Int32) (a : Int32) (sz : Nat) (hcn : cn ≤ 10) (hpq : pq ≤ 8) (hen : en ≤ 60) (hdy : dy ≤ 20000) (hri : RI cn pq en dy fs) : Met l yX10_dueWith wsX10_dueWith ({ frames := 2, cells := 0, slots := 0, locals := 46 }) (va_Pc [.ref w0, .int a] (Wd D cA sa [(oX10 w0 v0 v1 v2 v3 v4 g5 g6 (nI ed) g8 v9 (nI nb) g11 g12 v13 g14 g15 g16 g17 g18 g19 g20 g21 g22 g23 g24 g25 g26 v27 v28 v29 v30 v31 v32 v33 v34 v35 v36 v37 (nI ol)), (v0, .inl (cA 0, 326, .inl fs))] sz)) (va_Qi (fun (r : Int32) (_ : Unit) => r = -1 ∨ ∃ n, n < cn ∧ r = nI n) (fun (_ : Unit) t => Wq D (va_A [(oX10 w0 v0 v1 v2 v3 v4 g5 g6 (nI ed) g8 v9 (nI nb) g11 g12 v13 g14 g15 g16 g17 g18 g19 g20 g21 g22 g23 g24 g25 g26 v27 v28 v29 v30 v31 v32 v33 v34 v35 v36 v37 (nI ol)), (v0, .inl (cA 0, 326, .inl fs))] sz) [(oX10 w0 v0 v1 v2 v3 v4 g5 g6 (nI ed) g8 v9 (nI nb) g11 g12 v13 g14 g15 g16 g17 g18 g19 g20 g21 g22 g23 g24 g25 g26 v27 v28 v29 v30 v31 v32 v33 v34 v35 v36 v37 (nI ol)), (v0, .inl (cA 0, 326, .inl fs))] t) (va_A [(oX10 w0 v0 v1 v2 v3 v4 g5 g6 (nI ed) g8 v9 (nI nb) g11 g12 v13 g14 g15 g16 g17 g18 g19 g20 g21 g22 g23 g24 g25 g26 v27 v28 v29 v30 v31 v32 v33 v34 v35 v36 v37 (nI ol)), (v0, .inl (cA 0, 326, .inl fs))] sz)) 0 0 (va_A [(oX10 w0 v0 v1 v2 v3 v4 g5 g6 (nI ed) g8 v9 (nI nb) g11 g12 v13 g14 g15 g16 g17 g18 g19 g20 g21 g22 g23 g24 g25 g26 v27 v28 v29 v30 v31 v32 v33 v34 v35 v36 v37 (nI ol)), (v0, .inl (cA 0, 326, .inl fs))] sz) := by
  refine Met.ofW (cc := cX10_dueWith) (maxL := 3) (ret := (some .int)) (by decide) rfl ?_
  intro p e s m args below meth c s₁ B hml hv
  obtain ⟨rfl, hsz, hP, hK, hD0, hC, hZ⟩ := hv
  have hx := B.exec
  have hb := B.bytes
  have hr := B.returns
  have hts := atoms_spec (ws := wsX10_dueWith) B.pre
  have hown : s.vm.findClass RX10 = some m.cls := findClass_of_methodNamed B.named
  have hlocks := B.notSynchronized
  subst hsz
  have hD := hD0.self (sz := s.heap.size)
  generalize hAe : va_A [(oX10 w0 v0 v1 v2 v3 v4 g5 g6 (nI ed) g8 v9 (nI nb) g11 g12 v13 g14 g15 g16 g17 g18 g19 g20 g21 g22 g23 g24 g25 g26 v27 v28 v29 v30 v31 v32 v33 v34 v35 v36 v37 (nI ol)), (v0, .inl (cA 0, 326, .inl fs))] s.heap.size = A at hD hZ ⊢
  have hA : ∀ q : Nat, s.heap.size ≤ q → A q := fun q h => by rw [← hAe]; exact Or.inr h
  have hS : va_S A s.heap s.heap [] := va_S.rf
  have hP : va_P D vwCl [(oX10 w0 v0 v1 v2 v3 v4 g5 g6 (nI ed) g8 v9 (nI nb) g11 g12 v13 g14 g15 g16 g17 g18 g19 g20 g21 g22 g23 g24 g25 g26 v27 v28 v29 v30 v31 v32 v33 v34 v35 v36 v37 (nI ol)), (v0, .inl (cA 0, 326, .inl fs))] s.heap := hP
  have hl := lv_entry ([.ref w0, .int a]) (n := 3) (Nat.le_of_ble_eq_true rfl)
  rw [lg_entry_eq]
  generalize (lg_sl ([.ref w0, .int a]) ++ List.replicate (3 - (lg_sl ([.ref w0, .int a])).length) Slot.unset).toArray = ls at hl ⊢
  have hl : lv_has ls 3 [(0, .ref w0), (1, .int a)] := hl
  have inX10 : ∀ w ∈ u_ws RX10 TX10 39, w ∈ wsX10_dueWith := by decide +kernel
  refine lv_iconst (v := 0) hx hb dX10_dueWith_0 (by decide) ?_
  refine lv_istore_n (lv' := [(2, .int 0), (0, .ref w0), (1, .int a)]) hx hb dX10_dueWith_1 rfl hl (by decide) rfl (fun ls hl => ?_)
  have loop1 : ∀ (n1 i1 : Nat) (H : Heap) (locs : List Loc) (ls : Array Slot), i1 + n1 = cn → va_P D vwCl [(oX10 w0 v0 v1 v2 v3 v4 g5 g6 (nI ed) g8 v9 (nI nb) g11 g12 v13 g14 g15 g16 g17 g18 g19 g20 g21 g22 g23 g24 g25 g26 v27 v28 v29 v30 v31 v32 v33 v34 v35 v36 v37 (nI ol)), (v0, .inl (cA 0, 326, .inl fs))] H → va_D A [(oX10 w0 v0 v1 v2 v3 v4 g5 g6 (nI ed) g8 v9 (nI nb) g11 g12 v13 g14 g15 g16 g17 g18 g19 g20 g21 g22 g23 g24 g25 g26 v27 v28 v29 v30 v31 v32 v33 v34 v35 v36 v37 (nI ol)), (v0, .inl (cA 0, 326, .inl fs))] → va_S A s.heap H locs → lv_has ls 3 [(2, .int (nI i1)), (0, .ref w0), (1, .int a)] → W p l e (headSpec wsX10_dueWith ({ frames := 2, cells := 0, slots := 0, locals := 46 } : Room)).room s m ([.ref w0, .int a] : List Value).toArray below meth c H locs 0 0 (MQ below (va_Qi (fun (r : Int32) (_ : Unit) => r = -1 ∨ ∃ n, n < cn ∧ r = nI n) (fun (_ : Unit) t => Wq D A [(oX10 w0 v0 v1 v2 v3 v4 g5 g6 (nI ed) g8 v9 (nI nb) g11 g12 v13 g14 g15 g16 g17 g18 g19 g20 g21 g22 g23 g24 g25 g26 v27 v28 v29 v30 v31 v32 v33 v34 v35 v36 v37 (nI ol)), (v0, .inl (cA 0, 326, .inl fs))] t) A) ([.ref w0, .int a] : List Value).toArray s 0 0 A) (F0 m 2 ls []) := by
    intro n1
    induction n1 with
    | zero =>
      intro i1 H locs ls hi1 hP hD hS hl
      obtain rfl : cn = i1 := by omega
      refine lv_iload_n hx hb dX10_dueWith_2 rfl (lv_at hl 0 rfl) ?_
      refine lv_aload_n hx hb dX10_dueWith_3 rfl (lv_at hl 1 rfl) ?_
      refine va_get (D := D) (ci := 11) (v := .ref v0) (C := RX10) (T := TX10) (N := 39) hx hb hts inX10 hown hK hP 0 rfl rfl 0 (by decide) (hts (.fieldLink RX10 7 "EscrowDeskModel" "s" "[I") (by decide +kernel)) (fun _ h9 => h9) rfl dX10_dueWith_4 ?_
      refine lv_bipush (v := 13) hx hb dX10_dueWith_7 (by decide) ?_
      refine va_iald hx hb hK hP 1 0 rfl rfl (vp_in_iff.mpr (by decide)) dX10_dueWith_9 ?_
      refine lv_topi (fun yn1 eyn1 => ?_)
      obtain rfl : yn1 = (nI cn) := eyn1.trans hri.1
      refine lv_icmp_ge (tgt := 40) hx hb dX10_dueWith_10 (by decide) (fun c2 => ?_) (fun c9 => absurd (nI_le (a := cn) (b := cn) (show cn ≤ cn by omega) (by omega)) c9)
      refine lv_iconst (v := (-1)) hx hb dX10_dueWith_40 (by decide) ?_
      obtain ⟨hP9, hD9⟩ := PDq.sub (ws' := [(oX10 w0 v0 v1 v2 v3 v4 g5 g6 (nI ed) g8 v9 (nI nb) g11 g12 v13 g14 g15 g16 g17 g18 g19 g20 g21 g22 g23 g24 g25 g26 v27 v28 v29 v30 v31 v32 v33 v34 v35 v36 v37 (nI ol)), (v0, .inl (cA 0, 326, .inl fs))]) hP hD [0, 1] (by decide) rfl
      refine W.widen (k := 0) (n := 0) (Nat.le_of_ble_eq_true rfl) (Nat.le_of_ble_eq_true rfl) ?_
      exact (W.iret (v := (-1)) hx hb hr (fun t ht hW => ⟨⟨(-1), (), rfl, Or.inl rfl, by rw [ht]; exact hP9, hD9⟩, hS.F ht⟩) hS.2.2 dX10_dueWith_41)
    | succ n1 ih1 =>
      intro i1 H locs ls hi1 hP hD hS hl
      refine lv_iload_n hx hb dX10_dueWith_2 rfl (lv_at hl 0 rfl) ?_
      refine lv_aload_n hx hb dX10_dueWith_3 rfl (lv_at hl 1 rfl) ?_
      refine va_get (D := D) (ci := 11) (v := .ref v0) (C := RX10) (T := TX10) (N := 39) hx hb hts inX10 hown hK hP 0 rfl rfl 0 (by decide) (hts (.fieldLink RX10 7 "EscrowDeskModel" "s" "[I") (by decide +kernel)) (fun _ h9 => h9) rfl dX10_dueWith_4 ?_
      refine lv_bipush (v := 13) hx hb dX10_dueWith_7 (by decide) ?_
      refine va_iald hx hb hK hP 1 0 rfl rfl (vp_in_iff.mpr (by decide)) dX10_dueWith_9 ?_
      refine lv_topi (fun yn3 eyn3 => ?_)
      obtain rfl : yn3 = (nI cn) := eyn3.trans hri.1
      refine lv_icmp_ge (tgt := 40) hx hb dX10_dueWith_10 (by decide) (fun c9 => absurd c9 (nI_ge (a := i1) (b := cn) (show i1 < cn by omega) (by omega))) (fun c4 => ?_)
      refine lv_aload_n hx hb dX10_dueWith_13 rfl (lv_at hl 1 rfl) ?_
      refine lv_iload_n hx hb dX10_dueWith_14 rfl (lv_at hl 0 rfl) ?_
      refine lv_iconst (v := 2) hx hb dX10_dueWith_15 (by decide) ?_
      obtain ⟨hPc, hDc, hFc⟩ := PDq.cut (wc := [(oX10 w0 v0 v1 v2 v3 v4 g5 g6 (nI ed) g8 v9 (nI nb) g11 g12 v13 g14 g15 g16 g17 g18 g19 g20 g21 g22 g23 g24 g25 g26 v27 v28 v29 v30 v31 v32 v33 v34 v35 v36 v37 (nI ol)), (v0, .inl (cA 0, 326, .inl fs))]) hP hD hS hA [0, 1] (by decide) rfl
      refine va_calli (va_runV (As := [.int (nI i1), .int 2]) (rest := []) ⟨hx, hb, hml, hown, hts⟩ (r_of l D cA sa w0 ed nb ol v0 v1 v2 v3 v4 v9 v13 v27 v28 v29 v30 v31 v32 v33 v34 v35 v36 v37 g8 g11 g12 g14 g15 g16 g17 g18 g19 g20 g21 g22 g23 g24 g26 g5 g6 g25 fs i1 2 H.size (by omega) (by omega)) (cwV 2 hts gX10_dueWith_X10_of rfl rfl rfl (by decide +kernel) ⟨(Nat.le_of_ble_eq_true rfl), (Nat.le_of_ble_eq_true rfl)⟩) ⟨Wd.blind, va_recv hK hPc (ci := 11) (q0 := 0) rfl rfl, fun U hU hW => ⟨rfl, Wd.call hPc hDc hK hC hZ hS hFc U hU hW⟩⟩ rfl rfl hl.1 rfl (lv_room (Nat.le_of_ble_eq_true rfl)) dX10_dueWith_16 ⟨(Nat.le_of_ble_eq_true rfl), (Nat.le_of_ble_eq_true rfl)⟩) hS (fun q _ h => hFc q h) hFc (fun rn5 u t H1 locs ht hvm hw hB hz1 hk1 hS => ?_)
      obtain ⟨hP1, hD1⟩ := hB
      rw [ht] at hP1
      obtain ⟨hP, hD⟩ := PDq.join (w := [(oX10 w0 v0 v1 v2 v3 v4 g5 g6 (nI ed) g8 v9 (nI nb) g11 g12 v13 g14 g15 g16 g17 g18 g19 g20 g21 g22 g23 g24 g25 g26 v27 v28 v29 v30 v31 v32 v33 v34 v35 v36 v37 (nI ol)), (v0, .inl (cA 0, 326, .inl fs))]) 0 hP hD [0, 1] [] rfl rfl (by decide) (by decide) hk1 hFc hP1 hD1 rfl
      generalize H1 = H at hP hS ⊢
      obtain rfl : rn5 = (fs (16 + 7 * i1 + 2)) := hw
      refine lv_iconst (v := 1) hx hb dX10_dueWith_19 (by decide) ?_
      refine lv_icmp_ne (tgt := 34) hx hb dX10_dueWith_20 (by decide) (fun c6 => ?_) (fun c6 => ?_)
      · skip
        refine lv_iinc (v := (nI (i1 + 1))) (lv' := [(2, .int (nI (i1 + 1))), (0, .ref w0), (1, .int a)]) hx hb dX10_dueWith_34 hl (k := 0) rfl (nI_1 _) (by decide) rfl (fun ls hl => ?_)
        refine lv_goto (tgt := 2) hx hb dX10_dueWith_37 (by decide) ?_
        obtain ⟨hP9, hD9⟩ := PDq.sub (ws' := [(oX10 w0 v0 v1 v2 v3 v4 g5 g6 (nI ed) g8 v9 (nI nb) g11 g12 v13 g14 g15 g16 g17 g18 g19 g20 g21 g22 g23 g24 g25 g26 v27 v28 v29 v30 v31 v32 v33 v34 v35 v36 v37 (nI ol)), (v0, .inl (cA 0, 326, .inl fs))]) hP hD [0, 1] (by decide) rfl
        exact ih1 (i1 + 1)  H _ ls (by omega) hP9 hD9 hS (lv_sub hl [0, 1, 2] rfl)
      · skip
        refine lv_aload_n hx hb dX10_dueWith_23 rfl (lv_at hl 1 rfl) ?_
        refine lv_iload_n hx hb dX10_dueWith_24 rfl (lv_at hl 0 rfl) ?_
        obtain ⟨hPc, hDc, hFc⟩ := PDq.cut (wc := [(oX10 w0 v0 v1 v2 v3 v4 g5 g6 (nI ed) g8 v9 (nI nb) g11 g12 v13 g14 g15 g16 g17 g18 g19 g20 g21 g22 g23 g24 g25 g26 v27 v28 v29 v30 v31 v32 v33 v34 v35 v36 v37 (nI ol)), (v0, .inl (cA 0, 326, .inl fs))]) hP hD hS hA [0, 1] (by decide) rfl
        refine va_calli (va_runV (As := [.int (nI i1)]) (rest := []) ⟨hx, hb, hml, hown, hts⟩ (r_dueBefore l D cA sa w0 ed nb ol v0 v1 v2 v3 v4 v9 v13 v27 v28 v29 v30 v31 v32 v33 v34 v35 v36 v37 g8 g11 g12 g14 g15 g16 g17 g18 g19 g20 g21 g22 g23 g24 g26 g5 g6 g25 cn pq en dy fs i1 H.size hcn hpq hen hdy hri (by omega)) (cwV 1 hts gX10_dueWith_X10_dueBefore rfl rfl rfl (by decide +kernel) ⟨(Nat.le_of_ble_eq_true rfl), (Nat.le_of_ble_eq_true rfl)⟩) ⟨Wd.blind, va_recv hK hPc (ci := 11) (q0 := 0) rfl rfl, fun U hU hW => ⟨rfl, Wd.call hPc hDc hK hC hZ hS hFc U hU hW⟩⟩ rfl rfl hl.1 rfl (lv_room (Nat.le_of_ble_eq_true rfl)) dX10_dueWith_25 ⟨(Nat.le_of_ble_eq_true rfl), (Nat.le_of_ble_eq_true rfl)⟩) hS (fun q _ h => hFc q h) hFc (fun rn7 u t H1 locs ht hvm hw hB hz1 hk1 hS => ?_)
        obtain ⟨hP1, hD1⟩ := hB
        rw [ht] at hP1
        obtain ⟨hP, hD⟩ := PDq.join (w := [(oX10 w0 v0 v1 v2 v3 v4 g5 g6 (nI ed) g8 v9 (nI nb) g11 g12 v13 g14 g15 g16 g17 g18 g19 g20 g21 g22 g23 g24 g25 g26 v27 v28 v29 v30 v31 v32 v33 v34 v35 v36 v37 (nI ol)), (v0, .inl (cA 0, 326, .inl fs))]) 0 hP hD [0, 1] [] rfl rfl (by decide) (by decide) hk1 hFc hP1 hD1 rfl
        generalize H1 = H at hP hS ⊢
        obtain ⟨kn8, hn9, hr9⟩ := hw
        subst hr9
        refine lv_iload_n hx hb dX10_dueWith_28 rfl (lv_at hl 2 rfl) ?_
        refine lv_icmp_ne (tgt := 34) hx hb dX10_dueWith_29 (by decide) (fun c10 => ?_) (fun c10 => ?_)
        · skip
          refine lv_iinc (v := (nI (i1 + 1))) (lv' := [(2, .int (nI (i1 + 1))), (0, .ref w0), (1, .int a)]) hx hb dX10_dueWith_34 hl (k := 0) rfl (nI_1 _) (by decide) rfl (fun ls hl => ?_)
          refine lv_goto (tgt := 2) hx hb dX10_dueWith_37 (by decide) ?_
          obtain ⟨hP9, hD9⟩ := PDq.sub (ws' := [(oX10 w0 v0 v1 v2 v3 v4 g5 g6 (nI ed) g8 v9 (nI nb) g11 g12 v13 g14 g15 g16 g17 g18 g19 g20 g21 g22 g23 g24 g25 g26 v27 v28 v29 v30 v31 v32 v33 v34 v35 v36 v37 (nI ol)), (v0, .inl (cA 0, 326, .inl fs))]) hP hD [0, 1] (by decide) rfl
          exact ih1 (i1 + 1)  H _ ls (by omega) hP9 hD9 hS (lv_sub hl [0, 1, 2] rfl)
        · skip
          refine lv_iload_n hx hb dX10_dueWith_32 rfl (lv_at hl 0 rfl) ?_
          obtain ⟨hP9, hD9⟩ := PDq.sub (ws' := [(oX10 w0 v0 v1 v2 v3 v4 g5 g6 (nI ed) g8 v9 (nI nb) g11 g12 v13 g14 g15 g16 g17 g18 g19 g20 g21 g22 g23 g24 g25 g26 v27 v28 v29 v30 v31 v32 v33 v34 v35 v36 v37 (nI ol)), (v0, .inl (cA 0, 326, .inl fs))]) hP hD [0, 1] (by decide) rfl
          refine W.widen (k := 0) (n := 0) (Nat.le_of_ble_eq_true rfl) (Nat.le_of_ble_eq_true rfl) ?_
          exact (W.iret (v := (nI i1)) hx hb hr (fun t ht hW => ⟨⟨(nI i1), (), rfl, Or.inr ⟨i1, by omega, rfl⟩, by rw [ht]; exact hP9, hD9⟩, hS.F ht⟩) hS.2.2 dX10_dueWith_33)
  obtain ⟨hP9, hD9⟩ := PDq.sub (ws' := [(oX10 w0 v0 v1 v2 v3 v4 g5 g6 (nI ed) g8 v9 (nI nb) g11 g12 v13 g14 g15 g16 g17 g18 g19 g20 g21 g22 g23 g24 g25 g26 v27 v28 v29 v30 v31 v32 v33 v34 v35 v36 v37 (nI ol)), (v0, .inl (cA 0, 326, .inl fs))]) hP hD [0, 1] (by decide) rfl
  exact loop1 (cn - 0) 0  _ _ ls (by omega) hP9 hD9 hS (lv_sub hl [0, 1, 2] rfl)

