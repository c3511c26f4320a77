set_option maxHeartbeats 4000000 in
set_option maxRecDepth 100000 in
/-- readCondition -/
theorem x_readCondition_S_look (l : Launch) (D : va_G) (cA : Nat → ClassId) (sa : Nat → Nat) (k9 : Nat) (IHf : XFactC l D cA sa k9) (IHc : XCondC l D cA sa k9) (r0 : Nat) (p0 : Nat) (ti : Nat) (ln : Nat) (inb : Int32) (iek : Int32) (iep : Int32) (r1 : Nat) (k1 : Nat) (k2 : Nat) (k3 : Nat) (ct : Nat) (fk : Nat → Int32) (ft : Nat → Int32) (fv : Nat → Int64) (fb : Nat → Int32) (gP : Nat → Nat) (gR : Nat → Nat) (p1 : Nat) (p2 : Nat) (p3 : Nat) (p4 : Nat) (p5 : Nat) (p6 : Nat) (p7 : Nat) (p8 : Nat) (p9 : Nat) (cn : Nat) (pq : Nat) (nd : Nat) (sc : Nat) (pr : Int32) (pb : Int32) (pe : Int32) (pg : Int32) (fna : Nat → Int64) (fpn : Nat → Int64) (fst : Nat → Int32) (fop : Nat → Int32) (ml : List Int64) (pl : List Int64) (sl : Nat) (o9 : Nat) (sz : Nat) (hct : ct ≤ 701) (hln : ln ≤ 700) (hti : ti < ct) (hTX : TX fb ln ct gP gR ft fv fk) (hcn : cn ≤ 10) (hpq : pq ≤ 8) (hnd : nd ≤ 6) (hsc : sc ≤ 350) (hNM : NL ml cn fna) (hNP : NL pl pq fpn) (hsl : 2 * sc + sl ≤ gP ti) (ho : o9 + (k9 + 1) = 8) : Met l yX4_readCondition wsX4_readCondition ({ frames := 3 * (k9 + 1) + 22, cells := 0, slots := 0, locals := 72 * (k9 + 1) + 368 }) (va_Pc [.ref r0, .int (nI o9)] (Wd D cA sa [(oX4 r0 r1 p0 (nI ti) (fk ti) (ft ti) (fv ti) inb iek iep), (oX5 r1 k1 k2 k3 (nI ct)), (k1, .inl (cA 0, 701, .inl fk)), (k2, .inl (cA 0, 701, .inl ft)), (k3, .inl (cA 1, 701, .inr (.inl fv))), (oX3 p0 pr pb pe pg p1 (nI nd) p2 p3 p4 p5 (nI cn) p6 (nI pq) p7 p8 p9 (nI sc)), (p2, .inl (cA 1, 10, .inr (.inl fna))), (p6, .inl (cA 1, 8, .inr (.inl fpn))), (p7, .inl (cA 0, 350, .inl fst)), (p8, .inl (cA 0, 350, .inl fop))] sz)) (va_Qi (fun (r : Int32) (u9 : Int32) => u9 = r ∧ (r = 0 ∨ r = 1)) (fun (u9 : Int32) t => ∃ tj : Nat, ∃ qm : Nat, ∃ sm : Nat, ∃ znr : Int32, ∃ zek : Int32, ∃ zep : Int32, ∃ zpn : Nat → Int64, ∃ zst : Nat → Int32, ∃ zop : Nat → Int32, ∃ zpl : List Int64, tj < ct ∧ gP tj ≤ ln ∧ ti ≤ tj ∧ qm ≤ 8 ∧ sm ≤ 350 ∧ NL zpl qm zpn ∧ (u9 = 1 → zek = iek) ∧ (u9 = 1 → zep = iep) ∧ (u9 = 1 → 2 * sm + sl ≤ gP tj) ∧ (u9 = 1 → ti + 1 ≤ tj) ∧ (u9 = 1 → PRx fk ft fv ml 3 o9 ti pl (.inr (tj, zpl))) ∧ (u9 = 0 → PRx fk ft fv ml 3 o9 ti pl (.inl (zek, zep))) ∧ Wq D (va_A [(oX4 r0 r1 p0 (nI ti) (fk ti) (ft ti) (fv ti) inb iek iep), (oX5 r1 k1 k2 k3 (nI ct)), (k1, .inl (cA 0, 701, .inl fk)), (k2, .inl (cA 0, 701, .inl ft)), (k3, .inl (cA 1, 701, .inr (.inl fv))), (oX3 p0 pr pb pe pg p1 (nI nd) p2 p3 p4 p5 (nI cn) p6 (nI pq) p7 p8 p9 (nI sc)), (p2, .inl (cA 1, 10, .inr (.inl fna))), (p6, .inl (cA 1, 8, .inr (.inl fpn))), (p7, .inl (cA 0, 350, .inl fst)), (p8, .inl (cA 0, 350, .inl fop))] sz) [(oX4 r0 r1 p0 (nI tj) (fk tj) (ft tj) (fv tj) znr zek zep), (oX5 r1 k1 k2 k3 (nI ct)), (k1, .inl (cA 0, 701, .inl fk)), (k2, .inl (cA 0, 701, .inl ft)), (k3, .inl (cA 1, 701, .inr (.inl fv))), (oX3 p0 pr pb pe pg p1 (nI nd) p2 p3 p4 p5 (nI cn) p6 (nI qm) p7 p8 p9 (nI sm)), (p2, .inl (cA 1, 10, .inr (.inl fna))), (p6, .inl (cA 1, 8, .inr (.inl zpn))), (p7, .inl (cA 0, 350, .inl zst)), (p8, .inl (cA 0, 350, .inl zop))] t) (va_A [(oX4 r0 r1 p0 (nI ti) (fk ti) (ft ti) (fv ti) inb iek iep), (oX5 r1 k1 k2 k3 (nI ct)), (k1, .inl (cA 0, 701, .inl fk)), (k2, .inl (cA 0, 701, .inl ft)), (k3, .inl (cA 1, 701, .inr (.inl fv))), (oX3 p0 pr pb pe pg p1 (nI nd) p2 p3 p4 p5 (nI cn) p6 (nI pq) p7 p8 p9 (nI sc)), (p2, .inl (cA 1, 10, .inr (.inl fna))), (p6, .inl (cA 1, 8, .inr (.inl fpn))), (p7, .inl (cA 0, 350, .inl fst)), (p8, .inl (cA 0, 350, .inl fop))] sz)) 0 0 (va_A [(oX4 r0 r1 p0 (nI ti) (fk ti) (ft ti) (fv ti) inb iek iep), (oX5 r1 k1 k2 k3 (nI ct)), (k1, .inl (cA 0, 701, .inl fk)), (k2, .inl (cA 0, 701, .inl ft)), (k3, .inl (cA 1, 701, .inr (.inl fv))), (oX3 p0 pr pb pe pg p1 (nI nd) p2 p3 p4 p5 (nI cn) p6 (nI pq) p7 p8 p9 (nI sc)), (p2, .inl (cA 1, 10, .inr (.inl fna))), (p6, .inl (cA 1, 8, .inr (.inl fpn))), (p7, .inl (cA 0, 350, .inl fst)), (p8, .inl (cA 0, 350, .inl fop))] sz) := by
  refine Met.ofW (cc := cX4_readCondition) (maxL := 4) (ret := (some .boolean)) (by decide) rfl ?_
  intro p e s m args below meth c s₁ B hml hv
  obtain ⟨rfl, hsz, hP, hK, hD0, hC, hZ⟩ := hv
  have hx := B.exec
  have hb := B.bytes
  have hr := B.returns
  have hts := atoms_spec (ws := wsX4_readCondition) B.pre
  have hown : s.vm.findClass RX4 = some m.cls := findClass_of_methodNamed B.named
  have hlocks := B.notSynchronized
  subst hsz
  have hD := hD0.self (sz := s.heap.size)
  generalize hAe : va_A [(oX4 r0 r1 p0 (nI ti) (fk ti) (ft ti) (fv ti) inb iek iep), (oX5 r1 k1 k2 k3 (nI ct)), (k1, .inl (cA 0, 701, .inl fk)), (k2, .inl (cA 0, 701, .inl ft)), (k3, .inl (cA 1, 701, .inr (.inl fv))), (oX3 p0 pr pb pe pg p1 (nI nd) p2 p3 p4 p5 (nI cn) p6 (nI pq) p7 p8 p9 (nI sc)), (p2, .inl (cA 1, 10, .inr (.inl fna))), (p6, .inl (cA 1, 8, .inr (.inl fpn))), (p7, .inl (cA 0, 350, .inl fst)), (p8, .inl (cA 0, 350, .inl fop))] s.heap.size = A at hD hZ ⊢
  have hA : ∀ q : Nat, s.heap.size ≤ q → A q := fun q h => by rw [← hAe]; exact Or.inr h
  have hS : va_S A s.heap s.heap [] := va_S.rf
  have hP : va_P D vwCl [(oX4 r0 r1 p0 (nI ti) (fk ti) (ft ti) (fv ti) inb iek iep), (oX5 r1 k1 k2 k3 (nI ct)), (k1, .inl (cA 0, 701, .inl fk)), (k2, .inl (cA 0, 701, .inl ft)), (k3, .inl (cA 1, 701, .inr (.inl fv))), (oX3 p0 pr pb pe pg p1 (nI nd) p2 p3 p4 p5 (nI cn) p6 (nI pq) p7 p8 p9 (nI sc)), (p2, .inl (cA 1, 10, .inr (.inl fna))), (p6, .inl (cA 1, 8, .inr (.inl fpn))), (p7, .inl (cA 0, 350, .inl fst)), (p8, .inl (cA 0, 350, .inl fop))] s.heap := hP
  have hl := lv_entry ([.ref r0, .int (nI o9)]) (n := 4) (Nat.le_of_ble_eq_true rfl)
  rw [lg_entry_eq]
  generalize (lg_sl ([.ref r0, .int (nI o9)]) ++ List.replicate (4 - (lg_sl ([.ref r0, .int (nI o9)])).length) Slot.unset).toArray = ls at hl ⊢
  have hl : lv_has ls 4 [(0, .ref r0), (1, .int (nI o9))] := hl
  have inX4 : ∀ w ∈ u_ws RX4 TX4 9, w ∈ wsX4_readCondition := by decide +kernel
  have hle9 := TX.le hTX hti
  refine lv_aload_n hx hb dX4_readCondition_0 rfl (lv_at hl 0 rfl) ?_
  refine lv_iload_n hx hb dX4_readCondition_1 rfl (lv_at hl 1 rfl) ?_
  obtain ⟨hPc, hDc, hFc⟩ := PDq.cut (wc := [(oX4 r0 r1 p0 (nI ti) (fk ti) (ft ti) (fv ti) inb iek iep), (oX5 r1 k1 k2 k3 (nI ct)), (k1, .inl (cA 0, 701, .inl fk)), (k2, .inl (cA 0, 701, .inl ft)), (k3, .inl (cA 1, 701, .inr (.inl fv))), (oX3 p0 pr pb pe pg p1 (nI nd) p2 p3 p4 p5 (nI cn) p6 (nI pq) p7 p8 p9 (nI sc)), (p2, .inl (cA 1, 10, .inr (.inl fna))), (p6, .inl (cA 1, 8, .inr (.inl fpn))), (p7, .inl (cA 0, 350, .inl fst)), (p8, .inl (cA 0, 350, .inl fop))]) hP hD hS hA [0, 1, 2, 3, 4, 5, 6, 7, 8, 9] (by decide +kernel) rfl
  refine va_calli (va_runV (As := [.int (nI o9)]) (rest := []) ⟨hx, hb, hml, hown, hts⟩ (x_readBoth_S l D cA sa k9 IHf IHc r0 p0 ti ln inb iek iep r1 k1 k2 k3 ct fk ft fv fb gP gR p1 p2 p3 p4 p5 p6 p7 p8 p9 cn pq nd sc pr pb pe pg fna fpn fst fop ml pl sl o9 s.heap.size hct hln hti hTX hcn hpq hnd hsc hNM hNP hsl ho) (cwV 1 hts gX4_readCondition_X4_readBoth rfl rfl rfl (by decide +kernel) ⟨by show (3 * (k9 + 1) + 21) + 1 ≤ 3 * (k9 + 1) + 22; omega, by show 8 + (4 + 11) + (72 * (k9 + 1) + 344) ≤ 72 * (k9 + 1) + 368; omega⟩) ⟨Wd.blind, va_recv hK hPc (ci := 8) (q0 := 0) rfl rfl, fun U hU hW => ⟨rfl, Wd.call hPc hDc hK hC hZ hS hFc U hU hW⟩⟩ rfl rfl hl.1 rfl (lv_room (Nat.le_of_ble_eq_true rfl)) dX4_readCondition_2 ⟨(Nat.le_of_ble_eq_true rfl), (Nat.le_of_ble_eq_true rfl)⟩) hS (fun q _ h => hFc q h) hFc (fun rn1 u t H1 locs ht hvm hw hB hz1 hk1 hS => ?_)
  obtain ⟨qn2, qn3, qn4, zn5, zn6, zn7, fn8, fn9, fn10, zn11, hn12, hn13, hn14, hn15, hn16, hn17, hn18, hn19, hn20, hn21, hn22, hn23, hP1, hD1⟩ := hB
  rw [ht] at hP1
  obtain ⟨hP, hD⟩ := PDq.join (w := [(oX4 r0 r1 p0 (nI qn2) (fk qn2) (ft qn2) (fv qn2) zn5 zn6 zn7), (oX5 r1 k1 k2 k3 (nI ct)), (k1, .inl (cA 0, 701, .inl fk)), (k2, .inl (cA 0, 701, .inl ft)), (k3, .inl (cA 1, 701, .inr (.inl fv))), (oX3 p0 pr pb pe pg p1 (nI nd) p2 p3 p4 p5 (nI cn) p6 (nI qn3) p7 p8 p9 (nI qn4)), (p2, .inl (cA 1, 10, .inr (.inl fna))), (p6, .inl (cA 1, 8, .inr (.inl fn8))), (p7, .inl (cA 0, 350, .inl fn9)), (p8, .inl (cA 0, 350, .inl fn10))]) 0 hP hD [0, 1, 2, 3, 4, 5, 6, 7, 8, 9] [] rfl rfl (by decide) (by decide +kernel) hk1 hFc hP1 hD1 rfl
  generalize H1 = H at hP hS ⊢
  rcases hw.2 with hr9 | hr9
  · skip
    have hn23 := hn23 (hw.1.trans hr9)
    subst hr9
    refine lv_istore_n (lv' := [(2, .int 0), (0, .ref r0), (1, .int (nI o9))]) hx hb dX4_readCondition_5 rfl hl (by decide) rfl (fun ls hl => ?_)
    refine lv_iconst (v := 0) hx hb dX4_readCondition_6 (by decide) ?_
    refine lv_istore_n (lv' := [(3, .int 0), (2, .int 0), (0, .ref r0), (1, .int (nI o9))]) hx hb dX4_readCondition_7 rfl hl (by decide) rfl (fun ls hl => ?_)
    refine lv_iload_n hx hb dX4_readCondition_8 rfl (lv_at hl 1 rfl) ?_
    refine lv_if_eq (tgt := 71) hx hb dX4_readCondition_9 (by decide) (fun c24 => ?_) (fun c9 => absurd c9 (by decide))
    refine lv_iload_n hx hb dX4_readCondition_71 rfl (lv_at hl 1 rfl) ?_
    obtain ⟨hP9, hD9⟩ := PDq.sub (ws' := [(oX4 r0 r1 p0 (nI qn2) (fk qn2) (ft qn2) (fv qn2) zn5 zn6 zn7), (oX5 r1 k1 k2 k3 (nI ct)), (k1, .inl (cA 0, 701, .inl fk)), (k2, .inl (cA 0, 701, .inl ft)), (k3, .inl (cA 1, 701, .inr (.inl fv))), (oX3 p0 pr pb pe pg p1 (nI nd) p2 p3 p4 p5 (nI cn) p6 (nI qn3) p7 p8 p9 (nI qn4)), (p2, .inl (cA 1, 10, .inr (.inl fna))), (p6, .inl (cA 1, 8, .inr (.inl fn8))), (p7, .inl (cA 0, 350, .inl fn9)), (p8, .inl (cA 0, 350, .inl fn10))]) hP hD [0, 1, 2, 3, 4, 5, 6, 7, 8, 9] (by decide +kernel) rfl
    refine W.widen (k := 0) (n := 0) (Nat.le_of_ble_eq_true rfl) (Nat.le_of_ble_eq_true rfl) ?_
    exact (W.zret (v := 0) hx hb hr (by first | rfl | decide) (fun t ht hW => ⟨⟨0, 0, rfl, ⟨rfl, by decide⟩, qn2, qn3, qn4, zn5, zn6, zn7, fn8, fn9, fn10, zn11, hn12, hn13, hn14, hn15, hn16, hn17, (fun h9 => absurd h9 (by decide)), (fun h9 => absurd h9 (by decide)), (fun h9 => absurd h9 (by decide)), (fun h9 => absurd h9 (by decide)), (fun h9 => absurd h9 (by decide)), (fun _ => (P_condE hn23)), by rw [ht]; exact hP9, hD9⟩, hS.F ht⟩) hS.2.2 dX4_readCondition_72)
  · skip
    have hn18 := hn18 (hw.1.trans hr9)
    obtain rfl : iek = zn6 := hn18.symm
    obtain ⟨hP, hD⟩ : PDq D A [(oX4 r0 r1 p0 (nI qn2) (fk qn2) (ft qn2) (fv qn2) zn5 iek zn7), (oX5 r1 k1 k2 k3 (nI ct)), (k1, .inl (cA 0, 701, .inl fk)), (k2, .inl (cA 0, 701, .inl ft)), (k3, .inl (cA 1, 701, .inr (.inl fv))), (oX3 p0 pr pb pe pg p1 (nI nd) p2 p3 p4 p5 (nI cn) p6 (nI qn3) p7 p8 p9 (nI qn4)), (p2, .inl (cA 1, 10, .inr (.inl fna))), (p6, .inl (cA 1, 8, .inr (.inl fn8))), (p7, .inl (cA 0, 350, .inl fn9)), (p8, .inl (cA 0, 350, .inl fn10))] H := ⟨hP, hD⟩
    have hn19 := hn19 (hw.1.trans hr9)
    obtain rfl : iep = zn7 := hn19.symm
    obtain ⟨hP, hD⟩ : PDq D A [(oX4 r0 r1 p0 (nI qn2) (fk qn2) (ft qn2) (fv qn2) zn5 iek iep), (oX5 r1 k1 k2 k3 (nI ct)), (k1, .inl (cA 0, 701, .inl fk)), (k2, .inl (cA 0, 701, .inl ft)), (k3, .inl (cA 1, 701, .inr (.inl fv))), (oX3 p0 pr pb pe pg p1 (nI nd) p2 p3 p4 p5 (nI cn) p6 (nI qn3) p7 p8 p9 (nI qn4)), (p2, .inl (cA 1, 10, .inr (.inl fna))), (p6, .inl (cA 1, 8, .inr (.inl fn8))), (p7, .inl (cA 0, 350, .inl fn9)), (p8, .inl (cA 0, 350, .inl fn10))] H := ⟨hP, hD⟩
    have hn20 := hn20 (hw.1.trans hr9)
    have hn21 := hn21 (hw.1.trans hr9)
    have hn22 := hn22 (hw.1.trans hr9)
    subst hr9
    refine lv_istore_n (lv' := [(2, .int 1), (0, .ref r0), (1, .int (nI o9))]) hx hb dX4_readCondition_5 rfl hl (by decide) rfl (fun ls hl => ?_)
    refine lv_iconst (v := 0) hx hb dX4_readCondition_6 (by decide) ?_
    refine lv_istore_n (lv' := [(3, .int 0), (2, .int 1), (0, .ref r0), (1, .int (nI o9))]) hx hb dX4_readCondition_7 rfl hl (by decide) rfl (fun ls hl => ?_)
    have loop1 : ∀ (n1 i1 : Nat) (pli : List Int64) (tii : Nat) (u0_6_1 : Int32) (qmi : Nat) (smi : Nat) (f7_1 : Nat → Int64) (f8_1 : Nat → Int32) (f9_1 : Nat → Int32) (H : Heap) (locs : List Loc) (ls : Array Slot), i1 + n1 = 700 → ti + 1 + i1 ≤ tii → tii < ct → qmi ≤ 8 → smi ≤ 350 → 2 * smi + sl ≤ gP tii → gP tii ≤ ln → NL pli qmi f7_1 → Cn fk ft fv ml 3 o9 ti pl 4 tii pli → va_P D vwCl [(oX4 r0 r1 p0 (nI tii) (fk tii) (ft tii) (fv tii) u0_6_1 iek iep), (oX5 r1 k1 k2 k3 (nI ct)), (k1, .inl (cA 0, 701, .inl fk)), (k2, .inl (cA 0, 701, .inl ft)), (k3, .inl (cA 1, 701, .inr (.inl fv))), (oX3 p0 pr pb pe pg p1 (nI nd) p2 p3 p4 p5 (nI cn) p6 (nI qmi) p7 p8 p9 (nI smi)), (p2, .inl (cA 1, 10, .inr (.inl fna))), (p6, .inl (cA 1, 8, .inr (.inl f7_1))), (p7, .inl (cA 0, 350, .inl f8_1)), (p8, .inl (cA 0, 350, .inl f9_1))] H → va_D A [(oX4 r0 r1 p0 (nI tii) (fk tii) (ft tii) (fv tii) u0_6_1 iek iep), (oX5 r1 k1 k2 k3 (nI ct)), (k1, .inl (cA 0, 701, .inl fk)), (k2, .inl (cA 0, 701, .inl ft)), (k3, .inl (cA 1, 701, .inr (.inl fv))), (oX3 p0 pr pb pe pg p1 (nI nd) p2 p3 p4 p5 (nI cn) p6 (nI qmi) p7 p8 p9 (nI smi)), (p2, .inl (cA 1, 10, .inr (.inl fna))), (p6, .inl (cA 1, 8, .inr (.inl f7_1))), (p7, .inl (cA 0, 350, .inl f8_1)), (p8, .inl (cA 0, 350, .inl f9_1))] → va_S A s.heap H locs → lv_has ls 4 [(3, .int (nI i1)), (2, .int 1), (0, .ref r0), (1, .int (nI o9))] → W p l e (headSpec wsX4_readCondition ({ frames := 3 * (k9 + 1) + 22, cells := 0, slots := 0, locals := 72 * (k9 + 1) + 368 } : Room)).room s m ([.ref r0, .int (nI o9)] : List Value).toArray below meth c H locs 0 0 (MQ below (va_Qi (fun (r : Int32) (u9 : Int32) => u9 = r ∧ (r = 0 ∨ r = 1)) (fun (u9 : Int32) t => ∃ tj : Nat, ∃ qm : Nat, ∃ sm : Nat, ∃ znr : Int32, ∃ zek : Int32, ∃ zep : Int32, ∃ zpn : Nat → Int64, ∃ zst : Nat → Int32, ∃ zop : Nat → Int32, ∃ zpl : List Int64, tj < ct ∧ gP tj ≤ ln ∧ ti ≤ tj ∧ qm ≤ 8 ∧ sm ≤ 350 ∧ NL zpl qm zpn ∧ (u9 = 1 → zek = iek) ∧ (u9 = 1 → zep = iep) ∧ (u9 = 1 → 2 * sm + sl ≤ gP tj) ∧ (u9 = 1 → ti + 1 ≤ tj) ∧ (u9 = 1 → PRx fk ft fv ml 3 o9 ti pl (.inr (tj, zpl))) ∧ (u9 = 0 → PRx fk ft fv ml 3 o9 ti pl (.inl (zek, zep))) ∧ Wq D A [(oX4 r0 r1 p0 (nI tj) (fk tj) (ft tj) (fv tj) znr zek zep), (oX5 r1 k1 k2 k3 (nI ct)), (k1, .inl (cA 0, 701, .inl fk)), (k2, .inl (cA 0, 701, .inl ft)), (k3, .inl (cA 1, 701, .inr (.inl fv))), (oX3 p0 pr pb pe pg p1 (nI nd) p2 p3 p4 p5 (nI cn) p6 (nI qm) p7 p8 p9 (nI sm)), (p2, .inl (cA 1, 10, .inr (.inl fna))), (p6, .inl (cA 1, 8, .inr (.inl zpn))), (p7, .inl (cA 0, 350, .inl zst)), (p8, .inl (cA 0, 350, .inl zop))] t) A) ([.ref r0, .int (nI o9)] : List Value).toArray s 0 0 A) (F0 m 8 ls []) := by
      intro n1
      induction n1 with
      | zero =>
        intro i1 pli tii u0_6_1 qmi smi f7_1 f8_1 f9_1 H locs ls hi1 hv0_1 hv1_1 hv2_1 hv3_1 hv4_1 hv5_1 hv6_1 hv7_1 hP hD hS hl
        obtain rfl : 700 = i1 := by omega
        exact absurd hv0_1 (by omega)
      | succ n1 ih1 =>
        intro i1 pli tii u0_6_1 qmi smi f7_1 f8_1 f9_1 H locs ls hi1 hv0_1 hv1_1 hv2_1 hv3_1 hv4_1 hv5_1 hv6_1 hv7_1 hP hD hS hl
        refine lv_iload_n hx hb dX4_readCondition_8 rfl (lv_at hl 1 rfl) ?_
        refine lv_if_eq (tgt := 71) hx hb dX4_readCondition_9 (by decide) (fun c9 => absurd c9 (by decide)) (fun c25 => ?_)
        refine lv_iload_n hx hb dX4_readCondition_12 rfl (lv_at hl 0 rfl) ?_
        refine lv_sipush (v := 700) hx hb dX4_readCondition_13 (by decide) ?_
        refine lv_icmp_ge (tgt := 71) hx hb dX4_readCondition_16 (by decide) (fun c9 => absurd c9 (nI_ge (a := i1) (b := 700) (show i1 < 700 by omega) (by omega))) (fun c26 => ?_)
        refine lv_aload_n hx hb dX4_readCondition_19 rfl (lv_at hl 2 rfl) ?_
        refine va_get (D := D) (ci := 8) (v := .int (fk tii)) (C := RX4) (T := TX4) (N := 9) hx hb hts inX4 hown hK hP 0 rfl rfl 3 (by decide) (hts (.fieldLink RX4 42 "EscrowDesk$Reader" "kind" "I") (by decide +kernel)) (fun _ h9 => h9) rfl dX4_readCondition_20 ?_
        refine lv_bipush (v := 14) hx hb dX4_readCondition_23 (by decide) ?_
        refine lv_icmp_ne (tgt := 71) hx hb dX4_readCondition_25 (by decide) (fun c27 => ?_) (fun c27 => ?_)
        · skip
          refine lv_iload_n hx hb dX4_readCondition_71 rfl (lv_at hl 1 rfl) ?_
          obtain ⟨hP9, hD9⟩ := PDq.sub (ws' := [(oX4 r0 r1 p0 (nI tii) (fk tii) (ft tii) (fv tii) u0_6_1 iek iep), (oX5 r1 k1 k2 k3 (nI ct)), (k1, .inl (cA 0, 701, .inl fk)), (k2, .inl (cA 0, 701, .inl ft)), (k3, .inl (cA 1, 701, .inr (.inl fv))), (oX3 p0 pr pb pe pg p1 (nI nd) p2 p3 p4 p5 (nI cn) p6 (nI qmi) p7 p8 p9 (nI smi)), (p2, .inl (cA 1, 10, .inr (.inl fna))), (p6, .inl (cA 1, 8, .inr (.inl f7_1))), (p7, .inl (cA 0, 350, .inl f8_1)), (p8, .inl (cA 0, 350, .inl f9_1))]) hP hD [0, 1, 2, 3, 4, 5, 6, 7, 8, 9] (by decide +kernel) rfl
          refine W.widen (k := 0) (n := 0) (Nat.le_of_ble_eq_true rfl) (Nat.le_of_ble_eq_true rfl) ?_
          exact (W.zret (v := 1) hx hb hr (by first | rfl | decide) (fun t ht hW => ⟨⟨1, 1, rfl, ⟨rfl, by decide⟩, tii, qmi, smi, u0_6_1, iek, iep, f7_1, f8_1, f9_1, pli, hv1_1, hv5_1, (by omega), hv2_1, hv3_1, hv6_1, (fun _ => rfl), (fun _ => rfl), (fun _ => hv4_1), (fun _ => (by omega)), (fun _ => (hv7_1 _ (P_end4 c27))), (fun h9 => absurd h9 (by decide)), by rw [ht]; exact hP9, hD9⟩, hS.F ht⟩) hS.2.2 dX4_readCondition_72)
        · skip
          have hn28 := TX.go2 hTX (show tii < ct by omega) (by rw [c27]; decide)
          have hn28a := hn28.2.1
          have hn28b := hn28.2.2
          have hn28c := hn28.1
          refine lv_aload_n hx hb dX4_readCondition_28 rfl (lv_at hl 2 rfl) ?_
          refine lv_aload_n hx hb dX4_readCondition_29 rfl (lv_at hl 2 rfl) ?_
          refine va_get (D := D) (ci := 8) (v := .int (nI tii)) (C := RX4) (T := TX4) (N := 9) hx hb hts inX4 hown hK hP 0 rfl rfl 2 (by decide) (hts (.fieldLink RX4 70 "EscrowDesk$Reader" "token" "I") (by decide +kernel)) (fun _ h9 => h9) rfl dX4_readCondition_30 ?_
          refine lv_iconst (v := 1) hx hb dX4_readCondition_33 (by decide) ?_
          refine lv_iadd hx hb dX4_readCondition_34 ?_
          refine lv_topi (fun yn29 eyn29 => ?_)
          obtain rfl : yn29 = (nI (tii + 1)) := eyn29.trans (nI_add tii 1)
          obtain ⟨hPc, hDc, hFc⟩ := PDq.cut (wc := [(oX4 r0 r1 p0 (nI tii) (fk tii) (ft tii) (fv tii) u0_6_1 iek iep), (oX5 r1 k1 k2 k3 (nI ct)), (k1, .inl (cA 0, 701, .inl fk)), (k2, .inl (cA 0, 701, .inl ft)), (k3, .inl (cA 1, 701, .inr (.inl fv)))]) hP hD hS hA [0, 1, 2, 3, 4] (by decide) rfl
          refine va_callv (va_runV (As := [.int (nI (tii + 1))]) (rest := []) ⟨hx, hb, hml, hown, hts⟩ (x_lookAt l D cA sa r0 p0 (tii + 1) (nI tii) (fk tii) (ft tii) u0_6_1 iek iep (fv tii) r1 k1 k2 k3 ct fk ft fv H.size hct hn28.1) (cwV 1 hts gX4_readCondition_X4_lookAt rfl rfl rfl (by decide +kernel) ⟨by show (0) + 1 ≤ 3 * (k9 + 1) + 22; omega, by show 8 + (2 + 11) + (0) ≤ 72 * (k9 + 1) + 368; omega⟩) ⟨Wd.blind, va_recv hK hPc (ci := 8) (q0 := 0) rfl rfl, fun U hU hW => ⟨rfl, Wd.call hPc hDc hK hC hZ hS hFc U hU hW⟩⟩ rfl rfl hl.1 rfl (lv_room (Nat.le_of_ble_eq_true rfl)) dX4_readCondition_35 ⟨(Nat.le_of_ble_eq_true rfl), (Nat.le_of_ble_eq_true rfl)⟩) hS (fun q _ h => hFc q h) hFc (fun u t H1 locs ht hvm hw hB hz1 hk1 hS => ?_)
          obtain ⟨hP1, hD1⟩ := hB
          rw [ht] at hP1
          obtain ⟨hP, hD⟩ := PDq.join (w := [(oX3 p0 pr pb pe pg p1 (nI nd) p2 p3 p4 p5 (nI cn) p6 (nI qmi) p7 p8 p9 (nI smi)), (p2, .inl (cA 1, 10, .inr (.inl fna))), (p6, .inl (cA 1, 8, .inr (.inl f7_1))), (p7, .inl (cA 0, 350, .inl f8_1)), (p8, .inl (cA 0, 350, .inl f9_1)), (oX4 r0 r1 p0 (nI (tii + 1)) (fk (tii + 1)) (ft (tii + 1)) (fv (tii + 1)) u0_6_1 iek iep), (oX5 r1 k1 k2 k3 (nI ct)), (k1, .inl (cA 0, 701, .inl fk)), (k2, .inl (cA 0, 701, .inl ft)), (k3, .inl (cA 1, 701, .inr (.inl fv)))]) 5 hP hD [0, 1, 2, 3, 4] [5, 6, 7, 8, 9] rfl rfl (by decide) (by decide +kernel) hk1 hFc hP1 hD1 rfl
          generalize H1 = H at hP hS ⊢
          refine lv_aload_n hx hb dX4_readCondition_38 rfl (lv_at hl 2 rfl) ?_
          refine lv_iload_n hx hb dX4_readCondition_39 rfl (lv_at hl 3 rfl) ?_
          obtain ⟨hPc, hDc, hFc⟩ := PDq.cut (wc := [(oX4 r0 r1 p0 (nI (tii + 1)) (fk (tii + 1)) (ft (tii + 1)) (fv (tii + 1)) u0_6_1 iek iep), (oX5 r1 k1 k2 k3 (nI ct)), (k1, .inl (cA 0, 701, .inl fk)), (k2, .inl (cA 0, 701, .inl ft)), (k3, .inl (cA 1, 701, .inr (.inl fv))), (oX3 p0 pr pb pe pg p1 (nI nd) p2 p3 p4 p5 (nI cn) p6 (nI qmi) p7 p8 p9 (nI smi)), (p2, .inl (cA 1, 10, .inr (.inl fna))), (p6, .inl (cA 1, 8, .inr (.inl f7_1))), (p7, .inl (cA 0, 350, .inl f8_1)), (p8, .inl (cA 0, 350, .inl f9_1))]) hP hD hS hA [5, 6, 7, 8, 9, 0, 1, 2, 3, 4] (by decide +kernel) rfl
          refine va_calli (va_runV (As := [.int (nI o9)]) (rest := []) ⟨hx, hb, hml, hown, hts⟩ (x_readBoth_S l D cA sa k9 IHf IHc r0 p0 (tii + 1) ln u0_6_1 iek iep r1 k1 k2 k3 ct fk ft fv fb gP gR p1 p2 p3 p4 p5 p6 p7 p8 p9 cn qmi nd smi pr pb pe pg fna f7_1 f8_1 f9_1 ml pli (sl + 2) o9 H.size hct hln hn28.1 hTX hcn hv2_1 hnd hv3_1 hNM hv6_1 (by omega) ho) (cwV 1 hts gX4_readCondition_X4_readBoth rfl rfl rfl (by decide +kernel) ⟨by show (3 * (k9 + 1) + 21) + 1 ≤ 3 * (k9 + 1) + 22; omega, by show 8 + (4 + 11) + (72 * (k9 + 1) + 344) ≤ 72 * (k9 + 1) + 368; omega⟩) ⟨Wd.blind, va_recv hK hPc (ci := 8) (q0 := 0) rfl rfl, fun U hU hW => ⟨rfl, Wd.call hPc hDc hK hC hZ hS hFc U hU hW⟩⟩ rfl rfl hl.1 rfl (lv_room (Nat.le_of_ble_eq_true rfl)) dX4_readCondition_40 ⟨(Nat.le_of_ble_eq_true rfl), (Nat.le_of_ble_eq_true rfl)⟩) hS (fun q _ h => hFc q h) hFc (fun rn30 u t H1 locs ht hvm hw hB hz1 hk1 hS => ?_)
          obtain ⟨qn31, qn32, qn33, zn34, zn35, zn36, fn37, fn38, fn39, zn40, hn41, hn42, hn43, hn44, hn45, hn46, hn47, hn48, hn49, hn50, hn51, hn52, hP1, hD1⟩ := hB
          rw [ht] at hP1
          obtain ⟨hP, hD⟩ := PDq.join (w := [(oX4 r0 r1 p0 (nI qn31) (fk qn31) (ft qn31) (fv qn31) zn34 zn35 zn36), (oX5 r1 k1 k2 k3 (nI ct)), (k1, .inl (cA 0, 701, .inl fk)), (k2, .inl (cA 0, 701, .inl ft)), (k3, .inl (cA 1, 701, .inr (.inl fv))), (oX3 p0 pr pb pe pg p1 (nI nd) p2 p3 p4 p5 (nI cn) p6 (nI qn32) p7 p8 p9 (nI qn33)), (p2, .inl (cA 1, 10, .inr (.inl fna))), (p6, .inl (cA 1, 8, .inr (.inl fn37))), (p7, .inl (cA 0, 350, .inl fn38)), (p8, .inl (cA 0, 350, .inl fn39))]) 0 hP hD [5, 6, 7, 8, 9, 0, 1, 2, 3, 4] [] rfl rfl (by decide) (by decide +kernel) hk1 hFc hP1 hD1 rfl
          generalize H1 = H at hP hS ⊢
          rcases hw.2 with hr9 | hr9
          · skip
            have hn52 := hn52 (hw.1.trans hr9)
            subst hr9
            refine lv_if_eq (tgt := 63) hx hb dX4_readCondition_43 (by decide) (fun c53 => ?_) (fun c9 => absurd c9 (by decide))
            refine lv_iconst (v := 0) hx hb dX4_readCondition_63 (by decide) ?_
            refine lv_istore_n (lv' := [(2, .int 0), (3, .int (nI i1)), (0, .ref r0), (1, .int (nI o9))]) hx hb dX4_readCondition_64 rfl hl (by decide) rfl (fun ls hl => ?_)
            refine lv_iinc (v := (nI (i1 + 1))) (lv' := [(3, .int (nI (i1 + 1))), (2, .int 0), (0, .ref r0), (1, .int (nI o9))]) hx hb dX4_readCondition_65 hl (k := 1) rfl (nI_1 _) (by decide) rfl (fun ls hl => ?_)
            refine lv_goto (tgt := 8) hx hb dX4_readCondition_68 (by decide) ?_
            refine lv_iload_n hx hb dX4_readCondition_8 rfl (lv_at hl 1 rfl) ?_
            refine lv_if_eq (tgt := 71) hx hb dX4_readCondition_9 (by decide) (fun c54 => ?_) (fun c9 => absurd c9 (by decide))
            refine lv_iload_n hx hb dX4_readCondition_71 rfl (lv_at hl 1 rfl) ?_
            obtain ⟨hP9, hD9⟩ := PDq.sub (ws' := [(oX4 r0 r1 p0 (nI qn31) (fk qn31) (ft qn31) (fv qn31) zn34 zn35 zn36), (oX5 r1 k1 k2 k3 (nI ct)), (k1, .inl (cA 0, 701, .inl fk)), (k2, .inl (cA 0, 701, .inl ft)), (k3, .inl (cA 1, 701, .inr (.inl fv))), (oX3 p0 pr pb pe pg p1 (nI nd) p2 p3 p4 p5 (nI cn) p6 (nI qn32) p7 p8 p9 (nI qn33)), (p2, .inl (cA 1, 10, .inr (.inl fna))), (p6, .inl (cA 1, 8, .inr (.inl fn37))), (p7, .inl (cA 0, 350, .inl fn38)), (p8, .inl (cA 0, 350, .inl fn39))]) hP hD [0, 1, 2, 3, 4, 5, 6, 7, 8, 9] (by decide +kernel) rfl
            refine W.widen (k := 0) (n := 0) (Nat.le_of_ble_eq_true rfl) (Nat.le_of_ble_eq_true rfl) ?_
            exact (W.zret (v := 0) hx hb hr (by first | rfl | decide) (fun t ht hW => ⟨⟨0, 0, rfl, ⟨rfl, by decide⟩, qn31, qn32, qn33, zn34, zn35, zn36, fn37, fn38, fn39, zn40, hn41, hn42, (by omega), hn44, hn45, hn46, (fun h9 => absurd h9 (by decide)), (fun h9 => absurd h9 (by decide)), (fun h9 => absurd h9 (by decide)), (fun h9 => absurd h9 (by decide)), (fun h9 => absurd h9 (by decide)), (fun _ => (hv7_1 _ (P_orE c27 hn52))), by rw [ht]; exact hP9, hD9⟩, hS.F ht⟩) hS.2.2 dX4_readCondition_72)
          · skip
            have hn47 := hn47 (hw.1.trans hr9)
            obtain rfl : iek = zn35 := hn47.symm
            obtain ⟨hP, hD⟩ : PDq D A [(oX4 r0 r1 p0 (nI qn31) (fk qn31) (ft qn31) (fv qn31) zn34 iek zn36), (oX5 r1 k1 k2 k3 (nI ct)), (k1, .inl (cA 0, 701, .inl fk)), (k2, .inl (cA 0, 701, .inl ft)), (k3, .inl (cA 1, 701, .inr (.inl fv))), (oX3 p0 pr pb pe pg p1 (nI nd) p2 p3 p4 p5 (nI cn) p6 (nI qn32) p7 p8 p9 (nI qn33)), (p2, .inl (cA 1, 10, .inr (.inl fna))), (p6, .inl (cA 1, 8, .inr (.inl fn37))), (p7, .inl (cA 0, 350, .inl fn38)), (p8, .inl (cA 0, 350, .inl fn39))] H := ⟨hP, hD⟩
            have hn48 := hn48 (hw.1.trans hr9)
            obtain rfl : iep = zn36 := hn48.symm
            obtain ⟨hP, hD⟩ : PDq D A [(oX4 r0 r1 p0 (nI qn31) (fk qn31) (ft qn31) (fv qn31) zn34 iek iep), (oX5 r1 k1 k2 k3 (nI ct)), (k1, .inl (cA 0, 701, .inl fk)), (k2, .inl (cA 0, 701, .inl ft)), (k3, .inl (cA 1, 701, .inr (.inl fv))), (oX3 p0 pr pb pe pg p1 (nI nd) p2 p3 p4 p5 (nI cn) p6 (nI qn32) p7 p8 p9 (nI qn33)), (p2, .inl (cA 1, 10, .inr (.inl fna))), (p6, .inl (cA 1, 8, .inr (.inl fn37))), (p7, .inl (cA 0, 350, .inl fn38)), (p8, .inl (cA 0, 350, .inl fn39))] H := ⟨hP, hD⟩
            have hn49 := hn49 (hw.1.trans hr9)
            have hn50 := hn50 (hw.1.trans hr9)
            have hn51 := hn51 (hw.1.trans hr9)
            subst hr9
            refine lv_if_eq (tgt := 63) hx hb dX4_readCondition_43 (by decide) (fun c9 => absurd c9 (by decide)) (fun c55 => ?_)
            refine lv_aload_n hx hb dX4_readCondition_46 rfl (lv_at hl 2 rfl) ?_
            refine va_get (D := D) (ci := 8) (v := .ref p0) (C := RX4) (T := TX4) (N := 9) hx hb hts inX4 hown hK hP 0 rfl rfl 1 (by decide) (hts (.fieldLink RX4 25 "EscrowDesk$Reader" "plan" "LEscrowDesk$Plan;") (by decide +kernel)) (fun _ h9 => h9) rfl dX4_readCondition_47 ?_
            refine lv_bipush (v := 14) hx hb dX4_readCondition_50 (by decide) ?_
            refine lv_iconst (v := 0) hx hb dX4_readCondition_52 (by decide) ?_
            obtain ⟨hPc, hDc, hFc⟩ := PDq.cut (wc := [(oX3 p0 pr pb pe pg p1 (nI nd) p2 p3 p4 p5 (nI cn) p6 (nI qn32) p7 p8 p9 (nI qn33)), (p7, .inl (cA 0, 350, .inl fn38)), (p8, .inl (cA 0, 350, .inl fn39))]) hP hD hS hA [5, 8, 9] (by decide) rfl
            refine va_calli (va_runV (As := [.int 14, .int 0]) (rest := []) ⟨hx, hb, hml, hown, hts⟩ (x_addStep l D cA sa p0 p1 p2 p3 p4 p5 p6 p7 p8 p9 cn qn32 nd qn33 pr pb pe pg 14 0 fn38 fn39 H.size (by omega)) (cwV 2 hts gX4_readCondition_X3_addStep rfl rfl rfl (by decide +kernel) ⟨by show (0) + 1 ≤ 3 * (k9 + 1) + 22; omega, by show 8 + (3 + 11) + (0) ≤ 72 * (k9 + 1) + 368; omega⟩) ⟨Wd.blind, va_recv hK hPc (ci := 7) (q0 := 0) rfl rfl, fun U hU hW => ⟨rfl, Wd.call hPc hDc hK hC hZ hS hFc U hU hW⟩⟩ rfl rfl hl.1 rfl (lv_room (Nat.le_of_ble_eq_true rfl)) dX4_readCondition_53 ⟨(Nat.le_of_ble_eq_true rfl), (Nat.le_of_ble_eq_true rfl)⟩) hS (fun q _ h => hFc q h) hFc (fun rn56 u t H1 locs ht hvm hw hB hz1 hk1 hS => ?_)
            obtain ⟨fn57, fn58, hP1, hD1⟩ := hB
            rw [ht] at hP1
            obtain ⟨hP, hD⟩ := PDq.join (w := [(oX4 r0 r1 p0 (nI qn31) (fk qn31) (ft qn31) (fv qn31) zn34 iek iep), (oX5 r1 k1 k2 k3 (nI ct)), (k1, .inl (cA 0, 701, .inl fk)), (k2, .inl (cA 0, 701, .inl ft)), (k3, .inl (cA 1, 701, .inr (.inl fv))), (p2, .inl (cA 1, 10, .inr (.inl fna))), (p6, .inl (cA 1, 8, .inr (.inl fn37))), (oX3 p0 pr pb pe pg p1 (nI nd) p2 p3 p4 p5 (nI cn) p6 (nI qn32) p7 p8 p9 (nI (qn33 + 1))), (p7, .inl (cA 0, 350, .inl fn57)), (p8, .inl (cA 0, 350, .inl fn58))]) 7 hP hD [5, 8, 9] [0, 1, 2, 3, 4, 6, 7] rfl rfl (by decide) (by decide +kernel) hk1 hFc hP1 hD1 rfl
            generalize H1 = H at hP hS ⊢
            obtain rfl : rn56 = 1 := hw
            refine lv_if_eq (tgt := 63) hx hb dX4_readCondition_56 (by decide) (fun c9 => absurd c9 (by decide)) (fun c59 => ?_)
            refine lv_iconst (v := 1) hx hb dX4_readCondition_59 (by decide) ?_
            refine lv_goto (tgt := 64) hx hb dX4_readCondition_60 (by decide) ?_
            refine lv_istore_n (lv' := [(2, .int 1), (3, .int (nI i1)), (0, .ref r0), (1, .int (nI o9))]) hx hb dX4_readCondition_64 rfl hl (by decide) rfl (fun ls hl => ?_)
            refine lv_iinc (v := (nI (i1 + 1))) (lv' := [(3, .int (nI (i1 + 1))), (2, .int 1), (0, .ref r0), (1, .int (nI o9))]) hx hb dX4_readCondition_65 hl (k := 1) rfl (nI_1 _) (by decide) rfl (fun ls hl => ?_)
            refine lv_goto (tgt := 8) hx hb dX4_readCondition_68 (by decide) ?_
            obtain ⟨hP9, hD9⟩ := PDq.sub (ws' := [(oX4 r0 r1 p0 (nI qn31) (fk qn31) (ft qn31) (fv qn31) zn34 iek iep), (oX5 r1 k1 k2 k3 (nI ct)), (k1, .inl (cA 0, 701, .inl fk)), (k2, .inl (cA 0, 701, .inl ft)), (k3, .inl (cA 1, 701, .inr (.inl fv))), (oX3 p0 pr pb pe pg p1 (nI nd) p2 p3 p4 p5 (nI cn) p6 (nI qn32) p7 p8 p9 (nI (qn33 + 1))), (p2, .inl (cA 1, 10, .inr (.inl fna))), (p6, .inl (cA 1, 8, .inr (.inl fn37))), (p7, .inl (cA 0, 350, .inl fn57)), (p8, .inl (cA 0, 350, .inl fn58))]) hP hD [0, 1, 2, 3, 4, 7, 5, 6, 8, 9] (by decide +kernel) rfl
            exact ih1 (i1 + 1) zn40 qn31 zn34 qn32 (qn33 + 1) fn37 fn57 fn58 H _ ls (by omega) (by omega) hn41 hn44 (by omega) (by omega) hn42 hn46 (fun r9 h9 => hv7_1 r9 (P_or c27 hn51 h9)) hP9 hD9 hS (lv_sub hl [0, 1, 2, 3] rfl)
    obtain ⟨hP9, hD9⟩ := PDq.sub (ws' := [(oX4 r0 r1 p0 (nI qn2) (fk qn2) (ft qn2) (fv qn2) zn5 iek iep), (oX5 r1 k1 k2 k3 (nI ct)), (k1, .inl (cA 0, 701, .inl fk)), (k2, .inl (cA 0, 701, .inl ft)), (k3, .inl (cA 1, 701, .inr (.inl fv))), (oX3 p0 pr pb pe pg p1 (nI nd) p2 p3 p4 p5 (nI cn) p6 (nI qn3) p7 p8 p9 (nI qn4)), (p2, .inl (cA 1, 10, .inr (.inl fna))), (p6, .inl (cA 1, 8, .inr (.inl fn8))), (p7, .inl (cA 0, 350, .inl fn9)), (p8, .inl (cA 0, 350, .inl fn10))]) hP hD [0, 1, 2, 3, 4, 5, 6, 7, 8, 9] (by decide +kernel) rfl
    exact loop1 (700 - 0) 0 zn11 qn2 zn5 qn3 qn4 fn8 fn9 fn10 _ _ ls (by omega) (by omega) hn12 hn15 hn16 hn20 hn13 hn17 (fun r9 h9 => P_cond hn22 h9) hP9 hD9 hS (lv_sub hl [0, 1, 2, 3] rfl)

set_option maxRecDepth 20000 in
theorem x_lv_look (l : Launch) (D : va_G) (cA : Nat → ClassId) (sa : Nat → Nat) : ∀ k9 : Nat, XFactC l D cA sa k9 ∧ XCondC l D cA sa k9 := by
  intro k9
  induction k9 with
  | zero => exact ⟨(fun r0 p0 ti ln inb iek iep r1 k1 k2 k3 ct fk ft fv fb gP gR p1 p2 p3 p4 p5 p6 p7 p8 p9 cn pq nd sc pr pb pe pg fna fpn fst fop ml pl sl o9 sz hct hln hti hTX hcn hpq hnd hsc hNM hNP hsl ho => x_readFact_B l D cA sa r0 p0 ti ln inb iek iep r1 k1 k2 k3 ct fk ft fv fb gP gR p1 p2 p3 p4 p5 p6 p7 p8 p9 cn pq nd sc pr pb pe pg fna fpn fst fop ml pl sl o9 sz hct hln hti hTX hcn hpq hnd hsc hNM hNP hsl (by omega)), (fun r0 p0 ti ln inb iek iep r1 k1 k2 k3 ct fk ft fv fb gP gR p1 p2 p3 p4 p5 p6 p7 p8 p9 cn pq nd sc pr pb pe pg fna fpn fst fop ml pl sl o9 sz hct hln hti hTX hcn hpq hnd hsc hNM hNP hsl ho => x_readCondition_B l D cA sa r0 p0 ti ln inb iek iep r1 k1 k2 k3 ct fk ft fv fb gP gR p1 p2 p3 p4 p5 p6 p7 p8 p9 cn pq nd sc pr pb pe pg fna fpn fst fop ml pl sl o9 sz hct hln hti hTX hcn hpq hnd hsc hNM hNP hsl (by omega))⟩
  | succ k9 ih => exact ⟨(fun r0 p0 ti ln inb iek iep r1 k1 k2 k3 ct fk ft fv fb gP gR p1 p2 p3 p4 p5 p6 p7 p8 p9 cn pq nd sc pr pb pe pg fna fpn fst fop ml pl sl o9 sz hct hln hti hTX hcn hpq hnd hsc hNM hNP hsl ho => x_readFact_S l D cA sa k9 ih.1 ih.2 r0 p0 ti ln inb iek iep r1 k1 k2 k3 ct fk ft fv fb gP gR p1 p2 p3 p4 p5 p6 p7 p8 p9 cn pq nd sc pr pb pe pg fna fpn fst fop ml pl sl o9 sz hct hln hti hTX hcn hpq hnd hsc hNM hNP hsl ho), (fun r0 p0 ti ln inb iek iep r1 k1 k2 k3 ct fk ft fv fb gP gR p1 p2 p3 p4 p5 p6 p7 p8 p9 cn pq nd sc pr pb pe pg fna fpn fst fop ml pl sl o9 sz hct hln hti hTX hcn hpq hnd hsc hNM hNP hsl ho => x_readCondition_S l D cA sa k9 ih.1 ih.2 r0 p0 ti ln inb iek iep r1 k1 k2 k3 ct fk ft fv fb gP gR p1 p2 p3 p4 p5 p6 p7 p8 p9 cn pq nd sc pr pb pe pg fna fpn fst fop ml pl sl o9 sz hct hln hti hTX hcn hpq hnd hsc hNM hNP hsl ho)⟩

theorem x_readCondition_0_look (l : Launch) (D : va_G) (cA : Nat → ClassId) (sa : Nat → Nat) (r0 : Nat) (p0 : Nat) (ti : Nat) (ln : Nat) (inb : Int32) (iek : Int32) (iep : Int32) (r1 : Nat) (k1 : Nat) (k2 : Nat) (k3 : Nat) (ct : Nat) (fk : Nat → Int32) (ft : Nat → Int32) (fv : Nat → Int64) (fb : Nat → Int32) (gP : Nat → Nat) (gR : Nat → Nat) (p1 : Nat) (p2 : Nat) (p3 : Nat) (p4 : Nat) (p5 : Nat) (p6 : Nat) (p7 : Nat) (p8 : Nat) (p9 : Nat) (cn : Nat) (pq : Nat) (nd : Nat) (sc : Nat) (pr : Int32) (pb : Int32) (pe : Int32) (pg : Int32) (fna : Nat → Int64) (fpn : Nat → Int64) (fst : Nat → Int32) (fop : Nat → Int32) (ml : List Int64) (pl : List Int64) (sl : Nat)  (sz : Nat) (hct : ct ≤ 701) (hln : ln ≤ 700) (hti : ti < ct) (hTX : TX fb ln ct gP gR ft fv fk) (hcn : cn ≤ 10) (hpq : pq ≤ 8) (hnd : nd ≤ 6) (hsc : sc ≤ 350) (hNM : NL ml cn fna) (hNP : NL pl pq fpn) (hsl : 2 * sc + sl ≤ gP ti) : Met l yX4_readCondition wsX4_readCondition ({ frames := 46, cells := 0, slots := 0, locals := 944 }) (va_Pc [.ref r0, .int 0] (Wd D cA sa [(oX4 r0 r1 p0 (nI ti) (fk ti) (ft ti) (fv ti) inb iek iep), (oX5 r1 k1 k2 k3 (nI ct)), (k1, .inl (cA 0, 701, .inl fk)), (k2, .inl (cA 0, 701, .inl ft)), (k3, .inl (cA 1, 701, .inr (.inl fv))), (oX3 p0 pr pb pe pg p1 (nI nd) p2 p3 p4 p5 (nI cn) p6 (nI pq) p7 p8 p9 (nI sc)), (p2, .inl (cA 1, 10, .inr (.inl fna))), (p6, .inl (cA 1, 8, .inr (.inl fpn))), (p7, .inl (cA 0, 350, .inl fst)), (p8, .inl (cA 0, 350, .inl fop))] sz)) (va_Qi (fun (r : Int32) (u9 : Int32) => u9 = r ∧ (r = 0 ∨ r = 1)) (fun (u9 : Int32) t => ∃ tj : Nat, ∃ qm : Nat, ∃ sm : Nat, ∃ znr : Int32, ∃ zek : Int32, ∃ zep : Int32, ∃ zpn : Nat → Int64, ∃ zst : Nat → Int32, ∃ zop : Nat → Int32, ∃ zpl : List Int64, tj < ct ∧ gP tj ≤ ln ∧ ti ≤ tj ∧ qm ≤ 8 ∧ sm ≤ 350 ∧ NL zpl qm zpn ∧ (u9 = 1 → zek = iek) ∧ (u9 = 1 → zep = iep) ∧ (u9 = 1 → 2 * sm + sl ≤ gP tj) ∧ (u9 = 1 → ti + 1 ≤ tj) ∧ (u9 = 1 → PRx fk ft fv ml 3 0 ti pl (.inr (tj, zpl))) ∧ (u9 = 0 → PRx fk ft fv ml 3 0 ti pl (.inl (zek, zep))) ∧ Wq D (va_A [(oX4 r0 r1 p0 (nI ti) (fk ti) (ft ti) (fv ti) inb iek iep), (oX5 r1 k1 k2 k3 (nI ct)), (k1, .inl (cA 0, 701, .inl fk)), (k2, .inl (cA 0, 701, .inl ft)), (k3, .inl (cA 1, 701, .inr (.inl fv))), (oX3 p0 pr pb pe pg p1 (nI nd) p2 p3 p4 p5 (nI cn) p6 (nI pq) p7 p8 p9 (nI sc)), (p2, .inl (cA 1, 10, .inr (.inl fna))), (p6, .inl (cA 1, 8, .inr (.inl fpn))), (p7, .inl (cA 0, 350, .inl fst)), (p8, .inl (cA 0, 350, .inl fop))] sz) [(oX4 r0 r1 p0 (nI tj) (fk tj) (ft tj) (fv tj) znr zek zep), (oX5 r1 k1 k2 k3 (nI ct)), (k1, .inl (cA 0, 701, .inl fk)), (k2, .inl (cA 0, 701, .inl ft)), (k3, .inl (cA 1, 701, .inr (.inl fv))), (oX3 p0 pr pb pe pg p1 (nI nd) p2 p3 p4 p5 (nI cn) p6 (nI qm) p7 p8 p9 (nI sm)), (p2, .inl (cA 1, 10, .inr (.inl fna))), (p6, .inl (cA 1, 8, .inr (.inl zpn))), (p7, .inl (cA 0, 350, .inl zst)), (p8, .inl (cA 0, 350, .inl zop))] t) (va_A [(oX4 r0 r1 p0 (nI ti) (fk ti) (ft ti) (fv ti) inb iek iep), (oX5 r1 k1 k2 k3 (nI ct)), (k1, .inl (cA 0, 701, .inl fk)), (k2, .inl (cA 0, 701, .inl ft)), (k3, .inl (cA 1, 701, .inr (.inl fv))), (oX3 p0 pr pb pe pg p1 (nI nd) p2 p3 p4 p5 (nI cn) p6 (nI pq) p7 p8 p9 (nI sc)), (p2, .inl (cA 1, 10, .inr (.inl fna))), (p6, .inl (cA 1, 8, .inr (.inl fpn))), (p7, .inl (cA 0, 350, .inl fst)), (p8, .inl (cA 0, 350, .inl fop))] sz)) 0 0 (va_A [(oX4 r0 r1 p0 (nI ti) (fk ti) (ft ti) (fv ti) inb iek iep), (oX5 r1 k1 k2 k3 (nI ct)), (k1, .inl (cA 0, 701, .inl fk)), (k2, .inl (cA 0, 701, .inl ft)), (k3, .inl (cA 1, 701, .inr (.inl fv))), (oX3 p0 pr pb pe pg p1 (nI nd) p2 p3 p4 p5 (nI cn) p6 (nI pq) p7 p8 p9 (nI sc)), (p2, .inl (cA 1, 10, .inr (.inl fna))), (p6, .inl (cA 1, 8, .inr (.inl fpn))), (p7, .inl (cA 0, 350, .inl fst)), (p8, .inl (cA 0, 350, .inl fop))] sz) :=
  (x_lv l D cA sa 8).2 r0 p0 ti ln inb iek iep r1 k1 k2 k3 ct fk ft fv fb gP gR p1 p2 p3 p4 p5 p6 p7 p8 p9 cn pq nd sc pr pb pe pg fna fpn fst fop ml pl sl 0 sz hct hln hti hTX hcn hpq hnd hsc hNM hNP hsl (by omega)

set_option maxHeartbeats 4000000 in
set_option maxRecDepth 100000 in
/-- readRate -/
theorem x_readRate_look (l : Launch) (D : va_G) (cA : Nat → ClassId) (sa : Nat → Nat) (r0 : Nat) (p0 : Nat) (ti : Nat) (ln : Nat) (inb : Int32) (iek : Int32) (iep : Int32) (r1 : Nat) (k1 : Nat) (k2 : Nat) (k3 : Nat) (ct : Nat) (fk : Nat → Int32) (ft : Nat → Int32) (fv : Nat → Int64) (fb : Nat → Int32) (gP : Nat → Nat) (gR : Nat → Nat) (p1 : Nat) (p2 : Nat) (p3 : Nat) (p4 : Nat) (p5 : Nat) (p6 : Nat) (p7 : Nat) (p8 : Nat) (p9 : Nat) (cn : Nat) (pq : Nat) (nd : Nat) (sc : Nat) (pr : Int32) (pb : Int32) (pe : Int32) (pg : Int32) (ml : List Int64) (pl : List Int64) (sz : Nat) (hct : ct ≤ 701) (hln : ln ≤ 700) (hti : ti < ct) (hTX : TX fb ln ct gP gR ft fv fk) (hsl : 2 * sc ≤ gP ti) (hk : fk ti = 8) : Met l yX4_readRate wsX4_readRate ({ frames := 2, cells := 0, slots := 0, locals := 43 }) (va_Pc [.ref r0] (Wd D cA sa [(oX4 r0 r1 p0 (nI ti) (fk ti) (ft ti) (fv ti) inb iek iep), (oX5 r1 k1 k2 k3 (nI ct)), (k1, .inl (cA 0, 701, .inl fk)), (k2, .inl (cA 0, 701, .inl ft)), (k3, .inl (cA 1, 701, .inr (.inl fv))), (oX3 p0 pr pb pe pg p1 (nI nd) p2 p3 p4 p5 (nI cn) p6 (nI pq) p7 p8 p9 (nI sc))] sz)) (va_Qi (fun (r : Int32) (u9 : Int32) => u9 = r ∧ (r = 0 ∨ r = 1)) (fun (u9 : Int32) t => ∃ tj : Nat, ∃ znr : Int32, ∃ zek : Int32, ∃ zep : Int32, ∃ zra : Int32, ∃ zba : Int32, tj < ct ∧ gP tj ≤ ln ∧ (u9 = 1 → zek = iek) ∧ (u9 = 1 → zep = iep) ∧ (u9 = 1 → ti + 2 ≤ tj) ∧ (u9 = 1 → 2 * sc ≤ gP tj) ∧ (u9 = 1 → ST9 fk ft fv ti nd ml pl tj nd ml pl) ∧ (u9 = 0 → SE9 fk ft fv ti nd ml pl zek zep) ∧ Wq D (va_A [(oX4 r0 r1 p0 (nI ti) (fk ti) (ft ti) (fv ti) inb iek iep), (oX5 r1 k1 k2 k3 (nI ct)), (k1, .inl (cA 0, 701, .inl fk)), (k2, .inl (cA 0, 701, .inl ft)), (k3, .inl (cA 1, 701, .inr (.inl fv))), (oX3 p0 pr pb pe pg p1 (nI nd) p2 p3 p4 p5 (nI cn) p6 (nI pq) p7 p8 p9 (nI sc))] sz) [(oX4 r0 r1 p0 (nI tj) (fk tj) (ft tj) (fv tj) znr zek zep), (oX5 r1 k1 k2 k3 (nI ct)), (k1, .inl (cA 0, 701, .inl fk)), (k2, .inl (cA 0, 701, .inl ft)), (k3, .inl (cA 1, 701, .inr (.inl fv))), (oX3 p0 zra zba pe pg p1 (nI nd) p2 p3 p4 p5 (nI cn) p6 (nI pq) p7 p8 p9 (nI sc))] t) (va_A [(oX4 r0 r1 p0 (nI ti) (fk ti) (ft ti) (fv ti) inb iek iep), (oX5 r1 k1 k2 k3 (nI ct)), (k1, .inl (cA 0, 701, .inl fk)), (k2, .inl (cA 0, 701, .inl ft)), (k3, .inl (cA 1, 701, .inr (.inl fv))), (oX3 p0 pr pb pe pg p1 (nI nd) p2 p3 p4 p5 (nI cn) p6 (nI pq) p7 p8 p9 (nI sc))] sz)) 0 0 (va_A [(oX4 r0 r1 p0 (nI ti) (fk ti) (ft ti) (fv ti) inb iek iep), (oX5 r1 k1 k2 k3 (nI ct)), (k1, .inl (cA 0, 701, .inl fk)), (k2, .inl (cA 0, 701, .inl ft)), (k3, .inl (cA 1, 701, .inr (.inl fv))), (oX3 p0 pr pb pe pg p1 (nI nd) p2 p3 p4 p5 (nI cn) p6 (nI pq) p7 p8 p9 (nI sc))] sz) := by
  refine Met.ofW (cc := cX4_readRate) (maxL := 1) (ret := (some .boolean)) (by decide) rfl ?_
  intro p e s m args below meth c s₁ B hml hv
  obtain ⟨rfl, hsz, hP, hK, hD0, hC, hZ⟩ := hv
  have hx := B.exec
  have hb := B.bytes
  have hr := B.returns
  have hts := atoms_spec (ws := wsX4_readRate) B.pre
  have hown : s.vm.findClass RX4 = some m.cls := findClass_of_methodNamed B.named
  have hlocks := B.notSynchronized
  subst hsz
  have hD := hD0.self (sz := s.heap.size)
  generalize hAe : va_A [(oX4 r0 r1 p0 (nI ti) (fk ti) (ft ti) (fv ti) inb iek iep), (oX5 r1 k1 k2 k3 (nI ct)), (k1, .inl (cA 0, 701, .inl fk)), (k2, .inl (cA 0, 701, .inl ft)), (k3, .inl (cA 1, 701, .inr (.inl fv))), (oX3 p0 pr pb pe pg p1 (nI nd) p2 p3 p4 p5 (nI cn) p6 (nI pq) p7 p8 p9 (nI sc))] s.heap.size = A at hD hZ ⊢
  have hA : ∀ q : Nat, s.heap.size ≤ q → A q := fun q h => by rw [← hAe]; exact Or.inr h
  have hS : va_S A s.heap s.heap [] := va_S.rf
  have hP : va_P D vwCl [(oX4 r0 r1 p0 (nI ti) (fk ti) (ft ti) (fv ti) inb iek iep), (oX5 r1 k1 k2 k3 (nI ct)), (k1, .inl (cA 0, 701, .inl fk)), (k2, .inl (cA 0, 701, .inl ft)), (k3, .inl (cA 1, 701, .inr (.inl fv))), (oX3 p0 pr pb pe pg p1 (nI nd) p2 p3 p4 p5 (nI cn) p6 (nI pq) p7 p8 p9 (nI sc))] s.heap := hP
  have hl := lv_entry ([.ref r0]) (n := 1) (Nat.le_of_ble_eq_true rfl)
  rw [lg_entry_eq]
  generalize (lg_sl ([.ref r0]) ++ List.replicate (1 - (lg_sl ([.ref r0])).length) Slot.unset).toArray = ls at hl ⊢
  have hl : lv_has ls 1 [(0, .ref r0)] := hl
  have inX3 : ∀ w ∈ u_ws RX3 TX3 17, w ∈ wsX4_readRate := by decide +kernel
  have inX4 : ∀ w ∈ u_ws RX4 TX4 9, w ∈ wsX4_readRate := by decide +kernel
  have hle9 := TX.le hTX hti
  have hn1 := TX.go2 hTX hti (by rw [hk]; decide)
  refine lv_aload_n hx hb dX4_readRate_0 rfl (lv_at hl 0 rfl) ?_
  refine lv_aload_n hx hb dX4_readRate_1 rfl (lv_at hl 0 rfl) ?_
  refine va_get (D := D) (ci := 8) (v := .int (nI ti)) (C := RX4) (T := TX4) (N := 9) hx hb hts inX4 hown hK hP 0 rfl rfl 2 (by decide) (hts (.fieldLink RX4 70 "EscrowDesk$Reader" "token" "I") (by decide +kernel)) (fun _ h9 => h9) rfl dX4_readRate_2 ?_
  refine lv_iconst (v := 1) hx hb dX4_readRate_5 (by decide) ?_
  refine lv_iadd hx hb dX4_readRate_6 ?_
  refine lv_topi (fun yn2 eyn2 => ?_)
  obtain rfl : yn2 = (nI (ti + 1)) := eyn2.trans (nI_add ti 1)
  obtain ⟨hPc, hDc, hFc⟩ := PDq.cut (wc := [(oX4 r0 r1 p0 (nI ti) (fk ti) (ft ti) (fv ti) inb iek iep), (oX5 r1 k1 k2 k3 (nI ct)), (k1, .inl (cA 0, 701, .inl fk)), (k2, .inl (cA 0, 701, .inl ft)), (k3, .inl (cA 1, 701, .inr (.inl fv)))]) hP hD hS hA [0, 1, 2, 3, 4] (by decide) rfl
  refine va_callv (va_runV (As := [.int (nI (ti + 1))]) (rest := []) ⟨hx, hb, hml, hown, hts⟩ (x_lookAt l D cA sa r0 p0 (ti + 1) (nI ti) (fk ti) (ft ti) inb iek iep (fv ti) r1 k1 k2 k3 ct fk ft fv s.heap.size hct hn1.1) (cwV 1 hts gX4_readRate_X4_lookAt rfl rfl rfl (by decide +kernel) ⟨(Nat.le_of_ble_eq_true rfl), (Nat.le_of_ble_eq_true rfl)⟩) ⟨Wd.blind, va_recv hK hPc (ci := 8) (q0 := 0) rfl rfl, fun U hU hW => ⟨rfl, Wd.call hPc hDc hK hC hZ hS hFc U hU hW⟩⟩ rfl rfl hl.1 rfl (lv_room (Nat.le_of_ble_eq_true rfl)) dX4_readRate_7 ⟨(Nat.le_of_ble_eq_true rfl), (Nat.le_of_ble_eq_true rfl)⟩) hS (fun q _ h => hFc q h) hFc (fun u t H1 locs ht hvm hw hB hz1 hk1 hS => ?_)
  obtain ⟨hP1, hD1⟩ := hB
  rw [ht] at hP1
  obtain ⟨hP, hD⟩ := PDq.join (w := [(oX3 p0 pr pb pe pg p1 (nI nd) p2 p3 p4 p5 (nI cn) p6 (nI pq) p7 p8 p9 (nI sc)), (oX4 r0 r1 p0 (nI (ti + 1)) (fk (ti + 1)) (ft (ti + 1)) (fv (ti + 1)) inb iek iep), (oX5 r1 k1 k2 k3 (nI ct)), (k1, .inl (cA 0, 701, .inl fk)), (k2, .inl (cA 0, 701, .inl ft)), (k3, .inl (cA 1, 701, .inr (.inl fv)))]) 1 hP hD [0, 1, 2, 3, 4] [5] rfl rfl (by decide) (by decide) hk1 hFc hP1 hD1 rfl
  generalize H1 = H at hP hS ⊢
  refine lv_aload_n hx hb dX4_readRate_10 rfl (lv_at hl 0 rfl) ?_
  refine lv_iconst (v := 0) hx hb dX4_readRate_11 (by decide) ?_
  refine lv_sipush (v := 3000) hx hb dX4_readRate_12 (by decide) ?_
  obtain ⟨hPc, hDc, hFc⟩ := PDq.cut (wc := [(oX4 r0 r1 p0 (nI (ti + 1)) (fk (ti + 1)) (ft (ti + 1)) (fv (ti + 1)) inb iek iep), (oX5 r1 k1 k2 k3 (nI ct)), (k1, .inl (cA 0, 701, .inl fk)), (k2, .inl (cA 0, 701, .inl ft)), (k3, .inl (cA 1, 701, .inr (.inl fv)))]) hP hD hS hA [1, 2, 3, 4, 5] (by decide) rfl
  refine va_calli (va_runV (As := [.int 0, .int 3000]) (rest := []) ⟨hx, hb, hml, hown, hts⟩ (x_takeNumber l D cA sa r0 p0 (ti + 1) ln inb iek iep r1 k1 k2 k3 ct fk ft fv fb gP gR 0 3000 H.size hct hln hn1.1 hTX (by omega) (by omega)) (cwV 2 hts gX4_readRate_X4_takeNumber rfl rfl rfl (by decide +kernel) ⟨(Nat.le_of_ble_eq_true rfl), (Nat.le_of_ble_eq_true rfl)⟩) ⟨Wd.blind, va_recv hK hPc (ci := 8) (q0 := 0) rfl rfl, fun U hU hW => ⟨rfl, Wd.call hPc hDc hK hC hZ hS hFc U hU hW⟩⟩ rfl rfl hl.1 rfl (lv_room (Nat.le_of_ble_eq_true rfl)) dX4_readRate_15 ⟨(Nat.le_of_ble_eq_true rfl), (Nat.le_of_ble_eq_true rfl)⟩) hS (fun q _ h => hFc q h) hFc (fun rn3 u t H1 locs ht hvm hw hB hz1 hk1 hS => ?_)
  obtain ⟨qn4, zn5, zn6, zn7, hn8, hn9, hn10, hn11, hn12, hn13, hn14, hn15, hn16, hn17, hP1, hD1⟩ := hB
  rw [ht] at hP1
  obtain ⟨hP, hD⟩ := PDq.join (w := [(oX3 p0 pr pb pe pg p1 (nI nd) p2 p3 p4 p5 (nI cn) p6 (nI pq) p7 p8 p9 (nI sc)), (oX4 r0 r1 p0 (nI qn4) (fk qn4) (ft qn4) (fv qn4) zn5 zn6 zn7), (oX5 r1 k1 k2 k3 (nI ct)), (k1, .inl (cA 0, 701, .inl fk)), (k2, .inl (cA 0, 701, .inl ft)), (k3, .inl (cA 1, 701, .inr (.inl fv)))]) 1 hP hD [1, 2, 3, 4, 5] [0] rfl rfl (by decide) (by decide) hk1 hFc hP1 hD1 rfl
  generalize H1 = H at hP hS ⊢
  rcases hw.2 with hr9 | hr9
  · skip
    have hn16 := hn16 (hw.1.trans hr9)
    have hn17 := hn17 (hw.1.trans hr9)
    subst hr9
    refine lv_if_ne (tgt := 23) hx hb dX4_readRate_18 (by decide) (fun c9 => absurd c9 (by decide)) (fun c18 => ?_)
    refine lv_iconst (v := 0) hx hb dX4_readRate_21 (by decide) ?_
    obtain ⟨hP9, hD9⟩ := PDq.sub (ws' := [(oX4 r0 r1 p0 (nI qn4) (fk qn4) (ft qn4) (fv qn4) zn5 zn6 zn7), (oX5 r1 k1 k2 k3 (nI ct)), (k1, .inl (cA 0, 701, .inl fk)), (k2, .inl (cA 0, 701, .inl ft)), (k3, .inl (cA 1, 701, .inr (.inl fv))), (oX3 p0 pr pb pe pg p1 (nI nd) p2 p3 p4 p5 (nI cn) p6 (nI pq) p7 p8 p9 (nI sc))]) hP hD [1, 2, 3, 4, 5, 0] (by decide) rfl
    refine W.widen (k := 0) (n := 0) (Nat.le_of_ble_eq_true rfl) (Nat.le_of_ble_eq_true rfl) ?_
    exact (W.zret (v := 0) hx hb hr (by first | rfl | decide) (fun t ht hW => ⟨⟨0, 0, rfl, ⟨rfl, by decide⟩, qn4, zn5, zn6, zn7, pr, pb, hn8, hn9, (fun h9 => absurd h9 (by decide)), (fun h9 => absurd h9 (by decide)), (fun h9 => absurd h9 (by decide)), (fun h9 => absurd h9 (by decide)), (fun h9 => absurd h9 (by decide)), (fun _ => (Or.inl (S_rateEx hk hn16 hn17))), by rw [ht]; exact hP9, hD9⟩, hS.F ht⟩) hS.2.2 dX4_readRate_22)
  · skip
    have hn11 := hn11 (hw.1.trans hr9)
    subst hn11
    obtain ⟨hP, hD⟩ : PDq D A [(oX3 p0 pr pb pe pg p1 (nI nd) p2 p3 p4 p5 (nI cn) p6 (nI pq) p7 p8 p9 (nI sc)), (oX4 r0 r1 p0 (nI ((ti + 1) + 1)) (fk ((ti + 1) + 1)) (ft ((ti + 1) + 1)) (fv ((ti + 1) + 1)) zn5 zn6 zn7), (oX5 r1 k1 k2 k3 (nI ct)), (k1, .inl (cA 0, 701, .inl fk)), (k2, .inl (cA 0, 701, .inl ft)), (k3, .inl (cA 1, 701, .inr (.inl fv)))] H := ⟨hP, hD⟩
    have hn12 := hn12 (hw.1.trans hr9)
    obtain rfl : iek = zn6 := hn12.symm
    obtain ⟨hP, hD⟩ : PDq D A [(oX3 p0 pr pb pe pg p1 (nI nd) p2 p3 p4 p5 (nI cn) p6 (nI pq) p7 p8 p9 (nI sc)), (oX4 r0 r1 p0 (nI ((ti + 1) + 1)) (fk ((ti + 1) + 1)) (ft ((ti + 1) + 1)) (fv ((ti + 1) + 1)) zn5 iek zn7), (oX5 r1 k1 k2 k3 (nI ct)), (k1, .inl (cA 0, 701, .inl fk)), (k2, .inl (cA 0, 701, .inl ft)), (k3, .inl (cA 1, 701, .inr (.inl fv)))] H := ⟨hP, hD⟩
    have hn13 := hn13 (hw.1.trans hr9)
    obtain rfl : iep = zn7 := hn13.symm
    obtain ⟨hP, hD⟩ : PDq D A [(oX3 p0 pr pb pe pg p1 (nI nd) p2 p3 p4 p5 (nI cn) p6 (nI pq) p7 p8 p9 (nI sc)), (oX4 r0 r1 p0 (nI ((ti + 1) + 1)) (fk ((ti + 1) + 1)) (ft ((ti + 1) + 1)) (fv ((ti + 1) + 1)) zn5 iek iep), (oX5 r1 k1 k2 k3 (nI ct)), (k1, .inl (cA 0, 701, .inl fk)), (k2, .inl (cA 0, 701, .inl ft)), (k3, .inl (cA 1, 701, .inr (.inl fv)))] H := ⟨hP, hD⟩
    have hn14 := hn14 (hw.1.trans hr9)
    have hn15 := hn15 (hw.1.trans hr9)
    subst hr9
    refine lv_if_ne (tgt := 23) hx hb dX4_readRate_18 (by decide) (fun c19 => ?_) (fun c9 => absurd c9 (by decide))
    refine lv_aload_n hx hb dX4_readRate_23 rfl (lv_at hl 0 rfl) ?_
    refine va_get (D := D) (ci := 8) (v := .ref p0) (C := RX4) (T := TX4) (N := 9) hx hb hts inX4 hown hK hP 1 rfl rfl 1 (by decide) (hts (.fieldLink RX4 25 "EscrowDesk$Reader" "plan" "LEscrowDesk$Plan;") (by decide +kernel)) (fun _ h9 => h9) rfl dX4_readRate_24 ?_
    refine lv_aload_n hx hb dX4_readRate_27 rfl (lv_at hl 0 rfl) ?_
    refine va_get (D := D) (ci := 8) (v := .int zn5) (C := RX4) (T := TX4) (N := 9) hx hb hts inX4 hown hK hP 1 rfl rfl 6 (by decide) (hts (.fieldLink RX4 91 "EscrowDesk$Reader" "number" "I") (by decide +kernel)) (fun _ h9 => h9) rfl dX4_readRate_28 ?_
    refine va_putN (D := D) (ci := 7) (v := .int zn5) (ty := .int) (C := RX3) (T := TX3) (N := 17) hx hb hts inX3 tyX3 tyX3_ok nmX3 hown hK hP hD hS 0 rfl rfl 0 (by decide) (hC.f (A := _) (a := RX4) (i := 98) (b := "EscrowDesk$Plan") (n := "rate") (d := "I") (x := "EscrowDesk") (by decide +kernel)) (fun _ h9 => h9) rfl (by decide +kernel) rfl rfl (Nat.le_of_ble_eq_true rfl) dX4_readRate_31 (fun H locs hP hD hS => ?_)
    obtain ⟨hP, hD⟩ : PDq D A [(oX3 p0 zn5 pb pe pg p1 (nI nd) p2 p3 p4 p5 (nI cn) p6 (nI pq) p7 p8 p9 (nI sc)), (oX4 r0 r1 p0 (nI ((ti + 1) + 1)) (fk ((ti + 1) + 1)) (ft ((ti + 1) + 1)) (fv ((ti + 1) + 1)) zn5 iek iep), (oX5 r1 k1 k2 k3 (nI ct)), (k1, .inl (cA 0, 701, .inl fk)), (k2, .inl (cA 0, 701, .inl ft)), (k3, .inl (cA 1, 701, .inr (.inl fv)))] H := ⟨hP, hD⟩
    refine lv_aload_n hx hb dX4_readRate_34 rfl (lv_at hl 0 rfl) ?_
    refine va_get (D := D) (ci := 8) (v := .int (fk ((ti + 1) + 1))) (C := RX4) (T := TX4) (N := 9) hx hb hts inX4 hown hK hP 1 rfl rfl 3 (by decide) (hts (.fieldLink RX4 42 "EscrowDesk$Reader" "kind" "I") (by decide +kernel)) (fun _ h9 => h9) rfl dX4_readRate_35 ?_
    refine lv_iconst (v := 3) hx hb dX4_readRate_38 (by decide) ?_
    refine lv_icmp_ne (tgt := 58) hx hb dX4_readRate_39 (by decide) (fun c20 => ?_) (fun c20 => ?_)
    · skip
      refine lv_aload_n hx hb dX4_readRate_58 rfl (lv_at hl 0 rfl) ?_
      refine lv_sipush (v := 360) hx hb dX4_readRate_59 (by decide) ?_
      refine lv_sipush (v := 365) hx hb dX4_readRate_62 (by decide) ?_
      obtain ⟨hPc, hDc, hFc⟩ := PDq.cut (wc := [(oX4 r0 r1 p0 (nI ((ti + 1) + 1)) (fk ((ti + 1) + 1)) (ft ((ti + 1) + 1)) (fv ((ti + 1) + 1)) zn5 iek iep), (oX5 r1 k1 k2 k3 (nI ct)), (k1, .inl (cA 0, 701, .inl fk)), (k2, .inl (cA 0, 701, .inl ft)), (k3, .inl (cA 1, 701, .inr (.inl fv)))]) hP hD hS hA [1, 2, 3, 4, 5] (by decide) rfl
      refine va_calli (va_runV (As := [.int 360, .int 365]) (rest := []) ⟨hx, hb, hml, hown, hts⟩ (x_takeNumber l D cA sa r0 p0 ((ti + 1) + 1) ln zn5 iek iep r1 k1 k2 k3 ct fk ft fv fb gP gR 360 365 H.size hct hln hn8 hTX (by omega) (by omega)) (cwV 2 hts gX4_readRate_X4_takeNumber rfl rfl rfl (by decide +kernel) ⟨(Nat.le_of_ble_eq_true rfl), (Nat.le_of_ble_eq_true rfl)⟩) ⟨Wd.blind, va_recv hK hPc (ci := 8) (q0 := 0) rfl rfl, fun U hU hW => ⟨rfl, Wd.call hPc hDc hK hC hZ hS hFc U hU hW⟩⟩ rfl rfl hl.1 rfl (lv_room (Nat.le_of_ble_eq_true rfl)) dX4_readRate_65 ⟨(Nat.le_of_ble_eq_true rfl), (Nat.le_of_ble_eq_true rfl)⟩) hS (fun q _ h => hFc q h) hFc (fun rn21 u t H1 locs ht hvm hw hB hz1 hk1 hS => ?_)
      obtain ⟨qn22, zn23, zn24, zn25, hn26, hn27, hn28, hn29, hn30, hn31, hn32, hn33, hn34, hn35, hP1, hD1⟩ := hB
      rw [ht] at hP1
      obtain ⟨hP, hD⟩ := PDq.join (w := [(oX3 p0 zn5 pb pe pg p1 (nI nd) p2 p3 p4 p5 (nI cn) p6 (nI pq) p7 p8 p9 (nI sc)), (oX4 r0 r1 p0 (nI qn22) (fk qn22) (ft qn22) (fv qn22) zn23 zn24 zn25), (oX5 r1 k1 k2 k3 (nI ct)), (k1, .inl (cA 0, 701, .inl fk)), (k2, .inl (cA 0, 701, .inl ft)), (k3, .inl (cA 1, 701, .inr (.inl fv)))]) 1 hP hD [1, 2, 3, 4, 5] [0] rfl rfl (by decide) (by decide) hk1 hFc hP1 hD1 rfl
      generalize H1 = H at hP hS ⊢
      rcases hw.2 with hr9 | hr9
      · skip
        have hn34 := hn34 (hw.1.trans hr9)
        have hn35 := hn35 (hw.1.trans hr9)
        subst hr9
        refine lv_if_ne (tgt := 73) hx hb dX4_readRate_68 (by decide) (fun c9 => absurd c9 (by decide)) (fun c36 => ?_)
        refine lv_iconst (v := 0) hx hb dX4_readRate_71 (by decide) ?_
        obtain ⟨hP9, hD9⟩ := PDq.sub (ws' := [(oX4 r0 r1 p0 (nI qn22) (fk qn22) (ft qn22) (fv qn22) zn23 zn24 zn25), (oX5 r1 k1 k2 k3 (nI ct)), (k1, .inl (cA 0, 701, .inl fk)), (k2, .inl (cA 0, 701, .inl ft)), (k3, .inl (cA 1, 701, .inr (.inl fv))), (oX3 p0 zn5 pb pe pg p1 (nI nd) p2 p3 p4 p5 (nI cn) p6 (nI pq) p7 p8 p9 (nI sc))]) hP hD [1, 2, 3, 4, 5, 0] (by decide) rfl
        refine W.widen (k := 0) (n := 0) (Nat.le_of_ble_eq_true rfl) (Nat.le_of_ble_eq_true rfl) ?_
        exact (W.zret (v := 0) hx hb hr (by first | rfl | decide) (fun t ht hW => ⟨⟨0, 0, rfl, ⟨rfl, by decide⟩, qn22, zn23, zn24, zn25, zn5, pb, hn26, hn27, (fun h9 => absurd h9 (by decide)), (fun h9 => absurd h9 (by decide)), (fun h9 => absurd h9 (by decide)), (fun h9 => absurd h9 (by decide)), (fun h9 => absurd h9 (by decide)), (fun _ => (Or.inl (S_rateFx hk hn15 (fun q9 => c20 q9.1) hn34 hn35))), by rw [ht]; exact hP9, hD9⟩, hS.F ht⟩) hS.2.2 dX4_readRate_72)
      · skip
        have hn29 := hn29 (hw.1.trans hr9)
        subst hn29
        obtain ⟨hP, hD⟩ : PDq D A [(oX3 p0 zn5 pb pe pg p1 (nI nd) p2 p3 p4 p5 (nI cn) p6 (nI pq) p7 p8 p9 (nI sc)), (oX4 r0 r1 p0 (nI (((ti + 1) + 1) + 1)) (fk (((ti + 1) + 1) + 1)) (ft (((ti + 1) + 1) + 1)) (fv (((ti + 1) + 1) + 1)) zn23 zn24 zn25), (oX5 r1 k1 k2 k3 (nI ct)), (k1, .inl (cA 0, 701, .inl fk)), (k2, .inl (cA 0, 701, .inl ft)), (k3, .inl (cA 1, 701, .inr (.inl fv)))] H := ⟨hP, hD⟩
        have hn30 := hn30 (hw.1.trans hr9)
        obtain rfl : iek = zn24 := hn30.symm
        obtain ⟨hP, hD⟩ : PDq D A [(oX3 p0 zn5 pb pe pg p1 (nI nd) p2 p3 p4 p5 (nI cn) p6 (nI pq) p7 p8 p9 (nI sc)), (oX4 r0 r1 p0 (nI (((ti + 1) + 1) + 1)) (fk (((ti + 1) + 1) + 1)) (ft (((ti + 1) + 1) + 1)) (fv (((ti + 1) + 1) + 1)) zn23 iek zn25), (oX5 r1 k1 k2 k3 (nI ct)), (k1, .inl (cA 0, 701, .inl fk)), (k2, .inl (cA 0, 701, .inl ft)), (k3, .inl (cA 1, 701, .inr (.inl fv)))] H := ⟨hP, hD⟩
        have hn31 := hn31 (hw.1.trans hr9)
        obtain rfl : iep = zn25 := hn31.symm
        obtain ⟨hP, hD⟩ : PDq D A [(oX3 p0 zn5 pb pe pg p1 (nI nd) p2 p3 p4 p5 (nI cn) p6 (nI pq) p7 p8 p9 (nI sc)), (oX4 r0 r1 p0 (nI (((ti + 1) + 1) + 1)) (fk (((ti + 1) + 1) + 1)) (ft (((ti + 1) + 1) + 1)) (fv (((ti + 1) + 1) + 1)) zn23 iek iep), (oX5 r1 k1 k2 k3 (nI ct)), (k1, .inl (cA 0, 701, .inl fk)), (k2, .inl (cA 0, 701, .inl ft)), (k3, .inl (cA 1, 701, .inr (.inl fv)))] H := ⟨hP, hD⟩
        have hn32 := hn32 (hw.1.trans hr9)
        have hn33 := hn33 (hw.1.trans hr9)
        subst hr9
        refine lv_if_ne (tgt := 73) hx hb dX4_readRate_68 (by decide) (fun c37 => ?_) (fun c9 => absurd c9 (by decide))
        refine lv_aload_n hx hb dX4_readRate_73 rfl (lv_at hl 0 rfl) ?_
        refine va_get (D := D) (ci := 8) (v := .ref p0) (C := RX4) (T := TX4) (N := 9) hx hb hts inX4 hown hK hP 1 rfl rfl 1 (by decide) (hts (.fieldLink RX4 25 "EscrowDesk$Reader" "plan" "LEscrowDesk$Plan;") (by decide +kernel)) (fun _ h9 => h9) rfl dX4_readRate_74 ?_
        refine lv_aload_n hx hb dX4_readRate_77 rfl (lv_at hl 0 rfl) ?_
        refine va_get (D := D) (ci := 8) (v := .int zn23) (C := RX4) (T := TX4) (N := 9) hx hb hts inX4 hown hK hP 1 rfl rfl 6 (by decide) (hts (.fieldLink RX4 91 "EscrowDesk$Reader" "number" "I") (by decide +kernel)) (fun _ h9 => h9) rfl dX4_readRate_78 ?_
        refine va_putN (D := D) (ci := 7) (v := .int zn23) (ty := .int) (C := RX3) (T := TX3) (N := 17) hx hb hts inX3 tyX3 tyX3_ok nmX3 hown hK hP hD hS 0 rfl rfl 1 (by decide) (hC.f (A := _) (a := RX4) (i := 105) (b := "EscrowDesk$Plan") (n := "basis") (d := "I") (x := "EscrowDesk") (by decide +kernel)) (fun _ h9 => h9) rfl (by decide +kernel) rfl rfl (Nat.le_of_ble_eq_true rfl) dX4_readRate_81 (fun H locs hP hD hS => ?_)
        obtain ⟨hP, hD⟩ : PDq D A [(oX3 p0 zn5 zn23 pe pg p1 (nI nd) p2 p3 p4 p5 (nI cn) p6 (nI pq) p7 p8 p9 (nI sc)), (oX4 r0 r1 p0 (nI (((ti + 1) + 1) + 1)) (fk (((ti + 1) + 1) + 1)) (ft (((ti + 1) + 1) + 1)) (fv (((ti + 1) + 1) + 1)) zn23 iek iep), (oX5 r1 k1 k2 k3 (nI ct)), (k1, .inl (cA 0, 701, .inl fk)), (k2, .inl (cA 0, 701, .inl ft)), (k3, .inl (cA 1, 701, .inr (.inl fv)))] H := ⟨hP, hD⟩
        refine lv_aload_n hx hb dX4_readRate_84 rfl (lv_at hl 0 rfl) ?_
        refine lv_bipush (v := 7) hx hb dX4_readRate_85 (by decide) ?_
        obtain ⟨hPc, hDc, hFc⟩ := PDq.cut (wc := [(oX4 r0 r1 p0 (nI (((ti + 1) + 1) + 1)) (fk (((ti + 1) + 1) + 1)) (ft (((ti + 1) + 1) + 1)) (fv (((ti + 1) + 1) + 1)) zn23 iek iep), (oX5 r1 k1 k2 k3 (nI ct)), (k1, .inl (cA 0, 701, .inl fk)), (k2, .inl (cA 0, 701, .inl ft)), (k3, .inl (cA 1, 701, .inr (.inl fv)))]) hP hD hS hA [1, 2, 3, 4, 5] (by decide) rfl
        refine va_calli (va_runV (As := [.int 7]) (rest := []) ⟨hx, hb, hml, hown, hts⟩ (x_take l D cA sa r0 p0 (((ti + 1) + 1) + 1) ln zn23 iek iep r1 k1 k2 k3 ct fk ft fv fb gP gR 7 H.size hct hln hn26 hTX (by decide)) (cwV 1 hts gX4_readRate_X4_take rfl rfl rfl (by decide +kernel) ⟨(Nat.le_of_ble_eq_true rfl), (Nat.le_of_ble_eq_true rfl)⟩) ⟨Wd.blind, va_recv hK hPc (ci := 8) (q0 := 0) rfl rfl, fun U hU hW => ⟨rfl, Wd.call hPc hDc hK hC hZ hS hFc U hU hW⟩⟩ rfl rfl hl.1 rfl (lv_room (Nat.le_of_ble_eq_true rfl)) dX4_readRate_87 ⟨(Nat.le_of_ble_eq_true rfl), (Nat.le_of_ble_eq_true rfl)⟩) hS (fun q _ h => hFc q h) hFc (fun rn38 u t H1 locs ht hvm hw hB hz1 hk1 hS => ?_)
        obtain ⟨qn39, zn40, zn41, hn42, hn43, hn44, hn45, hn46, hn47, hn48, hn49, hn50, hn51, hn52, hP1, hD1⟩ := hB
        rw [ht] at hP1
        obtain ⟨hP, hD⟩ := PDq.join (w := [(oX3 p0 zn5 zn23 pe pg p1 (nI nd) p2 p3 p4 p5 (nI cn) p6 (nI pq) p7 p8 p9 (nI sc)), (oX4 r0 r1 p0 (nI qn39) (fk qn39) (ft qn39) (fv qn39) zn23 zn40 zn41), (oX5 r1 k1 k2 k3 (nI ct)), (k1, .inl (cA 0, 701, .inl fk)), (k2, .inl (cA 0, 701, .inl ft)), (k3, .inl (cA 1, 701, .inr (.inl fv)))]) 1 hP hD [1, 2, 3, 4, 5] [0] rfl rfl (by decide) (by decide) hk1 hFc hP1 hD1 rfl
        generalize H1 = H at hP hS ⊢
        rcases hw.2 with hr9 | hr9
        · skip
          have hn50 := hn50 (hw.1.trans hr9)
          have hn51 := hn51 (hw.1.trans hr9)
          have hn52 := hn52 (hw.1.trans hr9)
          subst hr9
          obtain ⟨hP9, hD9⟩ := PDq.sub (ws' := [(oX4 r0 r1 p0 (nI qn39) (fk qn39) (ft qn39) (fv qn39) zn23 zn40 zn41), (oX5 r1 k1 k2 k3 (nI ct)), (k1, .inl (cA 0, 701, .inl fk)), (k2, .inl (cA 0, 701, .inl ft)), (k3, .inl (cA 1, 701, .inr (.inl fv))), (oX3 p0 zn5 zn23 pe pg p1 (nI nd) p2 p3 p4 p5 (nI cn) p6 (nI pq) p7 p8 p9 (nI sc))]) hP hD [1, 2, 3, 4, 5, 0] (by decide) rfl
          refine W.widen (k := 0) (n := 0) (Nat.le_of_ble_eq_true rfl) (Nat.le_of_ble_eq_true rfl) ?_
          exact (W.zret (v := 0) hx hb hr (by first | rfl | decide) (fun t ht hW => ⟨⟨0, 0, rfl, ⟨rfl, by decide⟩, qn39, zn23, zn40, zn41, zn5, zn23, hn42, hn43, (fun h9 => absurd h9 (by decide)), (fun h9 => absurd h9 (by decide)), (fun h9 => absurd h9 (by decide)), (fun h9 => absurd h9 (by decide)), (fun h9 => absurd h9 (by decide)), (fun _ => (Or.inr ⟨_, _, _, _, S_rate hk hn15 (fun q9 => c20 q9.1) hn33, hn52, hn50, hn51⟩)), by rw [ht]; exact hP9, hD9⟩, hS.F ht⟩) hS.2.2 dX4_readRate_90)
        · skip
          have hn45 := hn45 (hw.1.trans hr9)
          subst hn45
          obtain ⟨hP, hD⟩ : PDq D A [(oX3 p0 zn5 zn23 pe pg p1 (nI nd) p2 p3 p4 p5 (nI cn) p6 (nI pq) p7 p8 p9 (nI sc)), (oX4 r0 r1 p0 (nI ((((ti + 1) + 1) + 1) + 1)) (fk ((((ti + 1) + 1) + 1) + 1)) (ft ((((ti + 1) + 1) + 1) + 1)) (fv ((((ti + 1) + 1) + 1) + 1)) zn23 zn40 zn41), (oX5 r1 k1 k2 k3 (nI ct)), (k1, .inl (cA 0, 701, .inl fk)), (k2, .inl (cA 0, 701, .inl ft)), (k3, .inl (cA 1, 701, .inr (.inl fv)))] H := ⟨hP, hD⟩
          have hn46 := hn46 (hw.1.trans hr9)
          obtain rfl : iek = zn40 := hn46.symm
          obtain ⟨hP, hD⟩ : PDq D A [(oX3 p0 zn5 zn23 pe pg p1 (nI nd) p2 p3 p4 p5 (nI cn) p6 (nI pq) p7 p8 p9 (nI sc)), (oX4 r0 r1 p0 (nI ((((ti + 1) + 1) + 1) + 1)) (fk ((((ti + 1) + 1) + 1) + 1)) (ft ((((ti + 1) + 1) + 1) + 1)) (fv ((((ti + 1) + 1) + 1) + 1)) zn23 iek zn41), (oX5 r1 k1 k2 k3 (nI ct)), (k1, .inl (cA 0, 701, .inl fk)), (k2, .inl (cA 0, 701, .inl ft)), (k3, .inl (cA 1, 701, .inr (.inl fv)))] H := ⟨hP, hD⟩
          have hn47 := hn47 (hw.1.trans hr9)
          obtain rfl : iep = zn41 := hn47.symm
          obtain ⟨hP, hD⟩ : PDq D A [(oX3 p0 zn5 zn23 pe pg p1 (nI nd) p2 p3 p4 p5 (nI cn) p6 (nI pq) p7 p8 p9 (nI sc)), (oX4 r0 r1 p0 (nI ((((ti + 1) + 1) + 1) + 1)) (fk ((((ti + 1) + 1) + 1) + 1)) (ft ((((ti + 1) + 1) + 1) + 1)) (fv ((((ti + 1) + 1) + 1) + 1)) zn23 iek iep), (oX5 r1 k1 k2 k3 (nI ct)), (k1, .inl (cA 0, 701, .inl fk)), (k2, .inl (cA 0, 701, .inl ft)), (k3, .inl (cA 1, 701, .inr (.inl fv)))] H := ⟨hP, hD⟩
          have hn48 := hn48 (hw.1.trans hr9)
          have hn49 := hn49 (hw.1.trans hr9)
          subst hr9
          obtain ⟨hP9, hD9⟩ := PDq.sub (ws' := [(oX4 r0 r1 p0 (nI ((((ti + 1) + 1) + 1) + 1)) (fk ((((ti + 1) + 1) + 1) + 1)) (ft ((((ti + 1) + 1) + 1) + 1)) (fv ((((ti + 1) + 1) + 1) + 1)) zn23 iek iep), (oX5 r1 k1 k2 k3 (nI ct)), (k1, .inl (cA 0, 701, .inl fk)), (k2, .inl (cA 0, 701, .inl ft)), (k3, .inl (cA 1, 701, .inr (.inl fv))), (oX3 p0 zn5 zn23 pe pg p1 (nI nd) p2 p3 p4 p5 (nI cn) p6 (nI pq) p7 p8 p9 (nI sc))]) hP hD [1, 2, 3, 4, 5, 0] (by decide) rfl
          refine W.widen (k := 0) (n := 0) (Nat.le_of_ble_eq_true rfl) (Nat.le_of_ble_eq_true rfl) ?_
          exact (W.zret (v := 1) hx hb hr (by first | rfl | decide) (fun t ht hW => ⟨⟨1, 1, rfl, ⟨rfl, by decide⟩, ((((ti + 1) + 1) + 1) + 1), zn23, iek, iep, zn5, zn23, hn42, hn43, (fun _ => rfl), (fun _ => rfl), (fun _ => (by omega)), (fun _ => (by omega)), (fun _ => ⟨_, S_rate hk hn15 (fun q9 => c20 q9.1) hn33, hn49, rfl⟩), (fun h9 => absurd h9 (by decide)), by rw [ht]; exact hP9, hD9⟩, hS.F ht⟩) hS.2.2 dX4_readRate_90)
    · skip
      refine lv_aload_n hx hb dX4_readRate_42 rfl (lv_at hl 0 rfl) ?_
      refine va_get (D := D) (ci := 8) (v := .long (fv ((ti + 1) + 1))) (C := RX4) (T := TX4) (N := 9) hx hb hts inX4 hown hK hP 1 rfl rfl 5 (by decide) (hts (.fieldLink RX4 87 "EscrowDesk$Reader" "value" "J") (by decide +kernel)) (fun _ h9 => h9) rfl dX4_readRate_43 ?_
      obtain ⟨hPc, hDc, hFc⟩ := PDq.cut (wc := []) hP hD hS hA [] (by decide) rfl
      refine va_calli (va_runSN (As := [.long (fv ((ti + 1) + 1))]) (rest := []) ⟨hx, hb, hml, hown, hts⟩ (x_isBasis l D cA sa (fv ((ti + 1) + 1)) H.size) ⟨va_cnB (host := "EscrowDesk") 1 hts gX4_readRate_X9_isBasis_n101 rfl rfl rfl (hC.m (by decide +kernel)) (hts (.initialized RX9) (by decide +kernel)) (by decide +kernel) ⟨(Nat.le_of_ble_eq_true rfl), (Nat.le_of_ble_eq_true rfl)⟩, hts (.static yX9_isBasis) (by decide +kernel), trivial⟩ ⟨Wd.blind, fun U hU hW => ⟨rfl, Wd.call hPc hDc hK hC hZ hS hFc U hU hW⟩⟩ rfl rfl hl.1 rfl (lv_room (Nat.le_of_ble_eq_true rfl)) dX4_readRate_46 ⟨(Nat.le_of_ble_eq_true rfl), (Nat.le_of_ble_eq_true rfl)⟩) hS (fun q _ h => hFc q h) hFc (fun rn53 u t H1 locs ht hvm hw hB hz1 hk1 hS => ?_)
      obtain ⟨hP1, hD1⟩ := hB
      rw [ht] at hP1
      obtain ⟨hP, hD⟩ := PDq.join (w := [(oX3 p0 zn5 pb pe pg p1 (nI nd) p2 p3 p4 p5 (nI cn) p6 (nI pq) p7 p8 p9 (nI sc)), (oX4 r0 r1 p0 (nI ((ti + 1) + 1)) (fk ((ti + 1) + 1)) (ft ((ti + 1) + 1)) (fv ((ti + 1) + 1)) zn5 iek iep), (oX5 r1 k1 k2 k3 (nI ct)), (k1, .inl (cA 0, 701, .inl fk)), (k2, .inl (cA 0, 701, .inl ft)), (k3, .inl (cA 1, 701, .inr (.inl fv)))]) 6 hP hD [] [0, 1, 2, 3, 4, 5] rfl rfl (by decide) (by decide) hk1 hFc hP1 hD1 rfl
      generalize H1 = H at hP hS ⊢
      rcases hw with ⟨hr9, hn54⟩ | ⟨hr9, hn54⟩
      · skip
        subst hr9
        refine lv_if_ne (tgt := 58) hx hb dX4_readRate_49 (by decide) (fun c55 => ?_) (fun c9 => absurd c9 (by decide))
        refine lv_aload_n hx hb dX4_readRate_58 rfl (lv_at hl 0 rfl) ?_
        refine lv_sipush (v := 360) hx hb dX4_readRate_59 (by decide) ?_
        refine lv_sipush (v := 365) hx hb dX4_readRate_62 (by decide) ?_
        obtain ⟨hPc, hDc, hFc⟩ := PDq.cut (wc := [(oX4 r0 r1 p0 (nI ((ti + 1) + 1)) (fk ((ti + 1) + 1)) (ft ((ti + 1) + 1)) (fv ((ti + 1) + 1)) zn5 iek iep), (oX5 r1 k1 k2 k3 (nI ct)), (k1, .inl (cA 0, 701, .inl fk)), (k2, .inl (cA 0, 701, .inl ft)), (k3, .inl (cA 1, 701, .inr (.inl fv)))]) hP hD hS hA [1, 2, 3, 4, 5] (by decide) rfl
        refine va_calli (va_runV (As := [.int 360, .int 365]) (rest := []) ⟨hx, hb, hml, hown, hts⟩ (x_takeNumber l D cA sa r0 p0 ((ti + 1) + 1) ln zn5 iek iep r1 k1 k2 k3 ct fk ft fv fb gP gR 360 365 H.size hct hln hn8 hTX (by omega) (by omega)) (cwV 2 hts gX4_readRate_X4_takeNumber rfl rfl rfl (by decide +kernel) ⟨(Nat.le_of_ble_eq_true rfl), (Nat.le_of_ble_eq_true rfl)⟩) ⟨Wd.blind, va_recv hK hPc (ci := 8) (q0 := 0) rfl rfl, fun U hU hW => ⟨rfl, Wd.call hPc hDc hK hC hZ hS hFc U hU hW⟩⟩ rfl rfl hl.1 rfl (lv_room (Nat.le_of_ble_eq_true rfl)) dX4_readRate_65 ⟨(Nat.le_of_ble_eq_true rfl), (Nat.le_of_ble_eq_true rfl)⟩) hS (fun q _ h => hFc q h) hFc (fun rn56 u t H1 locs ht hvm hw hB hz1 hk1 hS => ?_)
        obtain ⟨qn57, zn58, zn59, zn60, hn61, hn62, hn63, hn64, hn65, hn66, hn67, hn68, hn69, hn70, hP1, hD1⟩ := hB
        rw [ht] at hP1
        obtain ⟨hP, hD⟩ := PDq.join (w := [(oX3 p0 zn5 pb pe pg p1 (nI nd) p2 p3 p4 p5 (nI cn) p6 (nI pq) p7 p8 p9 (nI sc)), (oX4 r0 r1 p0 (nI qn57) (fk qn57) (ft qn57) (fv qn57) zn58 zn59 zn60), (oX5 r1 k1 k2 k3 (nI ct)), (k1, .inl (cA 0, 701, .inl fk)), (k2, .inl (cA 0, 701, .inl ft)), (k3, .inl (cA 1, 701, .inr (.inl fv)))]) 1 hP hD [1, 2, 3, 4, 5] [0] rfl rfl (by decide) (by decide) hk1 hFc hP1 hD1 rfl
        generalize H1 = H at hP hS ⊢
        rcases hw.2 with hr9 | hr9
        · skip
          have hn69 := hn69 (hw.1.trans hr9)
          have hn70 := hn70 (hw.1.trans hr9)
          subst hr9
          refine lv_if_ne (tgt := 73) hx hb dX4_readRate_68 (by decide) (fun c9 => absurd c9 (by decide)) (fun c71 => ?_)
          refine lv_iconst (v := 0) hx hb dX4_readRate_71 (by decide) ?_
          obtain ⟨hP9, hD9⟩ := PDq.sub (ws' := [(oX4 r0 r1 p0 (nI qn57) (fk qn57) (ft qn57) (fv qn57) zn58 zn59 zn60), (oX5 r1 k1 k2 k3 (nI ct)), (k1, .inl (cA 0, 701, .inl fk)), (k2, .inl (cA 0, 701, .inl ft)), (k3, .inl (cA 1, 701, .inr (.inl fv))), (oX3 p0 zn5 pb pe pg p1 (nI nd) p2 p3 p4 p5 (nI cn) p6 (nI pq) p7 p8 p9 (nI sc))]) hP hD [1, 2, 3, 4, 5, 0] (by decide) rfl
          refine W.widen (k := 0) (n := 0) (Nat.le_of_ble_eq_true rfl) (Nat.le_of_ble_eq_true rfl) ?_
          exact (W.zret (v := 0) hx hb hr (by first | rfl | decide) (fun t ht hW => ⟨⟨0, 0, rfl, ⟨rfl, by decide⟩, qn57, zn58, zn59, zn60, zn5, pb, hn61, hn62, (fun h9 => absurd h9 (by decide)), (fun h9 => absurd h9 (by decide)), (fun h9 => absurd h9 (by decide)), (fun h9 => absurd h9 (by decide)), (fun h9 => absurd h9 (by decide)), (fun _ => (Or.inl (S_rateFx hk hn15 (fun q9 => q9.2 hn54) hn69 hn70))), by rw [ht]; exact hP9, hD9⟩, hS.F ht⟩) hS.2.2 dX4_readRate_72)
        · skip
          have hn64 := hn64 (hw.1.trans hr9)
          subst hn64
          obtain ⟨hP, hD⟩ : PDq D A [(oX3 p0 zn5 pb pe pg p1 (nI nd) p2 p3 p4 p5 (nI cn) p6 (nI pq) p7 p8 p9 (nI sc)), (oX4 r0 r1 p0 (nI (((ti + 1) + 1) + 1)) (fk (((ti + 1) + 1) + 1)) (ft (((ti + 1) + 1) + 1)) (fv (((ti + 1) + 1) + 1)) zn58 zn59 zn60), (oX5 r1 k1 k2 k3 (nI ct)), (k1, .inl (cA 0, 701, .inl fk)), (k2, .inl (cA 0, 701, .inl ft)), (k3, .inl (cA 1, 701, .inr (.inl fv)))] H := ⟨hP, hD⟩
          have hn65 := hn65 (hw.1.trans hr9)
          obtain rfl : iek = zn59 := hn65.symm
          obtain ⟨hP, hD⟩ : PDq D A [(oX3 p0 zn5 pb pe pg p1 (nI nd) p2 p3 p4 p5 (nI cn) p6 (nI pq) p7 p8 p9 (nI sc)), (oX4 r0 r1 p0 (nI (((ti + 1) + 1) + 1)) (fk (((ti + 1) + 1) + 1)) (ft (((ti + 1) + 1) + 1)) (fv (((ti + 1) + 1) + 1)) zn58 iek zn60), (oX5 r1 k1 k2 k3 (nI ct)), (k1, .inl (cA 0, 701, .inl fk)), (k2, .inl (cA 0, 701, .inl ft)), (k3, .inl (cA 1, 701, .inr (.inl fv)))] H := ⟨hP, hD⟩
          have hn66 := hn66 (hw.1.trans hr9)
          obtain rfl : iep = zn60 := hn66.symm
          obtain ⟨hP, hD⟩ : PDq D A [(oX3 p0 zn5 pb pe pg p1 (nI nd) p2 p3 p4 p5 (nI cn) p6 (nI pq) p7 p8 p9 (nI sc)), (oX4 r0 r1 p0 (nI (((ti + 1) + 1) + 1)) (fk (((ti + 1) + 1) + 1)) (ft (((ti + 1) + 1) + 1)) (fv (((ti + 1) + 1) + 1)) zn58 iek iep), (oX5 r1 k1 k2 k3 (nI ct)), (k1, .inl (cA 0, 701, .inl fk)), (k2, .inl (cA 0, 701, .inl ft)), (k3, .inl (cA 1, 701, .inr (.inl fv)))] H := ⟨hP, hD⟩
          have hn67 := hn67 (hw.1.trans hr9)
          have hn68 := hn68 (hw.1.trans hr9)
          subst hr9
          refine lv_if_ne (tgt := 73) hx hb dX4_readRate_68 (by decide) (fun c72 => ?_) (fun c9 => absurd c9 (by decide))
          refine lv_aload_n hx hb dX4_readRate_73 rfl (lv_at hl 0 rfl) ?_
          refine va_get (D := D) (ci := 8) (v := .ref p0) (C := RX4) (T := TX4) (N := 9) hx hb hts inX4 hown hK hP 1 rfl rfl 1 (by decide) (hts (.fieldLink RX4 25 "EscrowDesk$Reader" "plan" "LEscrowDesk$Plan;") (by decide +kernel)) (fun _ h9 => h9) rfl dX4_readRate_74 ?_
          refine lv_aload_n hx hb dX4_readRate_77 rfl (lv_at hl 0 rfl) ?_
          refine va_get (D := D) (ci := 8) (v := .int zn58) (C := RX4) (T := TX4) (N := 9) hx hb hts inX4 hown hK hP 1 rfl rfl 6 (by decide) (hts (.fieldLink RX4 91 "EscrowDesk$Reader" "number" "I") (by decide +kernel)) (fun _ h9 => h9) rfl dX4_readRate_78 ?_
          refine va_putN (D := D) (ci := 7) (v := .int zn58) (ty := .int) (C := RX3) (T := TX3) (N := 17) hx hb hts inX3 tyX3 tyX3_ok nmX3 hown hK hP hD hS 0 rfl rfl 1 (by decide) (hC.f (A := _) (a := RX4) (i := 105) (b := "EscrowDesk$Plan") (n := "basis") (d := "I") (x := "EscrowDesk") (by decide +kernel)) (fun _ h9 => h9) rfl (by decide +kernel) rfl rfl (Nat.le_of_ble_eq_true rfl) dX4_readRate_81 (fun H locs hP hD hS => ?_)
          obtain ⟨hP, hD⟩ : PDq D A [(oX3 p0 zn5 zn58 pe pg p1 (nI nd) p2 p3 p4 p5 (nI cn) p6 (nI pq) p7 p8 p9 (nI sc)), (oX4 r0 r1 p0 (nI (((ti + 1) + 1) + 1)) (fk (((ti + 1) + 1) + 1)) (ft (((ti + 1) + 1) + 1)) (fv (((ti + 1) + 1) + 1)) zn58 iek iep), (oX5 r1 k1 k2 k3 (nI ct)), (k1, .inl (cA 0, 701, .inl fk)), (k2, .inl (cA 0, 701, .inl ft)), (k3, .inl (cA 1, 701, .inr (.inl fv)))] H := ⟨hP, hD⟩
          refine lv_aload_n hx hb dX4_readRate_84 rfl (lv_at hl 0 rfl) ?_
          refine lv_bipush (v := 7) hx hb dX4_readRate_85 (by decide) ?_
          obtain ⟨hPc, hDc, hFc⟩ := PDq.cut (wc := [(oX4 r0 r1 p0 (nI (((ti + 1) + 1) + 1)) (fk (((ti + 1) + 1) + 1)) (ft (((ti + 1) + 1) + 1)) (fv (((ti + 1) + 1) + 1)) zn58 iek iep), (oX5 r1 k1 k2 k3 (nI ct)), (k1, .inl (cA 0, 701, .inl fk)), (k2, .inl (cA 0, 701, .inl ft)), (k3, .inl (cA 1, 701, .inr (.inl fv)))]) hP hD hS hA [1, 2, 3, 4, 5] (by decide) rfl
          refine va_calli (va_runV (As := [.int 7]) (rest := []) ⟨hx, hb, hml, hown, hts⟩ (x_take l D cA sa r0 p0 (((ti + 1) + 1) + 1) ln zn58 iek iep r1 k1 k2 k3 ct fk ft fv fb gP gR 7 H.size hct hln hn61 hTX (by decide)) (cwV 1 hts gX4_readRate_X4_take rfl rfl rfl (by decide +kernel) ⟨(Nat.le_of_ble_eq_true rfl), (Nat.le_of_ble_eq_true rfl)⟩) ⟨Wd.blind, va_recv hK hPc (ci := 8) (q0 := 0) rfl rfl, fun U hU hW => ⟨rfl, Wd.call hPc hDc hK hC hZ hS hFc U hU hW⟩⟩ rfl rfl hl.1 rfl (lv_room (Nat.le_of_ble_eq_true rfl)) dX4_readRate_87 ⟨(Nat.le_of_ble_eq_true rfl), (Nat.le_of_ble_eq_true rfl)⟩) hS (fun q _ h => hFc q h) hFc (fun rn73 u t H1 locs ht hvm hw hB hz1 hk1 hS => ?_)
          obtain ⟨qn74, zn75, zn76, hn77, hn78, hn79, hn80, hn81, hn82, hn83, hn84, hn85, hn86, hn87, hP1, hD1⟩ := hB
          rw [ht] at hP1
          obtain ⟨hP, hD⟩ := PDq.join (w := [(oX3 p0 zn5 zn58 pe pg p1 (nI nd) p2 p3 p4 p5 (nI cn) p6 (nI pq) p7 p8 p9 (nI sc)), (oX4 r0 r1 p0 (nI qn74) (fk qn74) (ft qn74) (fv qn74) zn58 zn75 zn76), (oX5 r1 k1 k2 k3 (nI ct)), (k1, .inl (cA 0, 701, .inl fk)), (k2, .inl (cA 0, 701, .inl ft)), (k3, .inl (cA 1, 701, .inr (.inl fv)))]) 1 hP hD [1, 2, 3, 4, 5] [0] rfl rfl (by decide) (by decide) hk1 hFc hP1 hD1 rfl
          generalize H1 = H at hP hS ⊢
          rcases hw.2 with hr9 | hr9
          · skip
            have hn85 := hn85 (hw.1.trans hr9)
            have hn86 := hn86 (hw.1.trans hr9)
            have hn87 := hn87 (hw.1.trans hr9)
            subst hr9
            obtain ⟨hP9, hD9⟩ := PDq.sub (ws' := [(oX4 r0 r1 p0 (nI qn74) (fk qn74) (ft qn74) (fv qn74) zn58 zn75 zn76), (oX5 r1 k1 k2 k3 (nI ct)), (k1, .inl (cA 0, 701, .inl fk)), (k2, .inl (cA 0, 701, .inl ft)), (k3, .inl (cA 1, 701, .inr (.inl fv))), (oX3 p0 zn5 zn58 pe pg p1 (nI nd) p2 p3 p4 p5 (nI cn) p6 (nI pq) p7 p8 p9 (nI sc))]) hP hD [1, 2, 3, 4, 5, 0] (by decide) rfl
            refine W.widen (k := 0) (n := 0) (Nat.le_of_ble_eq_true rfl) (Nat.le_of_ble_eq_true rfl) ?_
            exact (W.zret (v := 0) hx hb hr (by first | rfl | decide) (fun t ht hW => ⟨⟨0, 0, rfl, ⟨rfl, by decide⟩, qn74, zn58, zn75, zn76, zn5, zn58, hn77, hn78, (fun h9 => absurd h9 (by decide)), (fun h9 => absurd h9 (by decide)), (fun h9 => absurd h9 (by decide)), (fun h9 => absurd h9 (by decide)), (fun h9 => absurd h9 (by decide)), (fun _ => (Or.inr ⟨_, _, _, _, S_rate hk hn15 (fun q9 => q9.2 hn54) hn68, hn87, hn85, hn86⟩)), by rw [ht]; exact hP9, hD9⟩, hS.F ht⟩) hS.2.2 dX4_readRate_90)
          · skip
            have hn80 := hn80 (hw.1.trans hr9)
            subst hn80
            obtain ⟨hP, hD⟩ : PDq D A [(oX3 p0 zn5 zn58 pe pg p1 (nI nd) p2 p3 p4 p5 (nI cn) p6 (nI pq) p7 p8 p9 (nI sc)), (oX4 r0 r1 p0 (nI ((((ti + 1) + 1) + 1) + 1)) (fk ((((ti + 1) + 1) + 1) + 1)) (ft ((((ti + 1) + 1) + 1) + 1)) (fv ((((ti + 1) + 1) + 1) + 1)) zn58 zn75 zn76), (oX5 r1 k1 k2 k3 (nI ct)), (k1, .inl (cA 0, 701, .inl fk)), (k2, .inl (cA 0, 701, .inl ft)), (k3, .inl (cA 1, 701, .inr (.inl fv)))] H := ⟨hP, hD⟩
            have hn81 := hn81 (hw.1.trans hr9)
            obtain rfl : iek = zn75 := hn81.symm
            obtain ⟨hP, hD⟩ : PDq D A [(oX3 p0 zn5 zn58 pe pg p1 (nI nd) p2 p3 p4 p5 (nI cn) p6 (nI pq) p7 p8 p9 (nI sc)), (oX4 r0 r1 p0 (nI ((((ti + 1) + 1) + 1) + 1)) (fk ((((ti + 1) + 1) + 1) + 1)) (ft ((((ti + 1) + 1) + 1) + 1)) (fv ((((ti + 1) + 1) + 1) + 1)) zn58 iek zn76), (oX5 r1 k1 k2 k3 (nI ct)), (k1, .inl (cA 0, 701, .inl fk)), (k2, .inl (cA 0, 701, .inl ft)), (k3, .inl (cA 1, 701, .inr (.inl fv)))] H := ⟨hP, hD⟩
            have hn82 := hn82 (hw.1.trans hr9)
            obtain rfl : iep = zn76 := hn82.symm
            obtain ⟨hP, hD⟩ : PDq D A [(oX3 p0 zn5 zn58 pe pg p1 (nI nd) p2 p3 p4 p5 (nI cn) p6 (nI pq) p7 p8 p9 (nI sc)), (oX4 r0 r1 p0 (nI ((((ti + 1) + 1) + 1) + 1)) (fk ((((ti + 1) + 1) + 1) + 1)) (ft ((((ti + 1) + 1) + 1) + 1)) (fv ((((ti + 1) + 1) + 1) + 1)) zn58 iek iep), (oX5 r1 k1 k2 k3 (nI ct)), (k1, .inl (cA 0, 701, .inl fk)), (k2, .inl (cA 0, 701, .inl ft)), (k3, .inl (cA 1, 701, .inr (.inl fv)))] H := ⟨hP, hD⟩
            have hn83 := hn83 (hw.1.trans hr9)
            have hn84 := hn84 (hw.1.trans hr9)
            subst hr9
            obtain ⟨hP9, hD9⟩ := PDq.sub (ws' := [(oX4 r0 r1 p0 (nI ((((ti + 1) + 1) + 1) + 1)) (fk ((((ti + 1) + 1) + 1) + 1)) (ft ((((ti + 1) + 1) + 1) + 1)) (fv ((((ti + 1) + 1) + 1) + 1)) zn58 iek iep), (oX5 r1 k1 k2 k3 (nI ct)), (k1, .inl (cA 0, 701, .inl fk)), (k2, .inl (cA 0, 701, .inl ft)), (k3, .inl (cA 1, 701, .inr (.inl fv))), (oX3 p0 zn5 zn58 pe pg p1 (nI nd) p2 p3 p4 p5 (nI cn) p6 (nI pq) p7 p8 p9 (nI sc))]) hP hD [1, 2, 3, 4, 5, 0] (by decide) rfl
            refine W.widen (k := 0) (n := 0) (Nat.le_of_ble_eq_true rfl) (Nat.le_of_ble_eq_true rfl) ?_
            exact (W.zret (v := 1) hx hb hr (by first | rfl | decide) (fun t ht hW => ⟨⟨1, 1, rfl, ⟨rfl, by decide⟩, ((((ti + 1) + 1) + 1) + 1), zn58, iek, iep, zn5, zn58, hn77, hn78, (fun _ => rfl), (fun _ => rfl), (fun _ => (by omega)), (fun _ => (by omega)), (fun _ => ⟨_, S_rate hk hn15 (fun q9 => q9.2 hn54) hn68, hn84, rfl⟩), (fun h9 => absurd h9 (by decide)), by rw [ht]; exact hP9, hD9⟩, hS.F ht⟩) hS.2.2 dX4_readRate_90)
      · skip
        subst hr9
        refine lv_if_ne (tgt := 58) hx hb dX4_readRate_49 (by decide) (fun c9 => absurd c9 (by decide)) (fun c88 => ?_)
        refine lv_aload_n hx hb dX4_readRate_52 rfl (lv_at hl 0 rfl) ?_
        refine lv_iconst (v := 3) hx hb dX4_readRate_53 (by decide) ?_
        obtain ⟨hPc, hDc, hFc⟩ := PDq.cut (wc := [(oX4 r0 r1 p0 (nI ((ti + 1) + 1)) (fk ((ti + 1) + 1)) (ft ((ti + 1) + 1)) (fv ((ti + 1) + 1)) zn5 iek iep)]) hP hD hS hA [1] (by decide) rfl
        refine va_calli (va_runV (As := [.int 3]) (rest := []) ⟨hx, hb, hml, hown, hts⟩ (x_fail l D cA sa r0 r1 p0 (nI ((ti + 1) + 1)) (fk ((ti + 1) + 1)) (ft ((ti + 1) + 1)) zn5 iek iep (fv ((ti + 1) + 1)) 3 H.size) (cwV 1 hts gX4_readRate_X4_fail rfl rfl rfl (by decide +kernel) ⟨(Nat.le_of_ble_eq_true rfl), (Nat.le_of_ble_eq_true rfl)⟩) ⟨Wd.blind, va_recv hK hPc (ci := 8) (q0 := 0) rfl rfl, fun U hU hW => ⟨rfl, Wd.call hPc hDc hK hC hZ hS hFc U hU hW⟩⟩ rfl rfl hl.1 rfl (lv_room (Nat.le_of_ble_eq_true rfl)) dX4_readRate_54 ⟨(Nat.le_of_ble_eq_true rfl), (Nat.le_of_ble_eq_true rfl)⟩) hS (fun q _ h => hFc q h) hFc (fun rn89 u t H1 locs ht hvm hw hB hz1 hk1 hS => ?_)
        obtain ⟨zn90, hn91, hP1, hD1⟩ := hB
        rw [ht] at hP1
        obtain ⟨hP, hD⟩ := PDq.join (w := [(oX3 p0 zn5 pb pe pg p1 (nI nd) p2 p3 p4 p5 (nI cn) p6 (nI pq) p7 p8 p9 (nI sc)), (oX5 r1 k1 k2 k3 (nI ct)), (k1, .inl (cA 0, 701, .inl fk)), (k2, .inl (cA 0, 701, .inl ft)), (k3, .inl (cA 1, 701, .inr (.inl fv))), (oX4 r0 r1 p0 (nI ((ti + 1) + 1)) (fk ((ti + 1) + 1)) (ft ((ti + 1) + 1)) (fv ((ti + 1) + 1)) zn5 zn90 (ft ((ti + 1) + 1)))]) 5 hP hD [1] [0, 2, 3, 4, 5] rfl rfl (by decide) (by decide) hk1 hFc hP1 hD1 rfl
        generalize H1 = H at hP hS ⊢
        obtain rfl : rn89 = 0 := hw
        obtain ⟨hP9, hD9⟩ := PDq.sub (ws' := [(oX4 r0 r1 p0 (nI ((ti + 1) + 1)) (fk ((ti + 1) + 1)) (ft ((ti + 1) + 1)) (fv ((ti + 1) + 1)) zn5 zn90 (ft ((ti + 1) + 1))), (oX5 r1 k1 k2 k3 (nI ct)), (k1, .inl (cA 0, 701, .inl fk)), (k2, .inl (cA 0, 701, .inl ft)), (k3, .inl (cA 1, 701, .inr (.inl fv))), (oX3 p0 zn5 pb pe pg p1 (nI nd) p2 p3 p4 p5 (nI cn) p6 (nI pq) p7 p8 p9 (nI sc))]) hP hD [5, 1, 2, 3, 4, 0] (by decide) rfl
        refine W.widen (k := 0) (n := 0) (Nat.le_of_ble_eq_true rfl) (Nat.le_of_ble_eq_true rfl) ?_
        exact (W.zret (v := 0) hx hb hr (by first | rfl | decide) (fun t ht hW => ⟨⟨0, 0, rfl, ⟨rfl, by decide⟩, ((ti + 1) + 1), zn5, zn90, (ft ((ti + 1) + 1)), zn5, pb, hn8, hn9, (fun h9 => absurd h9 (by decide)), (fun h9 => absurd h9 (by decide)), (fun h9 => absurd h9 (by decide)), (fun h9 => absurd h9 (by decide)), (fun h9 => absurd h9 (by decide)), (fun _ => (Or.inl (S_rateBx hk hn15 ⟨c20, hn54⟩ hn91 rfl))), by rw [ht]; exact hP9, hD9⟩, hS.F ht⟩) hS.2.2 dX4_readRate_57)

set_option maxHeartbeats 4000000 in
set_option maxRecDepth 100000 in
/-- readFee -/
theorem x_readFee_look (l : Launch) (D : va_G) (cA : Nat → ClassId) (sa : Nat → Nat) (r0 : Nat) (p0 : Nat) (ti : Nat) (ln : Nat) (inb : Int32) (iek : Int32) (iep : Int32) (r1 : Nat) (k1 : Nat) (k2 : Nat) (k3 : Nat) (ct : Nat) (fk : Nat → Int32) (ft : Nat → Int32) (fv : Nat → Int64) (fb : Nat → Int32) (gP : Nat → Nat) (gR : Nat → Nat) (p1 : Nat) (p2 : Nat) (p3 : Nat) (p4 : Nat) (p5 : Nat) (p6 : Nat) (p7 : Nat) (p8 : Nat) (p9 : Nat) (cn : Nat) (pq : Nat) (nd : Nat) (sc : Nat) (pr : Int32) (pb : Int32) (pe : Int32) (pg : Int32) (ml : List Int64) (pl : List Int64) (sz : Nat) (hct : ct ≤ 701) (hln : ln ≤ 700) (hti : ti < ct) (hTX : TX fb ln ct gP gR ft fv fk) (hsl : 2 * sc ≤ gP ti) (hk : fk ti = 9) : Met l yX4_readFee wsX4_readFee ({ frames := 2, cells := 0, slots := 0, locals := 43 }) (va_Pc [.ref r0] (Wd D cA sa [(oX4 r0 r1 p0 (nI ti) (fk ti) (ft ti) (fv ti) inb iek iep), (oX5 r1 k1 k2 k3 (nI ct)), (k1, .inl (cA 0, 701, .inl fk)), (k2, .inl (cA 0, 701, .inl ft)), (k3, .inl (cA 1, 701, .inr (.inl fv))), (oX3 p0 pr pb pe pg p1 (nI nd) p2 p3 p4 p5 (nI cn) p6 (nI pq) p7 p8 p9 (nI sc))] sz)) (va_Qi (fun (r : Int32) (u9 : Int32) => u9 = r ∧ (r = 0 ∨ r = 1)) (fun (u9 : Int32) t => ∃ tj : Nat, ∃ znr : Int32, ∃ zek : Int32, ∃ zep : Int32, ∃ zea : Int32, tj < ct ∧ gP tj ≤ ln ∧ (u9 = 1 → zek = iek) ∧ (u9 = 1 → zep = iep) ∧ (u9 = 1 → ti + 2 ≤ tj) ∧ (u9 = 1 → 2 * sc ≤ gP tj) ∧ (u9 = 1 → ST9 fk ft fv ti nd ml pl tj nd ml pl) ∧ (u9 = 0 → SE9 fk ft fv ti nd ml pl zek zep) ∧ Wq D (va_A [(oX4 r0 r1 p0 (nI ti) (fk ti) (ft ti) (fv ti) inb iek iep), (oX5 r1 k1 k2 k3 (nI ct)), (k1, .inl (cA 0, 701, .inl fk)), (k2, .inl (cA 0, 701, .inl ft)), (k3, .inl (cA 1, 701, .inr (.inl fv))), (oX3 p0 pr pb pe pg p1 (nI nd) p2 p3 p4 p5 (nI cn) p6 (nI pq) p7 p8 p9 (nI sc))] sz) [(oX4 r0 r1 p0 (nI tj) (fk tj) (ft tj) (fv tj) znr zek zep), (oX5 r1 k1 k2 k3 (nI ct)), (k1, .inl (cA 0, 701, .inl fk)), (k2, .inl (cA 0, 701, .inl ft)), (k3, .inl (cA 1, 701, .inr (.inl fv))), (oX3 p0 pr pb zea pg p1 (nI nd) p2 p3 p4 p5 (nI cn) p6 (nI pq) p7 p8 p9 (nI sc))] t) (va_A [(oX4 r0 r1 p0 (nI ti) (fk ti) (ft ti) (fv ti) inb iek iep), (oX5 r1 k1 k2 k3 (nI ct)), (k1, .inl (cA 0, 701, .inl fk)), (k2, .inl (cA 0, 701, .inl ft)), (k3, .inl (cA 1, 701, .inr (.inl fv))), (oX3 p0 pr pb pe pg p1 (nI nd) p2 p3 p4 p5 (nI cn) p6 (nI pq) p7 p8 p9 (nI sc))] sz)) 0 0 (va_A [(oX4 r0 r1 p0 (nI ti) (fk ti) (ft ti) (fv ti) inb iek iep), (oX5 r1 k1 k2 k3 (nI ct)), (k1, .inl (cA 0, 701, .inl fk)), (k2, .inl (cA 0, 701, .inl ft)), (k3, .inl (cA 1, 701, .inr (.inl fv))), (oX3 p0 pr pb pe pg p1 (nI nd) p2 p3 p4 p5 (nI cn) p6 (nI pq) p7 p8 p9 (nI sc))] sz) := by
  refine Met.ofW (cc := cX4_readFee) (maxL := 1) (ret := (some .boolean)) (by decide) rfl ?_
  intro p e s m args below meth c s₁ B hml hv
  obtain ⟨rfl, hsz, hP, hK, hD0, hC, hZ⟩ := hv
  have hx := B.exec
  have hb := B.bytes
  have hr := B.returns
  have hts := atoms_spec (ws := wsX4_readFee) B.pre
  have hown : s.vm.findClass RX4 = some m.cls := findClass_of_methodNamed B.named
  have hlocks := B.notSynchronized
  subst hsz
  have hD := hD0.self (sz := s.heap.size)
  generalize hAe : va_A [(oX4 r0 r1 p0 (nI ti) (fk ti) (ft ti) (fv ti) inb iek iep), (oX5 r1 k1 k2 k3 (nI ct)), (k1, .inl (cA 0, 701, .inl fk)), (k2, .inl (cA 0, 701, .inl ft)), (k3, .inl (cA 1, 701, .inr (.inl fv))), (oX3 p0 pr pb pe pg p1 (nI nd) p2 p3 p4 p5 (nI cn) p6 (nI pq) p7 p8 p9 (nI sc))] s.heap.size = A at hD hZ ⊢
  have hA : ∀ q : Nat, s.heap.size ≤ q → A q := fun q h => by rw [← hAe]; exact Or.inr h
  have hS : va_S A s.heap s.heap [] := va_S.rf
  have hP : va_P D vwCl [(oX4 r0 r1 p0 (nI ti) (fk ti) (ft ti) (fv ti) inb iek iep), (oX5 r1 k1 k2 k3 (nI ct)), (k1, .inl (cA 0, 701, .inl fk)), (k2, .inl (cA 0, 701, .inl ft)), (k3, .inl (cA 1, 701, .inr (.inl fv))), (oX3 p0 pr pb pe pg p1 (nI nd) p2 p3 p4 p5 (nI cn) p6 (nI pq) p7 p8 p9 (nI sc))] s.heap := hP
  have hl := lv_entry ([.ref r0]) (n := 1) (Nat.le_of_ble_eq_true rfl)
  rw [lg_entry_eq]
  generalize (lg_sl ([.ref r0]) ++ List.replicate (1 - (lg_sl ([.ref r0])).length) Slot.unset).toArray = ls at hl ⊢
  have hl : lv_has ls 1 [(0, .ref r0)] := hl
  have inX3 : ∀ w ∈ u_ws RX3 TX3 17, w ∈ wsX4_readFee := by decide +kernel
  have inX4 : ∀ w ∈ u_ws RX4 TX4 9, w ∈ wsX4_readFee := by decide +kernel
  have hle9 := TX.le hTX hti
  have hn1 := TX.go2 hTX hti (by rw [hk]; decide)
  refine lv_aload_n hx hb dX4_readFee_0 rfl (lv_at hl 0 rfl) ?_
  refine lv_aload_n hx hb dX4_readFee_1 rfl (lv_at hl 0 rfl) ?_
  refine va_get (D := D) (ci := 8) (v := .int (nI ti)) (C := RX4) (T := TX4) (N := 9) hx hb hts inX4 hown hK hP 0 rfl rfl 2 (by decide) (hts (.fieldLink RX4 70 "EscrowDesk$Reader" "token" "I") (by decide +kernel)) (fun _ h9 => h9) rfl dX4_readFee_2 ?_
  refine lv_iconst (v := 1) hx hb dX4_readFee_5 (by decide) ?_
  refine lv_iadd hx hb dX4_readFee_6 ?_
  refine lv_topi (fun yn2 eyn2 => ?_)
  obtain rfl : yn2 = (nI (ti + 1)) := eyn2.trans (nI_add ti 1)
  obtain ⟨hPc, hDc, hFc⟩ := PDq.cut (wc := [(oX4 r0 r1 p0 (nI ti) (fk ti) (ft ti) (fv ti) inb iek iep), (oX5 r1 k1 k2 k3 (nI ct)), (k1, .inl (cA 0, 701, .inl fk)), (k2, .inl (cA 0, 701, .inl ft)), (k3, .inl (cA 1, 701, .inr (.inl fv)))]) hP hD hS hA [0, 1, 2, 3, 4] (by decide) rfl
  refine va_callv (va_runV (As := [.int (nI (ti + 1))]) (rest := []) ⟨hx, hb, hml, hown, hts⟩ (x_lookAt l D cA sa r0 p0 (ti + 1) (nI ti) (fk ti) (ft ti) inb iek iep (fv ti) r1 k1 k2 k3 ct fk ft fv s.heap.size hct hn1.1) (cwV 1 hts gX4_readFee_X4_lookAt rfl rfl rfl (by decide +kernel) ⟨(Nat.le_of_ble_eq_true rfl), (Nat.le_of_ble_eq_true rfl)⟩) ⟨Wd.blind, va_recv hK hPc (ci := 8) (q0 := 0) rfl rfl, fun U hU hW => ⟨rfl, Wd.call hPc hDc hK hC hZ hS hFc U hU hW⟩⟩ rfl rfl hl.1 rfl (lv_room (Nat.le_of_ble_eq_true rfl)) dX4_readFee_7 ⟨(Nat.le_of_ble_eq_true rfl), (Nat.le_of_ble_eq_true rfl)⟩) hS (fun q _ h => hFc q h) hFc (fun u t H1 locs ht hvm hw hB hz1 hk1 hS => ?_)
  obtain ⟨hP1, hD1⟩ := hB
  rw [ht] at hP1
  obtain ⟨hP, hD⟩ := PDq.join (w := [(oX3 p0 pr pb pe pg p1 (nI nd) p2 p3 p4 p5 (nI cn) p6 (nI pq) p7 p8 p9 (nI sc)), (oX4 r0 r1 p0 (nI (ti + 1)) (fk (ti + 1)) (ft (ti + 1)) (fv (ti + 1)) inb iek iep), (oX5 r1 k1 k2 k3 (nI ct)), (k1, .inl (cA 0, 701, .inl fk)), (k2, .inl (cA 0, 701, .inl ft)), (k3, .inl (cA 1, 701, .inr (.inl fv)))]) 1 hP hD [0, 1, 2, 3, 4] [5] rfl rfl (by decide) (by decide) hk1 hFc hP1 hD1 rfl
  generalize H1 = H at hP hS ⊢
  refine lv_aload_n hx hb dX4_readFee_10 rfl (lv_at hl 0 rfl) ?_
  refine lv_iconst (v := 0) hx hb dX4_readFee_11 (by decide) ?_
  refine lv_sipush (v := 2000) hx hb dX4_readFee_12 (by decide) ?_
  obtain ⟨hPc, hDc, hFc⟩ := PDq.cut (wc := [(oX4 r0 r1 p0 (nI (ti + 1)) (fk (ti + 1)) (ft (ti + 1)) (fv (ti + 1)) inb iek iep), (oX5 r1 k1 k2 k3 (nI ct)), (k1, .inl (cA 0, 701, .inl fk)), (k2, .inl (cA 0, 701, .inl ft)), (k3, .inl (cA 1, 701, .inr (.inl fv)))]) hP hD hS hA [1, 2, 3, 4, 5] (by decide) rfl
  refine va_calli (va_runV (As := [.int 0, .int 2000]) (rest := []) ⟨hx, hb, hml, hown, hts⟩ (x_takeNumber l D cA sa r0 p0 (ti + 1) ln inb iek iep r1 k1 k2 k3 ct fk ft fv fb gP gR 0 2000 H.size hct hln hn1.1 hTX (by omega) (by omega)) (cwV 2 hts gX4_readFee_X4_takeNumber rfl rfl rfl (by decide +kernel) ⟨(Nat.le_of_ble_eq_true rfl), (Nat.le_of_ble_eq_true rfl)⟩) ⟨Wd.blind, va_recv hK hPc (ci := 8) (q0 := 0) rfl rfl, fun U hU hW => ⟨rfl, Wd.call hPc hDc hK hC hZ hS hFc U hU hW⟩⟩ rfl rfl hl.1 rfl (lv_room (Nat.le_of_ble_eq_true rfl)) dX4_readFee_15 ⟨(Nat.le_of_ble_eq_true rfl), (Nat.le_of_ble_eq_true rfl)⟩) hS (fun q _ h => hFc q h) hFc (fun rn3 u t H1 locs ht hvm hw hB hz1 hk1 hS => ?_)
  obtain ⟨qn4, zn5, zn6, zn7, hn8, hn9, hn10, hn11, hn12, hn13, hn14, hn15, hn16, hn17, hP1, hD1⟩ := hB
  rw [ht] at hP1
  obtain ⟨hP, hD⟩ := PDq.join (w := [(oX3 p0 pr pb pe pg p1 (nI nd) p2 p3 p4 p5 (nI cn) p6 (nI pq) p7 p8 p9 (nI sc)), (oX4 r0 r1 p0 (nI qn4) (fk qn4) (ft qn4) (fv qn4) zn5 zn6 zn7), (oX5 r1 k1 k2 k3 (nI ct)), (k1, .inl (cA 0, 701, .inl fk)), (k2, .inl (cA 0, 701, .inl ft)), (k3, .inl (cA 1, 701, .inr (.inl fv)))]) 1 hP hD [1, 2, 3, 4, 5] [0] rfl rfl (by decide) (by decide) hk1 hFc hP1 hD1 rfl
  generalize H1 = H at hP hS ⊢
  rcases hw.2 with hr9 | hr9
  · skip
    have hn16 := hn16 (hw.1.trans hr9)
    have hn17 := hn17 (hw.1.trans hr9)
    subst hr9
    refine lv_if_ne (tgt := 23) hx hb dX4_readFee_18 (by decide) (fun c9 => absurd c9 (by decide)) (fun c18 => ?_)
    refine lv_iconst (v := 0) hx hb dX4_readFee_21 (by decide) ?_
    obtain ⟨hP9, hD9⟩ := PDq.sub (ws' := [(oX4 r0 r1 p0 (nI qn4) (fk qn4) (ft qn4) (fv qn4) zn5 zn6 zn7), (oX5 r1 k1 k2 k3 (nI ct)), (k1, .inl (cA 0, 701, .inl fk)), (k2, .inl (cA 0, 701, .inl ft)), (k3, .inl (cA 1, 701, .inr (.inl fv))), (oX3 p0 pr pb pe pg p1 (nI nd) p2 p3 p4 p5 (nI cn) p6 (nI pq) p7 p8 p9 (nI sc))]) hP hD [1, 2, 3, 4, 5, 0] (by decide) rfl
    refine W.widen (k := 0) (n := 0) (Nat.le_of_ble_eq_true rfl) (Nat.le_of_ble_eq_true rfl) ?_
    exact (W.zret (v := 0) hx hb hr (by first | rfl | decide) (fun t ht hW => ⟨⟨0, 0, rfl, ⟨rfl, by decide⟩, qn4, zn5, zn6, zn7, pe, hn8, hn9, (fun h9 => absurd h9 (by decide)), (fun h9 => absurd h9 (by decide)), (fun h9 => absurd h9 (by decide)), (fun h9 => absurd h9 (by decide)), (fun h9 => absurd h9 (by decide)), (fun _ => (Or.inl (S_feeEx hk hn16 hn17))), by rw [ht]; exact hP9, hD9⟩, hS.F ht⟩) hS.2.2 dX4_readFee_22)
  · skip
    have hn11 := hn11 (hw.1.trans hr9)
    subst hn11
    obtain ⟨hP, hD⟩ : PDq D A [(oX3 p0 pr pb pe pg p1 (nI nd) p2 p3 p4 p5 (nI cn) p6 (nI pq) p7 p8 p9 (nI sc)), (oX4 r0 r1 p0 (nI ((ti + 1) + 1)) (fk ((ti + 1) + 1)) (ft ((ti + 1) + 1)) (fv ((ti + 1) + 1)) zn5 zn6 zn7), (oX5 r1 k1 k2 k3 (nI ct)), (k1, .inl (cA 0, 701, .inl fk)), (k2, .inl (cA 0, 701, .inl ft)), (k3, .inl (cA 1, 701, .inr (.inl fv)))] H := ⟨hP, hD⟩
    have hn12 := hn12 (hw.1.trans hr9)
    obtain rfl : iek = zn6 := hn12.symm
    obtain ⟨hP, hD⟩ : PDq D A [(oX3 p0 pr pb pe pg p1 (nI nd) p2 p3 p4 p5 (nI cn) p6 (nI pq) p7 p8 p9 (nI sc)), (oX4 r0 r1 p0 (nI ((ti + 1) + 1)) (fk ((ti + 1) + 1)) (ft ((ti + 1) + 1)) (fv ((ti + 1) + 1)) zn5 iek zn7), (oX5 r1 k1 k2 k3 (nI ct)), (k1, .inl (cA 0, 701, .inl fk)), (k2, .inl (cA 0, 701, .inl ft)), (k3, .inl (cA 1, 701, .inr (.inl fv)))] H := ⟨hP, hD⟩
    have hn13 := hn13 (hw.1.trans hr9)
    obtain rfl : iep = zn7 := hn13.symm
    obtain ⟨hP, hD⟩ : PDq D A [(oX3 p0 pr pb pe pg p1 (nI nd) p2 p3 p4 p5 (nI cn) p6 (nI pq) p7 p8 p9 (nI sc)), (oX4 r0 r1 p0 (nI ((ti + 1) + 1)) (fk ((ti + 1) + 1)) (ft ((ti + 1) + 1)) (fv ((ti + 1) + 1)) zn5 iek iep), (oX5 r1 k1 k2 k3 (nI ct)), (k1, .inl (cA 0, 701, .inl fk)), (k2, .inl (cA 0, 701, .inl ft)), (k3, .inl (cA 1, 701, .inr (.inl fv)))] H := ⟨hP, hD⟩
    have hn14 := hn14 (hw.1.trans hr9)
    have hn15 := hn15 (hw.1.trans hr9)
    subst hr9
    refine lv_if_ne (tgt := 23) hx hb dX4_readFee_18 (by decide) (fun c19 => ?_) (fun c9 => absurd c9 (by decide))
    refine lv_aload_n hx hb dX4_readFee_23 rfl (lv_at hl 0 rfl) ?_
    refine va_get (D := D) (ci := 8) (v := .ref p0) (C := RX4) (T := TX4) (N := 9) hx hb hts inX4 hown hK hP 1 rfl rfl 1 (by decide) (hts (.fieldLink RX4 25 "EscrowDesk$Reader" "plan" "LEscrowDesk$Plan;") (by decide +kernel)) (fun _ h9 => h9) rfl dX4_readFee_24 ?_
    refine lv_aload_n hx hb dX4_readFee_27 rfl (lv_at hl 0 rfl) ?_
    refine va_get (D := D) (ci := 8) (v := .int zn5) (C := RX4) (T := TX4) (N := 9) hx hb hts inX4 hown hK hP 1 rfl rfl 6 (by decide) (hts (.fieldLink RX4 91 "EscrowDesk$Reader" "number" "I") (by decide +kernel)) (fun _ h9 => h9) rfl dX4_readFee_28 ?_
    refine va_putN (D := D) (ci := 7) (v := .int zn5) (ty := .int) (C := RX3) (T := TX3) (N := 17) hx hb hts inX3 tyX3 tyX3_ok nmX3 hown hK hP hD hS 0 rfl rfl 2 (by decide) (hC.f (A := _) (a := RX4) (i := 111) (b := "EscrowDesk$Plan") (n := "fee") (d := "I") (x := "EscrowDesk") (by decide +kernel)) (fun _ h9 => h9) rfl (by decide +kernel) rfl rfl (Nat.le_of_ble_eq_true rfl) dX4_readFee_31 (fun H locs hP hD hS => ?_)
    obtain ⟨hP, hD⟩ : PDq D A [(oX3 p0 pr pb zn5 pg p1 (nI nd) p2 p3 p4 p5 (nI cn) p6 (nI pq) p7 p8 p9 (nI sc)), (oX4 r0 r1 p0 (nI ((ti + 1) + 1)) (fk ((ti + 1) + 1)) (ft ((ti + 1) + 1)) (fv ((ti + 1) + 1)) zn5 iek iep), (oX5 r1 k1 k2 k3 (nI ct)), (k1, .inl (cA 0, 701, .inl fk)), (k2, .inl (cA 0, 701, .inl ft)), (k3, .inl (cA 1, 701, .inr (.inl fv)))] H := ⟨hP, hD⟩
    refine lv_aload_n hx hb dX4_readFee_34 rfl (lv_at hl 0 rfl) ?_
    refine lv_bipush (v := 7) hx hb dX4_readFee_35 (by decide) ?_
    obtain ⟨hPc, hDc, hFc⟩ := PDq.cut (wc := [(oX4 r0 r1 p0 (nI ((ti + 1) + 1)) (fk ((ti + 1) + 1)) (ft ((ti + 1) + 1)) (fv ((ti + 1) + 1)) zn5 iek iep), (oX5 r1 k1 k2 k3 (nI ct)), (k1, .inl (cA 0, 701, .inl fk)), (k2, .inl (cA 0, 701, .inl ft)), (k3, .inl (cA 1, 701, .inr (.inl fv)))]) hP hD hS hA [1, 2, 3, 4, 5] (by decide) rfl
    refine va_calli (va_runV (As := [.int 7]) (rest := []) ⟨hx, hb, hml, hown, hts⟩ (x_take l D cA sa r0 p0 ((ti + 1) + 1) ln zn5 iek iep r1 k1 k2 k3 ct fk ft fv fb gP gR 7 H.size hct hln hn8 hTX (by decide)) (cwV 1 hts gX4_readFee_X4_take rfl rfl rfl (by decide +kernel) ⟨(Nat.le_of_ble_eq_true rfl), (Nat.le_of_ble_eq_true rfl)⟩) ⟨Wd.blind, va_recv hK hPc (ci := 8) (q0 := 0) rfl rfl, fun U hU hW => ⟨rfl, Wd.call hPc hDc hK hC hZ hS hFc U hU hW⟩⟩ rfl rfl hl.1 rfl (lv_room (Nat.le_of_ble_eq_true rfl)) dX4_readFee_37 ⟨(Nat.le_of_ble_eq_true rfl), (Nat.le_of_ble_eq_true rfl)⟩) hS (fun q _ h => hFc q h) hFc (fun rn20 u t H1 locs ht hvm hw hB hz1 hk1 hS => ?_)
    obtain ⟨qn21, zn22, zn23, hn24, hn25, hn26, hn27, hn28, hn29, hn30, hn31, hn32, hn33, hn34, hP1, hD1⟩ := hB
    rw [ht] at hP1
    obtain ⟨hP, hD⟩ := PDq.join (w := [(oX3 p0 pr pb zn5 pg p1 (nI nd) p2 p3 p4 p5 (nI cn) p6 (nI pq) p7 p8 p9 (nI sc)), (oX4 r0 r1 p0 (nI qn21) (fk qn21) (ft qn21) (fv qn21) zn5 zn22 zn23), (oX5 r1 k1 k2 k3 (nI ct)), (k1, .inl (cA 0, 701, .inl fk)), (k2, .inl (cA 0, 701, .inl ft)), (k3, .inl (cA 1, 701, .inr (.inl fv)))]) 1 hP hD [1, 2, 3, 4, 5] [0] rfl rfl (by decide) (by decide) hk1 hFc hP1 hD1 rfl
    generalize H1 = H at hP hS ⊢
    rcases hw.2 with hr9 | hr9
    · skip
      have hn32 := hn32 (hw.1.trans hr9)
      have hn33 := hn33 (hw.1.trans hr9)
      have hn34 := hn34 (hw.1.trans hr9)
      subst hr9
      obtain ⟨hP9, hD9⟩ := PDq.sub (ws' := [(oX4 r0 r1 p0 (nI qn21) (fk qn21) (ft qn21) (fv qn21) zn5 zn22 zn23), (oX5 r1 k1 k2 k3 (nI ct)), (k1, .inl (cA 0, 701, .inl fk)), (k2, .inl (cA 0, 701, .inl ft)), (k3, .inl (cA 1, 701, .inr (.inl fv))), (oX3 p0 pr pb zn5 pg p1 (nI nd) p2 p3 p4 p5 (nI cn) p6 (nI pq) p7 p8 p9 (nI sc))]) hP hD [1, 2, 3, 4, 5, 0] (by decide) rfl
      refine W.widen (k := 0) (n := 0) (Nat.le_of_ble_eq_true rfl) (Nat.le_of_ble_eq_true rfl) ?_
      exact (W.zret (v := 0) hx hb hr (by first | rfl | decide) (fun t ht hW => ⟨⟨0, 0, rfl, ⟨rfl, by decide⟩, qn21, zn5, zn22, zn23, zn5, hn24, hn25, (fun h9 => absurd h9 (by decide)), (fun h9 => absurd h9 (by decide)), (fun h9 => absurd h9 (by decide)), (fun h9 => absurd h9 (by decide)), (fun h9 => absurd h9 (by decide)), (fun _ => (Or.inr ⟨_, _, _, _, S_fee hk hn15, hn34, hn32, hn33⟩)), by rw [ht]; exact hP9, hD9⟩, hS.F ht⟩) hS.2.2 dX4_readFee_40)
    · skip
      have hn27 := hn27 (hw.1.trans hr9)
      subst hn27
      obtain ⟨hP, hD⟩ : PDq D A [(oX3 p0 pr pb zn5 pg p1 (nI nd) p2 p3 p4 p5 (nI cn) p6 (nI pq) p7 p8 p9 (nI sc)), (oX4 r0 r1 p0 (nI (((ti + 1) + 1) + 1)) (fk (((ti + 1) + 1) + 1)) (ft (((ti + 1) + 1) + 1)) (fv (((ti + 1) + 1) + 1)) zn5 zn22 zn23), (oX5 r1 k1 k2 k3 (nI ct)), (k1, .inl (cA 0, 701, .inl fk)), (k2, .inl (cA 0, 701, .inl ft)), (k3, .inl (cA 1, 701, .inr (.inl fv)))] H := ⟨hP, hD⟩
      have hn28 := hn28 (hw.1.trans hr9)
      obtain rfl : iek = zn22 := hn28.symm
      obtain ⟨hP, hD⟩ : PDq D A [(oX3 p0 pr pb zn5 pg p1 (nI nd) p2 p3 p4 p5 (nI cn) p6 (nI pq) p7 p8 p9 (nI sc)), (oX4 r0 r1 p0 (nI (((ti + 1) + 1) + 1)) (fk (((ti + 1) + 1) + 1)) (ft (((ti + 1) + 1) + 1)) (fv (((ti + 1) + 1) + 1)) zn5 iek zn23), (oX5 r1 k1 k2 k3 (nI ct)), (k1, .inl (cA 0, 701, .inl fk)), (k2, .inl (cA 0, 701, .inl ft)), (k3, .inl (cA 1, 701, .inr (.inl fv)))] H := ⟨hP, hD⟩
      have hn29 := hn29 (hw.1.trans hr9)
      obtain rfl : iep = zn23 := hn29.symm
      obtain ⟨hP, hD⟩ : PDq D A [(oX3 p0 pr pb zn5 pg p1 (nI nd) p2 p3 p4 p5 (nI cn) p6 (nI pq) p7 p8 p9 (nI sc)), (oX4 r0 r1 p0 (nI (((ti + 1) + 1) + 1)) (fk (((ti + 1) + 1) + 1)) (ft (((ti + 1) + 1) + 1)) (fv (((ti + 1) + 1) + 1)) zn5 iek iep), (oX5 r1 k1 k2 k3 (nI ct)), (k1, .inl (cA 0, 701, .inl fk)), (k2, .inl (cA 0, 701, .inl ft)), (k3, .inl (cA 1, 701, .inr (.inl fv)))] H := ⟨hP, hD⟩
      have hn30 := hn30 (hw.1.trans hr9)
      have hn31 := hn31 (hw.1.trans hr9)
      subst hr9
      obtain ⟨hP9, hD9⟩ := PDq.sub (ws' := [(oX4 r0 r1 p0 (nI (((ti + 1) + 1) + 1)) (fk (((ti + 1) + 1) + 1)) (ft (((ti + 1) + 1) + 1)) (fv (((ti + 1) + 1) + 1)) zn5 iek iep), (oX5 r1 k1 k2 k3 (nI ct)), (k1, .inl (cA 0, 701, .inl fk)), (k2, .inl (cA 0, 701, .inl ft)), (k3, .inl (cA 1, 701, .inr (.inl fv))), (oX3 p0 pr pb zn5 pg p1 (nI nd) p2 p3 p4 p5 (nI cn) p6 (nI pq) p7 p8 p9 (nI sc))]) hP hD [1, 2, 3, 4, 5, 0] (by decide) rfl
      refine W.widen (k := 0) (n := 0) (Nat.le_of_ble_eq_true rfl) (Nat.le_of_ble_eq_true rfl) ?_
      exact (W.zret (v := 1) hx hb hr (by first | rfl | decide) (fun t ht hW => ⟨⟨1, 1, rfl, ⟨rfl, by decide⟩, (((ti + 1) + 1) + 1), zn5, iek, iep, zn5, hn24, hn25, (fun _ => rfl), (fun _ => rfl), (fun _ => (by omega)), (fun _ => (by omega)), (fun _ => ⟨_, S_fee hk hn15, hn31, rfl⟩), (fun h9 => absurd h9 (by decide)), by rw [ht]; exact hP9, hD9⟩, hS.F ht⟩) hS.2.2 dX4_readFee_40)

set_option maxHeartbeats 4000000 in
set_option maxRecDepth 100000 in
/-- readGrace -/
theorem x_readGrace_look (l : Launch) (D : va_G) (cA : Nat → ClassId) (sa : Nat → Nat) (r0 : Nat) (p0 : Nat) (ti : Nat) (ln : Nat) (inb : Int32) (iek : Int32) (iep : Int32) (r1 : Nat) (k1 : Nat) (k2 : Nat) (k3 : Nat) (ct : Nat) (fk : Nat → Int32) (ft : Nat → Int32) (fv : Nat → Int64) (fb : Nat → Int32) (gP : Nat → Nat) (gR : Nat → Nat) (p1 : Nat) (p2 : Nat) (p3 : Nat) (p4 : Nat) (p5 : Nat) (p6 : Nat) (p7 : Nat) (p8 : Nat) (p9 : Nat) (cn : Nat) (pq : Nat) (nd : Nat) (sc : Nat) (pr : Int32) (pb : Int32) (pe : Int32) (pg : Int32) (ml : List Int64) (pl : List Int64) (sz : Nat) (hct : ct ≤ 701) (hln : ln ≤ 700) (hti : ti < ct) (hTX : TX fb ln ct gP gR ft fv fk) (hsl : 2 * sc ≤ gP ti) (hk : fk ti = 10) : Met l yX4_readGrace wsX4_readGrace ({ frames := 2, cells := 0, slots := 0, locals := 43 }) (va_Pc [.ref r0] (Wd D cA sa [(oX4 r0 r1 p0 (nI ti) (fk ti) (ft ti) (fv ti) inb iek iep), (oX5 r1 k1 k2 k3 (nI ct)), (k1, .inl (cA 0, 701, .inl fk)), (k2, .inl (cA 0, 701, .inl ft)), (k3, .inl (cA 1, 701, .inr (.inl fv))), (oX3 p0 pr pb pe pg p1 (nI nd) p2 p3 p4 p5 (nI cn) p6 (nI pq) p7 p8 p9 (nI sc))] sz)) (va_Qi (fun (r : Int32) (u9 : Int32) => u9 = r ∧ (r = 0 ∨ r = 1)) (fun (u9 : Int32) t => ∃ tj : Nat, ∃ znr : Int32, ∃ zek : Int32, ∃ zep : Int32, ∃ zga : Int32, tj < ct ∧ gP tj ≤ ln ∧ (u9 = 1 → zek = iek) ∧ (u9 = 1 → zep = iep) ∧ (u9 = 1 → ti + 2 ≤ tj) ∧ (u9 = 1 → 2 * sc ≤ gP tj) ∧ (u9 = 1 → ST9 fk ft fv ti nd ml pl tj nd ml pl) ∧ (u9 = 0 → SE9 fk ft fv ti nd ml pl zek zep) ∧ Wq D (va_A [(oX4 r0 r1 p0 (nI ti) (fk ti) (ft ti) (fv ti) inb iek iep), (oX5 r1 k1 k2 k3 (nI ct)), (k1, .inl (cA 0, 701, .inl fk)), (k2, .inl (cA 0, 701, .inl ft)), (k3, .inl (cA 1, 701, .inr (.inl fv))), (oX3 p0 pr pb pe pg p1 (nI nd) p2 p3 p4 p5 (nI cn) p6 (nI pq) p7 p8 p9 (nI sc))] sz) [(oX4 r0 r1 p0 (nI tj) (fk tj) (ft tj) (fv tj) znr zek zep), (oX5 r1 k1 k2 k3 (nI ct)), (k1, .inl (cA 0, 701, .inl fk)), (k2, .inl (cA 0, 701, .inl ft)), (k3, .inl (cA 1, 701, .inr (.inl fv))), (oX3 p0 pr pb pe zga p1 (nI nd) p2 p3 p4 p5 (nI cn) p6 (nI pq) p7 p8 p9 (nI sc))] t) (va_A [(oX4 r0 r1 p0 (nI ti) (fk ti) (ft ti) (fv ti) inb iek iep), (oX5 r1 k1 k2 k3 (nI ct)), (k1, .inl (cA 0, 701, .inl fk)), (k2, .inl (cA 0, 701, .inl ft)), (k3, .inl (cA 1, 701, .inr (.inl fv))), (oX3 p0 pr pb pe pg p1 (nI nd) p2 p3 p4 p5 (nI cn) p6 (nI pq) p7 p8 p9 (nI sc))] sz)) 0 0 (va_A [(oX4 r0 r1 p0 (nI ti) (fk ti) (ft ti) (fv ti) inb iek iep), (oX5 r1 k1 k2 k3 (nI ct)), (k1, .inl (cA 0, 701, .inl fk)), (k2, .inl (cA 0, 701, .inl ft)), (k3, .inl (cA 1, 701, .inr (.inl fv))), (oX3 p0 pr pb pe pg p1 (nI nd) p2 p3 p4 p5 (nI cn) p6 (nI pq) p7 p8 p9 (nI sc))] sz) := by
  refine Met.ofW (cc := cX4_readGrace) (maxL := 1) (ret := (some .boolean)) (by decide) rfl ?_
  intro p e s m args below meth c s₁ B hml hv
  obtain ⟨rfl, hsz, hP, hK, hD0, hC, hZ⟩ := hv
  have hx := B.exec
  have hb := B.bytes
  have hr := B.returns
  have hts := atoms_spec (ws := wsX4_readGrace) B.pre
  have hown : s.vm.findClass RX4 = some m.cls := findClass_of_methodNamed B.named
  have hlocks := B.notSynchronized
  subst hsz
  have hD := hD0.self (sz := s.heap.size)
  generalize hAe : va_A [(oX4 r0 r1 p0 (nI ti) (fk ti) (ft ti) (fv ti) inb iek iep), (oX5 r1 k1 k2 k3 (nI ct)), (k1, .inl (cA 0, 701, .inl fk)), (k2, .inl (cA 0, 701, .inl ft)), (k3, .inl (cA 1, 701, .inr (.inl fv))), (oX3 p0 pr pb pe pg p1 (nI nd) p2 p3 p4 p5 (nI cn) p6 (nI pq) p7 p8 p9 (nI sc))] s.heap.size = A at hD hZ ⊢
  have hA : ∀ q : Nat, s.heap.size ≤ q → A q := fun q h => by rw [← hAe]; exact Or.inr h
  have hS : va_S A s.heap s.heap [] := va_S.rf
  have hP : va_P D vwCl [(oX4 r0 r1 p0 (nI ti) (fk ti) (ft ti) (fv ti) inb iek iep), (oX5 r1 k1 k2 k3 (nI ct)), (k1, .inl (cA 0, 701, .inl fk)), (k2, .inl (cA 0, 701, .inl ft)), (k3, .inl (cA 1, 701, .inr (.inl fv))), (oX3 p0 pr pb pe pg p1 (nI nd) p2 p3 p4 p5 (nI cn) p6 (nI pq) p7 p8 p9 (nI sc))] s.heap := hP
  have hl := lv_entry ([.ref r0]) (n := 1) (Nat.le_of_ble_eq_true rfl)
  rw [lg_entry_eq]
  generalize (lg_sl ([.ref r0]) ++ List.replicate (1 - (lg_sl ([.ref r0])).length) Slot.unset).toArray = ls at hl ⊢
  have hl : lv_has ls 1 [(0, .ref r0)] := hl
  have inX3 : ∀ w ∈ u_ws RX3 TX3 17, w ∈ wsX4_readGrace := by decide +kernel
  have inX4 : ∀ w ∈ u_ws RX4 TX4 9, w ∈ wsX4_readGrace := by decide +kernel
  have hle9 := TX.le hTX hti
  have hn1 := TX.go2 hTX hti (by rw [hk]; decide)
  refine lv_aload_n hx hb dX4_readGrace_0 rfl (lv_at hl 0 rfl) ?_
  refine lv_aload_n hx hb dX4_readGrace_1 rfl (lv_at hl 0 rfl) ?_
  refine va_get (D := D) (ci := 8) (v := .int (nI ti)) (C := RX4) (T := TX4) (N := 9) hx hb hts inX4 hown hK hP 0 rfl rfl 2 (by decide) (hts (.fieldLink RX4 70 "EscrowDesk$Reader" "token" "I") (by decide +kernel)) (fun _ h9 => h9) rfl dX4_readGrace_2 ?_
  refine lv_iconst (v := 1) hx hb dX4_readGrace_5 (by decide) ?_
  refine lv_iadd hx hb dX4_readGrace_6 ?_
  refine lv_topi (fun yn2 eyn2 => ?_)
  obtain rfl : yn2 = (nI (ti + 1)) := eyn2.trans (nI_add ti 1)
  obtain ⟨hPc, hDc, hFc⟩ := PDq.cut (wc := [(oX4 r0 r1 p0 (nI ti) (fk ti) (ft ti) (fv ti) inb iek iep), (oX5 r1 k1 k2 k3 (nI ct)), (k1, .inl (cA 0, 701, .inl fk)), (k2, .inl (cA 0, 701, .inl ft)), (k3, .inl (cA 1, 701, .inr (.inl fv)))]) hP hD hS hA [0, 1, 2, 3, 4] (by decide) rfl
  refine va_callv (va_runV (As := [.int (nI (ti + 1))]) (rest := []) ⟨hx, hb, hml, hown, hts⟩ (x_lookAt l D cA sa r0 p0 (ti + 1) (nI ti) (fk ti) (ft ti) inb iek iep (fv ti) r1 k1 k2 k3 ct fk ft fv s.heap.size hct hn1.1) (cwV 1 hts gX4_readGrace_X4_lookAt rfl rfl rfl (by decide +kernel) ⟨(Nat.le_of_ble_eq_true rfl), (Nat.le_of_ble_eq_true rfl)⟩) ⟨Wd.blind, va_recv hK hPc (ci := 8) (q0 := 0) rfl rfl, fun U hU hW => ⟨rfl, Wd.call hPc hDc hK hC hZ hS hFc U hU hW⟩⟩ rfl rfl hl.1 rfl (lv_room (Nat.le_of_ble_eq_true rfl)) dX4_readGrace_7 ⟨(Nat.le_of_ble_eq_true rfl), (Nat.le_of_ble_eq_true rfl)⟩) hS (fun q _ h => hFc q h) hFc (fun u t H1 locs ht hvm hw hB hz1 hk1 hS => ?_)
  obtain ⟨hP1, hD1⟩ := hB
  rw [ht] at hP1
  obtain ⟨hP, hD⟩ := PDq.join (w := [(oX3 p0 pr pb pe pg p1 (nI nd) p2 p3 p4 p5 (nI cn) p6 (nI pq) p7 p8 p9 (nI sc)), (oX4 r0 r1 p0 (nI (ti + 1)) (fk (ti + 1)) (ft (ti + 1)) (fv (ti + 1)) inb iek iep), (oX5 r1 k1 k2 k3 (nI ct)), (k1, .inl (cA 0, 701, .inl fk)), (k2, .inl (cA 0, 701, .inl ft)), (k3, .inl (cA 1, 701, .inr (.inl fv)))]) 1 hP hD [0, 1, 2, 3, 4] [5] rfl rfl (by decide) (by decide) hk1 hFc hP1 hD1 rfl
  generalize H1 = H at hP hS ⊢
  refine lv_aload_n hx hb dX4_readGrace_10 rfl (lv_at hl 0 rfl) ?_
  refine lv_iconst (v := 0) hx hb dX4_readGrace_11 (by decide) ?_
  refine lv_bipush (v := 60) hx hb dX4_readGrace_12 (by decide) ?_
  obtain ⟨hPc, hDc, hFc⟩ := PDq.cut (wc := [(oX4 r0 r1 p0 (nI (ti + 1)) (fk (ti + 1)) (ft (ti + 1)) (fv (ti + 1)) inb iek iep), (oX5 r1 k1 k2 k3 (nI ct)), (k1, .inl (cA 0, 701, .inl fk)), (k2, .inl (cA 0, 701, .inl ft)), (k3, .inl (cA 1, 701, .inr (.inl fv)))]) hP hD hS hA [1, 2, 3, 4, 5] (by decide) rfl
  refine va_calli (va_runV (As := [.int 0, .int 60]) (rest := []) ⟨hx, hb, hml, hown, hts⟩ (x_takeNumber l D cA sa r0 p0 (ti + 1) ln inb iek iep r1 k1 k2 k3 ct fk ft fv fb gP gR 0 60 H.size hct hln hn1.1 hTX (by omega) (by omega)) (cwV 2 hts gX4_readGrace_X4_takeNumber rfl rfl rfl (by decide +kernel) ⟨(Nat.le_of_ble_eq_true rfl), (Nat.le_of_ble_eq_true rfl)⟩) ⟨Wd.blind, va_recv hK hPc (ci := 8) (q0 := 0) rfl rfl, fun U hU hW => ⟨rfl, Wd.call hPc hDc hK hC hZ hS hFc U hU hW⟩⟩ rfl rfl hl.1 rfl (lv_room (Nat.le_of_ble_eq_true rfl)) dX4_readGrace_14 ⟨(Nat.le_of_ble_eq_true rfl), (Nat.le_of_ble_eq_true rfl)⟩) hS (fun q _ h => hFc q h) hFc (fun rn3 u t H1 locs ht hvm hw hB hz1 hk1 hS => ?_)
  obtain ⟨qn4, zn5, zn6, zn7, hn8, hn9, hn10, hn11, hn12, hn13, hn14, hn15, hn16, hn17, hP1, hD1⟩ := hB
  rw [ht] at hP1
  obtain ⟨hP, hD⟩ := PDq.join (w := [(oX3 p0 pr pb pe pg p1 (nI nd) p2 p3 p4 p5 (nI cn) p6 (nI pq) p7 p8 p9 (nI sc)), (oX4 r0 r1 p0 (nI qn4) (fk qn4) (ft qn4) (fv qn4) zn5 zn6 zn7), (oX5 r1 k1 k2 k3 (nI ct)), (k1, .inl (cA 0, 701, .inl fk)), (k2, .inl (cA 0, 701, .inl ft)), (k3, .inl (cA 1, 701, .inr (.inl fv)))]) 1 hP hD [1, 2, 3, 4, 5] [0] rfl rfl (by decide) (by decide) hk1 hFc hP1 hD1 rfl
  generalize H1 = H at hP hS ⊢
  rcases hw.2 with hr9 | hr9
  · skip
    have hn16 := hn16 (hw.1.trans hr9)
    have hn17 := hn17 (hw.1.trans hr9)
    subst hr9
    refine lv_if_ne (tgt := 22) hx hb dX4_readGrace_17 (by decide) (fun c9 => absurd c9 (by decide)) (fun c18 => ?_)
    refine lv_iconst (v := 0) hx hb dX4_readGrace_20 (by decide) ?_
    obtain ⟨hP9, hD9⟩ := PDq.sub (ws' := [(oX4 r0 r1 p0 (nI qn4) (fk qn4) (ft qn4) (fv qn4) zn5 zn6 zn7), (oX5 r1 k1 k2 k3 (nI ct)), (k1, .inl (cA 0, 701, .inl fk)), (k2, .inl (cA 0, 701, .inl ft)), (k3, .inl (cA 1, 701, .inr (.inl fv))), (oX3 p0 pr pb pe pg p1 (nI nd) p2 p3 p4 p5 (nI cn) p6 (nI pq) p7 p8 p9 (nI sc))]) hP hD [1, 2, 3, 4, 5, 0] (by decide) rfl
    refine W.widen (k := 0) (n := 0) (Nat.le_of_ble_eq_true rfl) (Nat.le_of_ble_eq_true rfl) ?_
    exact (W.zret (v := 0) hx hb hr (by first | rfl | decide) (fun t ht hW => ⟨⟨0, 0, rfl, ⟨rfl, by decide⟩, qn4, zn5, zn6, zn7, pg, hn8, hn9, (fun h9 => absurd h9 (by decide)), (fun h9 => absurd h9 (by decide)), (fun h9 => absurd h9 (by decide)), (fun h9 => absurd h9 (by decide)), (fun h9 => absurd h9 (by decide)), (fun _ => (Or.inl (S_graceEx hk hn16 hn17))), by rw [ht]; exact hP9, hD9⟩, hS.F ht⟩) hS.2.2 dX4_readGrace_21)
  · skip
    have hn11 := hn11 (hw.1.trans hr9)
    subst hn11
    obtain ⟨hP, hD⟩ : PDq D A [(oX3 p0 pr pb pe pg p1 (nI nd) p2 p3 p4 p5 (nI cn) p6 (nI pq) p7 p8 p9 (nI sc)), (oX4 r0 r1 p0 (nI ((ti + 1) + 1)) (fk ((ti + 1) + 1)) (ft ((ti + 1) + 1)) (fv ((ti + 1) + 1)) zn5 zn6 zn7), (oX5 r1 k1 k2 k3 (nI ct)), (k1, .inl (cA 0, 701, .inl fk)), (k2, .inl (cA 0, 701, .inl ft)), (k3, .inl (cA 1, 701, .inr (.inl fv)))] H := ⟨hP, hD⟩
    have hn12 := hn12 (hw.1.trans hr9)
    obtain rfl : iek = zn6 := hn12.symm
    obtain ⟨hP, hD⟩ : PDq D A [(oX3 p0 pr pb pe pg p1 (nI nd) p2 p3 p4 p5 (nI cn) p6 (nI pq) p7 p8 p9 (nI sc)), (oX4 r0 r1 p0 (nI ((ti + 1) + 1)) (fk ((ti + 1) + 1)) (ft ((ti + 1) + 1)) (fv ((ti + 1) + 1)) zn5 iek zn7), (oX5 r1 k1 k2 k3 (nI ct)), (k1, .inl (cA 0, 701, .inl fk)), (k2, .inl (cA 0, 701, .inl ft)), (k3, .inl (cA 1, 701, .inr (.inl fv)))] H := ⟨hP, hD⟩
    have hn13 := hn13 (hw.1.trans hr9)
    obtain rfl : iep = zn7 := hn13.symm
    obtain ⟨hP, hD⟩ : PDq D A [(oX3 p0 pr pb pe pg p1 (nI nd) p2 p3 p4 p5 (nI cn) p6 (nI pq) p7 p8 p9 (nI sc)), (oX4 r0 r1 p0 (nI ((ti + 1) + 1)) (fk ((ti + 1) + 1)) (ft ((ti + 1) + 1)) (fv ((ti + 1) + 1)) zn5 iek iep), (oX5 r1 k1 k2 k3 (nI ct)), (k1, .inl (cA 0, 701, .inl fk)), (k2, .inl (cA 0, 701, .inl ft)), (k3, .inl (cA 1, 701, .inr (.inl fv)))] H := ⟨hP, hD⟩
    have hn14 := hn14 (hw.1.trans hr9)
    have hn15 := hn15 (hw.1.trans hr9)
    subst hr9
    refine lv_if_ne (tgt := 22) hx hb dX4_readGrace_17 (by decide) (fun c19 => ?_) (fun c9 => absurd c9 (by decide))
    refine lv_aload_n hx hb dX4_readGrace_22 rfl (lv_at hl 0 rfl) ?_
    refine va_get (D := D) (ci := 8) (v := .ref p0) (C := RX4) (T := TX4) (N := 9) hx hb hts inX4 hown hK hP 1 rfl rfl 1 (by decide) (hts (.fieldLink RX4 25 "EscrowDesk$Reader" "plan" "LEscrowDesk$Plan;") (by decide +kernel)) (fun _ h9 => h9) rfl dX4_readGrace_23 ?_
    refine lv_aload_n hx hb dX4_readGrace_26 rfl (lv_at hl 0 rfl) ?_
    refine va_get (D := D) (ci := 8) (v := .int zn5) (C := RX4) (T := TX4) (N := 9) hx hb hts inX4 hown hK hP 1 rfl rfl 6 (by decide) (hts (.fieldLink RX4 91 "EscrowDesk$Reader" "number" "I") (by decide +kernel)) (fun _ h9 => h9) rfl dX4_readGrace_27 ?_
    refine va_putN (D := D) (ci := 7) (v := .int zn5) (ty := .int) (C := RX3) (T := TX3) (N := 17) hx hb hts inX3 tyX3 tyX3_ok nmX3 hown hK hP hD hS 0 rfl rfl 3 (by decide) (hC.f (A := _) (a := RX4) (i := 114) (b := "EscrowDesk$Plan") (n := "grace") (d := "I") (x := "EscrowDesk") (by decide +kernel)) (fun _ h9 => h9) rfl (by decide +kernel) rfl rfl (Nat.le_of_ble_eq_true rfl) dX4_readGrace_30 (fun H locs hP hD hS => ?_)
    obtain ⟨hP, hD⟩ : PDq D A [(oX3 p0 pr pb pe zn5 p1 (nI nd) p2 p3 p4 p5 (nI cn) p6 (nI pq) p7 p8 p9 (nI sc)), (oX4 r0 r1 p0 (nI ((ti + 1) + 1)) (fk ((ti + 1) + 1)) (ft ((ti + 1) + 1)) (fv ((ti + 1) + 1)) zn5 iek iep), (oX5 r1 k1 k2 k3 (nI ct)), (k1, .inl (cA 0, 701, .inl fk)), (k2, .inl (cA 0, 701, .inl ft)), (k3, .inl (cA 1, 701, .inr (.inl fv)))] H := ⟨hP, hD⟩
    refine lv_aload_n hx hb dX4_readGrace_33 rfl (lv_at hl 0 rfl) ?_
    refine lv_bipush (v := 7) hx hb dX4_readGrace_34 (by decide) ?_
    obtain ⟨hPc, hDc, hFc⟩ := PDq.cut (wc := [(oX4 r0 r1 p0 (nI ((ti + 1) + 1)) (fk ((ti + 1) + 1)) (ft ((ti + 1) + 1)) (fv ((ti + 1) + 1)) zn5 iek iep), (oX5 r1 k1 k2 k3 (nI ct)), (k1, .inl (cA 0, 701, .inl fk)), (k2, .inl (cA 0, 701, .inl ft)), (k3, .inl (cA 1, 701, .inr (.inl fv)))]) hP hD hS hA [1, 2, 3, 4, 5] (by decide) rfl
    refine va_calli (va_runV (As := [.int 7]) (rest := []) ⟨hx, hb, hml, hown, hts⟩ (x_take l D cA sa r0 p0 ((ti + 1) + 1) ln zn5 iek iep r1 k1 k2 k3 ct fk ft fv fb gP gR 7 H.size hct hln hn8 hTX (by decide)) (cwV 1 hts gX4_readGrace_X4_take rfl rfl rfl (by decide +kernel) ⟨(Nat.le_of_ble_eq_true rfl), (Nat.le_of_ble_eq_true rfl)⟩) ⟨Wd.blind, va_recv hK hPc (ci := 8) (q0 := 0) rfl rfl, fun U hU hW => ⟨rfl, Wd.call hPc hDc hK hC hZ hS hFc U hU hW⟩⟩ rfl rfl hl.1 rfl (lv_room (Nat.le_of_ble_eq_true rfl)) dX4_readGrace_36 ⟨(Nat.le_of_ble_eq_true rfl), (Nat.le_of_ble_eq_true rfl)⟩) hS (fun q _ h => hFc q h) hFc (fun rn20 u t H1 locs ht hvm hw hB hz1 hk1 hS => ?_)
    obtain ⟨qn21, zn22, zn23, hn24, hn25, hn26, hn27, hn28, hn29, hn30, hn31, hn32, hn33, hn34, hP1, hD1⟩ := hB
    rw [ht] at hP1
    obtain ⟨hP, hD⟩ := PDq.join (w := [(oX3 p0 pr pb pe zn5 p1 (nI nd) p2 p3 p4 p5 (nI cn) p6 (nI pq) p7 p8 p9 (nI sc)), (oX4 r0 r1 p0 (nI qn21) (fk qn21) (ft qn21) (fv qn21) zn5 zn22 zn23), (oX5 r1 k1 k2 k3 (nI ct)), (k1, .inl (cA 0, 701, .inl fk)), (k2, .inl (cA 0, 701, .inl ft)), (k3, .inl (cA 1, 701, .inr (.inl fv)))]) 1 hP hD [1, 2, 3, 4, 5] [0] rfl rfl (by decide) (by decide) hk1 hFc hP1 hD1 rfl
    generalize H1 = H at hP hS ⊢
    rcases hw.2 with hr9 | hr9
    · skip
      have hn32 := hn32 (hw.1.trans hr9)
      have hn33 := hn33 (hw.1.trans hr9)
      have hn34 := hn34 (hw.1.trans hr9)
      subst hr9
      obtain ⟨hP9, hD9⟩ := PDq.sub (ws' := [(oX4 r0 r1 p0 (nI qn21) (fk qn21) (ft qn21) (fv qn21) zn5 zn22 zn23), (oX5 r1 k1 k2 k3 (nI ct)), (k1, .inl (cA 0, 701, .inl fk)), (k2, .inl (cA 0, 701, .inl ft)), (k3, .inl (cA 1, 701, .inr (.inl fv))), (oX3 p0 pr pb pe zn5 p1 (nI nd) p2 p3 p4 p5 (nI cn) p6 (nI pq) p7 p8 p9 (nI sc))]) hP hD [1, 2, 3, 4, 5, 0] (by decide) rfl
      refine W.widen (k := 0) (n := 0) (Nat.le_of_ble_eq_true rfl) (Nat.le_of_ble_eq_true rfl) ?_
      exact (W.zret (v := 0) hx hb hr (by first | rfl | decide) (fun t ht hW => ⟨⟨0, 0, rfl, ⟨rfl, by decide⟩, qn21, zn5, zn22, zn23, zn5, hn24, hn25, (fun h9 => absurd h9 (by decide)), (fun h9 => absurd h9 (by decide)), (fun h9 => absurd h9 (by decide)), (fun h9 => absurd h9 (by decide)), (fun h9 => absurd h9 (by decide)), (fun _ => (Or.inr ⟨_, _, _, _, S_grace hk hn15, hn34, hn32, hn33⟩)), by rw [ht]; exact hP9, hD9⟩, hS.F ht⟩) hS.2.2 dX4_readGrace_39)
    · skip
      have hn27 := hn27 (hw.1.trans hr9)
      subst hn27
      obtain ⟨hP, hD⟩ : PDq D A [(oX3 p0 pr pb pe zn5 p1 (nI nd) p2 p3 p4 p5 (nI cn) p6 (nI pq) p7 p8 p9 (nI sc)), (oX4 r0 r1 p0 (nI (((ti + 1) + 1) + 1)) (fk (((ti + 1) + 1) + 1)) (ft (((ti + 1) + 1) + 1)) (fv (((ti + 1) + 1) + 1)) zn5 zn22 zn23), (oX5 r1 k1 k2 k3 (nI ct)), (k1, .inl (cA 0, 701, .inl fk)), (k2, .inl (cA 0, 701, .inl ft)), (k3, .inl (cA 1, 701, .inr (.inl fv)))] H := ⟨hP, hD⟩
      have hn28 := hn28 (hw.1.trans hr9)
      obtain rfl : iek = zn22 := hn28.symm
      obtain ⟨hP, hD⟩ : PDq D A [(oX3 p0 pr pb pe zn5 p1 (nI nd) p2 p3 p4 p5 (nI cn) p6 (nI pq) p7 p8 p9 (nI sc)), (oX4 r0 r1 p0 (nI (((ti + 1) + 1) + 1)) (fk (((ti + 1) + 1) + 1)) (ft (((ti + 1) + 1) + 1)) (fv (((ti + 1) + 1) + 1)) zn5 iek zn23), (oX5 r1 k1 k2 k3 (nI ct)), (k1, .inl (cA 0, 701, .inl fk)), (k2, .inl (cA 0, 701, .inl ft)), (k3, .inl (cA 1, 701, .inr (.inl fv)))] H := ⟨hP, hD⟩
      have hn29 := hn29 (hw.1.trans hr9)
      obtain rfl : iep = zn23 := hn29.symm
      obtain ⟨hP, hD⟩ : PDq D A [(oX3 p0 pr pb pe zn5 p1 (nI nd) p2 p3 p4 p5 (nI cn) p6 (nI pq) p7 p8 p9 (nI sc)), (oX4 r0 r1 p0 (nI (((ti + 1) + 1) + 1)) (fk (((ti + 1) + 1) + 1)) (ft (((ti + 1) + 1) + 1)) (fv (((ti + 1) + 1) + 1)) zn5 iek iep), (oX5 r1 k1 k2 k3 (nI ct)), (k1, .inl (cA 0, 701, .inl fk)), (k2, .inl (cA 0, 701, .inl ft)), (k3, .inl (cA 1, 701, .inr (.inl fv)))] H := ⟨hP, hD⟩
      have hn30 := hn30 (hw.1.trans hr9)
      have hn31 := hn31 (hw.1.trans hr9)
      subst hr9
      obtain ⟨hP9, hD9⟩ := PDq.sub (ws' := [(oX4 r0 r1 p0 (nI (((ti + 1) + 1) + 1)) (fk (((ti + 1) + 1) + 1)) (ft (((ti + 1) + 1) + 1)) (fv (((ti + 1) + 1) + 1)) zn5 iek iep), (oX5 r1 k1 k2 k3 (nI ct)), (k1, .inl (cA 0, 701, .inl fk)), (k2, .inl (cA 0, 701, .inl ft)), (k3, .inl (cA 1, 701, .inr (.inl fv))), (oX3 p0 pr pb pe zn5 p1 (nI nd) p2 p3 p4 p5 (nI cn) p6 (nI pq) p7 p8 p9 (nI sc))]) hP hD [1, 2, 3, 4, 5, 0] (by decide) rfl
      refine W.widen (k := 0) (n := 0) (Nat.le_of_ble_eq_true rfl) (Nat.le_of_ble_eq_true rfl) ?_
      exact (W.zret (v := 1) hx hb hr (by first | rfl | decide) (fun t ht hW => ⟨⟨1, 1, rfl, ⟨rfl, by decide⟩, (((ti + 1) + 1) + 1), zn5, iek, iep, zn5, hn24, hn25, (fun _ => rfl), (fun _ => rfl), (fun _ => (by omega)), (fun _ => (by omega)), (fun _ => ⟨_, S_grace hk hn15, hn31, rfl⟩), (fun h9 => absurd h9 (by decide)), by rw [ht]; exact hP9, hD9⟩, hS.F ht⟩) hS.2.2 dX4_readGrace_39)

set_option maxHeartbeats 4000000 in
set_option maxRecDepth 100000 in
/-- hasRoomForDeposit -/
theorem x_roomDep_look (l : Launch) (D : va_G) (cA : Nat → ClassId) (sa : Nat → Nat) (p0 : Nat) (p1 : Nat) (p2 : Nat) (p3 : Nat) (p4 : Nat) (p5 : Nat) (p6 : Nat) (p7 : Nat) (p8 : Nat) (p9 : Nat) (cn : Nat) (pq : Nat) (nd : Nat) (sc : Nat) (pr : Int32) (pb : Int32) (pe : Int32) (pg : Int32) (fde : Nat → Int32) (sz : Nat) (hcn : cn ≤ 10) (hpq : pq ≤ 8) (hnd : nd ≤ 6) (hsc : sc ≤ 350) : Met l yX3_hasRoomForDeposit wsX3_hasRoomForDeposit ({ frames := 0, cells := 0, slots := 0, locals := 0 }) (va_Pc [.ref p0] (Wd D cA sa [(oX3 p0 pr pb pe pg p1 (nI nd) p2 p3 p4 p5 (nI cn) p6 (nI pq) p7 p8 p9 (nI sc)), (p1, .inl (cA 0, 6, .inl fde))] sz)) (va_Qi (fun (r : Int32) (_ : Unit) => (r = 1 ∧ (nd < 6)) ∨ (r = 0 ∧ ¬ (nd < 6))) (fun (_ : Unit) t => Wq D (va_A [(oX3 p0 pr pb pe pg p1 (nI nd) p2 p3 p4 p5 (nI cn) p6 (nI pq) p7 p8 p9 (nI sc)), (p1, .inl (cA 0, 6, .inl fde))] sz) [(oX3 p0 pr pb pe pg p1 (nI nd) p2 p3 p4 p5 (nI cn) p6 (nI pq) p7 p8 p9 (nI sc)), (p1, .inl (cA 0, 6, .inl fde))] t) (va_A [(oX3 p0 pr pb pe pg p1 (nI nd) p2 p3 p4 p5 (nI cn) p6 (nI pq) p7 p8 p9 (nI sc)), (p1, .inl (cA 0, 6, .inl fde))] sz)) 0 0 (va_A [(oX3 p0 pr pb pe pg p1 (nI nd) p2 p3 p4 p5 (nI cn) p6 (nI pq) p7 p8 p9 (nI sc)), (p1, .inl (cA 0, 6, .inl fde))] sz) := by
  refine Met.ofW (cc := cX3_hasRoomForDeposit) (maxL := 1) (ret := (some .boolean)) (by decide) rfl ?_
  intro p e s m args below meth c s₁ B hml hv
  obtain ⟨rfl, hsz, hP, hK, hD0, hC, hZ⟩ := hv
  have hx := B.exec
  have hb := B.bytes
  have hr := B.returns
  have hts := atoms_spec (ws := wsX3_hasRoomForDeposit) B.pre
  have hown : s.vm.findClass RX3 = some m.cls := findClass_of_methodNamed B.named
  have hlocks := B.notSynchronized
  subst hsz
  have hD := hD0.self (sz := s.heap.size)
  generalize hAe : va_A [(oX3 p0 pr pb pe pg p1 (nI nd) p2 p3 p4 p5 (nI cn) p6 (nI pq) p7 p8 p9 (nI sc)), (p1, .inl (cA 0, 6, .inl fde))] s.heap.size = A at hD hZ ⊢
  have hA : ∀ q : Nat, s.heap.size ≤ q → A q := fun q h => by rw [← hAe]; exact Or.inr h
  have hS : va_S A s.heap s.heap [] := va_S.rf
  have hP : va_P D vwCl [(oX3 p0 pr pb pe pg p1 (nI nd) p2 p3 p4 p5 (nI cn) p6 (nI pq) p7 p8 p9 (nI sc)), (p1, .inl (cA 0, 6, .inl fde))] s.heap := hP
  have hl := lv_entry ([.ref p0]) (n := 1) (Nat.le_of_ble_eq_true rfl)
  rw [lg_entry_eq]
  generalize (lg_sl ([.ref p0]) ++ List.replicate (1 - (lg_sl ([.ref p0])).length) Slot.unset).toArray = ls at hl ⊢
  have hl : lv_has ls 1 [(0, .ref p0)] := hl
  have inX3 : ∀ w ∈ u_ws RX3 TX3 17, w ∈ wsX3_hasRoomForDeposit := by decide +kernel
  refine lv_aload_n hx hb dX3_hasRoomForDeposit_0 rfl (lv_at hl 0 rfl) ?_
  refine va_get (D := D) (ci := 7) (v := .int (nI nd)) (C := RX3) (T := TX3) (N := 17) hx hb hts inX3 hown hK hP 0 rfl rfl 5 (by decide) (hts (.fieldLink RX3 53 "EscrowDesk$Plan" "depositCount" "I") (by decide +kernel)) (fun _ h9 => h9) rfl dX3_hasRoomForDeposit_1 ?_
  refine lv_aload_n hx hb dX3_hasRoomForDeposit_4 rfl (lv_at hl 0 rfl) ?_
  refine va_get (D := D) (ci := 7) (v := .ref p1) (C := RX3) (T := TX3) (N := 17) hx hb hts inX3 hown hK hP 0 rfl rfl 4 (by decide) (hts (.fieldLink RX3 15 "EscrowDesk$Plan" "deposits" "[I") (by decide +kernel)) (fun _ h9 => h9) rfl dX3_hasRoomForDeposit_5 ?_
  refine va_alen (v := 6) hx hb hK hP 1 0 rfl rfl rfl dX3_hasRoomForDeposit_8 ?_
  refine lv_icmp_ge (tgt := 16) hx hb dX3_hasRoomForDeposit_9 (by decide) (fun c1 => ?_) (fun c1 => ?_)
  · skip
    have hn2 : 6 ≤ nd := (nI_leI (a := 6) (b := nd) (by omega) (by omega)).mp c1
    refine lv_iconst (v := 0) hx hb dX3_hasRoomForDeposit_16 (by decide) ?_
    obtain ⟨hP9, hD9⟩ := PDq.sub (ws' := [(oX3 p0 pr pb pe pg p1 (nI nd) p2 p3 p4 p5 (nI cn) p6 (nI pq) p7 p8 p9 (nI sc)), (p1, .inl (cA 0, 6, .inl fde))]) hP hD [0, 1] (by decide) rfl
    refine W.widen (k := 0) (n := 0) (Nat.le_of_ble_eq_true rfl) (Nat.le_of_ble_eq_true rfl) ?_
    exact (W.zret (v := 0) hx hb hr (by first | rfl | decide) (fun t ht hW => ⟨⟨0, (), rfl, (Or.inr ⟨rfl, (by omega)⟩), by rw [ht]; exact hP9, hD9⟩, hS.F ht⟩) hS.2.2 dX3_hasRoomForDeposit_17)
  · skip
    have hn3 : nd < 6 := Nat.lt_of_not_le (fun h9 => c1 (nI_le (a := 6) (b := nd) h9 (by omega)))
    refine lv_iconst (v := 1) hx hb dX3_hasRoomForDeposit_12 (by decide) ?_
    refine lv_goto (tgt := 17) hx hb dX3_hasRoomForDeposit_13 (by decide) ?_
    obtain ⟨hP9, hD9⟩ := PDq.sub (ws' := [(oX3 p0 pr pb pe pg p1 (nI nd) p2 p3 p4 p5 (nI cn) p6 (nI pq) p7 p8 p9 (nI sc)), (p1, .inl (cA 0, 6, .inl fde))]) hP hD [0, 1] (by decide) rfl
    refine W.widen (k := 0) (n := 0) (Nat.le_of_ble_eq_true rfl) (Nat.le_of_ble_eq_true rfl) ?_
    exact (W.zret (v := 1) hx hb hr (by first | rfl | decide) (fun t ht hW => ⟨⟨1, (), rfl, (Or.inl ⟨rfl, (by omega)⟩), by rw [ht]; exact hP9, hD9⟩, hS.F ht⟩) hS.2.2 dX3_hasRoomForDeposit_17)

set_option maxHeartbeats 4000000 in
set_option maxRecDepth 100000 in
/-- hasRoomForMilestone -/
theorem x_roomMil_look (l : Launch) (D : va_G) (cA : Nat → ClassId) (sa : Nat → Nat) (p0 : Nat) (p1 : Nat) (p2 : Nat) (p3 : Nat) (p4 : Nat) (p5 : Nat) (p6 : Nat) (p7 : Nat) (p8 : Nat) (p9 : Nat) (cn : Nat) (pq : Nat) (nd : Nat) (sc : Nat) (pr : Int32) (pb : Int32) (pe : Int32) (pg : Int32) (sz : Nat) (hcn : cn ≤ 10) (hpq : pq ≤ 8) (hnd : nd ≤ 6) (hsc : sc ≤ 350) : Met l yX3_hasRoomForMilestone wsX3_hasRoomForMilestone ({ frames := 0, cells := 0, slots := 0, locals := 0 }) (va_Pc [.ref p0] (Wd D cA sa [(oX3 p0 pr pb pe pg p1 (nI nd) p2 p3 p4 p5 (nI cn) p6 (nI pq) p7 p8 p9 (nI sc))] sz)) (va_Qi (fun (r : Int32) (_ : Unit) => (r = 1 ∧ (cn < 10)) ∨ (r = 0 ∧ ¬ (cn < 10))) (fun (_ : Unit) t => Wq D (va_A [(oX3 p0 pr pb pe pg p1 (nI nd) p2 p3 p4 p5 (nI cn) p6 (nI pq) p7 p8 p9 (nI sc))] sz) [(oX3 p0 pr pb pe pg p1 (nI nd) p2 p3 p4 p5 (nI cn) p6 (nI pq) p7 p8 p9 (nI sc))] t) (va_A [(oX3 p0 pr pb pe pg p1 (nI nd) p2 p3 p4 p5 (nI cn) p6 (nI pq) p7 p8 p9 (nI sc))] sz)) 0 0 (va_A [(oX3 p0 pr pb pe pg p1 (nI nd) p2 p3 p4 p5 (nI cn) p6 (nI pq) p7 p8 p9 (nI sc))] sz) := by
  refine Met.ofW (cc := cX3_hasRoomForMilestone) (maxL := 1) (ret := (some .boolean)) (by decide) rfl ?_
  intro p e s m args below meth c s₁ B hml hv
  obtain ⟨rfl, hsz, hP, hK, hD0, hC, hZ⟩ := hv
  have hx := B.exec
  have hb := B.bytes
  have hr := B.returns
  have hts := atoms_spec (ws := wsX3_hasRoomForMilestone) B.pre
  have hown : s.vm.findClass RX3 = some m.cls := findClass_of_methodNamed B.named
  have hlocks := B.notSynchronized
  subst hsz
  have hD := hD0.self (sz := s.heap.size)
  generalize hAe : va_A [(oX3 p0 pr pb pe pg p1 (nI nd) p2 p3 p4 p5 (nI cn) p6 (nI pq) p7 p8 p9 (nI sc))] s.heap.size = A at hD hZ ⊢
  have hA : ∀ q : Nat, s.heap.size ≤ q → A q := fun q h => by rw [← hAe]; exact Or.inr h
  have hS : va_S A s.heap s.heap [] := va_S.rf
  have hP : va_P D vwCl [(oX3 p0 pr pb pe pg p1 (nI nd) p2 p3 p4 p5 (nI cn) p6 (nI pq) p7 p8 p9 (nI sc))] s.heap := hP
  have hl := lv_entry ([.ref p0]) (n := 1) (Nat.le_of_ble_eq_true rfl)
  rw [lg_entry_eq]
  generalize (lg_sl ([.ref p0]) ++ List.replicate (1 - (lg_sl ([.ref p0])).length) Slot.unset).toArray = ls at hl ⊢
  have hl : lv_has ls 1 [(0, .ref p0)] := hl
  have inX3 : ∀ w ∈ u_ws RX3 TX3 17, w ∈ wsX3_hasRoomForMilestone := by decide +kernel
  refine lv_aload_n hx hb dX3_hasRoomForMilestone_0 rfl (lv_at hl 0 rfl) ?_
  refine va_get (D := D) (ci := 7) (v := .int (nI cn)) (C := RX3) (T := TX3) (N := 17) hx hb hts inX3 hown hK hP 0 rfl rfl 10 (by decide) (hts (.fieldLink RX3 56 "EscrowDesk$Plan" "milestoneCount" "I") (by decide +kernel)) (fun _ h9 => h9) rfl dX3_hasRoomForMilestone_1 ?_
  refine lv_bipush (v := 10) hx hb dX3_hasRoomForMilestone_4 (by decide) ?_
  refine lv_icmp_ge (tgt := 13) hx hb dX3_hasRoomForMilestone_6 (by decide) (fun c1 => ?_) (fun c1 => ?_)
  · skip
    have hn2 : 10 ≤ cn := (nI_leI (a := 10) (b := cn) (by omega) (by omega)).mp c1
    refine lv_iconst (v := 0) hx hb dX3_hasRoomForMilestone_13 (by decide) ?_
    obtain ⟨hP9, hD9⟩ := PDq.sub (ws' := [(oX3 p0 pr pb pe pg p1 (nI nd) p2 p3 p4 p5 (nI cn) p6 (nI pq) p7 p8 p9 (nI sc))]) hP hD [0] (by decide) rfl
    refine W.widen (k := 0) (n := 0) (Nat.le_of_ble_eq_true rfl) (Nat.le_of_ble_eq_true rfl) ?_
    exact (W.zret (v := 0) hx hb hr (by first | rfl | decide) (fun t ht hW => ⟨⟨0, (), rfl, (Or.inr ⟨rfl, (by omega)⟩), by rw [ht]; exact hP9, hD9⟩, hS.F ht⟩) hS.2.2 dX3_hasRoomForMilestone_14)
  · skip
    have hn3 : cn < 10 := Nat.lt_of_not_le (fun h9 => c1 (nI_le (a := 10) (b := cn) h9 (by omega)))
    refine lv_iconst (v := 1) hx hb dX3_hasRoomForMilestone_9 (by decide) ?_
    refine lv_goto (tgt := 14) hx hb dX3_hasRoomForMilestone_10 (by decide) ?_
    obtain ⟨hP9, hD9⟩ := PDq.sub (ws' := [(oX3 p0 pr pb pe pg p1 (nI nd) p2 p3 p4 p5 (nI cn) p6 (nI pq) p7 p8 p9 (nI sc))]) hP hD [0] (by decide) rfl
    refine W.widen (k := 0) (n := 0) (Nat.le_of_ble_eq_true rfl) (Nat.le_of_ble_eq_true rfl) ?_
    exact (W.zret (v := 1) hx hb hr (by first | rfl | decide) (fun t ht hW => ⟨⟨1, (), rfl, (Or.inl ⟨rfl, (by omega)⟩), by rw [ht]; exact hP9, hD9⟩, hS.F ht⟩) hS.2.2 dX3_hasRoomForMilestone_14)

set_option maxHeartbeats 4000000 in
set_option maxRecDepth 100000 in
/-- addDeposit -/
theorem x_addDeposit_look (l : Launch) (D : va_G) (cA : Nat → ClassId) (sa : Nat → Nat) (p0 : Nat) (p1 : Nat) (p2 : Nat) (p3 : Nat) (p4 : Nat) (p5 : Nat) (p6 : Nat) (p7 : Nat) (p8 : Nat) (p9 : Nat) (cn : Nat) (pq : Nat) (nd : Nat) (sc : Nat) (pr : Int32) (pb : Int32) (pe : Int32) (pg : Int32) (a : Int32) (fde : Nat → Int32) (sz : Nat) (hcn : cn ≤ 10) (hpq : pq ≤ 8) (hnd : nd ≤ 6) (hsc : sc ≤ 350) (hn6 : nd < 6) : Met l yX3_addDeposit wsX3_addDeposit ({ frames := 1, cells := 0, slots := 0, locals := 20 }) (va_Pc [.ref p0, .int a] (Wd D cA sa [(oX3 p0 pr pb pe pg p1 (nI nd) p2 p3 p4 p5 (nI cn) p6 (nI pq) p7 p8 p9 (nI sc)), (p1, .inl (cA 0, 6, .inl fde))] sz)) (va_Qv (fun _ : Unit => True) (fun (_ : Unit) t => ∃ zde : Nat → Int32, Wq D (va_A [(oX3 p0 pr pb pe pg p1 (nI nd) p2 p3 p4 p5 (nI cn) p6 (nI pq) p7 p8 p9 (nI sc)), (p1, .inl (cA 0, 6, .inl fde))] sz) [(oX3 p0 pr pb pe pg p1 (nI (nd + 1)) p2 p3 p4 p5 (nI cn) p6 (nI pq) p7 p8 p9 (nI sc)), (p1, .inl (cA 0, 6, .inl zde))] t) (va_A [(oX3 p0 pr pb pe pg p1 (nI nd) p2 p3 p4 p5 (nI cn) p6 (nI pq) p7 p8 p9 (nI sc)), (p1, .inl (cA 0, 6, .inl fde))] sz)) 0 0 (va_A [(oX3 p0 pr pb pe pg p1 (nI nd) p2 p3 p4 p5 (nI cn) p6 (nI pq) p7 p8 p9 (nI sc)), (p1, .inl (cA 0, 6, .inl fde))] sz) := by
  refine Met.ofW (cc := cX3_addDeposit) (maxL := 2) (ret := none) (by decide) rfl ?_
  intro p e s m args below meth c s₁ B hml hv
  obtain ⟨rfl, hsz, hP, hK, hD0, hC, hZ⟩ := hv
  have hx := B.exec
  have hb := B.bytes
  have hr := B.returns
  have hts := atoms_spec (ws := wsX3_addDeposit) B.pre
  have hown : s.vm.findClass RX3 = some m.cls := findClass_of_methodNamed B.named
  have hlocks := B.notSynchronized
  subst hsz
  have hD := hD0.self (sz := s.heap.size)
  generalize hAe : va_A [(oX3 p0 pr pb pe pg p1 (nI nd) p2 p3 p4 p5 (nI cn) p6 (nI pq) p7 p8 p9 (nI sc)), (p1, .inl (cA 0, 6, .inl fde))] s.heap.size = A at hD hZ ⊢
  have hA : ∀ q : Nat, s.heap.size ≤ q → A q := fun q h => by rw [← hAe]; exact Or.inr h
  have hS : va_S A s.heap s.heap [] := va_S.rf
  have hP : va_P D vwCl [(oX3 p0 pr pb pe pg p1 (nI nd) p2 p3 p4 p5 (nI cn) p6 (nI pq) p7 p8 p9 (nI sc)), (p1, .inl (cA 0, 6, .inl fde))] s.heap := hP
  have hl := lv_entry ([.ref p0, .int a]) (n := 2) (Nat.le_of_ble_eq_true rfl)
  rw [lg_entry_eq]
  generalize (lg_sl ([.ref p0, .int a]) ++ List.replicate (2 - (lg_sl ([.ref p0, .int a])).length) Slot.unset).toArray = ls at hl ⊢
  have hl : lv_has ls 2 [(0, .ref p0), (1, .int a)] := hl
  have inX3 : ∀ w ∈ u_ws RX3 TX3 17, w ∈ wsX3_addDeposit := by decide +kernel
  refine lv_aload_n hx hb dX3_addDeposit_0 rfl (lv_at hl 0 rfl) ?_
  obtain ⟨hPc, hDc, hFc⟩ := PDq.cut (wc := [(oX3 p0 pr pb pe pg p1 (nI nd) p2 p3 p4 p5 (nI cn) p6 (nI pq) p7 p8 p9 (nI sc)), (p1, .inl (cA 0, 6, .inl fde))]) hP hD hS hA [0, 1] (by decide) rfl
  refine va_calli (va_runV (As := []) (rest := []) ⟨hx, hb, hml, hown, hts⟩ (x_roomDep l D cA sa p0 p1 p2 p3 p4 p5 p6 p7 p8 p9 cn pq nd sc pr pb pe pg fde s.heap.size hcn hpq hnd hsc) (cwV 0 hts gX3_addDeposit_X3_hasRoomForDeposit rfl rfl rfl (by decide +kernel) ⟨(Nat.le_of_ble_eq_true rfl), (Nat.le_of_ble_eq_true rfl)⟩) ⟨Wd.blind, va_recv hK hPc (ci := 7) (q0 := 0) rfl rfl, fun U hU hW => ⟨rfl, Wd.call hPc hDc hK hC hZ hS hFc U hU hW⟩⟩ rfl rfl hl.1 rfl (lv_room (Nat.le_of_ble_eq_true rfl)) dX3_addDeposit_1 ⟨(Nat.le_of_ble_eq_true rfl), (Nat.le_of_ble_eq_true rfl)⟩) hS (fun q _ h => hFc q h) hFc (fun rn1 u t H1 locs ht hvm hw hB hz1 hk1 hS => ?_)
  obtain ⟨hP1, hD1⟩ := hB
  rw [ht] at hP1
  obtain ⟨hP, hD⟩ := PDq.join (w := [(oX3 p0 pr pb pe pg p1 (nI nd) p2 p3 p4 p5 (nI cn) p6 (nI pq) p7 p8 p9 (nI sc)), (p1, .inl (cA 0, 6, .inl fde))]) 0 hP hD [0, 1] [] rfl rfl (by decide) (by decide) hk1 hFc hP1 hD1 rfl
  generalize H1 = H at hP hS ⊢
  rcases hw with ⟨hr9, hn2⟩ | ⟨hr9, hn2⟩
  · skip
    subst hr9
    refine lv_if_eq (tgt := 27) hx hb dX3_addDeposit_4 (by decide) (fun c9 => absurd c9 (by decide)) (fun c3 => ?_)
    refine lv_aload_n hx hb dX3_addDeposit_7 rfl (lv_at hl 0 rfl) ?_
    refine va_get (D := D) (ci := 7) (v := .ref p1) (C := RX3) (T := TX3) (N := 17) hx hb hts inX3 hown hK hP 0 rfl rfl 4 (by decide) (hts (.fieldLink RX3 15 "EscrowDesk$Plan" "deposits" "[I") (by decide +kernel)) (fun _ h9 => h9) rfl dX3_addDeposit_8 ?_
    refine lv_aload_n hx hb dX3_addDeposit_11 rfl (lv_at hl 0 rfl) ?_
    refine va_get (D := D) (ci := 7) (v := .int (nI nd)) (C := RX3) (T := TX3) (N := 17) hx hb hts inX3 hown hK hP 0 rfl rfl 5 (by decide) (hts (.fieldLink RX3 53 "EscrowDesk$Plan" "depositCount" "I") (by decide +kernel)) (fun _ h9 => h9) rfl dX3_addDeposit_12 ?_
    refine lv_iload_n hx hb dX3_addDeposit_15 rfl (lv_at hl 1 rfl) ?_
    refine va_iast hx hb hK hP hD hS 1 0 rfl rfl (vp_in_nI (n := nd) (N := 6) (show nd < 6 by omega) (by decide)) dX3_addDeposit_16 (fun H locs hP hD hS => ?_)
    obtain ⟨hP, hD⟩ : PDq D A [(oX3 p0 pr pb pe pg p1 (nI nd) p2 p3 p4 p5 (nI cn) p6 (nI pq) p7 p8 p9 (nI sc)), (p1, .inl (cA 0, 6, .inl (upd fde (((nI nd)).toNatClampNeg) a)))] H := ⟨hP, hD⟩
    generalize (upd fde (((nI nd)).toNatClampNeg) a) = fn4 at hP hD
    obtain ⟨hP, hD⟩ : PDq D A [(oX3 p0 pr pb pe pg p1 (nI nd) p2 p3 p4 p5 (nI cn) p6 (nI pq) p7 p8 p9 (nI sc)), (p1, .inl (cA 0, 6, .inl fn4))] H := ⟨hP, hD⟩
    refine lv_aload_n hx hb dX3_addDeposit_17 rfl (lv_at hl 0 rfl) ?_
    refine lv_dup hx hb dX3_addDeposit_18 rfl ?_
    refine va_get (D := D) (ci := 7) (v := .int (nI nd)) (C := RX3) (T := TX3) (N := 17) hx hb hts inX3 hown hK hP 0 rfl rfl 5 (by decide) (hts (.fieldLink RX3 53 "EscrowDesk$Plan" "depositCount" "I") (by decide +kernel)) (fun _ h9 => h9) rfl dX3_addDeposit_19 ?_
    refine lv_iconst (v := 1) hx hb dX3_addDeposit_22 (by decide) ?_
    refine lv_iadd hx hb dX3_addDeposit_23 ?_
    refine lv_topi (fun yn5 eyn5 => ?_)
    obtain rfl : yn5 = (nI (nd + 1)) := eyn5.trans (nI_add nd 1)
    refine va_put (D := D) (ci := 7) (v := .int (nI (nd + 1))) (ty := .int) (C := RX3) (T := TX3) (N := 17) hx hb hts inX3 tyX3 tyX3_ok nmX3 hown hK hP hD hS 0 rfl rfl 5 (by decide) (hts (.fieldLink RX3 53 "EscrowDesk$Plan" "depositCount" "I") (by decide +kernel)) (fun _ h9 => h9) rfl (by decide +kernel) rfl rfl (Nat.le_of_ble_eq_true rfl) dX3_addDeposit_24 (fun H locs hP hD hS => ?_)
    obtain ⟨hP, hD⟩ : PDq D A [(oX3 p0 pr pb pe pg p1 (nI (nd + 1)) p2 p3 p4 p5 (nI cn) p6 (nI pq) p7 p8 p9 (nI sc)), (p1, .inl (cA 0, 6, .inl fn4))] H := ⟨hP, hD⟩
    obtain ⟨hP9, hD9⟩ := PDq.sub (ws' := [(oX3 p0 pr pb pe pg p1 (nI (nd + 1)) p2 p3 p4 p5 (nI cn) p6 (nI pq) p7 p8 p9 (nI sc)), (p1, .inl (cA 0, 6, .inl fn4))]) hP hD [0, 1] (by decide) rfl
    refine W.widen (k := 0) (n := 0) (Nat.le_of_ble_eq_true rfl) (Nat.le_of_ble_eq_true rfl) ?_
    exact (W.vret hx hb hr (fun t ht hW => ⟨⟨(), rfl, trivial, fn4, by rw [ht]; exact hP9, hD9⟩, hS.F ht⟩) hS.2.2 dX3_addDeposit_27)
  · skip
    subst hr9
    exact absurd (show nd < 6 by omega) hn2

set_option maxHeartbeats 4000000 in
set_option maxRecDepth 100000 in
/-- readDeposit -/
theorem x_readDeposit_look (l : Launch) (D : va_G) (cA : Nat → ClassId) (sa : Nat → Nat) (r0 : Nat) (p0 : Nat) (ti : Nat) (ln : Nat) (inb : Int32) (iek : Int32) (iep : Int32) (r1 : Nat) (k1 : Nat) (k2 : Nat) (k3 : Nat) (ct : Nat) (fk : Nat → Int32) (ft : Nat → Int32) (fv : Nat → Int64) (fb : Nat → Int32) (gP : Nat → Nat) (gR : Nat → Nat) (p1 : Nat) (p2 : Nat) (p3 : Nat) (p4 : Nat) (p5 : Nat) (p6 : Nat) (p7 : Nat) (p8 : Nat) (p9 : Nat) (cn : Nat) (pq : Nat) (nd : Nat) (sc : Nat) (pr : Int32) (pb : Int32) (pe : Int32) (pg : Int32) (ml : List Int64) (pl : List Int64) (fde : Nat → Int32) (sz : Nat) (hct : ct ≤ 701) (hln : ln ≤ 700) (hti : ti < ct) (hTX : TX fb ln ct gP gR ft fv fk) (hsl : 2 * sc ≤ gP ti) (hcn : cn ≤ 10) (hpq : pq ≤ 8) (hnd : nd ≤ 6) (hsc : sc ≤ 350) (hk : fk ti = 11) : Met l yX4_readDeposit wsX4_readDeposit ({ frames := 2, cells := 0, slots := 0, locals := 43 }) (va_Pc [.ref r0] (Wd D cA sa [(oX4 r0 r1 p0 (nI ti) (fk ti) (ft ti) (fv ti) inb iek iep), (oX5 r1 k1 k2 k3 (nI ct)), (k1, .inl (cA 0, 701, .inl fk)), (k2, .inl (cA 0, 701, .inl ft)), (k3, .inl (cA 1, 701, .inr (.inl fv))), (oX3 p0 pr pb pe pg p1 (nI nd) p2 p3 p4 p5 (nI cn) p6 (nI pq) p7 p8 p9 (nI sc)), (p1, .inl (cA 0, 6, .inl fde))] sz)) (va_Qi (fun (r : Int32) (u9 : Int32) => u9 = r ∧ (r = 0 ∨ r = 1)) (fun (u9 : Int32) t => ∃ tj : Nat, ∃ znr : Int32, ∃ zek : Int32, ∃ zep : Int32, ∃ dm : Nat, ∃ zde : Nat → Int32, tj < ct ∧ gP tj ≤ ln ∧ dm ≤ 6 ∧ (u9 = 1 → zek = iek) ∧ (u9 = 1 → zep = iep) ∧ (u9 = 1 → ti + 2 ≤ tj) ∧ (u9 = 1 → 2 * sc ≤ gP tj) ∧ (u9 = 1 → ST9 fk ft fv ti nd ml pl tj dm ml pl) ∧ (u9 = 0 → SE9 fk ft fv ti nd ml pl zek zep) ∧ Wq D (va_A [(oX4 r0 r1 p0 (nI ti) (fk ti) (ft ti) (fv ti) inb iek iep), (oX5 r1 k1 k2 k3 (nI ct)), (k1, .inl (cA 0, 701, .inl fk)), (k2, .inl (cA 0, 701, .inl ft)), (k3, .inl (cA 1, 701, .inr (.inl fv))), (oX3 p0 pr pb pe pg p1 (nI nd) p2 p3 p4 p5 (nI cn) p6 (nI pq) p7 p8 p9 (nI sc)), (p1, .inl (cA 0, 6, .inl fde))] sz) [(oX4 r0 r1 p0 (nI tj) (fk tj) (ft tj) (fv tj) znr zek zep), (oX5 r1 k1 k2 k3 (nI ct)), (k1, .inl (cA 0, 701, .inl fk)), (k2, .inl (cA 0, 701, .inl ft)), (k3, .inl (cA 1, 701, .inr (.inl fv))), (oX3 p0 pr pb pe pg p1 (nI dm) p2 p3 p4 p5 (nI cn) p6 (nI pq) p7 p8 p9 (nI sc)), (p1, .inl (cA 0, 6, .inl zde))] t) (va_A [(oX4 r0 r1 p0 (nI ti) (fk ti) (ft ti) (fv ti) inb iek iep), (oX5 r1 k1 k2 k3 (nI ct)), (k1, .inl (cA 0, 701, .inl fk)), (k2, .inl (cA 0, 701, .inl ft)), (k3, .inl (cA 1, 701, .inr (.inl fv))), (oX3 p0 pr pb pe pg p1 (nI nd) p2 p3 p4 p5 (nI cn) p6 (nI pq) p7 p8 p9 (nI sc)), (p1, .inl (cA 0, 6, .inl fde))] sz)) 0 0 (va_A [(oX4 r0 r1 p0 (nI ti) (fk ti) (ft ti) (fv ti) inb iek iep), (oX5 r1 k1 k2 k3 (nI ct)), (k1, .inl (cA 0, 701, .inl fk)), (k2, .inl (cA 0, 701, .inl ft)), (k3, .inl (cA 1, 701, .inr (.inl fv))), (oX3 p0 pr pb pe pg p1 (nI nd) p2 p3 p4 p5 (nI cn) p6 (nI pq) p7 p8 p9 (nI sc)), (p1, .inl (cA 0, 6, .inl fde))] sz) := by
  refine Met.ofW (cc := cX4_readDeposit) (maxL := 1) (ret := (some .boolean)) (by decide) rfl ?_
  intro p e s m args below meth c s₁ B hml hv
  obtain ⟨rfl, hsz, hP, hK, hD0, hC, hZ⟩ := hv
  have hx := B.exec
  have hb := B.bytes
  have hr := B.returns
  have hts := atoms_spec (ws := wsX4_readDeposit) B.pre
  have hown : s.vm.findClass RX4 = some m.cls := findClass_of_methodNamed B.named
  have hlocks := B.notSynchronized
  subst hsz
  have hD := hD0.self (sz := s.heap.size)
  generalize hAe : va_A [(oX4 r0 r1 p0 (nI ti) (fk ti) (ft ti) (fv ti) inb iek iep), (oX5 r1 k1 k2 k3 (nI ct)), (k1, .inl (cA 0, 701, .inl fk)), (k2, .inl (cA 0, 701, .inl ft)), (k3, .inl (cA 1, 701, .inr (.inl fv))), (oX3 p0 pr pb pe pg p1 (nI nd) p2 p3 p4 p5 (nI cn) p6 (nI pq) p7 p8 p9 (nI sc)), (p1, .inl (cA 0, 6, .inl fde))] s.heap.size = A at hD hZ ⊢
  have hA : ∀ q : Nat, s.heap.size ≤ q → A q := fun q h => by rw [← hAe]; exact Or.inr h
  have hS : va_S A s.heap s.heap [] := va_S.rf
  have hP : va_P D vwCl [(oX4 r0 r1 p0 (nI ti) (fk ti) (ft ti) (fv ti) inb iek iep), (oX5 r1 k1 k2 k3 (nI ct)), (k1, .inl (cA 0, 701, .inl fk)), (k2, .inl (cA 0, 701, .inl ft)), (k3, .inl (cA 1, 701, .inr (.inl fv))), (oX3 p0 pr pb pe pg p1 (nI nd) p2 p3 p4 p5 (nI cn) p6 (nI pq) p7 p8 p9 (nI sc)), (p1, .inl (cA 0, 6, .inl fde))] s.heap := hP
  have hl := lv_entry ([.ref r0]) (n := 1) (Nat.le_of_ble_eq_true rfl)
  rw [lg_entry_eq]
  generalize (lg_sl ([.ref r0]) ++ List.replicate (1 - (lg_sl ([.ref r0])).length) Slot.unset).toArray = ls at hl ⊢
  have hl : lv_has ls 1 [(0, .ref r0)] := hl
  have inX4 : ∀ w ∈ u_ws RX4 TX4 9, w ∈ wsX4_readDeposit := by decide +kernel
  have hle9 := TX.le hTX hti
  have hn1 := TX.go2 hTX hti (by rw [hk]; decide)
  refine lv_aload_n hx hb dX4_readDeposit_0 rfl (lv_at hl 0 rfl) ?_
  refine va_get (D := D) (ci := 8) (v := .ref p0) (C := RX4) (T := TX4) (N := 9) hx hb hts inX4 hown hK hP 0 rfl rfl 1 (by decide) (hts (.fieldLink RX4 25 "EscrowDesk$Reader" "plan" "LEscrowDesk$Plan;") (by decide +kernel)) (fun _ h9 => h9) rfl dX4_readDeposit_1 ?_
  obtain ⟨hPc, hDc, hFc⟩ := PDq.cut (wc := [(oX3 p0 pr pb pe pg p1 (nI nd) p2 p3 p4 p5 (nI cn) p6 (nI pq) p7 p8 p9 (nI sc)), (p1, .inl (cA 0, 6, .inl fde))]) hP hD hS hA [5, 6] (by decide) rfl
  refine va_calli (va_runV (As := []) (rest := []) ⟨hx, hb, hml, hown, hts⟩ (x_roomDep l D cA sa p0 p1 p2 p3 p4 p5 p6 p7 p8 p9 cn pq nd sc pr pb pe pg fde s.heap.size hcn hpq hnd hsc) (cwV 0 hts gX4_readDeposit_X3_hasRoomForDeposit rfl rfl rfl (by decide +kernel) ⟨(Nat.le_of_ble_eq_true rfl), (Nat.le_of_ble_eq_true rfl)⟩) ⟨Wd.blind, va_recv hK hPc (ci := 7) (q0 := 0) rfl rfl, fun U hU hW => ⟨rfl, Wd.call hPc hDc hK hC hZ hS hFc U hU hW⟩⟩ rfl rfl hl.1 rfl (lv_room (Nat.le_of_ble_eq_true rfl)) dX4_readDeposit_4 ⟨(Nat.le_of_ble_eq_true rfl), (Nat.le_of_ble_eq_true rfl)⟩) hS (fun q _ h => hFc q h) hFc (fun rn2 u t H1 locs ht hvm hw hB hz1 hk1 hS => ?_)
  obtain ⟨hP1, hD1⟩ := hB
  rw [ht] at hP1
  obtain ⟨hP, hD⟩ := PDq.join (w := [(oX4 r0 r1 p0 (nI ti) (fk ti) (ft ti) (fv ti) inb iek iep), (oX5 r1 k1 k2 k3 (nI ct)), (k1, .inl (cA 0, 701, .inl fk)), (k2, .inl (cA 0, 701, .inl ft)), (k3, .inl (cA 1, 701, .inr (.inl fv))), (oX3 p0 pr pb pe pg p1 (nI nd) p2 p3 p4 p5 (nI cn) p6 (nI pq) p7 p8 p9 (nI sc)), (p1, .inl (cA 0, 6, .inl fde))]) 5 hP hD [5, 6] [0, 1, 2, 3, 4] rfl rfl (by decide) (by decide) hk1 hFc hP1 hD1 rfl
  generalize H1 = H at hP hS ⊢
  rcases hw with ⟨hr9, hn3⟩ | ⟨hr9, hn3⟩
  · skip
    subst hr9
    refine lv_if_ne (tgt := 16) hx hb dX4_readDeposit_7 (by decide) (fun c4 => ?_) (fun c9 => absurd c9 (by decide))
    refine lv_aload_n hx hb dX4_readDeposit_16 rfl (lv_at hl 0 rfl) ?_
    refine lv_aload_n hx hb dX4_readDeposit_17 rfl (lv_at hl 0 rfl) ?_
    refine va_get (D := D) (ci := 8) (v := .int (nI ti)) (C := RX4) (T := TX4) (N := 9) hx hb hts inX4 hown hK hP 0 rfl rfl 2 (by decide) (hts (.fieldLink RX4 70 "EscrowDesk$Reader" "token" "I") (by decide +kernel)) (fun _ h9 => h9) rfl dX4_readDeposit_18 ?_
    refine lv_iconst (v := 1) hx hb dX4_readDeposit_21 (by decide) ?_
    refine lv_iadd hx hb dX4_readDeposit_22 ?_
    refine lv_topi (fun yn5 eyn5 => ?_)
    obtain rfl : yn5 = (nI (ti + 1)) := eyn5.trans (nI_add ti 1)
    obtain ⟨hPc, hDc, hFc⟩ := PDq.cut (wc := [(oX4 r0 r1 p0 (nI ti) (fk ti) (ft ti) (fv ti) inb iek iep), (oX5 r1 k1 k2 k3 (nI ct)), (k1, .inl (cA 0, 701, .inl fk)), (k2, .inl (cA 0, 701, .inl ft)), (k3, .inl (cA 1, 701, .inr (.inl fv)))]) hP hD hS hA [0, 1, 2, 3, 4] (by decide) rfl
    refine va_callv (va_runV (As := [.int (nI (ti + 1))]) (rest := []) ⟨hx, hb, hml, hown, hts⟩ (x_lookAt l D cA sa r0 p0 (ti + 1) (nI ti) (fk ti) (ft ti) inb iek iep (fv ti) r1 k1 k2 k3 ct fk ft fv H.size hct hn1.1) (cwV 1 hts gX4_readDeposit_X4_lookAt rfl rfl rfl (by decide +kernel) ⟨(Nat.le_of_ble_eq_true rfl), (Nat.le_of_ble_eq_true rfl)⟩) ⟨Wd.blind, va_recv hK hPc (ci := 8) (q0 := 0) rfl rfl, fun U hU hW => ⟨rfl, Wd.call hPc hDc hK hC hZ hS hFc U hU hW⟩⟩ rfl rfl hl.1 rfl (lv_room (Nat.le_of_ble_eq_true rfl)) dX4_readDeposit_23 ⟨(Nat.le_of_ble_eq_true rfl), (Nat.le_of_ble_eq_true rfl)⟩) hS (fun q _ h => hFc q h) hFc (fun u t H1 locs ht hvm hw hB hz1 hk1 hS => ?_)
    obtain ⟨hP1, hD1⟩ := hB
    rw [ht] at hP1
    obtain ⟨hP, hD⟩ := PDq.join (w := [(oX3 p0 pr pb pe pg p1 (nI nd) p2 p3 p4 p5 (nI cn) p6 (nI pq) p7 p8 p9 (nI sc)), (p1, .inl (cA 0, 6, .inl fde)), (oX4 r0 r1 p0 (nI (ti + 1)) (fk (ti + 1)) (ft (ti + 1)) (fv (ti + 1)) inb iek iep), (oX5 r1 k1 k2 k3 (nI ct)), (k1, .inl (cA 0, 701, .inl fk)), (k2, .inl (cA 0, 701, .inl ft)), (k3, .inl (cA 1, 701, .inr (.inl fv)))]) 2 hP hD [0, 1, 2, 3, 4] [5, 6] rfl rfl (by decide) (by decide) hk1 hFc hP1 hD1 rfl
    generalize H1 = H at hP hS ⊢
    refine lv_aload_n hx hb dX4_readDeposit_26 rfl (lv_at hl 0 rfl) ?_
    refine lv_iconst (v := 1) hx hb dX4_readDeposit_27 (by decide) ?_
    refine lv_ldc (v := 99999) hx hb hown (hts (.constant RX4 120 99999) (by decide +kernel)) dX4_readDeposit_28 ?_
    obtain ⟨hPc, hDc, hFc⟩ := PDq.cut (wc := [(oX4 r0 r1 p0 (nI (ti + 1)) (fk (ti + 1)) (ft (ti + 1)) (fv (ti + 1)) inb iek iep), (oX5 r1 k1 k2 k3 (nI ct)), (k1, .inl (cA 0, 701, .inl fk)), (k2, .inl (cA 0, 701, .inl ft)), (k3, .inl (cA 1, 701, .inr (.inl fv)))]) hP hD hS hA [2, 3, 4, 5, 6] (by decide) rfl
    refine va_calli (va_runV (As := [.int 1, .int 99999]) (rest := []) ⟨hx, hb, hml, hown, hts⟩ (x_takeNumber l D cA sa r0 p0 (ti + 1) ln inb iek iep r1 k1 k2 k3 ct fk ft fv fb gP gR 1 99999 H.size hct hln hn1.1 hTX (by omega) (by omega)) (cwV 2 hts gX4_readDeposit_X4_takeNumber rfl rfl rfl (by decide +kernel) ⟨(Nat.le_of_ble_eq_true rfl), (Nat.le_of_ble_eq_true rfl)⟩) ⟨Wd.blind, va_recv hK hPc (ci := 8) (q0 := 0) rfl rfl, fun U hU hW => ⟨rfl, Wd.call hPc hDc hK hC hZ hS hFc U hU hW⟩⟩ rfl rfl hl.1 rfl (lv_room (Nat.le_of_ble_eq_true rfl)) dX4_readDeposit_30 ⟨(Nat.le_of_ble_eq_true rfl), (Nat.le_of_ble_eq_true rfl)⟩) hS (fun q _ h => hFc q h) hFc (fun rn6 u t H1 locs ht hvm hw hB hz1 hk1 hS => ?_)
    obtain ⟨qn7, zn8, zn9, zn10, hn11, hn12, hn13, hn14, hn15, hn16, hn17, hn18, hn19, hn20, hP1, hD1⟩ := hB
    rw [ht] at hP1
    obtain ⟨hP, hD⟩ := PDq.join (w := [(oX3 p0 pr pb pe pg p1 (nI nd) p2 p3 p4 p5 (nI cn) p6 (nI pq) p7 p8 p9 (nI sc)), (p1, .inl (cA 0, 6, .inl fde)), (oX4 r0 r1 p0 (nI qn7) (fk qn7) (ft qn7) (fv qn7) zn8 zn9 zn10), (oX5 r1 k1 k2 k3 (nI ct)), (k1, .inl (cA 0, 701, .inl fk)), (k2, .inl (cA 0, 701, .inl ft)), (k3, .inl (cA 1, 701, .inr (.inl fv)))]) 2 hP hD [2, 3, 4, 5, 6] [0, 1] rfl rfl (by decide) (by decide) hk1 hFc hP1 hD1 rfl
    generalize H1 = H at hP hS ⊢
    rcases hw.2 with hr9 | hr9
    · skip
      have hn19 := hn19 (hw.1.trans hr9)
      have hn20 := hn20 (hw.1.trans hr9)
      subst hr9
      refine lv_if_ne (tgt := 38) hx hb dX4_readDeposit_33 (by decide) (fun c9 => absurd c9 (by decide)) (fun c21 => ?_)
      refine lv_iconst (v := 0) hx hb dX4_readDeposit_36 (by decide) ?_
      obtain ⟨hP9, hD9⟩ := PDq.sub (ws' := [(oX4 r0 r1 p0 (nI qn7) (fk qn7) (ft qn7) (fv qn7) zn8 zn9 zn10), (oX5 r1 k1 k2 k3 (nI ct)), (k1, .inl (cA 0, 701, .inl fk)), (k2, .inl (cA 0, 701, .inl ft)), (k3, .inl (cA 1, 701, .inr (.inl fv))), (oX3 p0 pr pb pe pg p1 (nI nd) p2 p3 p4 p5 (nI cn) p6 (nI pq) p7 p8 p9 (nI sc)), (p1, .inl (cA 0, 6, .inl fde))]) hP hD [2, 3, 4, 5, 6, 0, 1] (by decide) rfl
      refine W.widen (k := 0) (n := 0) (Nat.le_of_ble_eq_true rfl) (Nat.le_of_ble_eq_true rfl) ?_
      exact (W.zret (v := 0) hx hb hr (by first | rfl | decide) (fun t ht hW => ⟨⟨0, 0, rfl, ⟨rfl, by decide⟩, qn7, zn8, zn9, zn10, nd, fde, hn11, hn12, hnd, (fun h9 => absurd h9 (by decide)), (fun h9 => absurd h9 (by decide)), (fun h9 => absurd h9 (by decide)), (fun h9 => absurd h9 (by decide)), (fun h9 => absurd h9 (by decide)), (fun _ => (Or.inl (S_depEx hk (by omega) hn19 hn20))), by rw [ht]; exact hP9, hD9⟩, hS.F ht⟩) hS.2.2 dX4_readDeposit_37)
    · skip
      have hn14 := hn14 (hw.1.trans hr9)
      subst hn14
      obtain ⟨hP, hD⟩ : PDq D A [(oX3 p0 pr pb pe pg p1 (nI nd) p2 p3 p4 p5 (nI cn) p6 (nI pq) p7 p8 p9 (nI sc)), (p1, .inl (cA 0, 6, .inl fde)), (oX4 r0 r1 p0 (nI ((ti + 1) + 1)) (fk ((ti + 1) + 1)) (ft ((ti + 1) + 1)) (fv ((ti + 1) + 1)) zn8 zn9 zn10), (oX5 r1 k1 k2 k3 (nI ct)), (k1, .inl (cA 0, 701, .inl fk)), (k2, .inl (cA 0, 701, .inl ft)), (k3, .inl (cA 1, 701, .inr (.inl fv)))] H := ⟨hP, hD⟩
      have hn15 := hn15 (hw.1.trans hr9)
      obtain rfl : iek = zn9 := hn15.symm
      obtain ⟨hP, hD⟩ : PDq D A [(oX3 p0 pr pb pe pg p1 (nI nd) p2 p3 p4 p5 (nI cn) p6 (nI pq) p7 p8 p9 (nI sc)), (p1, .inl (cA 0, 6, .inl fde)), (oX4 r0 r1 p0 (nI ((ti + 1) + 1)) (fk ((ti + 1) + 1)) (ft ((ti + 1) + 1)) (fv ((ti + 1) + 1)) zn8 iek zn10), (oX5 r1 k1 k2 k3 (nI ct)), (k1, .inl (cA 0, 701, .inl fk)), (k2, .inl (cA 0, 701, .inl ft)), (k3, .inl (cA 1, 701, .inr (.inl fv)))] H := ⟨hP, hD⟩
      have hn16 := hn16 (hw.1.trans hr9)
      obtain rfl : iep = zn10 := hn16.symm
      obtain ⟨hP, hD⟩ : PDq D A [(oX3 p0 pr pb pe pg p1 (nI nd) p2 p3 p4 p5 (nI cn) p6 (nI pq) p7 p8 p9 (nI sc)), (p1, .inl (cA 0, 6, .inl fde)), (oX4 r0 r1 p0 (nI ((ti + 1) + 1)) (fk ((ti + 1) + 1)) (ft ((ti + 1) + 1)) (fv ((ti + 1) + 1)) zn8 iek iep), (oX5 r1 k1 k2 k3 (nI ct)), (k1, .inl (cA 0, 701, .inl fk)), (k2, .inl (cA 0, 701, .inl ft)), (k3, .inl (cA 1, 701, .inr (.inl fv)))] H := ⟨hP, hD⟩
      have hn17 := hn17 (hw.1.trans hr9)
      have hn18 := hn18 (hw.1.trans hr9)
      subst hr9
      refine lv_if_ne (tgt := 38) hx hb dX4_readDeposit_33 (by decide) (fun c22 => ?_) (fun c9 => absurd c9 (by decide))
      refine lv_aload_n hx hb dX4_readDeposit_38 rfl (lv_at hl 0 rfl) ?_
      refine va_get (D := D) (ci := 8) (v := .ref p0) (C := RX4) (T := TX4) (N := 9) hx hb hts inX4 hown hK hP 2 rfl rfl 1 (by decide) (hts (.fieldLink RX4 25 "EscrowDesk$Reader" "plan" "LEscrowDesk$Plan;") (by decide +kernel)) (fun _ h9 => h9) rfl dX4_readDeposit_39 ?_
      refine lv_aload_n hx hb dX4_readDeposit_42 rfl (lv_at hl 0 rfl) ?_
      refine va_get (D := D) (ci := 8) (v := .int zn8) (C := RX4) (T := TX4) (N := 9) hx hb hts inX4 hown hK hP 2 rfl rfl 6 (by decide) (hts (.fieldLink RX4 91 "EscrowDesk$Reader" "number" "I") (by decide +kernel)) (fun _ h9 => h9) rfl dX4_readDeposit_43 ?_
      obtain ⟨hPc, hDc, hFc⟩ := PDq.cut (wc := [(oX3 p0 pr pb pe pg p1 (nI nd) p2 p3 p4 p5 (nI cn) p6 (nI pq) p7 p8 p9 (nI sc)), (p1, .inl (cA 0, 6, .inl fde))]) hP hD hS hA [0, 1] (by decide) rfl
      refine va_callv (va_runV (As := [.int zn8]) (rest := []) ⟨hx, hb, hml, hown, hts⟩ (x_addDeposit l D cA sa p0 p1 p2 p3 p4 p5 p6 p7 p8 p9 cn pq nd sc pr pb pe pg zn8 fde H.size hcn hpq hnd hsc hn3) (cwV 1 hts gX4_readDeposit_X3_addDeposit rfl rfl rfl (by decide +kernel) ⟨(Nat.le_of_ble_eq_true rfl), (Nat.le_of_ble_eq_true rfl)⟩) ⟨Wd.blind, va_recv hK hPc (ci := 7) (q0 := 0) rfl rfl, fun U hU hW => ⟨rfl, Wd.call hPc hDc hK hC hZ hS hFc U hU hW⟩⟩ rfl rfl hl.1 rfl (lv_room (Nat.le_of_ble_eq_true rfl)) dX4_readDeposit_46 ⟨(Nat.le_of_ble_eq_true rfl), (Nat.le_of_ble_eq_true rfl)⟩) hS (fun q _ h => hFc q h) hFc (fun u t H1 locs ht hvm hw hB hz1 hk1 hS => ?_)
      obtain ⟨fn23, hP1, hD1⟩ := hB
      rw [ht] at hP1
      obtain ⟨hP, hD⟩ := PDq.join (w := [(oX4 r0 r1 p0 (nI ((ti + 1) + 1)) (fk ((ti + 1) + 1)) (ft ((ti + 1) + 1)) (fv ((ti + 1) + 1)) zn8 iek iep), (oX5 r1 k1 k2 k3 (nI ct)), (k1, .inl (cA 0, 701, .inl fk)), (k2, .inl (cA 0, 701, .inl ft)), (k3, .inl (cA 1, 701, .inr (.inl fv))), (oX3 p0 pr pb pe pg p1 (nI (nd + 1)) p2 p3 p4 p5 (nI cn) p6 (nI pq) p7 p8 p9 (nI sc)), (p1, .inl (cA 0, 6, .inl fn23))]) 5 hP hD [0, 1] [2, 3, 4, 5, 6] rfl rfl (by decide) (by decide) hk1 hFc hP1 hD1 rfl
      generalize H1 = H at hP hS ⊢
      refine lv_aload_n hx hb dX4_readDeposit_49 rfl (lv_at hl 0 rfl) ?_
      refine lv_bipush (v := 7) hx hb dX4_readDeposit_50 (by decide) ?_
      obtain ⟨hPc, hDc, hFc⟩ := PDq.cut (wc := [(oX4 r0 r1 p0 (nI ((ti + 1) + 1)) (fk ((ti + 1) + 1)) (ft ((ti + 1) + 1)) (fv ((ti + 1) + 1)) zn8 iek iep), (oX5 r1 k1 k2 k3 (nI ct)), (k1, .inl (cA 0, 701, .inl fk)), (k2, .inl (cA 0, 701, .inl ft)), (k3, .inl (cA 1, 701, .inr (.inl fv)))]) hP hD hS hA [0, 1, 2, 3, 4] (by decide) rfl
      refine va_calli (va_runV (As := [.int 7]) (rest := []) ⟨hx, hb, hml, hown, hts⟩ (x_take l D cA sa r0 p0 ((ti + 1) + 1) ln zn8 iek iep r1 k1 k2 k3 ct fk ft fv fb gP gR 7 H.size hct hln hn11 hTX (by decide)) (cwV 1 hts gX4_readDeposit_X4_take rfl rfl rfl (by decide +kernel) ⟨(Nat.le_of_ble_eq_true rfl), (Nat.le_of_ble_eq_true rfl)⟩) ⟨Wd.blind, va_recv hK hPc (ci := 8) (q0 := 0) rfl rfl, fun U hU hW => ⟨rfl, Wd.call hPc hDc hK hC hZ hS hFc U hU hW⟩⟩ rfl rfl hl.1 rfl (lv_room (Nat.le_of_ble_eq_true rfl)) dX4_readDeposit_52 ⟨(Nat.le_of_ble_eq_true rfl), (Nat.le_of_ble_eq_true rfl)⟩) hS (fun q _ h => hFc q h) hFc (fun rn24 u t H1 locs ht hvm hw hB hz1 hk1 hS => ?_)
      obtain ⟨qn25, zn26, zn27, hn28, hn29, hn30, hn31, hn32, hn33, hn34, hn35, hn36, hn37, hn38, hP1, hD1⟩ := hB
      rw [ht] at hP1
      obtain ⟨hP, hD⟩ := PDq.join (w := [(oX3 p0 pr pb pe pg p1 (nI (nd + 1)) p2 p3 p4 p5 (nI cn) p6 (nI pq) p7 p8 p9 (nI sc)), (p1, .inl (cA 0, 6, .inl fn23)), (oX4 r0 r1 p0 (nI qn25) (fk qn25) (ft qn25) (fv qn25) zn8 zn26 zn27), (oX5 r1 k1 k2 k3 (nI ct)), (k1, .inl (cA 0, 701, .inl fk)), (k2, .inl (cA 0, 701, .inl ft)), (k3, .inl (cA 1, 701, .inr (.inl fv)))]) 2 hP hD [0, 1, 2, 3, 4] [5, 6] rfl rfl (by decide) (by decide) hk1 hFc hP1 hD1 rfl
      generalize H1 = H at hP hS ⊢
      rcases hw.2 with hr9 | hr9
      · skip
        have hn36 := hn36 (hw.1.trans hr9)
        have hn37 := hn37 (hw.1.trans hr9)
        have hn38 := hn38 (hw.1.trans hr9)
        subst hr9
        obtain ⟨hP9, hD9⟩ := PDq.sub (ws' := [(oX4 r0 r1 p0 (nI qn25) (fk qn25) (ft qn25) (fv qn25) zn8 zn26 zn27), (oX5 r1 k1 k2 k3 (nI ct)), (k1, .inl (cA 0, 701, .inl fk)), (k2, .inl (cA 0, 701, .inl ft)), (k3, .inl (cA 1, 701, .inr (.inl fv))), (oX3 p0 pr pb pe pg p1 (nI (nd + 1)) p2 p3 p4 p5 (nI cn) p6 (nI pq) p7 p8 p9 (nI sc)), (p1, .inl (cA 0, 6, .inl fn23))]) hP hD [2, 3, 4, 5, 6, 0, 1] (by decide) rfl
        refine W.widen (k := 0) (n := 0) (Nat.le_of_ble_eq_true rfl) (Nat.le_of_ble_eq_true rfl) ?_
        exact (W.zret (v := 0) hx hb hr (by first | rfl | decide) (fun t ht hW => ⟨⟨0, 0, rfl, ⟨rfl, by decide⟩, qn25, zn8, zn26, zn27, (nd + 1), fn23, hn28, hn29, (by omega), (fun h9 => absurd h9 (by decide)), (fun h9 => absurd h9 (by decide)), (fun h9 => absurd h9 (by decide)), (fun h9 => absurd h9 (by decide)), (fun h9 => absurd h9 (by decide)), (fun _ => (Or.inr ⟨_, _, _, _, S_dep hk (by omega) hn18, hn38, hn36, hn37⟩)), by rw [ht]; exact hP9, hD9⟩, hS.F ht⟩) hS.2.2 dX4_readDeposit_55)
      · skip
        have hn31 := hn31 (hw.1.trans hr9)
        subst hn31
        obtain ⟨hP, hD⟩ : PDq D A [(oX3 p0 pr pb pe pg p1 (nI (nd + 1)) p2 p3 p4 p5 (nI cn) p6 (nI pq) p7 p8 p9 (nI sc)), (p1, .inl (cA 0, 6, .inl fn23)), (oX4 r0 r1 p0 (nI (((ti + 1) + 1) + 1)) (fk (((ti + 1) + 1) + 1)) (ft (((ti + 1) + 1) + 1)) (fv (((ti + 1) + 1) + 1)) zn8 zn26 zn27), (oX5 r1 k1 k2 k3 (nI ct)), (k1, .inl (cA 0, 701, .inl fk)), (k2, .inl (cA 0, 701, .inl ft)), (k3, .inl (cA 1, 701, .inr (.inl fv)))] H := ⟨hP, hD⟩
        have hn32 := hn32 (hw.1.trans hr9)
        obtain rfl : iek = zn26 := hn32.symm
        obtain ⟨hP, hD⟩ : PDq D A [(oX3 p0 pr pb pe pg p1 (nI (nd + 1)) p2 p3 p4 p5 (nI cn) p6 (nI pq) p7 p8 p9 (nI sc)), (p1, .inl (cA 0, 6, .inl fn23)), (oX4 r0 r1 p0 (nI (((ti + 1) + 1) + 1)) (fk (((ti + 1) + 1) + 1)) (ft (((ti + 1) + 1) + 1)) (fv (((ti + 1) + 1) + 1)) zn8 iek zn27), (oX5 r1 k1 k2 k3 (nI ct)), (k1, .inl (cA 0, 701, .inl fk)), (k2, .inl (cA 0, 701, .inl ft)), (k3, .inl (cA 1, 701, .inr (.inl fv)))] H := ⟨hP, hD⟩
        have hn33 := hn33 (hw.1.trans hr9)
        obtain rfl : iep = zn27 := hn33.symm
        obtain ⟨hP, hD⟩ : PDq D A [(oX3 p0 pr pb pe pg p1 (nI (nd + 1)) p2 p3 p4 p5 (nI cn) p6 (nI pq) p7 p8 p9 (nI sc)), (p1, .inl (cA 0, 6, .inl fn23)), (oX4 r0 r1 p0 (nI (((ti + 1) + 1) + 1)) (fk (((ti + 1) + 1) + 1)) (ft (((ti + 1) + 1) + 1)) (fv (((ti + 1) + 1) + 1)) zn8 iek iep), (oX5 r1 k1 k2 k3 (nI ct)), (k1, .inl (cA 0, 701, .inl fk)), (k2, .inl (cA 0, 701, .inl ft)), (k3, .inl (cA 1, 701, .inr (.inl fv)))] H := ⟨hP, hD⟩
        have hn34 := hn34 (hw.1.trans hr9)
        have hn35 := hn35 (hw.1.trans hr9)
        subst hr9
        obtain ⟨hP9, hD9⟩ := PDq.sub (ws' := [(oX4 r0 r1 p0 (nI (((ti + 1) + 1) + 1)) (fk (((ti + 1) + 1) + 1)) (ft (((ti + 1) + 1) + 1)) (fv (((ti + 1) + 1) + 1)) zn8 iek iep), (oX5 r1 k1 k2 k3 (nI ct)), (k1, .inl (cA 0, 701, .inl fk)), (k2, .inl (cA 0, 701, .inl ft)), (k3, .inl (cA 1, 701, .inr (.inl fv))), (oX3 p0 pr pb pe pg p1 (nI (nd + 1)) p2 p3 p4 p5 (nI cn) p6 (nI pq) p7 p8 p9 (nI sc)), (p1, .inl (cA 0, 6, .inl fn23))]) hP hD [2, 3, 4, 5, 6, 0, 1] (by decide) rfl
        refine W.widen (k := 0) (n := 0) (Nat.le_of_ble_eq_true rfl) (Nat.le_of_ble_eq_true rfl) ?_
        exact (W.zret (v := 1) hx hb hr (by first | rfl | decide) (fun t ht hW => ⟨⟨1, 1, rfl, ⟨rfl, by decide⟩, (((ti + 1) + 1) + 1), zn8, iek, iep, (nd + 1), fn23, hn28, hn29, (by omega), (fun _ => rfl), (fun _ => rfl), (fun _ => (by omega)), (fun _ => (by omega)), (fun _ => ⟨_, S_dep hk (by omega) hn18, hn35, rfl⟩), (fun h9 => absurd h9 (by decide)), by rw [ht]; exact hP9, hD9⟩, hS.F ht⟩) hS.2.2 dX4_readDeposit_55)
  · skip
    subst hr9
    refine lv_if_ne (tgt := 16) hx hb dX4_readDeposit_7 (by decide) (fun c9 => absurd c9 (by decide)) (fun c39 => ?_)
    refine lv_aload_n hx hb dX4_readDeposit_10 rfl (lv_at hl 0 rfl) ?_
    refine lv_iconst (v := 5) hx hb dX4_readDeposit_11 (by decide) ?_
    obtain ⟨hPc, hDc, hFc⟩ := PDq.cut (wc := [(oX4 r0 r1 p0 (nI ti) (fk ti) (ft ti) (fv ti) inb iek iep)]) hP hD hS hA [0] (by decide) rfl
    refine va_calli (va_runV (As := [.int 5]) (rest := []) ⟨hx, hb, hml, hown, hts⟩ (x_fail l D cA sa r0 r1 p0 (nI ti) (fk ti) (ft ti) inb iek iep (fv ti) 5 H.size) (cwV 1 hts gX4_readDeposit_X4_fail rfl rfl rfl (by decide +kernel) ⟨(Nat.le_of_ble_eq_true rfl), (Nat.le_of_ble_eq_true rfl)⟩) ⟨Wd.blind, va_recv hK hPc (ci := 8) (q0 := 0) rfl rfl, fun U hU hW => ⟨rfl, Wd.call hPc hDc hK hC hZ hS hFc U hU hW⟩⟩ rfl rfl hl.1 rfl (lv_room (Nat.le_of_ble_eq_true rfl)) dX4_readDeposit_12 ⟨(Nat.le_of_ble_eq_true rfl), (Nat.le_of_ble_eq_true rfl)⟩) hS (fun q _ h => hFc q h) hFc (fun rn40 u t H1 locs ht hvm hw hB hz1 hk1 hS => ?_)
    obtain ⟨zn41, hn42, hP1, hD1⟩ := hB
    rw [ht] at hP1
    obtain ⟨hP, hD⟩ := PDq.join (w := [(oX5 r1 k1 k2 k3 (nI ct)), (k1, .inl (cA 0, 701, .inl fk)), (k2, .inl (cA 0, 701, .inl ft)), (k3, .inl (cA 1, 701, .inr (.inl fv))), (oX3 p0 pr pb pe pg p1 (nI nd) p2 p3 p4 p5 (nI cn) p6 (nI pq) p7 p8 p9 (nI sc)), (p1, .inl (cA 0, 6, .inl fde)), (oX4 r0 r1 p0 (nI ti) (fk ti) (ft ti) (fv ti) inb zn41 (ft ti))]) 6 hP hD [0] [1, 2, 3, 4, 5, 6] rfl rfl (by decide) (by decide) hk1 hFc hP1 hD1 rfl
    generalize H1 = H at hP hS ⊢
    obtain rfl : rn40 = 0 := hw
    obtain ⟨hP9, hD9⟩ := PDq.sub (ws' := [(oX4 r0 r1 p0 (nI ti) (fk ti) (ft ti) (fv ti) inb zn41 (ft ti)), (oX5 r1 k1 k2 k3 (nI ct)), (k1, .inl (cA 0, 701, .inl fk)), (k2, .inl (cA 0, 701, .inl ft)), (k3, .inl (cA 1, 701, .inr (.inl fv))), (oX3 p0 pr pb pe pg p1 (nI nd) p2 p3 p4 p5 (nI cn) p6 (nI pq) p7 p8 p9 (nI sc)), (p1, .inl (cA 0, 6, .inl fde))]) hP hD [6, 0, 1, 2, 3, 4, 5] (by decide) rfl
    refine W.widen (k := 0) (n := 0) (Nat.le_of_ble_eq_true rfl) (Nat.le_of_ble_eq_true rfl) ?_
    exact (W.zret (v := 0) hx hb hr (by first | rfl | decide) (fun t ht hW => ⟨⟨0, 0, rfl, ⟨rfl, by decide⟩, ti, inb, zn41, (ft ti), nd, fde, hti, (by omega), hnd, (fun h9 => absurd h9 (by decide)), (fun h9 => absurd h9 (by decide)), (fun h9 => absurd h9 (by decide)), (fun h9 => absurd h9 (by decide)), (fun h9 => absurd h9 (by decide)), (fun _ => (Or.inl (S_depFx hk (by omega) hn42 rfl))), by rw [ht]; exact hP9, hD9⟩, hS.F ht⟩) hS.2.2 dX4_readDeposit_15)

set_option maxHeartbeats 4000000 in
set_option maxRecDepth 100000 in
/-- addMilestone -/
theorem x_addMilestone_look (l : Launch) (D : va_G) (cA : Nat → ClassId) (sa : Nat → Nat) (p0 : Nat) (p1 : Nat) (p2 : Nat) (p3 : Nat) (p4 : Nat) (p5 : Nat) (p6 : Nat) (p7 : Nat) (p8 : Nat) (p9 : Nat) (cn : Nat) (pq : Nat) (nd : Nat) (sc : Nat) (pr : Int32) (pb : Int32) (pe : Int32) (pg : Int32) (w : Int64) (a : Int32) (b : Int32) (fam : Nat → Int32) (fpi : Nat → Int32) (fby : Nat → Int32) (fen : Nat → Int32) (fna : Nat → Int64) (ml : List Int64) (sz : Nat) (hcn : cn ≤ 10) (hpq : pq ≤ 8) (hnd : nd ≤ 6) (hsc : sc ≤ 350) (hby : Rng 10 10 fby) (hen : Rng 10 351 fen) (hNM : NL ml cn fna) (hn10 : cn < 10) : Met l yX3_addMilestone wsX3_addMilestone ({ frames := 1, cells := 0, slots := 0, locals := 20 }) (va_Pc [.ref p0, .long w, .int a, .int b] (Wd D cA sa [(oX3 p0 pr pb pe pg p1 (nI nd) p2 p3 p4 p5 (nI cn) p6 (nI pq) p7 p8 p9 (nI sc)), (p2, .inl (cA 1, 10, .inr (.inl fna))), (p3, .inl (cA 0, 10, .inl fam)), (p4, .inl (cA 0, 10, .inl fpi)), (p5, .inl (cA 0, 10, .inl fby)), (p9, .inl (cA 0, 10, .inl fen))] sz)) (va_Qv (fun _ : Unit => True) (fun (_ : Unit) t => ∃ zna : Nat → Int64, ∃ zam : Nat → Int32, ∃ zpi : Nat → Int32, ∃ zby : Nat → Int32, ∃ zen : Nat → Int32, NL (ml ++ [w]) (cn + 1) zna ∧ Rng 10 10 zby ∧ Rng 10 351 zen ∧ Wq D (va_A [(oX3 p0 pr pb pe pg p1 (nI nd) p2 p3 p4 p5 (nI cn) p6 (nI pq) p7 p8 p9 (nI sc)), (p2, .inl (cA 1, 10, .inr (.inl fna))), (p3, .inl (cA 0, 10, .inl fam)), (p4, .inl (cA 0, 10, .inl fpi)), (p5, .inl (cA 0, 10, .inl fby)), (p9, .inl (cA 0, 10, .inl fen))] sz) [(oX3 p0 pr pb pe pg p1 (nI nd) p2 p3 p4 p5 (nI (cn + 1)) p6 (nI pq) p7 p8 p9 (nI sc)), (p2, .inl (cA 1, 10, .inr (.inl zna))), (p3, .inl (cA 0, 10, .inl zam)), (p4, .inl (cA 0, 10, .inl zpi)), (p5, .inl (cA 0, 10, .inl zby)), (p9, .inl (cA 0, 10, .inl zen))] t) (va_A [(oX3 p0 pr pb pe pg p1 (nI nd) p2 p3 p4 p5 (nI cn) p6 (nI pq) p7 p8 p9 (nI sc)), (p2, .inl (cA 1, 10, .inr (.inl fna))), (p3, .inl (cA 0, 10, .inl fam)), (p4, .inl (cA 0, 10, .inl fpi)), (p5, .inl (cA 0, 10, .inl fby)), (p9, .inl (cA 0, 10, .inl fen))] sz)) 0 0 (va_A [(oX3 p0 pr pb pe pg p1 (nI nd) p2 p3 p4 p5 (nI cn) p6 (nI pq) p7 p8 p9 (nI sc)), (p2, .inl (cA 1, 10, .inr (.inl fna))), (p3, .inl (cA 0, 10, .inl fam)), (p4, .inl (cA 0, 10, .inl fpi)), (p5, .inl (cA 0, 10, .inl fby)), (p9, .inl (cA 0, 10, .inl fen))] sz) := by
  refine Met.ofW (cc := cX3_addMilestone) (maxL := 6) (ret := none) (by decide) rfl ?_
  intro p e s m args below meth c s₁ B hml hv
  obtain ⟨rfl, hsz, hP, hK, hD0, hC, hZ⟩ := hv
  have hx := B.exec
  have hb := B.bytes
  have hr := B.returns
  have hts := atoms_spec (ws := wsX3_addMilestone) B.pre
  have hown : s.vm.findClass RX3 = some m.cls := findClass_of_methodNamed B.named
  have hlocks := B.notSynchronized
  subst hsz
  have hD := hD0.self (sz := s.heap.size)
  generalize hAe : va_A [(oX3 p0 pr pb pe pg p1 (nI nd) p2 p3 p4 p5 (nI cn) p6 (nI pq) p7 p8 p9 (nI sc)), (p2, .inl (cA 1, 10, .inr (.inl fna))), (p3, .inl (cA 0, 10, .inl fam)), (p4, .inl (cA 0, 10, .inl fpi)), (p5, .inl (cA 0, 10, .inl fby)), (p9, .inl (cA 0, 10, .inl fen))] s.heap.size = A at hD hZ ⊢
  have hA : ∀ q : Nat, s.heap.size ≤ q → A q := fun q h => by rw [← hAe]; exact Or.inr h
  have hS : va_S A s.heap s.heap [] := va_S.rf
  have hP : va_P D vwCl [(oX3 p0 pr pb pe pg p1 (nI nd) p2 p3 p4 p5 (nI cn) p6 (nI pq) p7 p8 p9 (nI sc)), (p2, .inl (cA 1, 10, .inr (.inl fna))), (p3, .inl (cA 0, 10, .inl fam)), (p4, .inl (cA 0, 10, .inl fpi)), (p5, .inl (cA 0, 10, .inl fby)), (p9, .inl (cA 0, 10, .inl fen))] s.heap := hP
  have hl := lv_entry ([.ref p0, .long w, .int a, .int b]) (n := 6) (Nat.le_of_ble_eq_true rfl)
  rw [lg_entry_eq]
  generalize (lg_sl ([.ref p0, .long w, .int a, .int b]) ++ List.replicate (6 - (lg_sl ([.ref p0, .long w, .int a, .int b])).length) Slot.unset).toArray = ls at hl ⊢
  have hl : lv_has ls 6 [(0, .ref p0), (1, .long w), (3, .int a), (4, .int b)] := hl
  have inX3 : ∀ w ∈ u_ws RX3 TX3 17, w ∈ wsX3_addMilestone := by decide +kernel
  refine lv_aload_n hx hb dX3_addMilestone_0 rfl (lv_at hl 0 rfl) ?_
  obtain ⟨hPc, hDc, hFc⟩ := PDq.cut (wc := [(oX3 p0 pr pb pe pg p1 (nI nd) p2 p3 p4 p5 (nI cn) p6 (nI pq) p7 p8 p9 (nI sc))]) hP hD hS hA [0] (by decide) rfl
  refine va_calli (va_runV (As := []) (rest := []) ⟨hx, hb, hml, hown, hts⟩ (x_roomMil l D cA sa p0 p1 p2 p3 p4 p5 p6 p7 p8 p9 cn pq nd sc pr pb pe pg s.heap.size hcn hpq hnd hsc) (cwV 0 hts gX3_addMilestone_X3_hasRoomForMilestone rfl rfl rfl (by decide +kernel) ⟨(Nat.le_of_ble_eq_true rfl), (Nat.le_of_ble_eq_true rfl)⟩) ⟨Wd.blind, va_recv hK hPc (ci := 7) (q0 := 0) rfl rfl, fun U hU hW => ⟨rfl, Wd.call hPc hDc hK hC hZ hS hFc U hU hW⟩⟩ rfl rfl hl.1 rfl (lv_room (Nat.le_of_ble_eq_true rfl)) dX3_addMilestone_1 ⟨(Nat.le_of_ble_eq_true rfl), (Nat.le_of_ble_eq_true rfl)⟩) hS (fun q _ h => hFc q h) hFc (fun rn1 u t H1 locs ht hvm hw hB hz1 hk1 hS => ?_)
  obtain ⟨hP1, hD1⟩ := hB
  rw [ht] at hP1
  obtain ⟨hP, hD⟩ := PDq.join (w := [(p2, .inl (cA 1, 10, .inr (.inl fna))), (p3, .inl (cA 0, 10, .inl fam)), (p4, .inl (cA 0, 10, .inl fpi)), (p5, .inl (cA 0, 10, .inl fby)), (p9, .inl (cA 0, 10, .inl fen)), (oX3 p0 pr pb pe pg p1 (nI nd) p2 p3 p4 p5 (nI cn) p6 (nI pq) p7 p8 p9 (nI sc))]) 5 hP hD [0] [1, 2, 3, 4, 5] rfl rfl (by decide) (by decide) hk1 hFc hP1 hD1 rfl
  generalize H1 = H at hP hS ⊢
  rcases hw with ⟨hr9, hn2⟩ | ⟨hr9, hn2⟩
  · skip
    subst hr9
    refine lv_if_ne (tgt := 8) hx hb dX3_addMilestone_4 (by decide) (fun c3 => ?_) (fun c9 => absurd c9 (by decide))
    refine lv_aload_n hx hb dX3_addMilestone_8 rfl (lv_at hl 0 rfl) ?_
    refine va_get (D := D) (ci := 7) (v := .int (nI cn)) (C := RX3) (T := TX3) (N := 17) hx hb hts inX3 hown hK hP 5 rfl rfl 10 (by decide) (hts (.fieldLink RX3 56 "EscrowDesk$Plan" "milestoneCount" "I") (by decide +kernel)) (fun _ h9 => h9) rfl dX3_addMilestone_9 ?_
    refine lv_istore (lv' := [(5, .int (nI cn)), (0, .ref p0), (1, .long w), (3, .int a), (4, .int b)]) hx hb dX3_addMilestone_12 hl (by decide) rfl (fun ls hl => ?_)
    have loop1 : ∀ (n1 : Nat) (f3_1 : Nat → Int32) (H : Heap) (locs : List Loc) (ls : Array Slot), Rng 10 10 f3_1 → n1 ≤ 9 → va_P D vwCl [(p2, .inl (cA 1, 10, .inr (.inl fna))), (p3, .inl (cA 0, 10, .inl fam)), (p4, .inl (cA 0, 10, .inl fpi)), (p5, .inl (cA 0, 10, .inl f3_1)), (p9, .inl (cA 0, 10, .inl fen)), (oX3 p0 pr pb pe pg p1 (nI nd) p2 p3 p4 p5 (nI cn) p6 (nI pq) p7 p8 p9 (nI sc))] H → va_D A [(p2, .inl (cA 1, 10, .inr (.inl fna))), (p3, .inl (cA 0, 10, .inl fam)), (p4, .inl (cA 0, 10, .inl fpi)), (p5, .inl (cA 0, 10, .inl f3_1)), (p9, .inl (cA 0, 10, .inl fen)), (oX3 p0 pr pb pe pg p1 (nI nd) p2 p3 p4 p5 (nI cn) p6 (nI pq) p7 p8 p9 (nI sc))] → va_S A s.heap H locs → lv_has ls 6 [(5, .int (nI (0 + n1))), (0, .ref p0), (1, .long w), (3, .int a), (4, .int b)] → W p l e (headSpec wsX3_addMilestone ({ frames := 1, cells := 0, slots := 0, locals := 20 } : Room)).room s m ([.ref p0, .long w, .int a, .int b] : List Value).toArray below meth c H locs 0 0 (MQ below (va_Qv (fun _ : Unit => True) (fun (_ : Unit) t => ∃ zna : Nat → Int64, ∃ zam : Nat → Int32, ∃ zpi : Nat → Int32, ∃ zby : Nat → Int32, ∃ zen : Nat → Int32, NL (ml ++ [w]) (cn + 1) zna ∧ Rng 10 10 zby ∧ Rng 10 351 zen ∧ Wq D A [(oX3 p0 pr pb pe pg p1 (nI nd) p2 p3 p4 p5 (nI (cn + 1)) p6 (nI pq) p7 p8 p9 (nI sc)), (p2, .inl (cA 1, 10, .inr (.inl zna))), (p3, .inl (cA 0, 10, .inl zam)), (p4, .inl (cA 0, 10, .inl zpi)), (p5, .inl (cA 0, 10, .inl zby)), (p9, .inl (cA 0, 10, .inl zen))] t) A) ([.ref p0, .long w, .int a, .int b] : List Value).toArray s 0 0 A) (F0 m 14 ls []) := by
      intro n1
      induction n1 with
      | zero =>
        intro f3_1 H locs ls hf0_1 hv0_1 hP hD hS hl
        have hl : lv_has ls 6 [(5, .int 0), (0, .ref p0), (1, .long w), (3, .int a), (4, .int b)] := hl
        refine lv_iload hx hb dX3_addMilestone_14 (lv_at hl 0 rfl) ?_
        refine lv_if_le (tgt := 60) hx hb dX3_addMilestone_16 (by decide) (fun c4 => ?_) (fun c9 => absurd (nI_le (a := 0) (b := 0) (show 0 ≤ 0 by omega) (by omega)) c9)
        refine lv_aload_n hx hb dX3_addMilestone_60 rfl (lv_at hl 1 rfl) ?_
        refine va_get (D := D) (ci := 7) (v := .ref p5) (C := RX3) (T := TX3) (N := 17) hx hb hts inX3 hown hK hP 5 rfl rfl 9 (by decide) (hts (.fieldLink RX3 29 "EscrowDesk$Plan" "byPriority" "[I") (by decide +kernel)) (fun _ h9 => h9) rfl dX3_addMilestone_61 ?_
        refine lv_iload hx hb dX3_addMilestone_64 (lv_at hl 0 rfl) ?_
        refine lv_aload_n hx hb dX3_addMilestone_66 rfl (lv_at hl 1 rfl) ?_
        refine va_get (D := D) (ci := 7) (v := .int (nI cn)) (C := RX3) (T := TX3) (N := 17) hx hb hts inX3 hown hK hP 5 rfl rfl 10 (by decide) (hts (.fieldLink RX3 56 "EscrowDesk$Plan" "milestoneCount" "I") (by decide +kernel)) (fun _ h9 => h9) rfl dX3_addMilestone_67 ?_
        refine va_iast hx hb hK hP hD hS 3 0 rfl rfl (vp_in_iff.mpr (by decide)) dX3_addMilestone_70 (fun H locs hP hD hS => ?_)
        obtain ⟨hP, hD⟩ : PDq D A [(p2, .inl (cA 1, 10, .inr (.inl fna))), (p3, .inl (cA 0, 10, .inl fam)), (p4, .inl (cA 0, 10, .inl fpi)), (p5, .inl (cA 0, 10, .inl (upd f3_1 0 (nI cn)))), (p9, .inl (cA 0, 10, .inl fen)), (oX3 p0 pr pb pe pg p1 (nI nd) p2 p3 p4 p5 (nI cn) p6 (nI pq) p7 p8 p9 (nI sc))] H := ⟨hP, hD⟩
        have hn6 : Rng 10 10 (upd f3_1 0 (nI cn)) := Rng.put hf0_1 _ cn (by omega)
        generalize (upd f3_1 0 (nI cn)) = fn5 at hP hD hn6
        obtain ⟨hP, hD⟩ : PDq D A [(p2, .inl (cA 1, 10, .inr (.inl fna))), (p3, .inl (cA 0, 10, .inl fam)), (p4, .inl (cA 0, 10, .inl fpi)), (p5, .inl (cA 0, 10, .inl fn5)), (p9, .inl (cA 0, 10, .inl fen)), (oX3 p0 pr pb pe pg p1 (nI nd) p2 p3 p4 p5 (nI cn) p6 (nI pq) p7 p8 p9 (nI sc))] H := ⟨hP, hD⟩
        refine lv_aload_n hx hb dX3_addMilestone_71 rfl (lv_at hl 1 rfl) ?_
        refine va_get (D := D) (ci := 7) (v := .ref p2) (C := RX3) (T := TX3) (N := 17) hx hb hts inX3 hown hK hP 5 rfl rfl 6 (by decide) (hts (.fieldLink RX3 19 "EscrowDesk$Plan" "names" "[J") (by decide +kernel)) (fun _ h9 => h9) rfl dX3_addMilestone_72 ?_
        refine lv_aload_n hx hb dX3_addMilestone_75 rfl (lv_at hl 1 rfl) ?_
        refine va_get (D := D) (ci := 7) (v := .int (nI cn)) (C := RX3) (T := TX3) (N := 17) hx hb hts inX3 hown hK hP 5 rfl rfl 10 (by decide) (hts (.fieldLink RX3 56 "EscrowDesk$Plan" "milestoneCount" "I") (by decide +kernel)) (fun _ h9 => h9) rfl dX3_addMilestone_76 ?_
        refine lv_lload_n hx hb dX3_addMilestone_79 rfl (lv_at hl 2 rfl) ?_
        refine va_last hx hb hK hP hD hS 0 1 rfl rfl (vp_in_nI (n := cn) (N := 10) (show cn < 10 by omega) (by decide)) dX3_addMilestone_80 (fun H locs hP hD hS => ?_)
        obtain ⟨hP, hD⟩ : PDq D A [(p2, .inl (cA 1, 10, .inr (.inl (vp_updL fna (((nI cn)).toNatClampNeg) w)))), (p3, .inl (cA 0, 10, .inl fam)), (p4, .inl (cA 0, 10, .inl fpi)), (p5, .inl (cA 0, 10, .inl fn5)), (p9, .inl (cA 0, 10, .inl fen)), (oX3 p0 pr pb pe pg p1 (nI nd) p2 p3 p4 p5 (nI cn) p6 (nI pq) p7 p8 p9 (nI sc))] H := ⟨hP, hD⟩
        have hn8 : UppL cn w fna (vp_updL fna (((nI cn)).toNatClampNeg) w) := UppL.of (by omega)
        have hn9 : Rdd (vp_updL fna (((nI cn)).toNatClampNeg) w) := rfl
        generalize (vp_updL fna (((nI cn)).toNatClampNeg) w) = fn7 at hP hD hn8 hn9
        obtain ⟨hP, hD⟩ : PDq D A [(p2, .inl (cA 1, 10, .inr (.inl fn7))), (p3, .inl (cA 0, 10, .inl fam)), (p4, .inl (cA 0, 10, .inl fpi)), (p5, .inl (cA 0, 10, .inl fn5)), (p9, .inl (cA 0, 10, .inl fen)), (oX3 p0 pr pb pe pg p1 (nI nd) p2 p3 p4 p5 (nI cn) p6 (nI pq) p7 p8 p9 (nI sc))] H := ⟨hP, hD⟩
        refine lv_aload_n hx hb dX3_addMilestone_81 rfl (lv_at hl 1 rfl) ?_
        refine va_get (D := D) (ci := 7) (v := .ref p3) (C := RX3) (T := TX3) (N := 17) hx hb hts inX3 hown hK hP 5 rfl rfl 7 (by decide) (hts (.fieldLink RX3 23 "EscrowDesk$Plan" "amounts" "[I") (by decide +kernel)) (fun _ h9 => h9) rfl dX3_addMilestone_82 ?_
        refine lv_aload_n hx hb dX3_addMilestone_85 rfl (lv_at hl 1 rfl) ?_
        refine va_get (D := D) (ci := 7) (v := .int (nI cn)) (C := RX3) (T := TX3) (N := 17) hx hb hts inX3 hown hK hP 5 rfl rfl 10 (by decide) (hts (.fieldLink RX3 56 "EscrowDesk$Plan" "milestoneCount" "I") (by decide +kernel)) (fun _ h9 => h9) rfl dX3_addMilestone_86 ?_
        refine lv_iload_n hx hb dX3_addMilestone_89 rfl (lv_at hl 3 rfl) ?_
        refine va_iast hx hb hK hP hD hS 1 0 rfl rfl (vp_in_nI (n := cn) (N := 10) (show cn < 10 by omega) (by decide)) dX3_addMilestone_90 (fun H locs hP hD hS => ?_)
        obtain ⟨hP, hD⟩ : PDq D A [(p2, .inl (cA 1, 10, .inr (.inl fn7))), (p3, .inl (cA 0, 10, .inl (upd fam (((nI cn)).toNatClampNeg) a))), (p4, .inl (cA 0, 10, .inl fpi)), (p5, .inl (cA 0, 10, .inl fn5)), (p9, .inl (cA 0, 10, .inl fen)), (oX3 p0 pr pb pe pg p1 (nI nd) p2 p3 p4 p5 (nI cn) p6 (nI pq) p7 p8 p9 (nI sc))] H := ⟨hP, hD⟩
        generalize (upd fam (((nI cn)).toNatClampNeg) a) = fn10 at hP hD
        obtain ⟨hP, hD⟩ : PDq D A [(p2, .inl (cA 1, 10, .inr (.inl fn7))), (p3, .inl (cA 0, 10, .inl fn10)), (p4, .inl (cA 0, 10, .inl fpi)), (p5, .inl (cA 0, 10, .inl fn5)), (p9, .inl (cA 0, 10, .inl fen)), (oX3 p0 pr pb pe pg p1 (nI nd) p2 p3 p4 p5 (nI cn) p6 (nI pq) p7 p8 p9 (nI sc))] H := ⟨hP, hD⟩
        refine lv_aload_n hx hb dX3_addMilestone_91 rfl (lv_at hl 1 rfl) ?_
        refine va_get (D := D) (ci := 7) (v := .ref p4) (C := RX3) (T := TX3) (N := 17) hx hb hts inX3 hown hK hP 5 rfl rfl 8 (by decide) (hts (.fieldLink RX3 26 "EscrowDesk$Plan" "priorities" "[I") (by decide +kernel)) (fun _ h9 => h9) rfl dX3_addMilestone_92 ?_
        refine lv_aload_n hx hb dX3_addMilestone_95 rfl (lv_at hl 1 rfl) ?_
        refine va_get (D := D) (ci := 7) (v := .int (nI cn)) (C := RX3) (T := TX3) (N := 17) hx hb hts inX3 hown hK hP 5 rfl rfl 10 (by decide) (hts (.fieldLink RX3 56 "EscrowDesk$Plan" "milestoneCount" "I") (by decide +kernel)) (fun _ h9 => h9) rfl dX3_addMilestone_96 ?_
        refine lv_iload hx hb dX3_addMilestone_99 (lv_at hl 4 rfl) ?_
        refine va_iast hx hb hK hP hD hS 2 0 rfl rfl (vp_in_nI (n := cn) (N := 10) (show cn < 10 by omega) (by decide)) dX3_addMilestone_101 (fun H locs hP hD hS => ?_)
        obtain ⟨hP, hD⟩ : PDq D A [(p2, .inl (cA 1, 10, .inr (.inl fn7))), (p3, .inl (cA 0, 10, .inl fn10)), (p4, .inl (cA 0, 10, .inl (upd fpi (((nI cn)).toNatClampNeg) b))), (p5, .inl (cA 0, 10, .inl fn5)), (p9, .inl (cA 0, 10, .inl fen)), (oX3 p0 pr pb pe pg p1 (nI nd) p2 p3 p4 p5 (nI cn) p6 (nI pq) p7 p8 p9 (nI sc))] H := ⟨hP, hD⟩
        generalize (upd fpi (((nI cn)).toNatClampNeg) b) = fn11 at hP hD
        obtain ⟨hP, hD⟩ : PDq D A [(p2, .inl (cA 1, 10, .inr (.inl fn7))), (p3, .inl (cA 0, 10, .inl fn10)), (p4, .inl (cA 0, 10, .inl fn11)), (p5, .inl (cA 0, 10, .inl fn5)), (p9, .inl (cA 0, 10, .inl fen)), (oX3 p0 pr pb pe pg p1 (nI nd) p2 p3 p4 p5 (nI cn) p6 (nI pq) p7 p8 p9 (nI sc))] H := ⟨hP, hD⟩
        refine lv_aload_n hx hb dX3_addMilestone_102 rfl (lv_at hl 1 rfl) ?_
        refine va_get (D := D) (ci := 7) (v := .ref p9) (C := RX3) (T := TX3) (N := 17) hx hb hts inX3 hown hK hP 5 rfl rfl 15 (by decide) (hts (.fieldLink RX3 41 "EscrowDesk$Plan" "stepEnds" "[I") (by decide +kernel)) (fun _ h9 => h9) rfl dX3_addMilestone_103 ?_
        refine lv_aload_n hx hb dX3_addMilestone_106 rfl (lv_at hl 1 rfl) ?_
        refine va_get (D := D) (ci := 7) (v := .int (nI cn)) (C := RX3) (T := TX3) (N := 17) hx hb hts inX3 hown hK hP 5 rfl rfl 10 (by decide) (hts (.fieldLink RX3 56 "EscrowDesk$Plan" "milestoneCount" "I") (by decide +kernel)) (fun _ h9 => h9) rfl dX3_addMilestone_107 ?_
        refine lv_aload_n hx hb dX3_addMilestone_110 rfl (lv_at hl 1 rfl) ?_
        refine va_get (D := D) (ci := 7) (v := .int (nI sc)) (C := RX3) (T := TX3) (N := 17) hx hb hts inX3 hown hK hP 5 rfl rfl 16 (by decide) (hts (.fieldLink RX3 62 "EscrowDesk$Plan" "stepCount" "I") (by decide +kernel)) (fun _ h9 => h9) rfl dX3_addMilestone_111 ?_
        refine va_iast hx hb hK hP hD hS 4 0 rfl rfl (vp_in_nI (n := cn) (N := 10) (show cn < 10 by omega) (by decide)) dX3_addMilestone_114 (fun H locs hP hD hS => ?_)
        obtain ⟨hP, hD⟩ : PDq D A [(p2, .inl (cA 1, 10, .inr (.inl fn7))), (p3, .inl (cA 0, 10, .inl fn10)), (p4, .inl (cA 0, 10, .inl fn11)), (p5, .inl (cA 0, 10, .inl fn5)), (p9, .inl (cA 0, 10, .inl (upd fen (((nI cn)).toNatClampNeg) (nI sc)))), (oX3 p0 pr pb pe pg p1 (nI nd) p2 p3 p4 p5 (nI cn) p6 (nI pq) p7 p8 p9 (nI sc))] H := ⟨hP, hD⟩
        have hn13 : Rng 10 351 (upd fen (((nI cn)).toNatClampNeg) (nI sc)) := Rng.put hen _ sc (by omega)
        generalize (upd fen (((nI cn)).toNatClampNeg) (nI sc)) = fn12 at hP hD hn13
        obtain ⟨hP, hD⟩ : PDq D A [(p2, .inl (cA 1, 10, .inr (.inl fn7))), (p3, .inl (cA 0, 10, .inl fn10)), (p4, .inl (cA 0, 10, .inl fn11)), (p5, .inl (cA 0, 10, .inl fn5)), (p9, .inl (cA 0, 10, .inl fn12)), (oX3 p0 pr pb pe pg p1 (nI nd) p2 p3 p4 p5 (nI cn) p6 (nI pq) p7 p8 p9 (nI sc))] H := ⟨hP, hD⟩
        refine lv_aload_n hx hb dX3_addMilestone_115 rfl (lv_at hl 1 rfl) ?_
        refine lv_dup hx hb dX3_addMilestone_116 rfl ?_
        refine va_get (D := D) (ci := 7) (v := .int (nI cn)) (C := RX3) (T := TX3) (N := 17) hx hb hts inX3 hown hK hP 5 rfl rfl 10 (by decide) (hts (.fieldLink RX3 56 "EscrowDesk$Plan" "milestoneCount" "I") (by decide +kernel)) (fun _ h9 => h9) rfl dX3_addMilestone_117 ?_
        refine lv_iconst (v := 1) hx hb dX3_addMilestone_120 (by decide) ?_
        refine lv_iadd hx hb dX3_addMilestone_121 ?_
        refine lv_topi (fun yn14 eyn14 => ?_)
        obtain rfl : yn14 = (nI (cn + 1)) := eyn14.trans (nI_add cn 1)
        refine va_put (D := D) (ci := 7) (v := .int (nI (cn + 1))) (ty := .int) (C := RX3) (T := TX3) (N := 17) hx hb hts inX3 tyX3 tyX3_ok nmX3 hown hK hP hD hS 5 rfl rfl 10 (by decide) (hts (.fieldLink RX3 56 "EscrowDesk$Plan" "milestoneCount" "I") (by decide +kernel)) (fun _ h9 => h9) rfl (by decide +kernel) rfl rfl (Nat.le_of_ble_eq_true rfl) dX3_addMilestone_122 (fun H locs hP hD hS => ?_)
        obtain ⟨hP, hD⟩ : PDq D A [(p2, .inl (cA 1, 10, .inr (.inl fn7))), (p3, .inl (cA 0, 10, .inl fn10)), (p4, .inl (cA 0, 10, .inl fn11)), (p5, .inl (cA 0, 10, .inl fn5)), (p9, .inl (cA 0, 10, .inl fn12)), (oX3 p0 pr pb pe pg p1 (nI nd) p2 p3 p4 p5 (nI (cn + 1)) p6 (nI pq) p7 p8 p9 (nI sc))] H := ⟨hP, hD⟩
        obtain ⟨hP9, hD9⟩ := PDq.sub (ws' := [(oX3 p0 pr pb pe pg p1 (nI nd) p2 p3 p4 p5 (nI (cn + 1)) p6 (nI pq) p7 p8 p9 (nI sc)), (p2, .inl (cA 1, 10, .inr (.inl fn7))), (p3, .inl (cA 0, 10, .inl fn10)), (p4, .inl (cA 0, 10, .inl fn11)), (p5, .inl (cA 0, 10, .inl fn5)), (p9, .inl (cA 0, 10, .inl fn12))]) hP hD [5, 0, 1, 2, 3, 4] (by decide) rfl
        refine W.widen (k := 0) (n := 0) (Nat.le_of_ble_eq_true rfl) (Nat.le_of_ble_eq_true rfl) ?_
        exact (W.vret hx hb hr (fun t ht hW => ⟨⟨(), rfl, trivial, fn7, fn10, fn11, fn5, fn12, (by have q9 := NL.put hNM w; rw [← show fn7 = vp_updL fna cn w from hn8] at q9; exact q9), hn6, hn13, by rw [ht]; exact hP9, hD9⟩, hS.F ht⟩) hS.2.2 dX3_addMilestone_125)
      | succ n1 ih1 =>
        intro f3_1 H locs ls hf0_1 hv0_1 hP hD hS hl
        have hl : lv_has ls 6 [(5, .int (nI (0 + n1 + 1))), (0, .ref p0), (1, .long w), (3, .int a), (4, .int b)] := hl
        refine lv_iload hx hb dX3_addMilestone_14 (lv_at hl 0 rfl) ?_
        refine lv_if_le (tgt := 60) hx hb dX3_addMilestone_16 (by decide) (fun c9 => absurd c9 (nI_ge (a := 0) (b := (0 + n1 + 1)) (show 0 < (0 + n1 + 1) by omega) (by omega))) (fun c15 => ?_)
        refine lv_aload_n hx hb dX3_addMilestone_19 rfl (lv_at hl 1 rfl) ?_
        refine va_get (D := D) (ci := 7) (v := .ref p4) (C := RX3) (T := TX3) (N := 17) hx hb hts inX3 hown hK hP 5 rfl rfl 8 (by decide) (hts (.fieldLink RX3 26 "EscrowDesk$Plan" "priorities" "[I") (by decide +kernel)) (fun _ h9 => h9) rfl dX3_addMilestone_20 ?_
        refine lv_aload_n hx hb dX3_addMilestone_23 rfl (lv_at hl 1 rfl) ?_
        refine va_get (D := D) (ci := 7) (v := .ref p5) (C := RX3) (T := TX3) (N := 17) hx hb hts inX3 hown hK hP 5 rfl rfl 9 (by decide) (hts (.fieldLink RX3 29 "EscrowDesk$Plan" "byPriority" "[I") (by decide +kernel)) (fun _ h9 => h9) rfl dX3_addMilestone_24 ?_
        refine lv_iload hx hb dX3_addMilestone_27 (lv_at hl 0 rfl) ?_
        refine lv_iconst (v := 1) hx hb dX3_addMilestone_29 (by decide) ?_
        refine lv_isub hx hb dX3_addMilestone_30 ?_
        refine lv_topi (fun yn16 eyn16 => ?_)
        obtain rfl : yn16 = (nI ((0 + n1 + 1) - 1)) := eyn16.trans (nI_sub (a := (0 + n1 + 1)) (b := 1) (by omega))
        obtain ⟨kn17, hn18, hn19⟩ := Rng.get hf0_1 (show ((0 + n1 + 1) - 1) < 10 by omega)
        refine va_iald hx hb hK hP 3 0 rfl rfl (vp_in_nI (n := ((0 + n1 + 1) - 1)) (N := 10) (show ((0 + n1 + 1) - 1) < 10 by omega) (by decide)) dX3_addMilestone_31 ?_
        refine lv_topi (fun yn20 eyn20 => ?_)
        obtain rfl : yn20 = (nI kn17) := eyn20.trans (by first | exact hn19 | (rw [nI_clamp (by omega)]; exact hn19))
        refine va_iald hx hb hK hP 2 0 rfl rfl (vp_in_nI (n := kn17) (N := 10) (show kn17 < 10 by omega) (by decide)) dX3_addMilestone_32 ?_
        refine lv_topi (fun yn21 eyn21 => ?_)
        refine lv_iload hx hb dX3_addMilestone_33 (lv_at hl 4 rfl) ?_
        refine lv_icmp_le (tgt := 60) hx hb dX3_addMilestone_35 (by decide) (fun c22 => ?_) (fun c22 => ?_)
        · skip
          refine lv_aload_n hx hb dX3_addMilestone_60 rfl (lv_at hl 1 rfl) ?_
          refine va_get (D := D) (ci := 7) (v := .ref p5) (C := RX3) (T := TX3) (N := 17) hx hb hts inX3 hown hK hP 5 rfl rfl 9 (by decide) (hts (.fieldLink RX3 29 "EscrowDesk$Plan" "byPriority" "[I") (by decide +kernel)) (fun _ h9 => h9) rfl dX3_addMilestone_61 ?_
          refine lv_iload hx hb dX3_addMilestone_64 (lv_at hl 0 rfl) ?_
          refine lv_aload_n hx hb dX3_addMilestone_66 rfl (lv_at hl 1 rfl) ?_
          refine va_get (D := D) (ci := 7) (v := .int (nI cn)) (C := RX3) (T := TX3) (N := 17) hx hb hts inX3 hown hK hP 5 rfl rfl 10 (by decide) (hts (.fieldLink RX3 56 "EscrowDesk$Plan" "milestoneCount" "I") (by decide +kernel)) (fun _ h9 => h9) rfl dX3_addMilestone_67 ?_
          refine va_iast hx hb hK hP hD hS 3 0 rfl rfl (vp_in_nI (n := (0 + n1 + 1)) (N := 10) (show (0 + n1 + 1) < 10 by omega) (by decide)) dX3_addMilestone_70 (fun H locs hP hD hS => ?_)
          obtain ⟨hP, hD⟩ : PDq D A [(p2, .inl (cA 1, 10, .inr (.inl fna))), (p3, .inl (cA 0, 10, .inl fam)), (p4, .inl (cA 0, 10, .inl fpi)), (p5, .inl (cA 0, 10, .inl (upd f3_1 (((nI (0 + n1 + 1))).toNatClampNeg) (nI cn)))), (p9, .inl (cA 0, 10, .inl fen)), (oX3 p0 pr pb pe pg p1 (nI nd) p2 p3 p4 p5 (nI cn) p6 (nI pq) p7 p8 p9 (nI sc))] H := ⟨hP, hD⟩
          have hn24 : Rng 10 10 (upd f3_1 (((nI (0 + n1 + 1))).toNatClampNeg) (nI cn)) := Rng.put hf0_1 _ cn (by omega)
          generalize (upd f3_1 (((nI (0 + n1 + 1))).toNatClampNeg) (nI cn)) = fn23 at hP hD hn24
          obtain ⟨hP, hD⟩ : PDq D A [(p2, .inl (cA 1, 10, .inr (.inl fna))), (p3, .inl (cA 0, 10, .inl fam)), (p4, .inl (cA 0, 10, .inl fpi)), (p5, .inl (cA 0, 10, .inl fn23)), (p9, .inl (cA 0, 10, .inl fen)), (oX3 p0 pr pb pe pg p1 (nI nd) p2 p3 p4 p5 (nI cn) p6 (nI pq) p7 p8 p9 (nI sc))] H := ⟨hP, hD⟩
          refine lv_aload_n hx hb dX3_addMilestone_71 rfl (lv_at hl 1 rfl) ?_
          refine va_get (D := D) (ci := 7) (v := .ref p2) (C := RX3) (T := TX3) (N := 17) hx hb hts inX3 hown hK hP 5 rfl rfl 6 (by decide) (hts (.fieldLink RX3 19 "EscrowDesk$Plan" "names" "[J") (by decide +kernel)) (fun _ h9 => h9) rfl dX3_addMilestone_72 ?_
          refine lv_aload_n hx hb dX3_addMilestone_75 rfl (lv_at hl 1 rfl) ?_
          refine va_get (D := D) (ci := 7) (v := .int (nI cn)) (C := RX3) (T := TX3) (N := 17) hx hb hts inX3 hown hK hP 5 rfl rfl 10 (by decide) (hts (.fieldLink RX3 56 "EscrowDesk$Plan" "milestoneCount" "I") (by decide +kernel)) (fun _ h9 => h9) rfl dX3_addMilestone_76 ?_
          refine lv_lload_n hx hb dX3_addMilestone_79 rfl (lv_at hl 2 rfl) ?_
          refine va_last hx hb hK hP hD hS 0 1 rfl rfl (vp_in_nI (n := cn) (N := 10) (show cn < 10 by omega) (by decide)) dX3_addMilestone_80 (fun H locs hP hD hS => ?_)
          obtain ⟨hP, hD⟩ : PDq D A [(p2, .inl (cA 1, 10, .inr (.inl (vp_updL fna (((nI cn)).toNatClampNeg) w)))), (p3, .inl (cA 0, 10, .inl fam)), (p4, .inl (cA 0, 10, .inl fpi)), (p5, .inl (cA 0, 10, .inl fn23)), (p9, .inl (cA 0, 10, .inl fen)), (oX3 p0 pr pb pe pg p1 (nI nd) p2 p3 p4 p5 (nI cn) p6 (nI pq) p7 p8 p9 (nI sc))] H := ⟨hP, hD⟩
          have hn26 : UppL cn w fna (vp_updL fna (((nI cn)).toNatClampNeg) w) := UppL.of (by omega)
          have hn27 : Rdd (vp_updL fna (((nI cn)).toNatClampNeg) w) := rfl
          generalize (vp_updL fna (((nI cn)).toNatClampNeg) w) = fn25 at hP hD hn26 hn27
          obtain ⟨hP, hD⟩ : PDq D A [(p2, .inl (cA 1, 10, .inr (.inl fn25))), (p3, .inl (cA 0, 10, .inl fam)), (p4, .inl (cA 0, 10, .inl fpi)), (p5, .inl (cA 0, 10, .inl fn23)), (p9, .inl (cA 0, 10, .inl fen)), (oX3 p0 pr pb pe pg p1 (nI nd) p2 p3 p4 p5 (nI cn) p6 (nI pq) p7 p8 p9 (nI sc))] H := ⟨hP, hD⟩
          refine lv_aload_n hx hb dX3_addMilestone_81 rfl (lv_at hl 1 rfl) ?_
          refine va_get (D := D) (ci := 7) (v := .ref p3) (C := RX3) (T := TX3) (N := 17) hx hb hts inX3 hown hK hP 5 rfl rfl 7 (by decide) (hts (.fieldLink RX3 23 "EscrowDesk$Plan" "amounts" "[I") (by decide +kernel)) (fun _ h9 => h9) rfl dX3_addMilestone_82 ?_
          refine lv_aload_n hx hb dX3_addMilestone_85 rfl (lv_at hl 1 rfl) ?_
          refine va_get (D := D) (ci := 7) (v := .int (nI cn)) (C := RX3) (T := TX3) (N := 17) hx hb hts inX3 hown hK hP 5 rfl rfl 10 (by decide) (hts (.fieldLink RX3 56 "EscrowDesk$Plan" "milestoneCount" "I") (by decide +kernel)) (fun _ h9 => h9) rfl dX3_addMilestone_86 ?_
          refine lv_iload_n hx hb dX3_addMilestone_89 rfl (lv_at hl 3 rfl) ?_
          refine va_iast hx hb hK hP hD hS 1 0 rfl rfl (vp_in_nI (n := cn) (N := 10) (show cn < 10 by omega) (by decide)) dX3_addMilestone_90 (fun H locs hP hD hS => ?_)
          obtain ⟨hP, hD⟩ : PDq D A [(p2, .inl (cA 1, 10, .inr (.inl fn25))), (p3, .inl (cA 0, 10, .inl (upd fam (((nI cn)).toNatClampNeg) a))), (p4, .inl (cA 0, 10, .inl fpi)), (p5, .inl (cA 0, 10, .inl fn23)), (p9, .inl (cA 0, 10, .inl fen)), (oX3 p0 pr pb pe pg p1 (nI nd) p2 p3 p4 p5 (nI cn) p6 (nI pq) p7 p8 p9 (nI sc))] H := ⟨hP, hD⟩
          generalize (upd fam (((nI cn)).toNatClampNeg) a) = fn28 at hP hD
          obtain ⟨hP, hD⟩ : PDq D A [(p2, .inl (cA 1, 10, .inr (.inl fn25))), (p3, .inl (cA 0, 10, .inl fn28)), (p4, .inl (cA 0, 10, .inl fpi)), (p5, .inl (cA 0, 10, .inl fn23)), (p9, .inl (cA 0, 10, .inl fen)), (oX3 p0 pr pb pe pg p1 (nI nd) p2 p3 p4 p5 (nI cn) p6 (nI pq) p7 p8 p9 (nI sc))] H := ⟨hP, hD⟩
          refine lv_aload_n hx hb dX3_addMilestone_91 rfl (lv_at hl 1 rfl) ?_
          refine va_get (D := D) (ci := 7) (v := .ref p4) (C := RX3) (T := TX3) (N := 17) hx hb hts inX3 hown hK hP 5 rfl rfl 8 (by decide) (hts (.fieldLink RX3 26 "EscrowDesk$Plan" "priorities" "[I") (by decide +kernel)) (fun _ h9 => h9) rfl dX3_addMilestone_92 ?_
          refine lv_aload_n hx hb dX3_addMilestone_95 rfl (lv_at hl 1 rfl) ?_
          refine va_get (D := D) (ci := 7) (v := .int (nI cn)) (C := RX3) (T := TX3) (N := 17) hx hb hts inX3 hown hK hP 5 rfl rfl 10 (by decide) (hts (.fieldLink RX3 56 "EscrowDesk$Plan" "milestoneCount" "I") (by decide +kernel)) (fun _ h9 => h9) rfl dX3_addMilestone_96 ?_
          refine lv_iload hx hb dX3_addMilestone_99 (lv_at hl 4 rfl) ?_
          refine va_iast hx hb hK hP hD hS 2 0 rfl rfl (vp_in_nI (n := cn) (N := 10) (show cn < 10 by omega) (by decide)) dX3_addMilestone_101 (fun H locs hP hD hS => ?_)
          obtain ⟨hP, hD⟩ : PDq D A [(p2, .inl (cA 1, 10, .inr (.inl fn25))), (p3, .inl (cA 0, 10, .inl fn28)), (p4, .inl (cA 0, 10, .inl (upd fpi (((nI cn)).toNatClampNeg) b))), (p5, .inl (cA 0, 10, .inl fn23)), (p9, .inl (cA 0, 10, .inl fen)), (oX3 p0 pr pb pe pg p1 (nI nd) p2 p3 p4 p5 (nI cn) p6 (nI pq) p7 p8 p9 (nI sc))] H := ⟨hP, hD⟩
          generalize (upd fpi (((nI cn)).toNatClampNeg) b) = fn29 at hP hD
          obtain ⟨hP, hD⟩ : PDq D A [(p2, .inl (cA 1, 10, .inr (.inl fn25))), (p3, .inl (cA 0, 10, .inl fn28)), (p4, .inl (cA 0, 10, .inl fn29)), (p5, .inl (cA 0, 10, .inl fn23)), (p9, .inl (cA 0, 10, .inl fen)), (oX3 p0 pr pb pe pg p1 (nI nd) p2 p3 p4 p5 (nI cn) p6 (nI pq) p7 p8 p9 (nI sc))] H := ⟨hP, hD⟩
          refine lv_aload_n hx hb dX3_addMilestone_102 rfl (lv_at hl 1 rfl) ?_
          refine va_get (D := D) (ci := 7) (v := .ref p9) (C := RX3) (T := TX3) (N := 17) hx hb hts inX3 hown hK hP 5 rfl rfl 15 (by decide) (hts (.fieldLink RX3 41 "EscrowDesk$Plan" "stepEnds" "[I") (by decide +kernel)) (fun _ h9 => h9) rfl dX3_addMilestone_103 ?_
          refine lv_aload_n hx hb dX3_addMilestone_106 rfl (lv_at hl 1 rfl) ?_
          refine va_get (D := D) (ci := 7) (v := .int (nI cn)) (C := RX3) (T := TX3) (N := 17) hx hb hts inX3 hown hK hP 5 rfl rfl 10 (by decide) (hts (.fieldLink RX3 56 "EscrowDesk$Plan" "milestoneCount" "I") (by decide +kernel)) (fun _ h9 => h9) rfl dX3_addMilestone_107 ?_
          refine lv_aload_n hx hb dX3_addMilestone_110 rfl (lv_at hl 1 rfl) ?_
          refine va_get (D := D) (ci := 7) (v := .int (nI sc)) (C := RX3) (T := TX3) (N := 17) hx hb hts inX3 hown hK hP 5 rfl rfl 16 (by decide) (hts (.fieldLink RX3 62 "EscrowDesk$Plan" "stepCount" "I") (by decide +kernel)) (fun _ h9 => h9) rfl dX3_addMilestone_111 ?_
          refine va_iast hx hb hK hP hD hS 4 0 rfl rfl (vp_in_nI (n := cn) (N := 10) (show cn < 10 by omega) (by decide)) dX3_addMilestone_114 (fun H locs hP hD hS => ?_)
          obtain ⟨hP, hD⟩ : PDq D A [(p2, .inl (cA 1, 10, .inr (.inl fn25))), (p3, .inl (cA 0, 10, .inl fn28)), (p4, .inl (cA 0, 10, .inl fn29)), (p5, .inl (cA 0, 10, .inl fn23)), (p9, .inl (cA 0, 10, .inl (upd fen (((nI cn)).toNatClampNeg) (nI sc)))), (oX3 p0 pr pb pe pg p1 (nI nd) p2 p3 p4 p5 (nI cn) p6 (nI pq) p7 p8 p9 (nI sc))] H := ⟨hP, hD⟩
          have hn31 : Rng 10 351 (upd fen (((nI cn)).toNatClampNeg) (nI sc)) := Rng.put hen _ sc (by omega)
          generalize (upd fen (((nI cn)).toNatClampNeg) (nI sc)) = fn30 at hP hD hn31
          obtain ⟨hP, hD⟩ : PDq D A [(p2, .inl (cA 1, 10, .inr (.inl fn25))), (p3, .inl (cA 0, 10, .inl fn28)), (p4, .inl (cA 0, 10, .inl fn29)), (p5, .inl (cA 0, 10, .inl fn23)), (p9, .inl (cA 0, 10, .inl fn30)), (oX3 p0 pr pb pe pg p1 (nI nd) p2 p3 p4 p5 (nI cn) p6 (nI pq) p7 p8 p9 (nI sc))] H := ⟨hP, hD⟩
          refine lv_aload_n hx hb dX3_addMilestone_115 rfl (lv_at hl 1 rfl) ?_
          refine lv_dup hx hb dX3_addMilestone_116 rfl ?_
          refine va_get (D := D) (ci := 7) (v := .int (nI cn)) (C := RX3) (T := TX3) (N := 17) hx hb hts inX3 hown hK hP 5 rfl rfl 10 (by decide) (hts (.fieldLink RX3 56 "EscrowDesk$Plan" "milestoneCount" "I") (by decide +kernel)) (fun _ h9 => h9) rfl dX3_addMilestone_117 ?_
          refine lv_iconst (v := 1) hx hb dX3_addMilestone_120 (by decide) ?_
          refine lv_iadd hx hb dX3_addMilestone_121 ?_
          refine lv_topi (fun yn32 eyn32 => ?_)
          obtain rfl : yn32 = (nI (cn + 1)) := eyn32.trans (nI_add cn 1)
          refine va_put (D := D) (ci := 7) (v := .int (nI (cn + 1))) (ty := .int) (C := RX3) (T := TX3) (N := 17) hx hb hts inX3 tyX3 tyX3_ok nmX3 hown hK hP hD hS 5 rfl rfl 10 (by decide) (hts (.fieldLink RX3 56 "EscrowDesk$Plan" "milestoneCount" "I") (by decide +kernel)) (fun _ h9 => h9) rfl (by decide +kernel) rfl rfl (Nat.le_of_ble_eq_true rfl) dX3_addMilestone_122 (fun H locs hP hD hS => ?_)
          obtain ⟨hP, hD⟩ : PDq D A [(p2, .inl (cA 1, 10, .inr (.inl fn25))), (p3, .inl (cA 0, 10, .inl fn28)), (p4, .inl (cA 0, 10, .inl fn29)), (p5, .inl (cA 0, 10, .inl fn23)), (p9, .inl (cA 0, 10, .inl fn30)), (oX3 p0 pr pb pe pg p1 (nI nd) p2 p3 p4 p5 (nI (cn + 1)) p6 (nI pq) p7 p8 p9 (nI sc))] H := ⟨hP, hD⟩
          obtain ⟨hP9, hD9⟩ := PDq.sub (ws' := [(oX3 p0 pr pb pe pg p1 (nI nd) p2 p3 p4 p5 (nI (cn + 1)) p6 (nI pq) p7 p8 p9 (nI sc)), (p2, .inl (cA 1, 10, .inr (.inl fn25))), (p3, .inl (cA 0, 10, .inl fn28)), (p4, .inl (cA 0, 10, .inl fn29)), (p5, .inl (cA 0, 10, .inl fn23)), (p9, .inl (cA 0, 10, .inl fn30))]) hP hD [5, 0, 1, 2, 3, 4] (by decide) rfl
          refine W.widen (k := 0) (n := 0) (Nat.le_of_ble_eq_true rfl) (Nat.le_of_ble_eq_true rfl) ?_
          exact (W.vret hx hb hr (fun t ht hW => ⟨⟨(), rfl, trivial, fn25, fn28, fn29, fn23, fn30, (by have q9 := NL.put hNM w; rw [← show fn25 = vp_updL fna cn w from hn26] at q9; exact q9), hn24, hn31, by rw [ht]; exact hP9, hD9⟩, hS.F ht⟩) hS.2.2 dX3_addMilestone_125)
        · skip
          refine lv_aload_n hx hb dX3_addMilestone_38 rfl (lv_at hl 1 rfl) ?_
          refine va_get (D := D) (ci := 7) (v := .ref p5) (C := RX3) (T := TX3) (N := 17) hx hb hts inX3 hown hK hP 5 rfl rfl 9 (by decide) (hts (.fieldLink RX3 29 "EscrowDesk$Plan" "byPriority" "[I") (by decide +kernel)) (fun _ h9 => h9) rfl dX3_addMilestone_39 ?_
          refine lv_iload hx hb dX3_addMilestone_42 (lv_at hl 0 rfl) ?_
          refine lv_aload_n hx hb dX3_addMilestone_44 rfl (lv_at hl 1 rfl) ?_
          refine va_get (D := D) (ci := 7) (v := .ref p5) (C := RX3) (T := TX3) (N := 17) hx hb hts inX3 hown hK hP 5 rfl rfl 9 (by decide) (hts (.fieldLink RX3 29 "EscrowDesk$Plan" "byPriority" "[I") (by decide +kernel)) (fun _ h9 => h9) rfl dX3_addMilestone_45 ?_
          refine lv_iload hx hb dX3_addMilestone_48 (lv_at hl 0 rfl) ?_
          refine lv_iconst (v := 1) hx hb dX3_addMilestone_50 (by decide) ?_
          refine lv_isub hx hb dX3_addMilestone_51 ?_
          refine lv_topi (fun yn33 eyn33 => ?_)
          obtain rfl : yn33 = (nI ((0 + n1 + 1) - 1)) := eyn33.trans (nI_sub (a := (0 + n1 + 1)) (b := 1) (by omega))
          obtain ⟨kn34, hn35, hn36⟩ := Rng.get hf0_1 (show ((0 + n1 + 1) - 1) < 10 by omega)
          refine va_iald hx hb hK hP 3 0 rfl rfl (vp_in_nI (n := ((0 + n1 + 1) - 1)) (N := 10) (show ((0 + n1 + 1) - 1) < 10 by omega) (by decide)) dX3_addMilestone_52 ?_
          refine lv_topi (fun yn37 eyn37 => ?_)
          obtain rfl : yn37 = (nI kn34) := eyn37.trans (by first | exact hn36 | (rw [nI_clamp (by omega)]; exact hn36))
          refine va_iast hx hb hK hP hD hS 3 0 rfl rfl (vp_in_nI (n := (0 + n1 + 1)) (N := 10) (show (0 + n1 + 1) < 10 by omega) (by decide)) dX3_addMilestone_53 (fun H locs hP hD hS => ?_)
          obtain ⟨hP, hD⟩ : PDq D A [(p2, .inl (cA 1, 10, .inr (.inl fna))), (p3, .inl (cA 0, 10, .inl fam)), (p4, .inl (cA 0, 10, .inl fpi)), (p5, .inl (cA 0, 10, .inl (upd f3_1 (((nI (0 + n1 + 1))).toNatClampNeg) (nI kn34)))), (p9, .inl (cA 0, 10, .inl fen)), (oX3 p0 pr pb pe pg p1 (nI nd) p2 p3 p4 p5 (nI cn) p6 (nI pq) p7 p8 p9 (nI sc))] H := ⟨hP, hD⟩
          have hn39 : Rng 10 10 (upd f3_1 (((nI (0 + n1 + 1))).toNatClampNeg) (nI kn34)) := Rng.put hf0_1 _ kn34 (by omega)
          generalize (upd f3_1 (((nI (0 + n1 + 1))).toNatClampNeg) (nI kn34)) = fn38 at hP hD hn39
          obtain ⟨hP, hD⟩ : PDq D A [(p2, .inl (cA 1, 10, .inr (.inl fna))), (p3, .inl (cA 0, 10, .inl fam)), (p4, .inl (cA 0, 10, .inl fpi)), (p5, .inl (cA 0, 10, .inl fn38)), (p9, .inl (cA 0, 10, .inl fen)), (oX3 p0 pr pb pe pg p1 (nI nd) p2 p3 p4 p5 (nI cn) p6 (nI pq) p7 p8 p9 (nI sc))] H := ⟨hP, hD⟩
          refine lv_iinc (v := (nI (0 + n1))) (lv' := [(5, .int (nI (0 + n1))), (0, .ref p0), (1, .long w), (3, .int a), (4, .int b)]) hx hb dX3_addMilestone_54 hl (k := 0) rfl (nI_dec (a := (0 + n1 + 1)) (b := (0 + n1)) (by omega)) (by decide) rfl (fun ls hl => ?_)
          refine lv_goto (tgt := 14) hx hb dX3_addMilestone_57 (by decide) ?_
          obtain ⟨hP9, hD9⟩ := PDq.sub (ws' := [(p2, .inl (cA 1, 10, .inr (.inl fna))), (p3, .inl (cA 0, 10, .inl fam)), (p4, .inl (cA 0, 10, .inl fpi)), (p5, .inl (cA 0, 10, .inl fn38)), (p9, .inl (cA 0, 10, .inl fen)), (oX3 p0 pr pb pe pg p1 (nI nd) p2 p3 p4 p5 (nI cn) p6 (nI pq) p7 p8 p9 (nI sc))]) hP hD [0, 1, 2, 3, 4, 5] (by decide) rfl
          exact ih1 fn38 H _ ls hn39 (by omega) hP9 hD9 hS (lv_sub hl [0, 1, 2, 3, 4] rfl)
    obtain ⟨hP9, hD9⟩ := PDq.sub (ws' := [(p2, .inl (cA 1, 10, .inr (.inl fna))), (p3, .inl (cA 0, 10, .inl fam)), (p4, .inl (cA 0, 10, .inl fpi)), (p5, .inl (cA 0, 10, .inl fby)), (p9, .inl (cA 0, 10, .inl fen)), (oX3 p0 pr pb pe pg p1 (nI nd) p2 p3 p4 p5 (nI cn) p6 (nI pq) p7 p8 p9 (nI sc))]) hP hD [0, 1, 2, 3, 4, 5] (by decide) rfl
    exact loop1 (cn) fby _ _ ls hby (by omega) hP9 hD9 hS (by have q9 := lv_sub hl [0, 1, 2, 3, 4] rfl; rw [show cn = 0 + (cn) by omega] at q9; exact q9)
  · skip
    subst hr9
    exact absurd (show cn < 10 by omega) hn2

set_option maxHeartbeats 4000000 in
set_option maxRecDepth 100000 in
/-- readMilestone -/
theorem x_readMilestone_look (l : Launch) (D : va_G) (cA : Nat → ClassId) (sa : Nat → Nat) (r0 : Nat) (p0 : Nat) (ti : Nat) (ln : Nat) (inb : Int32) (iek : Int32) (iep : Int32) (r1 : Nat) (k1 : Nat) (k2 : Nat) (k3 : Nat) (ct : Nat) (fk : Nat → Int32) (ft : Nat → Int32) (fv : Nat → Int64) (fb : Nat → Int32) (gP : Nat → Nat) (gR : Nat → Nat) (p1 : Nat) (p2 : Nat) (p3 : Nat) (p4 : Nat) (p5 : Nat) (p6 : Nat) (p7 : Nat) (p8 : Nat) (p9 : Nat) (cn : Nat) (pq : Nat) (nd : Nat) (sc : Nat) (pr : Int32) (pb : Int32) (pe : Int32) (pg : Int32) (fna : Nat → Int64) (fpn : Nat → Int64) (fst : Nat → Int32) (fop : Nat → Int32) (fam : Nat → Int32) (fpi : Nat → Int32) (fby : Nat → Int32) (fen : Nat → Int32) (ml : List Int64) (pl : List Int64) (sz : Nat) (hct : ct ≤ 701) (hln : ln ≤ 700) (hti : ti < ct) (hTX : TX fb ln ct gP gR ft fv fk) (hsl : 2 * sc ≤ gP ti) (hcn : cn ≤ 10) (hpq : pq ≤ 8) (hnd : nd ≤ 6) (hsc : sc ≤ 350) (hNM : NL ml cn fna) (hNP : NL pl pq fpn) (hby : Rng 10 10 fby) (hen : Rng 10 351 fen) (hk : fk ti = 12) : Met l yX4_readMilestone wsX4_readMilestone ({ frames := 47, cells := 0, slots := 0, locals := 967 }) (va_Pc [.ref r0] (Wd D cA sa [(oX4 r0 r1 p0 (nI ti) (fk ti) (ft ti) (fv ti) inb iek iep), (oX5 r1 k1 k2 k3 (nI ct)), (k1, .inl (cA 0, 701, .inl fk)), (k2, .inl (cA 0, 701, .inl ft)), (k3, .inl (cA 1, 701, .inr (.inl fv))), (oX3 p0 pr pb pe pg p1 (nI nd) p2 p3 p4 p5 (nI cn) p6 (nI pq) p7 p8 p9 (nI sc)), (p2, .inl (cA 1, 10, .inr (.inl fna))), (p6, .inl (cA 1, 8, .inr (.inl fpn))), (p7, .inl (cA 0, 350, .inl fst)), (p8, .inl (cA 0, 350, .inl fop)), (p3, .inl (cA 0, 10, .inl fam)), (p4, .inl (cA 0, 10, .inl fpi)), (p5, .inl (cA 0, 10, .inl fby)), (p9, .inl (cA 0, 10, .inl fen))] sz)) (va_Qi (fun (r : Int32) (u9 : Int32) => u9 = r ∧ (r = 0 ∨ r = 1)) (fun (u9 : Int32) t => ∃ tj : Nat, ∃ znr : Int32, ∃ zek : Int32, ∃ zep : Int32, ∃ cm : Nat, ∃ qm : Nat, ∃ sm : Nat, ∃ zna : Nat → Int64, ∃ zpn : Nat → Int64, ∃ zst : Nat → Int32, ∃ zop : Nat → Int32, ∃ zam : Nat → Int32, ∃ zpi : Nat → Int32, ∃ zby : Nat → Int32, ∃ zen : Nat → Int32, ∃ zml : List Int64, ∃ zpl : List Int64, tj < ct ∧ gP tj ≤ ln ∧ cm ≤ 10 ∧ qm ≤ 8 ∧ sm ≤ 350 ∧ NL zml cm zna ∧ NL zpl qm zpn ∧ Rng 10 10 zby ∧ Rng 10 351 zen ∧ (u9 = 1 → zek = iek) ∧ (u9 = 1 → zep = iep) ∧ (u9 = 1 → ti + 2 ≤ tj) ∧ (u9 = 1 → 2 * sm ≤ gP tj) ∧ (u9 = 1 → ST9 fk ft fv ti nd ml pl tj nd zml zpl) ∧ (u9 = 0 → SE9 fk ft fv ti nd ml pl zek zep) ∧ Wq D (va_A [(oX4 r0 r1 p0 (nI ti) (fk ti) (ft ti) (fv ti) inb iek iep), (oX5 r1 k1 k2 k3 (nI ct)), (k1, .inl (cA 0, 701, .inl fk)), (k2, .inl (cA 0, 701, .inl ft)), (k3, .inl (cA 1, 701, .inr (.inl fv))), (oX3 p0 pr pb pe pg p1 (nI nd) p2 p3 p4 p5 (nI cn) p6 (nI pq) p7 p8 p9 (nI sc)), (p2, .inl (cA 1, 10, .inr (.inl fna))), (p6, .inl (cA 1, 8, .inr (.inl fpn))), (p7, .inl (cA 0, 350, .inl fst)), (p8, .inl (cA 0, 350, .inl fop)), (p3, .inl (cA 0, 10, .inl fam)), (p4, .inl (cA 0, 10, .inl fpi)), (p5, .inl (cA 0, 10, .inl fby)), (p9, .inl (cA 0, 10, .inl fen))] sz) [(oX4 r0 r1 p0 (nI tj) (fk tj) (ft tj) (fv tj) znr zek zep), (oX5 r1 k1 k2 k3 (nI ct)), (k1, .inl (cA 0, 701, .inl fk)), (k2, .inl (cA 0, 701, .inl ft)), (k3, .inl (cA 1, 701, .inr (.inl fv))), (oX3 p0 pr pb pe pg p1 (nI nd) p2 p3 p4 p5 (nI cm) p6 (nI qm) p7 p8 p9 (nI sm)), (p2, .inl (cA 1, 10, .inr (.inl zna))), (p6, .inl (cA 1, 8, .inr (.inl zpn))), (p7, .inl (cA 0, 350, .inl zst)), (p8, .inl (cA 0, 350, .inl zop)), (p3, .inl (cA 0, 10, .inl zam)), (p4, .inl (cA 0, 10, .inl zpi)), (p5, .inl (cA 0, 10, .inl zby)), (p9, .inl (cA 0, 10, .inl zen))] t) (va_A [(oX4 r0 r1 p0 (nI ti) (fk ti) (ft ti) (fv ti) inb iek iep), (oX5 r1 k1 k2 k3 (nI ct)), (k1, .inl (cA 0, 701, .inl fk)), (k2, .inl (cA 0, 701, .inl ft)), (k3, .inl (cA 1, 701, .inr (.inl fv))), (oX3 p0 pr pb pe pg p1 (nI nd) p2 p3 p4 p5 (nI cn) p6 (nI pq) p7 p8 p9 (nI sc)), (p2, .inl (cA 1, 10, .inr (.inl fna))), (p6, .inl (cA 1, 8, .inr (.inl fpn))), (p7, .inl (cA 0, 350, .inl fst)), (p8, .inl (cA 0, 350, .inl fop)), (p3, .inl (cA 0, 10, .inl fam)), (p4, .inl (cA 0, 10, .inl fpi)), (p5, .inl (cA 0, 10, .inl fby)), (p9, .inl (cA 0, 10, .inl fen))] sz)) 0 0 (va_A [(oX4 r0 r1 p0 (nI ti) (fk ti) (ft ti) (fv ti) inb iek iep), (oX5 r1 k1 k2 k3 (nI ct)), (k1, .inl (cA 0, 701, .inl fk)), (k2, .inl (cA 0, 701, .inl ft)), (k3, .inl (cA 1, 701, .inr (.inl fv))), (oX3 p0 pr pb pe pg p1 (nI nd) p2 p3 p4 p5 (nI cn) p6 (nI pq) p7 p8 p9 (nI sc)), (p2, .inl (cA 1, 10, .inr (.inl fna))), (p6, .inl (cA 1, 8, .inr (.inl fpn))), (p7, .inl (cA 0, 350, .inl fst)), (p8, .inl (cA 0, 350, .inl fop)), (p3, .inl (cA 0, 10, .inl fam)), (p4, .inl (cA 0, 10, .inl fpi)), (p5, .inl (cA 0, 10, .inl fby)), (p9, .inl (cA 0, 10, .inl fen))] sz) := by
  refine Met.ofW (cc := cX4_readMilestone) (maxL := 5) (ret := (some .boolean)) (by decide) rfl ?_
  intro p e s m args below meth c s₁ B hml hv
  obtain ⟨rfl, hsz, hP, hK, hD0, hC, hZ⟩ := hv
  have hx := B.exec
  have hb := B.bytes
  have hr := B.returns
  have hts := atoms_spec (ws := wsX4_readMilestone) B.pre
  have hown : s.vm.findClass RX4 = some m.cls := findClass_of_methodNamed B.named
  have hlocks := B.notSynchronized
  subst hsz
  have hD := hD0.self (sz := s.heap.size)
  generalize hAe : va_A [(oX4 r0 r1 p0 (nI ti) (fk ti) (ft ti) (fv ti) inb iek iep), (oX5 r1 k1 k2 k3 (nI ct)), (k1, .inl (cA 0, 701, .inl fk)), (k2, .inl (cA 0, 701, .inl ft)), (k3, .inl (cA 1, 701, .inr (.inl fv))), (oX3 p0 pr pb pe pg p1 (nI nd) p2 p3 p4 p5 (nI cn) p6 (nI pq) p7 p8 p9 (nI sc)), (p2, .inl (cA 1, 10, .inr (.inl fna))), (p6, .inl (cA 1, 8, .inr (.inl fpn))), (p7, .inl (cA 0, 350, .inl fst)), (p8, .inl (cA 0, 350, .inl fop)), (p3, .inl (cA 0, 10, .inl fam)), (p4, .inl (cA 0, 10, .inl fpi)), (p5, .inl (cA 0, 10, .inl fby)), (p9, .inl (cA 0, 10, .inl fen))] s.heap.size = A at hD hZ ⊢
  have hA : ∀ q : Nat, s.heap.size ≤ q → A q := fun q h => by rw [← hAe]; exact Or.inr h
  have hS : va_S A s.heap s.heap [] := va_S.rf
  have hP : va_P D vwCl [(oX4 r0 r1 p0 (nI ti) (fk ti) (ft ti) (fv ti) inb iek iep), (oX5 r1 k1 k2 k3 (nI ct)), (k1, .inl (cA 0, 701, .inl fk)), (k2, .inl (cA 0, 701, .inl ft)), (k3, .inl (cA 1, 701, .inr (.inl fv))), (oX3 p0 pr pb pe pg p1 (nI nd) p2 p3 p4 p5 (nI cn) p6 (nI pq) p7 p8 p9 (nI sc)), (p2, .inl (cA 1, 10, .inr (.inl fna))), (p6, .inl (cA 1, 8, .inr (.inl fpn))), (p7, .inl (cA 0, 350, .inl fst)), (p8, .inl (cA 0, 350, .inl fop)), (p3, .inl (cA 0, 10, .inl fam)), (p4, .inl (cA 0, 10, .inl fpi)), (p5, .inl (cA 0, 10, .inl fby)), (p9, .inl (cA 0, 10, .inl fen))] s.heap := hP
  have hl := lv_entry ([.ref r0]) (n := 5) (Nat.le_of_ble_eq_true rfl)
  rw [lg_entry_eq]
  generalize (lg_sl ([.ref r0]) ++ List.replicate (5 - (lg_sl ([.ref r0])).length) Slot.unset).toArray = ls at hl ⊢
  have hl : lv_has ls 5 [(0, .ref r0)] := hl
  have inX4 : ∀ w ∈ u_ws RX4 TX4 9, w ∈ wsX4_readMilestone := by decide +kernel
  have hle9 := TX.le hTX hti
  have hn1 := TX.go2 hTX hti (by rw [hk]; decide)
  refine lv_aload_n hx hb dX4_readMilestone_0 rfl (lv_at hl 0 rfl) ?_
  refine va_get (D := D) (ci := 8) (v := .ref p0) (C := RX4) (T := TX4) (N := 9) hx hb hts inX4 hown hK hP 0 rfl rfl 1 (by decide) (hts (.fieldLink RX4 25 "EscrowDesk$Reader" "plan" "LEscrowDesk$Plan;") (by decide +kernel)) (fun _ h9 => h9) rfl dX4_readMilestone_1 ?_
  obtain ⟨hPc, hDc, hFc⟩ := PDq.cut (wc := [(oX3 p0 pr pb pe pg p1 (nI nd) p2 p3 p4 p5 (nI cn) p6 (nI pq) p7 p8 p9 (nI sc))]) hP hD hS hA [5] (by decide) rfl
  refine va_calli (va_runV (As := []) (rest := []) ⟨hx, hb, hml, hown, hts⟩ (x_roomMil l D cA sa p0 p1 p2 p3 p4 p5 p6 p7 p8 p9 cn pq nd sc pr pb pe pg s.heap.size hcn hpq hnd hsc) (cwV 0 hts gX4_readMilestone_X3_hasRoomForMilestone rfl rfl rfl (by decide +kernel) ⟨(Nat.le_of_ble_eq_true rfl), (Nat.le_of_ble_eq_true rfl)⟩) ⟨Wd.blind, va_recv hK hPc (ci := 7) (q0 := 0) rfl rfl, fun U hU hW => ⟨rfl, Wd.call hPc hDc hK hC hZ hS hFc U hU hW⟩⟩ rfl rfl hl.1 rfl (lv_room (Nat.le_of_ble_eq_true rfl)) dX4_readMilestone_4 ⟨(Nat.le_of_ble_eq_true rfl), (Nat.le_of_ble_eq_true rfl)⟩) hS (fun q _ h => hFc q h) hFc (fun rn2 u t H1 locs ht hvm hw hB hz1 hk1 hS => ?_)
  obtain ⟨hP1, hD1⟩ := hB
  rw [ht] at hP1
  obtain ⟨hP, hD⟩ := PDq.join (w := [(oX4 r0 r1 p0 (nI ti) (fk ti) (ft ti) (fv ti) inb iek iep), (oX5 r1 k1 k2 k3 (nI ct)), (k1, .inl (cA 0, 701, .inl fk)), (k2, .inl (cA 0, 701, .inl ft)), (k3, .inl (cA 1, 701, .inr (.inl fv))), (p2, .inl (cA 1, 10, .inr (.inl fna))), (p6, .inl (cA 1, 8, .inr (.inl fpn))), (p7, .inl (cA 0, 350, .inl fst)), (p8, .inl (cA 0, 350, .inl fop)), (p3, .inl (cA 0, 10, .inl fam)), (p4, .inl (cA 0, 10, .inl fpi)), (p5, .inl (cA 0, 10, .inl fby)), (p9, .inl (cA 0, 10, .inl fen)), (oX3 p0 pr pb pe pg p1 (nI nd) p2 p3 p4 p5 (nI cn) p6 (nI pq) p7 p8 p9 (nI sc))]) 13 hP hD [5] [0, 1, 2, 3, 4, 6, 7, 8, 9, 10, 11, 12, 13] rfl rfl (by decide +kernel) (by decide +kernel) hk1 hFc hP1 hD1 rfl
  generalize H1 = H at hP hS ⊢
  rcases hw with ⟨hr9, hn3⟩ | ⟨hr9, hn3⟩
  · skip
    subst hr9
    refine lv_if_ne (tgt := 16) hx hb dX4_readMilestone_7 (by decide) (fun c4 => ?_) (fun c9 => absurd c9 (by decide))
    refine lv_aload_n hx hb dX4_readMilestone_16 rfl (lv_at hl 0 rfl) ?_
    refine lv_aload_n hx hb dX4_readMilestone_17 rfl (lv_at hl 0 rfl) ?_
    refine va_get (D := D) (ci := 8) (v := .int (nI ti)) (C := RX4) (T := TX4) (N := 9) hx hb hts inX4 hown hK hP 0 rfl rfl 2 (by decide) (hts (.fieldLink RX4 70 "EscrowDesk$Reader" "token" "I") (by decide +kernel)) (fun _ h9 => h9) rfl dX4_readMilestone_18 ?_
    refine lv_iconst (v := 1) hx hb dX4_readMilestone_21 (by decide) ?_
    refine lv_iadd hx hb dX4_readMilestone_22 ?_
    refine lv_topi (fun yn5 eyn5 => ?_)
    obtain rfl : yn5 = (nI (ti + 1)) := eyn5.trans (nI_add ti 1)
    obtain ⟨hPc, hDc, hFc⟩ := PDq.cut (wc := [(oX4 r0 r1 p0 (nI ti) (fk ti) (ft ti) (fv ti) inb iek iep), (oX5 r1 k1 k2 k3 (nI ct)), (k1, .inl (cA 0, 701, .inl fk)), (k2, .inl (cA 0, 701, .inl ft)), (k3, .inl (cA 1, 701, .inr (.inl fv)))]) hP hD hS hA [0, 1, 2, 3, 4] (by decide) rfl
    refine va_callv (va_runV (As := [.int (nI (ti + 1))]) (rest := []) ⟨hx, hb, hml, hown, hts⟩ (x_lookAt l D cA sa r0 p0 (ti + 1) (nI ti) (fk ti) (ft ti) inb iek iep (fv ti) r1 k1 k2 k3 ct fk ft fv H.size hct hn1.1) (cwV 1 hts gX4_readMilestone_X4_lookAt rfl rfl rfl (by decide +kernel) ⟨(Nat.le_of_ble_eq_true rfl), (Nat.le_of_ble_eq_true rfl)⟩) ⟨Wd.blind, va_recv hK hPc (ci := 8) (q0 := 0) rfl rfl, fun U hU hW => ⟨rfl, Wd.call hPc hDc hK hC hZ hS hFc U hU hW⟩⟩ rfl rfl hl.1 rfl (lv_room (Nat.le_of_ble_eq_true rfl)) dX4_readMilestone_23 ⟨(Nat.le_of_ble_eq_true rfl), (Nat.le_of_ble_eq_true rfl)⟩) hS (fun q _ h => hFc q h) hFc (fun u t H1 locs ht hvm hw hB hz1 hk1 hS => ?_)
    obtain ⟨hP1, hD1⟩ := hB
    rw [ht] at hP1
    obtain ⟨hP, hD⟩ := PDq.join (w := [(p2, .inl (cA 1, 10, .inr (.inl fna))), (p6, .inl (cA 1, 8, .inr (.inl fpn))), (p7, .inl (cA 0, 350, .inl fst)), (p8, .inl (cA 0, 350, .inl fop)), (p3, .inl (cA 0, 10, .inl fam)), (p4, .inl (cA 0, 10, .inl fpi)), (p5, .inl (cA 0, 10, .inl fby)), (p9, .inl (cA 0, 10, .inl fen)), (oX3 p0 pr pb pe pg p1 (nI nd) p2 p3 p4 p5 (nI cn) p6 (nI pq) p7 p8 p9 (nI sc)), (oX4 r0 r1 p0 (nI (ti + 1)) (fk (ti + 1)) (ft (ti + 1)) (fv (ti + 1)) inb iek iep), (oX5 r1 k1 k2 k3 (nI ct)), (k1, .inl (cA 0, 701, .inl fk)), (k2, .inl (cA 0, 701, .inl ft)), (k3, .inl (cA 1, 701, .inr (.inl fv)))]) 9 hP hD [0, 1, 2, 3, 4] [5, 6, 7, 8, 9, 10, 11, 12, 13] rfl rfl (by decide +kernel) (by decide +kernel) hk1 hFc hP1 hD1 rfl
    generalize H1 = H at hP hS ⊢
    refine lv_aload_n hx hb dX4_readMilestone_26 rfl (lv_at hl 0 rfl) ?_
    refine va_get (D := D) (ci := 8) (v := .long (fv (ti + 1))) (C := RX4) (T := TX4) (N := 9) hx hb hts inX4 hown hK hP 9 rfl rfl 5 (by decide) (hts (.fieldLink RX4 87 "EscrowDesk$Reader" "value" "J") (by decide +kernel)) (fun _ h9 => h9) rfl dX4_readMilestone_27 ?_
    refine lv_lstore_n (lv' := [(1, .long (fv (ti + 1))), (0, .ref r0)]) hx hb dX4_readMilestone_30 rfl hl (by decide) rfl (fun ls hl => ?_)
    refine lv_aload_n hx hb dX4_readMilestone_31 rfl (lv_at hl 1 rfl) ?_
    refine va_get (D := D) (ci := 8) (v := .int (fk (ti + 1))) (C := RX4) (T := TX4) (N := 9) hx hb hts inX4 hown hK hP 9 rfl rfl 3 (by decide) (hts (.fieldLink RX4 42 "EscrowDesk$Reader" "kind" "I") (by decide +kernel)) (fun _ h9 => h9) rfl dX4_readMilestone_32 ?_
    refine lv_iconst (v := 4) hx hb dX4_readMilestone_35 (by decide) ?_
    refine lv_icmp_ne (tgt := 57) hx hb dX4_readMilestone_36 (by decide) (fun c6 => ?_) (fun c6 => ?_)
    · skip
      refine lv_aload_n hx hb dX4_readMilestone_57 rfl (lv_at hl 1 rfl) ?_
      refine lv_iconst (v := 4) hx hb dX4_readMilestone_58 (by decide) ?_
      obtain ⟨hPc, hDc, hFc⟩ := PDq.cut (wc := [(oX4 r0 r1 p0 (nI (ti + 1)) (fk (ti + 1)) (ft (ti + 1)) (fv (ti + 1)) inb iek iep), (oX5 r1 k1 k2 k3 (nI ct)), (k1, .inl (cA 0, 701, .inl fk)), (k2, .inl (cA 0, 701, .inl ft)), (k3, .inl (cA 1, 701, .inr (.inl fv)))]) hP hD hS hA [9, 10, 11, 12, 13] (by decide) rfl
      refine va_calli (va_runV (As := [.int 4]) (rest := []) ⟨hx, hb, hml, hown, hts⟩ (x_take l D cA sa r0 p0 (ti + 1) ln inb iek iep r1 k1 k2 k3 ct fk ft fv fb gP gR 4 H.size hct hln hn1.1 hTX (by decide)) (cwV 1 hts gX4_readMilestone_X4_take rfl rfl rfl (by decide +kernel) ⟨(Nat.le_of_ble_eq_true rfl), (Nat.le_of_ble_eq_true rfl)⟩) ⟨Wd.blind, va_recv hK hPc (ci := 8) (q0 := 0) rfl rfl, fun U hU hW => ⟨rfl, Wd.call hPc hDc hK hC hZ hS hFc U hU hW⟩⟩ rfl rfl hl.1 rfl (lv_room (Nat.le_of_ble_eq_true rfl)) dX4_readMilestone_59 ⟨(Nat.le_of_ble_eq_true rfl), (Nat.le_of_ble_eq_true rfl)⟩) hS (fun q _ h => hFc q h) hFc (fun rn7 u t H1 locs ht hvm hw hB hz1 hk1 hS => ?_)
      obtain ⟨qn8, zn9, zn10, hn11, hn12, hn13, hn14, hn15, hn16, hn17, hn18, hn19, hn20, hn21, hP1, hD1⟩ := hB
      rw [ht] at hP1
      obtain ⟨hP, hD⟩ := PDq.join (w := [(p2, .inl (cA 1, 10, .inr (.inl fna))), (p6, .inl (cA 1, 8, .inr (.inl fpn))), (p7, .inl (cA 0, 350, .inl fst)), (p8, .inl (cA 0, 350, .inl fop)), (p3, .inl (cA 0, 10, .inl fam)), (p4, .inl (cA 0, 10, .inl fpi)), (p5, .inl (cA 0, 10, .inl fby)), (p9, .inl (cA 0, 10, .inl fen)), (oX3 p0 pr pb pe pg p1 (nI nd) p2 p3 p4 p5 (nI cn) p6 (nI pq) p7 p8 p9 (nI sc)), (oX4 r0 r1 p0 (nI qn8) (fk qn8) (ft qn8) (fv qn8) inb zn9 zn10), (oX5 r1 k1 k2 k3 (nI ct)), (k1, .inl (cA 0, 701, .inl fk)), (k2, .inl (cA 0, 701, .inl ft)), (k3, .inl (cA 1, 701, .inr (.inl fv)))]) 9 hP hD [9, 10, 11, 12, 13] [0, 1, 2, 3, 4, 5, 6, 7, 8] rfl rfl (by decide +kernel) (by decide +kernel) hk1 hFc hP1 hD1 rfl
      generalize H1 = H at hP hS ⊢
      rcases hw.2 with hr9 | hr9
      · skip
        have hn19 := hn19 (hw.1.trans hr9)
        have hn20 := hn20 (hw.1.trans hr9)
        have hn21 := hn21 (hw.1.trans hr9)
        subst hr9
        refine lv_if_eq (tgt := 75) hx hb dX4_readMilestone_62 (by decide) (fun c22 => ?_) (fun c9 => absurd c9 (by decide))
        refine lv_iconst (v := 0) hx hb dX4_readMilestone_75 (by decide) ?_
        obtain ⟨hP9, hD9⟩ := PDq.sub (ws' := [(oX4 r0 r1 p0 (nI qn8) (fk qn8) (ft qn8) (fv qn8) inb zn9 zn10), (oX5 r1 k1 k2 k3 (nI ct)), (k1, .inl (cA 0, 701, .inl fk)), (k2, .inl (cA 0, 701, .inl ft)), (k3, .inl (cA 1, 701, .inr (.inl fv))), (oX3 p0 pr pb pe pg p1 (nI nd) p2 p3 p4 p5 (nI cn) p6 (nI pq) p7 p8 p9 (nI sc)), (p2, .inl (cA 1, 10, .inr (.inl fna))), (p6, .inl (cA 1, 8, .inr (.inl fpn))), (p7, .inl (cA 0, 350, .inl fst)), (p8, .inl (cA 0, 350, .inl fop)), (p3, .inl (cA 0, 10, .inl fam)), (p4, .inl (cA 0, 10, .inl fpi)), (p5, .inl (cA 0, 10, .inl fby)), (p9, .inl (cA 0, 10, .inl fen))]) hP hD [9, 10, 11, 12, 13, 8, 0, 1, 2, 3, 4, 5, 6, 7] (by decide +kernel) rfl
        refine W.widen (k := 0) (n := 0) (Nat.le_of_ble_eq_true rfl) (Nat.le_of_ble_eq_true rfl) ?_
        exact (W.zret (v := 0) hx hb hr (by first | rfl | decide) (fun t ht hW => ⟨⟨0, 0, rfl, ⟨rfl, by decide⟩, qn8, inb, zn9, zn10, cn, pq, sc, fna, fpn, fst, fop, fam, fpi, fby, fen, ml, pl, hn11, hn12, hcn, hpq, hsc, hNM, hNP, hby, hen, (fun h9 => absurd h9 (by decide)), (fun h9 => absurd h9 (by decide)), (fun h9 => absurd h9 (by decide)), (fun h9 => absurd h9 (by decide)), (fun h9 => absurd h9 (by decide)), (fun _ => (Or.inl (S_milNx hk (fun q9 => absurd (hNM.1.symm.trans q9) (by omega)) hn21 hn19 hn20))), by rw [ht]; exact hP9, hD9⟩, hS.F ht⟩) hS.2.2 dX4_readMilestone_76)
      · skip
        have hn14 := hn14 (hw.1.trans hr9)
        subst hn14
        obtain ⟨hP, hD⟩ : PDq D A [(p2, .inl (cA 1, 10, .inr (.inl fna))), (p6, .inl (cA 1, 8, .inr (.inl fpn))), (p7, .inl (cA 0, 350, .inl fst)), (p8, .inl (cA 0, 350, .inl fop)), (p3, .inl (cA 0, 10, .inl fam)), (p4, .inl (cA 0, 10, .inl fpi)), (p5, .inl (cA 0, 10, .inl fby)), (p9, .inl (cA 0, 10, .inl fen)), (oX3 p0 pr pb pe pg p1 (nI nd) p2 p3 p4 p5 (nI cn) p6 (nI pq) p7 p8 p9 (nI sc)), (oX4 r0 r1 p0 (nI ((ti + 1) + 1)) (fk ((ti + 1) + 1)) (ft ((ti + 1) + 1)) (fv ((ti + 1) + 1)) inb zn9 zn10), (oX5 r1 k1 k2 k3 (nI ct)), (k1, .inl (cA 0, 701, .inl fk)), (k2, .inl (cA 0, 701, .inl ft)), (k3, .inl (cA 1, 701, .inr (.inl fv)))] H := ⟨hP, hD⟩
        have hn15 := hn15 (hw.1.trans hr9)
        obtain rfl : iek = zn9 := hn15.symm
        obtain ⟨hP, hD⟩ : PDq D A [(p2, .inl (cA 1, 10, .inr (.inl fna))), (p6, .inl (cA 1, 8, .inr (.inl fpn))), (p7, .inl (cA 0, 350, .inl fst)), (p8, .inl (cA 0, 350, .inl fop)), (p3, .inl (cA 0, 10, .inl fam)), (p4, .inl (cA 0, 10, .inl fpi)), (p5, .inl (cA 0, 10, .inl fby)), (p9, .inl (cA 0, 10, .inl fen)), (oX3 p0 pr pb pe pg p1 (nI nd) p2 p3 p4 p5 (nI cn) p6 (nI pq) p7 p8 p9 (nI sc)), (oX4 r0 r1 p0 (nI ((ti + 1) + 1)) (fk ((ti + 1) + 1)) (ft ((ti + 1) + 1)) (fv ((ti + 1) + 1)) inb iek zn10), (oX5 r1 k1 k2 k3 (nI ct)), (k1, .inl (cA 0, 701, .inl fk)), (k2, .inl (cA 0, 701, .inl ft)), (k3, .inl (cA 1, 701, .inr (.inl fv)))] H := ⟨hP, hD⟩
        have hn16 := hn16 (hw.1.trans hr9)
        obtain rfl : iep = zn10 := hn16.symm
        obtain ⟨hP, hD⟩ : PDq D A [(p2, .inl (cA 1, 10, .inr (.inl fna))), (p6, .inl (cA 1, 8, .inr (.inl fpn))), (p7, .inl (cA 0, 350, .inl fst)), (p8, .inl (cA 0, 350, .inl fop)), (p3, .inl (cA 0, 10, .inl fam)), (p4, .inl (cA 0, 10, .inl fpi)), (p5, .inl (cA 0, 10, .inl fby)), (p9, .inl (cA 0, 10, .inl fen)), (oX3 p0 pr pb pe pg p1 (nI nd) p2 p3 p4 p5 (nI cn) p6 (nI pq) p7 p8 p9 (nI sc)), (oX4 r0 r1 p0 (nI ((ti + 1) + 1)) (fk ((ti + 1) + 1)) (ft ((ti + 1) + 1)) (fv ((ti + 1) + 1)) inb iek iep), (oX5 r1 k1 k2 k3 (nI ct)), (k1, .inl (cA 0, 701, .inl fk)), (k2, .inl (cA 0, 701, .inl ft)), (k3, .inl (cA 1, 701, .inr (.inl fv)))] H := ⟨hP, hD⟩
        have hn17 := hn17 (hw.1.trans hr9)
        have hn18 := hn18 (hw.1.trans hr9)
        subst hr9
        exact absurd hn18 c6
    · skip
      refine lv_aload_n hx hb dX4_readMilestone_39 rfl (lv_at hl 1 rfl) ?_
      refine va_get (D := D) (ci := 8) (v := .ref p0) (C := RX4) (T := TX4) (N := 9) hx hb hts inX4 hown hK hP 9 rfl rfl 1 (by decide) (hts (.fieldLink RX4 25 "EscrowDesk$Reader" "plan" "LEscrowDesk$Plan;") (by decide +kernel)) (fun _ h9 => h9) rfl dX4_readMilestone_40 ?_
      refine lv_lload_n hx hb dX4_readMilestone_43 rfl (lv_at hl 0 rfl) ?_
      obtain ⟨hPc, hDc, hFc⟩ := PDq.cut (wc := [(oX3 p0 pr pb pe pg p1 (nI nd) p2 p3 p4 p5 (nI cn) p6 (nI pq) p7 p8 p9 (nI sc)), (p2, .inl (cA 1, 10, .inr (.inl fna)))]) hP hD hS hA [8, 0] (by decide) rfl
      refine va_calli (va_runV (As := [.long (fv (ti + 1))]) (rest := []) ⟨hx, hb, hml, hown, hts⟩ (x_milNamed l D cA sa p0 p1 p2 p3 p4 p5 p6 p7 p8 p9 cn pq nd sc pr pb pe pg (fv (ti + 1)) fna H.size hcn hpq hnd hsc) (cwV 1 hts gX4_readMilestone_X3_milestoneNamed rfl rfl rfl (by decide +kernel) ⟨(Nat.le_of_ble_eq_true rfl), (Nat.le_of_ble_eq_true rfl)⟩) ⟨Wd.blind, va_recv hK hPc (ci := 7) (q0 := 0) rfl rfl, fun U hU hW => ⟨rfl, Wd.call hPc hDc hK hC hZ hS hFc U hU hW⟩⟩ rfl rfl hl.1 rfl (lv_room (Nat.le_of_ble_eq_true rfl)) dX4_readMilestone_44 ⟨(Nat.le_of_ble_eq_true rfl), (Nat.le_of_ble_eq_true rfl)⟩) hS (fun q _ h => hFc q h) hFc (fun rn23 u t H1 locs ht hvm hw hB hz1 hk1 hS => ?_)
      obtain ⟨hP1, hD1⟩ := hB
      rw [ht] at hP1
      obtain ⟨hP, hD⟩ := PDq.join (w := [(p6, .inl (cA 1, 8, .inr (.inl fpn))), (p7, .inl (cA 0, 350, .inl fst)), (p8, .inl (cA 0, 350, .inl fop)), (p3, .inl (cA 0, 10, .inl fam)), (p4, .inl (cA 0, 10, .inl fpi)), (p5, .inl (cA 0, 10, .inl fby)), (p9, .inl (cA 0, 10, .inl fen)), (oX4 r0 r1 p0 (nI (ti + 1)) (fk (ti + 1)) (ft (ti + 1)) (fv (ti + 1)) inb iek iep), (oX5 r1 k1 k2 k3 (nI ct)), (k1, .inl (cA 0, 701, .inl fk)), (k2, .inl (cA 0, 701, .inl ft)), (k3, .inl (cA 1, 701, .inr (.inl fv))), (oX3 p0 pr pb pe pg p1 (nI nd) p2 p3 p4 p5 (nI cn) p6 (nI pq) p7 p8 p9 (nI sc)), (p2, .inl (cA 1, 10, .inr (.inl fna)))]) 12 hP hD [8, 0] [1, 2, 3, 4, 5, 6, 7, 9, 10, 11, 12, 13] rfl rfl (by decide +kernel) (by decide +kernel) hk1 hFc hP1 hD1 rfl
      generalize H1 = H at hP hS ⊢
      rcases hw with ⟨hr9, hn24⟩ | ⟨kn25, hn26, hr9, hn24⟩
      · skip
        subst hr9
        have hn24 := NL.not hNM hn24
        refine lv_iconst (v := (-1)) hx hb dX4_readMilestone_47 (by decide) ?_
        refine lv_icmp_eq (tgt := 57) hx hb dX4_readMilestone_48 (by decide) (fun c27 => ?_) (fun c9 => absurd c9 (by decide))
        refine lv_aload_n hx hb dX4_readMilestone_57 rfl (lv_at hl 1 rfl) ?_
        refine lv_iconst (v := 4) hx hb dX4_readMilestone_58 (by decide) ?_
        obtain ⟨hPc, hDc, hFc⟩ := PDq.cut (wc := [(oX4 r0 r1 p0 (nI (ti + 1)) (fk (ti + 1)) (ft (ti + 1)) (fv (ti + 1)) inb iek iep), (oX5 r1 k1 k2 k3 (nI ct)), (k1, .inl (cA 0, 701, .inl fk)), (k2, .inl (cA 0, 701, .inl ft)), (k3, .inl (cA 1, 701, .inr (.inl fv)))]) hP hD hS hA [7, 8, 9, 10, 11] (by decide) rfl
        refine va_calli (va_runV (As := [.int 4]) (rest := []) ⟨hx, hb, hml, hown, hts⟩ (x_take l D cA sa r0 p0 (ti + 1) ln inb iek iep r1 k1 k2 k3 ct fk ft fv fb gP gR 4 H.size hct hln hn1.1 hTX (by decide)) (cwV 1 hts gX4_readMilestone_X4_take rfl rfl rfl (by decide +kernel) ⟨(Nat.le_of_ble_eq_true rfl), (Nat.le_of_ble_eq_true rfl)⟩) ⟨Wd.blind, va_recv hK hPc (ci := 8) (q0 := 0) rfl rfl, fun U hU hW => ⟨rfl, Wd.call hPc hDc hK hC hZ hS hFc U hU hW⟩⟩ rfl rfl hl.1 rfl (lv_room (Nat.le_of_ble_eq_true rfl)) dX4_readMilestone_59 ⟨(Nat.le_of_ble_eq_true rfl), (Nat.le_of_ble_eq_true rfl)⟩) hS (fun q _ h => hFc q h) hFc (fun rn28 u t H1 locs ht hvm hw hB hz1 hk1 hS => ?_)
        obtain ⟨qn29, zn30, zn31, hn32, hn33, hn34, hn35, hn36, hn37, hn38, hn39, hn40, hn41, hn42, hP1, hD1⟩ := hB
        rw [ht] at hP1
        obtain ⟨hP, hD⟩ := PDq.join (w := [(p6, .inl (cA 1, 8, .inr (.inl fpn))), (p7, .inl (cA 0, 350, .inl fst)), (p8, .inl (cA 0, 350, .inl fop)), (p3, .inl (cA 0, 10, .inl fam)), (p4, .inl (cA 0, 10, .inl fpi)), (p5, .inl (cA 0, 10, .inl fby)), (p9, .inl (cA 0, 10, .inl fen)), (oX3 p0 pr pb pe pg p1 (nI nd) p2 p3 p4 p5 (nI cn) p6 (nI pq) p7 p8 p9 (nI sc)), (p2, .inl (cA 1, 10, .inr (.inl fna))), (oX4 r0 r1 p0 (nI qn29) (fk qn29) (ft qn29) (fv qn29) inb zn30 zn31), (oX5 r1 k1 k2 k3 (nI ct)), (k1, .inl (cA 0, 701, .inl fk)), (k2, .inl (cA 0, 701, .inl ft)), (k3, .inl (cA 1, 701, .inr (.inl fv)))]) 9 hP hD [7, 8, 9, 10, 11] [0, 1, 2, 3, 4, 5, 6, 12, 13] rfl rfl (by decide +kernel) (by decide +kernel) hk1 hFc hP1 hD1 rfl
        generalize H1 = H at hP hS ⊢
        rcases hw.2 with hr9 | hr9
        · skip
          have hn40 := hn40 (hw.1.trans hr9)
          have hn41 := hn41 (hw.1.trans hr9)
          have hn42 := hn42 (hw.1.trans hr9)
          subst hr9
          refine lv_if_eq (tgt := 75) hx hb dX4_readMilestone_62 (by decide) (fun c43 => ?_) (fun c9 => absurd c9 (by decide))
          refine lv_iconst (v := 0) hx hb dX4_readMilestone_75 (by decide) ?_
          obtain ⟨hP9, hD9⟩ := PDq.sub (ws' := [(oX4 r0 r1 p0 (nI qn29) (fk qn29) (ft qn29) (fv qn29) inb zn30 zn31), (oX5 r1 k1 k2 k3 (nI ct)), (k1, .inl (cA 0, 701, .inl fk)), (k2, .inl (cA 0, 701, .inl ft)), (k3, .inl (cA 1, 701, .inr (.inl fv))), (oX3 p0 pr pb pe pg p1 (nI nd) p2 p3 p4 p5 (nI cn) p6 (nI pq) p7 p8 p9 (nI sc)), (p2, .inl (cA 1, 10, .inr (.inl fna))), (p6, .inl (cA 1, 8, .inr (.inl fpn))), (p7, .inl (cA 0, 350, .inl fst)), (p8, .inl (cA 0, 350, .inl fop)), (p3, .inl (cA 0, 10, .inl fam)), (p4, .inl (cA 0, 10, .inl fpi)), (p5, .inl (cA 0, 10, .inl fby)), (p9, .inl (cA 0, 10, .inl fen))]) hP hD [9, 10, 11, 12, 13, 7, 8, 0, 1, 2, 3, 4, 5, 6] (by decide +kernel) rfl
          refine W.widen (k := 0) (n := 0) (Nat.le_of_ble_eq_true rfl) (Nat.le_of_ble_eq_true rfl) ?_
          exact (W.zret (v := 0) hx hb hr (by first | rfl | decide) (fun t ht hW => ⟨⟨0, 0, rfl, ⟨rfl, by decide⟩, qn29, inb, zn30, zn31, cn, pq, sc, fna, fpn, fst, fop, fam, fpi, fby, fen, ml, pl, hn32, hn33, hcn, hpq, hsc, hNM, hNP, hby, hen, (fun h9 => absurd h9 (by decide)), (fun h9 => absurd h9 (by decide)), (fun h9 => absurd h9 (by decide)), (fun h9 => absurd h9 (by decide)), (fun h9 => absurd h9 (by decide)), (fun _ => (Or.inl (S_milNx hk (fun q9 => absurd (hNM.1.symm.trans q9) (by omega)) hn42 hn40 hn41))), by rw [ht]; exact hP9, hD9⟩, hS.F ht⟩) hS.2.2 dX4_readMilestone_76)
        · skip
          have hn35 := hn35 (hw.1.trans hr9)
          subst hn35
          obtain ⟨hP, hD⟩ : PDq D A [(p6, .inl (cA 1, 8, .inr (.inl fpn))), (p7, .inl (cA 0, 350, .inl fst)), (p8, .inl (cA 0, 350, .inl fop)), (p3, .inl (cA 0, 10, .inl fam)), (p4, .inl (cA 0, 10, .inl fpi)), (p5, .inl (cA 0, 10, .inl fby)), (p9, .inl (cA 0, 10, .inl fen)), (oX3 p0 pr pb pe pg p1 (nI nd) p2 p3 p4 p5 (nI cn) p6 (nI pq) p7 p8 p9 (nI sc)), (p2, .inl (cA 1, 10, .inr (.inl fna))), (oX4 r0 r1 p0 (nI ((ti + 1) + 1)) (fk ((ti + 1) + 1)) (ft ((ti + 1) + 1)) (fv ((ti + 1) + 1)) inb zn30 zn31), (oX5 r1 k1 k2 k3 (nI ct)), (k1, .inl (cA 0, 701, .inl fk)), (k2, .inl (cA 0, 701, .inl ft)), (k3, .inl (cA 1, 701, .inr (.inl fv)))] H := ⟨hP, hD⟩
          have hn36 := hn36 (hw.1.trans hr9)
          obtain rfl : iek = zn30 := hn36.symm
          obtain ⟨hP, hD⟩ : PDq D A [(p6, .inl (cA 1, 8, .inr (.inl fpn))), (p7, .inl (cA 0, 350, .inl fst)), (p8, .inl (cA 0, 350, .inl fop)), (p3, .inl (cA 0, 10, .inl fam)), (p4, .inl (cA 0, 10, .inl fpi)), (p5, .inl (cA 0, 10, .inl fby)), (p9, .inl (cA 0, 10, .inl fen)), (oX3 p0 pr pb pe pg p1 (nI nd) p2 p3 p4 p5 (nI cn) p6 (nI pq) p7 p8 p9 (nI sc)), (p2, .inl (cA 1, 10, .inr (.inl fna))), (oX4 r0 r1 p0 (nI ((ti + 1) + 1)) (fk ((ti + 1) + 1)) (ft ((ti + 1) + 1)) (fv ((ti + 1) + 1)) inb iek zn31), (oX5 r1 k1 k2 k3 (nI ct)), (k1, .inl (cA 0, 701, .inl fk)), (k2, .inl (cA 0, 701, .inl ft)), (k3, .inl (cA 1, 701, .inr (.inl fv)))] H := ⟨hP, hD⟩
          have hn37 := hn37 (hw.1.trans hr9)
          obtain rfl : iep = zn31 := hn37.symm
          obtain ⟨hP, hD⟩ : PDq D A [(p6, .inl (cA 1, 8, .inr (.inl fpn))), (p7, .inl (cA 0, 350, .inl fst)), (p8, .inl (cA 0, 350, .inl fop)), (p3, .inl (cA 0, 10, .inl fam)), (p4, .inl (cA 0, 10, .inl fpi)), (p5, .inl (cA 0, 10, .inl fby)), (p9, .inl (cA 0, 10, .inl fen)), (oX3 p0 pr pb pe pg p1 (nI nd) p2 p3 p4 p5 (nI cn) p6 (nI pq) p7 p8 p9 (nI sc)), (p2, .inl (cA 1, 10, .inr (.inl fna))), (oX4 r0 r1 p0 (nI ((ti + 1) + 1)) (fk ((ti + 1) + 1)) (ft ((ti + 1) + 1)) (fv ((ti + 1) + 1)) inb iek iep), (oX5 r1 k1 k2 k3 (nI ct)), (k1, .inl (cA 0, 701, .inl fk)), (k2, .inl (cA 0, 701, .inl ft)), (k3, .inl (cA 1, 701, .inr (.inl fv)))] H := ⟨hP, hD⟩
          have hn38 := hn38 (hw.1.trans hr9)
          have hn39 := hn39 (hw.1.trans hr9)
          subst hr9
          refine lv_if_eq (tgt := 75) hx hb dX4_readMilestone_62 (by decide) (fun c9 => absurd c9 (by decide)) (fun c44 => ?_)
          refine lv_aload_n hx hb dX4_readMilestone_65 rfl (lv_at hl 1 rfl) ?_
          refine lv_iconst (v := 1) hx hb dX4_readMilestone_66 (by decide) ?_
          refine lv_ldc (v := 99999) hx hb hown (hts (.constant RX4 120 99999) (by decide +kernel)) dX4_readMilestone_67 ?_
          obtain ⟨hPc, hDc, hFc⟩ := PDq.cut (wc := [(oX4 r0 r1 p0 (nI ((ti + 1) + 1)) (fk ((ti + 1) + 1)) (ft ((ti + 1) + 1)) (fv ((ti + 1) + 1)) inb iek iep), (oX5 r1 k1 k2 k3 (nI ct)), (k1, .inl (cA 0, 701, .inl fk)), (k2, .inl (cA 0, 701, .inl ft)), (k3, .inl (cA 1, 701, .inr (.inl fv)))]) hP hD hS hA [9, 10, 11, 12, 13] (by decide) rfl
          refine va_calli (va_runV (As := [.int 1, .int 99999]) (rest := []) ⟨hx, hb, hml, hown, hts⟩ (x_takeNumber l D cA sa r0 p0 ((ti + 1) + 1) ln inb iek iep r1 k1 k2 k3 ct fk ft fv fb gP gR 1 99999 H.size hct hln hn32 hTX (by omega) (by omega)) (cwV 2 hts gX4_readMilestone_X4_takeNumber rfl rfl rfl (by decide +kernel) ⟨(Nat.le_of_ble_eq_true rfl), (Nat.le_of_ble_eq_true rfl)⟩) ⟨Wd.blind, va_recv hK hPc (ci := 8) (q0 := 0) rfl rfl, fun U hU hW => ⟨rfl, Wd.call hPc hDc hK hC hZ hS hFc U hU hW⟩⟩ rfl rfl hl.1 rfl (lv_room (Nat.le_of_ble_eq_true rfl)) dX4_readMilestone_69 ⟨(Nat.le_of_ble_eq_true rfl), (Nat.le_of_ble_eq_true rfl)⟩) hS (fun q _ h => hFc q h) hFc (fun rn45 u t H1 locs ht hvm hw hB hz1 hk1 hS => ?_)
          obtain ⟨qn46, zn47, zn48, zn49, hn50, hn51, hn52, hn53, hn54, hn55, hn56, hn57, hn58, hn59, hP1, hD1⟩ := hB
          rw [ht] at hP1
          obtain ⟨hP, hD⟩ := PDq.join (w := [(p6, .inl (cA 1, 8, .inr (.inl fpn))), (p7, .inl (cA 0, 350, .inl fst)), (p8, .inl (cA 0, 350, .inl fop)), (p3, .inl (cA 0, 10, .inl fam)), (p4, .inl (cA 0, 10, .inl fpi)), (p5, .inl (cA 0, 10, .inl fby)), (p9, .inl (cA 0, 10, .inl fen)), (oX3 p0 pr pb pe pg p1 (nI nd) p2 p3 p4 p5 (nI cn) p6 (nI pq) p7 p8 p9 (nI sc)), (p2, .inl (cA 1, 10, .inr (.inl fna))), (oX4 r0 r1 p0 (nI qn46) (fk qn46) (ft qn46) (fv qn46) zn47 zn48 zn49), (oX5 r1 k1 k2 k3 (nI ct)), (k1, .inl (cA 0, 701, .inl fk)), (k2, .inl (cA 0, 701, .inl ft)), (k3, .inl (cA 1, 701, .inr (.inl fv)))]) 9 hP hD [9, 10, 11, 12, 13] [0, 1, 2, 3, 4, 5, 6, 7, 8] rfl rfl (by decide +kernel) (by decide +kernel) hk1 hFc hP1 hD1 rfl
          generalize H1 = H at hP hS ⊢
          rcases hw.2 with hr9 | hr9
          · skip
            have hn58 := hn58 (hw.1.trans hr9)
            have hn59 := hn59 (hw.1.trans hr9)
            subst hr9
            refine lv_if_ne (tgt := 77) hx hb dX4_readMilestone_72 (by decide) (fun c9 => absurd c9 (by decide)) (fun c60 => ?_)
            refine lv_iconst (v := 0) hx hb dX4_readMilestone_75 (by decide) ?_
            obtain ⟨hP9, hD9⟩ := PDq.sub (ws' := [(oX4 r0 r1 p0 (nI qn46) (fk qn46) (ft qn46) (fv qn46) zn47 zn48 zn49), (oX5 r1 k1 k2 k3 (nI ct)), (k1, .inl (cA 0, 701, .inl fk)), (k2, .inl (cA 0, 701, .inl ft)), (k3, .inl (cA 1, 701, .inr (.inl fv))), (oX3 p0 pr pb pe pg p1 (nI nd) p2 p3 p4 p5 (nI cn) p6 (nI pq) p7 p8 p9 (nI sc)), (p2, .inl (cA 1, 10, .inr (.inl fna))), (p6, .inl (cA 1, 8, .inr (.inl fpn))), (p7, .inl (cA 0, 350, .inl fst)), (p8, .inl (cA 0, 350, .inl fop)), (p3, .inl (cA 0, 10, .inl fam)), (p4, .inl (cA 0, 10, .inl fpi)), (p5, .inl (cA 0, 10, .inl fby)), (p9, .inl (cA 0, 10, .inl fen))]) hP hD [9, 10, 11, 12, 13, 7, 8, 0, 1, 2, 3, 4, 5, 6] (by decide +kernel) rfl
            refine W.widen (k := 0) (n := 0) (Nat.le_of_ble_eq_true rfl) (Nat.le_of_ble_eq_true rfl) ?_
            exact (W.zret (v := 0) hx hb hr (by first | rfl | decide) (fun t ht hW => ⟨⟨0, 0, rfl, ⟨rfl, by decide⟩, qn46, zn47, zn48, zn49, cn, pq, sc, fna, fpn, fst, fop, fam, fpi, fby, fen, ml, pl, hn50, hn51, hcn, hpq, hsc, hNM, hNP, hby, hen, (fun h9 => absurd h9 (by decide)), (fun h9 => absurd h9 (by decide)), (fun h9 => absurd h9 (by decide)), (fun h9 => absurd h9 (by decide)), (fun h9 => absurd h9 (by decide)), (fun _ => (Or.inl (S_milAx hk (fun q9 => absurd (hNM.1.symm.trans q9) (by omega)) hn39 hn24 hn58 hn59))), by rw [ht]; exact hP9, hD9⟩, hS.F ht⟩) hS.2.2 dX4_readMilestone_76)
          · skip
            have hn53 := hn53 (hw.1.trans hr9)
            subst hn53
            obtain ⟨hP, hD⟩ : PDq D A [(p6, .inl (cA 1, 8, .inr (.inl fpn))), (p7, .inl (cA 0, 350, .inl fst)), (p8, .inl (cA 0, 350, .inl fop)), (p3, .inl (cA 0, 10, .inl fam)), (p4, .inl (cA 0, 10, .inl fpi)), (p5, .inl (cA 0, 10, .inl fby)), (p9, .inl (cA 0, 10, .inl fen)), (oX3 p0 pr pb pe pg p1 (nI nd) p2 p3 p4 p5 (nI cn) p6 (nI pq) p7 p8 p9 (nI sc)), (p2, .inl (cA 1, 10, .inr (.inl fna))), (oX4 r0 r1 p0 (nI (((ti + 1) + 1) + 1)) (fk (((ti + 1) + 1) + 1)) (ft (((ti + 1) + 1) + 1)) (fv (((ti + 1) + 1) + 1)) zn47 zn48 zn49), (oX5 r1 k1 k2 k3 (nI ct)), (k1, .inl (cA 0, 701, .inl fk)), (k2, .inl (cA 0, 701, .inl ft)), (k3, .inl (cA 1, 701, .inr (.inl fv)))] H := ⟨hP, hD⟩
            have hn54 := hn54 (hw.1.trans hr9)
            obtain rfl : iek = zn48 := hn54.symm
            obtain ⟨hP, hD⟩ : PDq D A [(p6, .inl (cA 1, 8, .inr (.inl fpn))), (p7, .inl (cA 0, 350, .inl fst)), (p8, .inl (cA 0, 350, .inl fop)), (p3, .inl (cA 0, 10, .inl fam)), (p4, .inl (cA 0, 10, .inl fpi)), (p5, .inl (cA 0, 10, .inl fby)), (p9, .inl (cA 0, 10, .inl fen)), (oX3 p0 pr pb pe pg p1 (nI nd) p2 p3 p4 p5 (nI cn) p6 (nI pq) p7 p8 p9 (nI sc)), (p2, .inl (cA 1, 10, .inr (.inl fna))), (oX4 r0 r1 p0 (nI (((ti + 1) + 1) + 1)) (fk (((ti + 1) + 1) + 1)) (ft (((ti + 1) + 1) + 1)) (fv (((ti + 1) + 1) + 1)) zn47 iek zn49), (oX5 r1 k1 k2 k3 (nI ct)), (k1, .inl (cA 0, 701, .inl fk)), (k2, .inl (cA 0, 701, .inl ft)), (k3, .inl (cA 1, 701, .inr (.inl fv)))] H := ⟨hP, hD⟩
            have hn55 := hn55 (hw.1.trans hr9)
            obtain rfl : iep = zn49 := hn55.symm
            obtain ⟨hP, hD⟩ : PDq D A [(p6, .inl (cA 1, 8, .inr (.inl fpn))), (p7, .inl (cA 0, 350, .inl fst)), (p8, .inl (cA 0, 350, .inl fop)), (p3, .inl (cA 0, 10, .inl fam)), (p4, .inl (cA 0, 10, .inl fpi)), (p5, .inl (cA 0, 10, .inl fby)), (p9, .inl (cA 0, 10, .inl fen)), (oX3 p0 pr pb pe pg p1 (nI nd) p2 p3 p4 p5 (nI cn) p6 (nI pq) p7 p8 p9 (nI sc)), (p2, .inl (cA 1, 10, .inr (.inl fna))), (oX4 r0 r1 p0 (nI (((ti + 1) + 1) + 1)) (fk (((ti + 1) + 1) + 1)) (ft (((ti + 1) + 1) + 1)) (fv (((ti + 1) + 1) + 1)) zn47 iek iep), (oX5 r1 k1 k2 k3 (nI ct)), (k1, .inl (cA 0, 701, .inl fk)), (k2, .inl (cA 0, 701, .inl ft)), (k3, .inl (cA 1, 701, .inr (.inl fv)))] H := ⟨hP, hD⟩
            have hn56 := hn56 (hw.1.trans hr9)
            have hn57 := hn57 (hw.1.trans hr9)
            subst hr9
            refine lv_if_ne (tgt := 77) hx hb dX4_readMilestone_72 (by decide) (fun c61 => ?_) (fun c9 => absurd c9 (by decide))
            refine lv_aload_n hx hb dX4_readMilestone_77 rfl (lv_at hl 1 rfl) ?_
            refine va_get (D := D) (ci := 8) (v := .int zn47) (C := RX4) (T := TX4) (N := 9) hx hb hts inX4 hown hK hP 9 rfl rfl 6 (by decide) (hts (.fieldLink RX4 91 "EscrowDesk$Reader" "number" "I") (by decide +kernel)) (fun _ h9 => h9) rfl dX4_readMilestone_78 ?_
            refine lv_istore_n (lv' := [(3, .int zn47), (1, .long (fv (ti + 1))), (0, .ref r0)]) hx hb dX4_readMilestone_81 rfl hl (by decide) rfl (fun ls hl => ?_)
            refine lv_aload_n hx hb dX4_readMilestone_82 rfl (lv_at hl 2 rfl) ?_
            refine lv_iconst (v := 0) hx hb dX4_readMilestone_83 (by decide) ?_
            refine lv_bipush (v := 99) hx hb dX4_readMilestone_84 (by decide) ?_
            obtain ⟨hPc, hDc, hFc⟩ := PDq.cut (wc := [(oX4 r0 r1 p0 (nI (((ti + 1) + 1) + 1)) (fk (((ti + 1) + 1) + 1)) (ft (((ti + 1) + 1) + 1)) (fv (((ti + 1) + 1) + 1)) zn47 iek iep), (oX5 r1 k1 k2 k3 (nI ct)), (k1, .inl (cA 0, 701, .inl fk)), (k2, .inl (cA 0, 701, .inl ft)), (k3, .inl (cA 1, 701, .inr (.inl fv)))]) hP hD hS hA [9, 10, 11, 12, 13] (by decide) rfl
            refine va_calli (va_runV (As := [.int 0, .int 99]) (rest := []) ⟨hx, hb, hml, hown, hts⟩ (x_takeNumber l D cA sa r0 p0 (((ti + 1) + 1) + 1) ln zn47 iek iep r1 k1 k2 k3 ct fk ft fv fb gP gR 0 99 H.size hct hln hn50 hTX (by omega) (by omega)) (cwV 2 hts gX4_readMilestone_X4_takeNumber rfl rfl rfl (by decide +kernel) ⟨(Nat.le_of_ble_eq_true rfl), (Nat.le_of_ble_eq_true rfl)⟩) ⟨Wd.blind, va_recv hK hPc (ci := 8) (q0 := 0) rfl rfl, fun U hU hW => ⟨rfl, Wd.call hPc hDc hK hC hZ hS hFc U hU hW⟩⟩ rfl rfl hl.1 rfl (lv_room (Nat.le_of_ble_eq_true rfl)) dX4_readMilestone_86 ⟨(Nat.le_of_ble_eq_true rfl), (Nat.le_of_ble_eq_true rfl)⟩) hS (fun q _ h => hFc q h) hFc (fun rn62 u t H1 locs ht hvm hw hB hz1 hk1 hS => ?_)
            obtain ⟨qn63, zn64, zn65, zn66, hn67, hn68, hn69, hn70, hn71, hn72, hn73, hn74, hn75, hn76, hP1, hD1⟩ := hB
            rw [ht] at hP1
            obtain ⟨hP, hD⟩ := PDq.join (w := [(p6, .inl (cA 1, 8, .inr (.inl fpn))), (p7, .inl (cA 0, 350, .inl fst)), (p8, .inl (cA 0, 350, .inl fop)), (p3, .inl (cA 0, 10, .inl fam)), (p4, .inl (cA 0, 10, .inl fpi)), (p5, .inl (cA 0, 10, .inl fby)), (p9, .inl (cA 0, 10, .inl fen)), (oX3 p0 pr pb pe pg p1 (nI nd) p2 p3 p4 p5 (nI cn) p6 (nI pq) p7 p8 p9 (nI sc)), (p2, .inl (cA 1, 10, .inr (.inl fna))), (oX4 r0 r1 p0 (nI qn63) (fk qn63) (ft qn63) (fv qn63) zn64 zn65 zn66), (oX5 r1 k1 k2 k3 (nI ct)), (k1, .inl (cA 0, 701, .inl fk)), (k2, .inl (cA 0, 701, .inl ft)), (k3, .inl (cA 1, 701, .inr (.inl fv)))]) 9 hP hD [9, 10, 11, 12, 13] [0, 1, 2, 3, 4, 5, 6, 7, 8] rfl rfl (by decide +kernel) (by decide +kernel) hk1 hFc hP1 hD1 rfl
            generalize H1 = H at hP hS ⊢
            rcases hw.2 with hr9 | hr9
            · skip
              have hn75 := hn75 (hw.1.trans hr9)
              have hn76 := hn76 (hw.1.trans hr9)
              subst hr9
              refine lv_if_ne (tgt := 94) hx hb dX4_readMilestone_89 (by decide) (fun c9 => absurd c9 (by decide)) (fun c77 => ?_)
              refine lv_iconst (v := 0) hx hb dX4_readMilestone_92 (by decide) ?_
              obtain ⟨hP9, hD9⟩ := PDq.sub (ws' := [(oX4 r0 r1 p0 (nI qn63) (fk qn63) (ft qn63) (fv qn63) zn64 zn65 zn66), (oX5 r1 k1 k2 k3 (nI ct)), (k1, .inl (cA 0, 701, .inl fk)), (k2, .inl (cA 0, 701, .inl ft)), (k3, .inl (cA 1, 701, .inr (.inl fv))), (oX3 p0 pr pb pe pg p1 (nI nd) p2 p3 p4 p5 (nI cn) p6 (nI pq) p7 p8 p9 (nI sc)), (p2, .inl (cA 1, 10, .inr (.inl fna))), (p6, .inl (cA 1, 8, .inr (.inl fpn))), (p7, .inl (cA 0, 350, .inl fst)), (p8, .inl (cA 0, 350, .inl fop)), (p3, .inl (cA 0, 10, .inl fam)), (p4, .inl (cA 0, 10, .inl fpi)), (p5, .inl (cA 0, 10, .inl fby)), (p9, .inl (cA 0, 10, .inl fen))]) hP hD [9, 10, 11, 12, 13, 7, 8, 0, 1, 2, 3, 4, 5, 6] (by decide +kernel) rfl
              refine W.widen (k := 0) (n := 0) (Nat.le_of_ble_eq_true rfl) (Nat.le_of_ble_eq_true rfl) ?_
              exact (W.zret (v := 0) hx hb hr (by first | rfl | decide) (fun t ht hW => ⟨⟨0, 0, rfl, ⟨rfl, by decide⟩, qn63, zn64, zn65, zn66, cn, pq, sc, fna, fpn, fst, fop, fam, fpi, fby, fen, ml, pl, hn67, hn68, hcn, hpq, hsc, hNM, hNP, hby, hen, (fun h9 => absurd h9 (by decide)), (fun h9 => absurd h9 (by decide)), (fun h9 => absurd h9 (by decide)), (fun h9 => absurd h9 (by decide)), (fun h9 => absurd h9 (by decide)), (fun _ => (Or.inl (S_milPx hk (fun q9 => absurd (hNM.1.symm.trans q9) (by omega)) hn39 hn24 hn57 hn75 hn76))), by rw [ht]; exact hP9, hD9⟩, hS.F ht⟩) hS.2.2 dX4_readMilestone_93)
            · skip
              have hn70 := hn70 (hw.1.trans hr9)
              subst hn70
              obtain ⟨hP, hD⟩ : PDq D A [(p6, .inl (cA 1, 8, .inr (.inl fpn))), (p7, .inl (cA 0, 350, .inl fst)), (p8, .inl (cA 0, 350, .inl fop)), (p3, .inl (cA 0, 10, .inl fam)), (p4, .inl (cA 0, 10, .inl fpi)), (p5, .inl (cA 0, 10, .inl fby)), (p9, .inl (cA 0, 10, .inl fen)), (oX3 p0 pr pb pe pg p1 (nI nd) p2 p3 p4 p5 (nI cn) p6 (nI pq) p7 p8 p9 (nI sc)), (p2, .inl (cA 1, 10, .inr (.inl fna))), (oX4 r0 r1 p0 (nI ((((ti + 1) + 1) + 1) + 1)) (fk ((((ti + 1) + 1) + 1) + 1)) (ft ((((ti + 1) + 1) + 1) + 1)) (fv ((((ti + 1) + 1) + 1) + 1)) zn64 zn65 zn66), (oX5 r1 k1 k2 k3 (nI ct)), (k1, .inl (cA 0, 701, .inl fk)), (k2, .inl (cA 0, 701, .inl ft)), (k3, .inl (cA 1, 701, .inr (.inl fv)))] H := ⟨hP, hD⟩
              have hn71 := hn71 (hw.1.trans hr9)
              obtain rfl : iek = zn65 := hn71.symm
              obtain ⟨hP, hD⟩ : PDq D A [(p6, .inl (cA 1, 8, .inr (.inl fpn))), (p7, .inl (cA 0, 350, .inl fst)), (p8, .inl (cA 0, 350, .inl fop)), (p3, .inl (cA 0, 10, .inl fam)), (p4, .inl (cA 0, 10, .inl fpi)), (p5, .inl (cA 0, 10, .inl fby)), (p9, .inl (cA 0, 10, .inl fen)), (oX3 p0 pr pb pe pg p1 (nI nd) p2 p3 p4 p5 (nI cn) p6 (nI pq) p7 p8 p9 (nI sc)), (p2, .inl (cA 1, 10, .inr (.inl fna))), (oX4 r0 r1 p0 (nI ((((ti + 1) + 1) + 1) + 1)) (fk ((((ti + 1) + 1) + 1) + 1)) (ft ((((ti + 1) + 1) + 1) + 1)) (fv ((((ti + 1) + 1) + 1) + 1)) zn64 iek zn66), (oX5 r1 k1 k2 k3 (nI ct)), (k1, .inl (cA 0, 701, .inl fk)), (k2, .inl (cA 0, 701, .inl ft)), (k3, .inl (cA 1, 701, .inr (.inl fv)))] H := ⟨hP, hD⟩
              have hn72 := hn72 (hw.1.trans hr9)
              obtain rfl : iep = zn66 := hn72.symm
              obtain ⟨hP, hD⟩ : PDq D A [(p6, .inl (cA 1, 8, .inr (.inl fpn))), (p7, .inl (cA 0, 350, .inl fst)), (p8, .inl (cA 0, 350, .inl fop)), (p3, .inl (cA 0, 10, .inl fam)), (p4, .inl (cA 0, 10, .inl fpi)), (p5, .inl (cA 0, 10, .inl fby)), (p9, .inl (cA 0, 10, .inl fen)), (oX3 p0 pr pb pe pg p1 (nI nd) p2 p3 p4 p5 (nI cn) p6 (nI pq) p7 p8 p9 (nI sc)), (p2, .inl (cA 1, 10, .inr (.inl fna))), (oX4 r0 r1 p0 (nI ((((ti + 1) + 1) + 1) + 1)) (fk ((((ti + 1) + 1) + 1) + 1)) (ft ((((ti + 1) + 1) + 1) + 1)) (fv ((((ti + 1) + 1) + 1) + 1)) zn64 iek iep), (oX5 r1 k1 k2 k3 (nI ct)), (k1, .inl (cA 0, 701, .inl fk)), (k2, .inl (cA 0, 701, .inl ft)), (k3, .inl (cA 1, 701, .inr (.inl fv)))] H := ⟨hP, hD⟩
              have hn73 := hn73 (hw.1.trans hr9)
              have hn74 := hn74 (hw.1.trans hr9)
              subst hr9
              refine lv_if_ne (tgt := 94) hx hb dX4_readMilestone_89 (by decide) (fun c78 => ?_) (fun c9 => absurd c9 (by decide))
              refine lv_aload_n hx hb dX4_readMilestone_94 rfl (lv_at hl 2 rfl) ?_
              refine va_get (D := D) (ci := 8) (v := .int zn64) (C := RX4) (T := TX4) (N := 9) hx hb hts inX4 hown hK hP 9 rfl rfl 6 (by decide) (hts (.fieldLink RX4 91 "EscrowDesk$Reader" "number" "I") (by decide +kernel)) (fun _ h9 => h9) rfl dX4_readMilestone_95 ?_
              refine lv_istore (lv' := [(4, .int zn64), (3, .int zn47), (1, .long (fv (ti + 1))), (0, .ref r0)]) hx hb dX4_readMilestone_98 hl (by decide) rfl (fun ls hl => ?_)
              refine lv_aload_n hx hb dX4_readMilestone_100 rfl (lv_at hl 3 rfl) ?_
              refine lv_bipush (v := 13) hx hb dX4_readMilestone_101 (by decide) ?_
              obtain ⟨hPc, hDc, hFc⟩ := PDq.cut (wc := [(oX4 r0 r1 p0 (nI ((((ti + 1) + 1) + 1) + 1)) (fk ((((ti + 1) + 1) + 1) + 1)) (ft ((((ti + 1) + 1) + 1) + 1)) (fv ((((ti + 1) + 1) + 1) + 1)) zn64 iek iep), (oX5 r1 k1 k2 k3 (nI ct)), (k1, .inl (cA 0, 701, .inl fk)), (k2, .inl (cA 0, 701, .inl ft)), (k3, .inl (cA 1, 701, .inr (.inl fv)))]) hP hD hS hA [9, 10, 11, 12, 13] (by decide) rfl
              refine va_calli (va_runV (As := [.int 13]) (rest := []) ⟨hx, hb, hml, hown, hts⟩ (x_take l D cA sa r0 p0 ((((ti + 1) + 1) + 1) + 1) ln zn64 iek iep r1 k1 k2 k3 ct fk ft fv fb gP gR 13 H.size hct hln hn67 hTX (by decide)) (cwV 1 hts gX4_readMilestone_X4_take rfl rfl rfl (by decide +kernel) ⟨(Nat.le_of_ble_eq_true rfl), (Nat.le_of_ble_eq_true rfl)⟩) ⟨Wd.blind, va_recv hK hPc (ci := 8) (q0 := 0) rfl rfl, fun U hU hW => ⟨rfl, Wd.call hPc hDc hK hC hZ hS hFc U hU hW⟩⟩ rfl rfl hl.1 rfl (lv_room (Nat.le_of_ble_eq_true rfl)) dX4_readMilestone_103 ⟨(Nat.le_of_ble_eq_true rfl), (Nat.le_of_ble_eq_true rfl)⟩) hS (fun q _ h => hFc q h) hFc (fun rn79 u t H1 locs ht hvm hw hB hz1 hk1 hS => ?_)
              obtain ⟨qn80, zn81, zn82, hn83, hn84, hn85, hn86, hn87, hn88, hn89, hn90, hn91, hn92, hn93, hP1, hD1⟩ := hB
              rw [ht] at hP1
              obtain ⟨hP, hD⟩ := PDq.join (w := [(p6, .inl (cA 1, 8, .inr (.inl fpn))), (p7, .inl (cA 0, 350, .inl fst)), (p8, .inl (cA 0, 350, .inl fop)), (p3, .inl (cA 0, 10, .inl fam)), (p4, .inl (cA 0, 10, .inl fpi)), (p5, .inl (cA 0, 10, .inl fby)), (p9, .inl (cA 0, 10, .inl fen)), (oX3 p0 pr pb pe pg p1 (nI nd) p2 p3 p4 p5 (nI cn) p6 (nI pq) p7 p8 p9 (nI sc)), (p2, .inl (cA 1, 10, .inr (.inl fna))), (oX4 r0 r1 p0 (nI qn80) (fk qn80) (ft qn80) (fv qn80) zn64 zn81 zn82), (oX5 r1 k1 k2 k3 (nI ct)), (k1, .inl (cA 0, 701, .inl fk)), (k2, .inl (cA 0, 701, .inl ft)), (k3, .inl (cA 1, 701, .inr (.inl fv)))]) 9 hP hD [9, 10, 11, 12, 13] [0, 1, 2, 3, 4, 5, 6, 7, 8] rfl rfl (by decide +kernel) (by decide +kernel) hk1 hFc hP1 hD1 rfl
              generalize H1 = H at hP hS ⊢
              rcases hw.2 with hr9 | hr9
              · skip
                have hn91 := hn91 (hw.1.trans hr9)
                have hn92 := hn92 (hw.1.trans hr9)
                have hn93 := hn93 (hw.1.trans hr9)
                subst hr9
                refine lv_if_eq (tgt := 126) hx hb dX4_readMilestone_106 (by decide) (fun c94 => ?_) (fun c9 => absurd c9 (by decide))
                refine lv_iconst (v := 0) hx hb dX4_readMilestone_126 (by decide) ?_
                obtain ⟨hP9, hD9⟩ := PDq.sub (ws' := [(oX4 r0 r1 p0 (nI qn80) (fk qn80) (ft qn80) (fv qn80) zn64 zn81 zn82), (oX5 r1 k1 k2 k3 (nI ct)), (k1, .inl (cA 0, 701, .inl fk)), (k2, .inl (cA 0, 701, .inl ft)), (k3, .inl (cA 1, 701, .inr (.inl fv))), (oX3 p0 pr pb pe pg p1 (nI nd) p2 p3 p4 p5 (nI cn) p6 (nI pq) p7 p8 p9 (nI sc)), (p2, .inl (cA 1, 10, .inr (.inl fna))), (p6, .inl (cA 1, 8, .inr (.inl fpn))), (p7, .inl (cA 0, 350, .inl fst)), (p8, .inl (cA 0, 350, .inl fop)), (p3, .inl (cA 0, 10, .inl fam)), (p4, .inl (cA 0, 10, .inl fpi)), (p5, .inl (cA 0, 10, .inl fby)), (p9, .inl (cA 0, 10, .inl fen))]) hP hD [9, 10, 11, 12, 13, 7, 8, 0, 1, 2, 3, 4, 5, 6] (by decide +kernel) rfl
                refine W.widen (k := 0) (n := 0) (Nat.le_of_ble_eq_true rfl) (Nat.le_of_ble_eq_true rfl) ?_
                exact (W.zret (v := 0) hx hb hr (by first | rfl | decide) (fun t ht hW => ⟨⟨0, 0, rfl, ⟨rfl, by decide⟩, qn80, zn64, zn81, zn82, cn, pq, sc, fna, fpn, fst, fop, fam, fpi, fby, fen, ml, pl, hn83, hn84, hcn, hpq, hsc, hNM, hNP, hby, hen, (fun h9 => absurd h9 (by decide)), (fun h9 => absurd h9 (by decide)), (fun h9 => absurd h9 (by decide)), (fun h9 => absurd h9 (by decide)), (fun h9 => absurd h9 (by decide)), (fun _ => (Or.inl (S_milWx hk (fun q9 => absurd (hNM.1.symm.trans q9) (by omega)) hn39 hn24 hn57 hn74 hn93 hn91 hn92))), by rw [ht]; exact hP9, hD9⟩, hS.F ht⟩) hS.2.2 dX4_readMilestone_127)
              · skip
                have hn86 := hn86 (hw.1.trans hr9)
                subst hn86
                obtain ⟨hP, hD⟩ : PDq D A [(p6, .inl (cA 1, 8, .inr (.inl fpn))), (p7, .inl (cA 0, 350, .inl fst)), (p8, .inl (cA 0, 350, .inl fop)), (p3, .inl (cA 0, 10, .inl fam)), (p4, .inl (cA 0, 10, .inl fpi)), (p5, .inl (cA 0, 10, .inl fby)), (p9, .inl (cA 0, 10, .inl fen)), (oX3 p0 pr pb pe pg p1 (nI nd) p2 p3 p4 p5 (nI cn) p6 (nI pq) p7 p8 p9 (nI sc)), (p2, .inl (cA 1, 10, .inr (.inl fna))), (oX4 r0 r1 p0 (nI (((((ti + 1) + 1) + 1) + 1) + 1)) (fk (((((ti + 1) + 1) + 1) + 1) + 1)) (ft (((((ti + 1) + 1) + 1) + 1) + 1)) (fv (((((ti + 1) + 1) + 1) + 1) + 1)) zn64 zn81 zn82), (oX5 r1 k1 k2 k3 (nI ct)), (k1, .inl (cA 0, 701, .inl fk)), (k2, .inl (cA 0, 701, .inl ft)), (k3, .inl (cA 1, 701, .inr (.inl fv)))] H := ⟨hP, hD⟩
                have hn87 := hn87 (hw.1.trans hr9)
                obtain rfl : iek = zn81 := hn87.symm
                obtain ⟨hP, hD⟩ : PDq D A [(p6, .inl (cA 1, 8, .inr (.inl fpn))), (p7, .inl (cA 0, 350, .inl fst)), (p8, .inl (cA 0, 350, .inl fop)), (p3, .inl (cA 0, 10, .inl fam)), (p4, .inl (cA 0, 10, .inl fpi)), (p5, .inl (cA 0, 10, .inl fby)), (p9, .inl (cA 0, 10, .inl fen)), (oX3 p0 pr pb pe pg p1 (nI nd) p2 p3 p4 p5 (nI cn) p6 (nI pq) p7 p8 p9 (nI sc)), (p2, .inl (cA 1, 10, .inr (.inl fna))), (oX4 r0 r1 p0 (nI (((((ti + 1) + 1) + 1) + 1) + 1)) (fk (((((ti + 1) + 1) + 1) + 1) + 1)) (ft (((((ti + 1) + 1) + 1) + 1) + 1)) (fv (((((ti + 1) + 1) + 1) + 1) + 1)) zn64 iek zn82), (oX5 r1 k1 k2 k3 (nI ct)), (k1, .inl (cA 0, 701, .inl fk)), (k2, .inl (cA 0, 701, .inl ft)), (k3, .inl (cA 1, 701, .inr (.inl fv)))] H := ⟨hP, hD⟩
                have hn88 := hn88 (hw.1.trans hr9)
                obtain rfl : iep = zn82 := hn88.symm
                obtain ⟨hP, hD⟩ : PDq D A [(p6, .inl (cA 1, 8, .inr (.inl fpn))), (p7, .inl (cA 0, 350, .inl fst)), (p8, .inl (cA 0, 350, .inl fop)), (p3, .inl (cA 0, 10, .inl fam)), (p4, .inl (cA 0, 10, .inl fpi)), (p5, .inl (cA 0, 10, .inl fby)), (p9, .inl (cA 0, 10, .inl fen)), (oX3 p0 pr pb pe pg p1 (nI nd) p2 p3 p4 p5 (nI cn) p6 (nI pq) p7 p8 p9 (nI sc)), (p2, .inl (cA 1, 10, .inr (.inl fna))), (oX4 r0 r1 p0 (nI (((((ti + 1) + 1) + 1) + 1) + 1)) (fk (((((ti + 1) + 1) + 1) + 1) + 1)) (ft (((((ti + 1) + 1) + 1) + 1) + 1)) (fv (((((ti + 1) + 1) + 1) + 1) + 1)) zn64 iek iep), (oX5 r1 k1 k2 k3 (nI ct)), (k1, .inl (cA 0, 701, .inl fk)), (k2, .inl (cA 0, 701, .inl ft)), (k3, .inl (cA 1, 701, .inr (.inl fv)))] H := ⟨hP, hD⟩
                have hn89 := hn89 (hw.1.trans hr9)
                have hn90 := hn90 (hw.1.trans hr9)
                subst hr9
                refine lv_if_eq (tgt := 126) hx hb dX4_readMilestone_106 (by decide) (fun c9 => absurd c9 (by decide)) (fun c95 => ?_)
                refine lv_aload_n hx hb dX4_readMilestone_109 rfl (lv_at hl 3 rfl) ?_
                refine lv_iconst (v := 0) hx hb dX4_readMilestone_110 (by decide) ?_
                obtain ⟨hPc, hDc, hFc⟩ := PDq.cut (wc := [(oX4 r0 r1 p0 (nI (((((ti + 1) + 1) + 1) + 1) + 1)) (fk (((((ti + 1) + 1) + 1) + 1) + 1)) (ft (((((ti + 1) + 1) + 1) + 1) + 1)) (fv (((((ti + 1) + 1) + 1) + 1) + 1)) zn64 iek iep), (oX5 r1 k1 k2 k3 (nI ct)), (k1, .inl (cA 0, 701, .inl fk)), (k2, .inl (cA 0, 701, .inl ft)), (k3, .inl (cA 1, 701, .inr (.inl fv))), (oX3 p0 pr pb pe pg p1 (nI nd) p2 p3 p4 p5 (nI cn) p6 (nI pq) p7 p8 p9 (nI sc)), (p2, .inl (cA 1, 10, .inr (.inl fna))), (p6, .inl (cA 1, 8, .inr (.inl fpn))), (p7, .inl (cA 0, 350, .inl fst)), (p8, .inl (cA 0, 350, .inl fop))]) hP hD hS hA [9, 10, 11, 12, 13, 7, 8, 0, 1, 2] (by decide +kernel) rfl
                refine va_calli (va_runV (As := [.int 0]) (rest := []) ⟨hx, hb, hml, hown, hts⟩ (x_readCondition_0 l D cA sa r0 p0 (((((ti + 1) + 1) + 1) + 1) + 1) ln zn64 iek iep r1 k1 k2 k3 ct fk ft fv fb gP gR p1 p2 p3 p4 p5 p6 p7 p8 p9 cn pq nd sc pr pb pe pg fna fpn fst fop ml pl 0 H.size hct hln hn83 hTX hcn hpq hnd hsc hNM hNP (by omega)) (cwV 1 hts gX4_readMilestone_X4_readCondition rfl rfl rfl (by decide +kernel) ⟨(Nat.le_of_ble_eq_true rfl), (Nat.le_of_ble_eq_true rfl)⟩) ⟨Wd.blind, va_recv hK hPc (ci := 8) (q0 := 0) rfl rfl, fun U hU hW => ⟨rfl, Wd.call hPc hDc hK hC hZ hS hFc U hU hW⟩⟩ rfl rfl hl.1 rfl (lv_room (Nat.le_of_ble_eq_true rfl)) dX4_readMilestone_111 ⟨(Nat.le_of_ble_eq_true rfl), (Nat.le_of_ble_eq_true rfl)⟩) hS (fun q _ h => hFc q h) hFc (fun rn96 u t H1 locs ht hvm hw hB hz1 hk1 hS => ?_)
                obtain ⟨qn97, qn98, qn99, zn100, zn101, zn102, fn103, fn104, fn105, zn106, hn107, hn108, hn109, hn110, hn111, hn112, hn113, hn114, hn115, hn116, hn117, hn118, hP1, hD1⟩ := hB
                rw [ht] at hP1
                obtain ⟨hP, hD⟩ := PDq.join (w := [(p3, .inl (cA 0, 10, .inl fam)), (p4, .inl (cA 0, 10, .inl fpi)), (p5, .inl (cA 0, 10, .inl fby)), (p9, .inl (cA 0, 10, .inl fen)), (oX4 r0 r1 p0 (nI qn97) (fk qn97) (ft qn97) (fv qn97) zn100 zn101 zn102), (oX5 r1 k1 k2 k3 (nI ct)), (k1, .inl (cA 0, 701, .inl fk)), (k2, .inl (cA 0, 701, .inl ft)), (k3, .inl (cA 1, 701, .inr (.inl fv))), (oX3 p0 pr pb pe pg p1 (nI nd) p2 p3 p4 p5 (nI cn) p6 (nI qn98) p7 p8 p9 (nI qn99)), (p2, .inl (cA 1, 10, .inr (.inl fna))), (p6, .inl (cA 1, 8, .inr (.inl fn103))), (p7, .inl (cA 0, 350, .inl fn104)), (p8, .inl (cA 0, 350, .inl fn105))]) 4 hP hD [9, 10, 11, 12, 13, 7, 8, 0, 1, 2] [3, 4, 5, 6] rfl rfl (by decide) (by decide +kernel) hk1 hFc hP1 hD1 rfl
                generalize H1 = H at hP hS ⊢
                rcases hw.2 with hr9 | hr9
                · skip
                  have hn118 := hn118 (hw.1.trans hr9)
                  subst hr9
                  refine lv_if_eq (tgt := 126) hx hb dX4_readMilestone_114 (by decide) (fun c119 => ?_) (fun c9 => absurd c9 (by decide))
                  refine lv_iconst (v := 0) hx hb dX4_readMilestone_126 (by decide) ?_
                  obtain ⟨hP9, hD9⟩ := PDq.sub (ws' := [(oX4 r0 r1 p0 (nI qn97) (fk qn97) (ft qn97) (fv qn97) zn100 zn101 zn102), (oX5 r1 k1 k2 k3 (nI ct)), (k1, .inl (cA 0, 701, .inl fk)), (k2, .inl (cA 0, 701, .inl ft)), (k3, .inl (cA 1, 701, .inr (.inl fv))), (oX3 p0 pr pb pe pg p1 (nI nd) p2 p3 p4 p5 (nI cn) p6 (nI qn98) p7 p8 p9 (nI qn99)), (p2, .inl (cA 1, 10, .inr (.inl fna))), (p6, .inl (cA 1, 8, .inr (.inl fn103))), (p7, .inl (cA 0, 350, .inl fn104)), (p8, .inl (cA 0, 350, .inl fn105)), (p3, .inl (cA 0, 10, .inl fam)), (p4, .inl (cA 0, 10, .inl fpi)), (p5, .inl (cA 0, 10, .inl fby)), (p9, .inl (cA 0, 10, .inl fen))]) hP hD [4, 5, 6, 7, 8, 9, 10, 11, 12, 13, 0, 1, 2, 3] (by decide +kernel) rfl
                  refine W.widen (k := 0) (n := 0) (Nat.le_of_ble_eq_true rfl) (Nat.le_of_ble_eq_true rfl) ?_
                  exact (W.zret (v := 0) hx hb hr (by first | rfl | decide) (fun t ht hW => ⟨⟨0, 0, rfl, ⟨rfl, by decide⟩, qn97, zn100, zn101, zn102, cn, qn98, qn99, fna, fn103, fn104, fn105, fam, fpi, fby, fen, ml, zn106, hn107, hn108, hcn, hn110, hn111, hNM, hn112, hby, hen, (fun h9 => absurd h9 (by decide)), (fun h9 => absurd h9 (by decide)), (fun h9 => absurd h9 (by decide)), (fun h9 => absurd h9 (by decide)), (fun h9 => absurd h9 (by decide)), (fun _ => (Or.inl (S_milC hk (fun q9 => absurd (hNM.1.symm.trans q9) (by omega)) hn39 hn24 hn57 hn74 hn90 hn118))), by rw [ht]; exact hP9, hD9⟩, hS.F ht⟩) hS.2.2 dX4_readMilestone_127)
                · skip
                  have hn113 := hn113 (hw.1.trans hr9)
                  obtain rfl : iek = zn101 := hn113.symm
                  obtain ⟨hP, hD⟩ : PDq D A [(p3, .inl (cA 0, 10, .inl fam)), (p4, .inl (cA 0, 10, .inl fpi)), (p5, .inl (cA 0, 10, .inl fby)), (p9, .inl (cA 0, 10, .inl fen)), (oX4 r0 r1 p0 (nI qn97) (fk qn97) (ft qn97) (fv qn97) zn100 iek zn102), (oX5 r1 k1 k2 k3 (nI ct)), (k1, .inl (cA 0, 701, .inl fk)), (k2, .inl (cA 0, 701, .inl ft)), (k3, .inl (cA 1, 701, .inr (.inl fv))), (oX3 p0 pr pb pe pg p1 (nI nd) p2 p3 p4 p5 (nI cn) p6 (nI qn98) p7 p8 p9 (nI qn99)), (p2, .inl (cA 1, 10, .inr (.inl fna))), (p6, .inl (cA 1, 8, .inr (.inl fn103))), (p7, .inl (cA 0, 350, .inl fn104)), (p8, .inl (cA 0, 350, .inl fn105))] H := ⟨hP, hD⟩
                  have hn114 := hn114 (hw.1.trans hr9)
                  obtain rfl : iep = zn102 := hn114.symm
                  obtain ⟨hP, hD⟩ : PDq D A [(p3, .inl (cA 0, 10, .inl fam)), (p4, .inl (cA 0, 10, .inl fpi)), (p5, .inl (cA 0, 10, .inl fby)), (p9, .inl (cA 0, 10, .inl fen)), (oX4 r0 r1 p0 (nI qn97) (fk qn97) (ft qn97) (fv qn97) zn100 iek iep), (oX5 r1 k1 k2 k3 (nI ct)), (k1, .inl (cA 0, 701, .inl fk)), (k2, .inl (cA 0, 701, .inl ft)), (k3, .inl (cA 1, 701, .inr (.inl fv))), (oX3 p0 pr pb pe pg p1 (nI nd) p2 p3 p4 p5 (nI cn) p6 (nI qn98) p7 p8 p9 (nI qn99)), (p2, .inl (cA 1, 10, .inr (.inl fna))), (p6, .inl (cA 1, 8, .inr (.inl fn103))), (p7, .inl (cA 0, 350, .inl fn104)), (p8, .inl (cA 0, 350, .inl fn105))] H := ⟨hP, hD⟩
                  have hn115 := hn115 (hw.1.trans hr9)
                  have hn116 := hn116 (hw.1.trans hr9)
                  have hn117 := hn117 (hw.1.trans hr9)
                  subst hr9
                  refine lv_if_eq (tgt := 126) hx hb dX4_readMilestone_114 (by decide) (fun c9 => absurd c9 (by decide)) (fun c120 => ?_)
                  refine lv_aload_n hx hb dX4_readMilestone_117 rfl (lv_at hl 3 rfl) ?_
                  refine lv_bipush (v := 7) hx hb dX4_readMilestone_118 (by decide) ?_
                  obtain ⟨hPc, hDc, hFc⟩ := PDq.cut (wc := [(oX4 r0 r1 p0 (nI qn97) (fk qn97) (ft qn97) (fv qn97) zn100 iek iep), (oX5 r1 k1 k2 k3 (nI ct)), (k1, .inl (cA 0, 701, .inl fk)), (k2, .inl (cA 0, 701, .inl ft)), (k3, .inl (cA 1, 701, .inr (.inl fv)))]) hP hD hS hA [4, 5, 6, 7, 8] (by decide) rfl
                  refine va_calli (va_runV (As := [.int 7]) (rest := []) ⟨hx, hb, hml, hown, hts⟩ (x_take l D cA sa r0 p0 qn97 ln zn100 iek iep r1 k1 k2 k3 ct fk ft fv fb gP gR 7 H.size hct hln hn107 hTX (by decide)) (cwV 1 hts gX4_readMilestone_X4_take rfl rfl rfl (by decide +kernel) ⟨(Nat.le_of_ble_eq_true rfl), (Nat.le_of_ble_eq_true rfl)⟩) ⟨Wd.blind, va_recv hK hPc (ci := 8) (q0 := 0) rfl rfl, fun U hU hW => ⟨rfl, Wd.call hPc hDc hK hC hZ hS hFc U hU hW⟩⟩ rfl rfl hl.1 rfl (lv_room (Nat.le_of_ble_eq_true rfl)) dX4_readMilestone_120 ⟨(Nat.le_of_ble_eq_true rfl), (Nat.le_of_ble_eq_true rfl)⟩) hS (fun q _ h => hFc q h) hFc (fun rn121 u t H1 locs ht hvm hw hB hz1 hk1 hS => ?_)
                  obtain ⟨qn122, zn123, zn124, hn125, hn126, hn127, hn128, hn129, hn130, hn131, hn132, hn133, hn134, hn135, hP1, hD1⟩ := hB
                  rw [ht] at hP1
                  obtain ⟨hP, hD⟩ := PDq.join (w := [(p3, .inl (cA 0, 10, .inl fam)), (p4, .inl (cA 0, 10, .inl fpi)), (p5, .inl (cA 0, 10, .inl fby)), (p9, .inl (cA 0, 10, .inl fen)), (oX3 p0 pr pb pe pg p1 (nI nd) p2 p3 p4 p5 (nI cn) p6 (nI qn98) p7 p8 p9 (nI qn99)), (p2, .inl (cA 1, 10, .inr (.inl fna))), (p6, .inl (cA 1, 8, .inr (.inl fn103))), (p7, .inl (cA 0, 350, .inl fn104)), (p8, .inl (cA 0, 350, .inl fn105)), (oX4 r0 r1 p0 (nI qn122) (fk qn122) (ft qn122) (fv qn122) zn100 zn123 zn124), (oX5 r1 k1 k2 k3 (nI ct)), (k1, .inl (cA 0, 701, .inl fk)), (k2, .inl (cA 0, 701, .inl ft)), (k3, .inl (cA 1, 701, .inr (.inl fv)))]) 9 hP hD [4, 5, 6, 7, 8] [0, 1, 2, 3, 9, 10, 11, 12, 13] rfl rfl (by decide +kernel) (by decide +kernel) hk1 hFc hP1 hD1 rfl
                  generalize H1 = H at hP hS ⊢
                  rcases hw.2 with hr9 | hr9
                  · skip
                    have hn133 := hn133 (hw.1.trans hr9)
                    have hn134 := hn134 (hw.1.trans hr9)
                    have hn135 := hn135 (hw.1.trans hr9)
                    subst hr9
                    refine lv_if_ne (tgt := 128) hx hb dX4_readMilestone_123 (by decide) (fun c9 => absurd c9 (by decide)) (fun c136 => ?_)
                    refine lv_iconst (v := 0) hx hb dX4_readMilestone_126 (by decide) ?_
                    obtain ⟨hP9, hD9⟩ := PDq.sub (ws' := [(oX4 r0 r1 p0 (nI qn122) (fk qn122) (ft qn122) (fv qn122) zn100 zn123 zn124), (oX5 r1 k1 k2 k3 (nI ct)), (k1, .inl (cA 0, 701, .inl fk)), (k2, .inl (cA 0, 701, .inl ft)), (k3, .inl (cA 1, 701, .inr (.inl fv))), (oX3 p0 pr pb pe pg p1 (nI nd) p2 p3 p4 p5 (nI cn) p6 (nI qn98) p7 p8 p9 (nI qn99)), (p2, .inl (cA 1, 10, .inr (.inl fna))), (p6, .inl (cA 1, 8, .inr (.inl fn103))), (p7, .inl (cA 0, 350, .inl fn104)), (p8, .inl (cA 0, 350, .inl fn105)), (p3, .inl (cA 0, 10, .inl fam)), (p4, .inl (cA 0, 10, .inl fpi)), (p5, .inl (cA 0, 10, .inl fby)), (p9, .inl (cA 0, 10, .inl fen))]) hP hD [9, 10, 11, 12, 13, 4, 5, 6, 7, 8, 0, 1, 2, 3] (by decide +kernel) rfl
                    refine W.widen (k := 0) (n := 0) (Nat.le_of_ble_eq_true rfl) (Nat.le_of_ble_eq_true rfl) ?_
                    exact (W.zret (v := 0) hx hb hr (by first | rfl | decide) (fun t ht hW => ⟨⟨0, 0, rfl, ⟨rfl, by decide⟩, qn122, zn100, zn123, zn124, cn, qn98, qn99, fna, fn103, fn104, fn105, fam, fpi, fby, fen, ml, zn106, hn125, hn126, hcn, hn110, hn111, hNM, hn112, hby, hen, (fun h9 => absurd h9 (by decide)), (fun h9 => absurd h9 (by decide)), (fun h9 => absurd h9 (by decide)), (fun h9 => absurd h9 (by decide)), (fun h9 => absurd h9 (by decide)), (fun _ => (Or.inr ⟨_, _, _, _, S_mil hk (fun q9 => absurd (hNM.1.symm.trans q9) (by omega)) hn39 hn24 hn57 hn74 hn90 hn117, hn135, hn133, hn134⟩)), by rw [ht]; exact hP9, hD9⟩, hS.F ht⟩) hS.2.2 dX4_readMilestone_127)
                  · skip
                    have hn128 := hn128 (hw.1.trans hr9)
                    subst hn128
                    obtain ⟨hP, hD⟩ : PDq D A [(p3, .inl (cA 0, 10, .inl fam)), (p4, .inl (cA 0, 10, .inl fpi)), (p5, .inl (cA 0, 10, .inl fby)), (p9, .inl (cA 0, 10, .inl fen)), (oX3 p0 pr pb pe pg p1 (nI nd) p2 p3 p4 p5 (nI cn) p6 (nI qn98) p7 p8 p9 (nI qn99)), (p2, .inl (cA 1, 10, .inr (.inl fna))), (p6, .inl (cA 1, 8, .inr (.inl fn103))), (p7, .inl (cA 0, 350, .inl fn104)), (p8, .inl (cA 0, 350, .inl fn105)), (oX4 r0 r1 p0 (nI (qn97 + 1)) (fk (qn97 + 1)) (ft (qn97 + 1)) (fv (qn97 + 1)) zn100 zn123 zn124), (oX5 r1 k1 k2 k3 (nI ct)), (k1, .inl (cA 0, 701, .inl fk)), (k2, .inl (cA 0, 701, .inl ft)), (k3, .inl (cA 1, 701, .inr (.inl fv)))] H := ⟨hP, hD⟩
                    have hn129 := hn129 (hw.1.trans hr9)
                    obtain rfl : iek = zn123 := hn129.symm
                    obtain ⟨hP, hD⟩ : PDq D A [(p3, .inl (cA 0, 10, .inl fam)), (p4, .inl (cA 0, 10, .inl fpi)), (p5, .inl (cA 0, 10, .inl fby)), (p9, .inl (cA 0, 10, .inl fen)), (oX3 p0 pr pb pe pg p1 (nI nd) p2 p3 p4 p5 (nI cn) p6 (nI qn98) p7 p8 p9 (nI qn99)), (p2, .inl (cA 1, 10, .inr (.inl fna))), (p6, .inl (cA 1, 8, .inr (.inl fn103))), (p7, .inl (cA 0, 350, .inl fn104)), (p8, .inl (cA 0, 350, .inl fn105)), (oX4 r0 r1 p0 (nI (qn97 + 1)) (fk (qn97 + 1)) (ft (qn97 + 1)) (fv (qn97 + 1)) zn100 iek zn124), (oX5 r1 k1 k2 k3 (nI ct)), (k1, .inl (cA 0, 701, .inl fk)), (k2, .inl (cA 0, 701, .inl ft)), (k3, .inl (cA 1, 701, .inr (.inl fv)))] H := ⟨hP, hD⟩
                    have hn130 := hn130 (hw.1.trans hr9)
                    obtain rfl : iep = zn124 := hn130.symm
                    obtain ⟨hP, hD⟩ : PDq D A [(p3, .inl (cA 0, 10, .inl fam)), (p4, .inl (cA 0, 10, .inl fpi)), (p5, .inl (cA 0, 10, .inl fby)), (p9, .inl (cA 0, 10, .inl fen)), (oX3 p0 pr pb pe pg p1 (nI nd) p2 p3 p4 p5 (nI cn) p6 (nI qn98) p7 p8 p9 (nI qn99)), (p2, .inl (cA 1, 10, .inr (.inl fna))), (p6, .inl (cA 1, 8, .inr (.inl fn103))), (p7, .inl (cA 0, 350, .inl fn104)), (p8, .inl (cA 0, 350, .inl fn105)), (oX4 r0 r1 p0 (nI (qn97 + 1)) (fk (qn97 + 1)) (ft (qn97 + 1)) (fv (qn97 + 1)) zn100 iek iep), (oX5 r1 k1 k2 k3 (nI ct)), (k1, .inl (cA 0, 701, .inl fk)), (k2, .inl (cA 0, 701, .inl ft)), (k3, .inl (cA 1, 701, .inr (.inl fv)))] H := ⟨hP, hD⟩
                    have hn131 := hn131 (hw.1.trans hr9)
                    have hn132 := hn132 (hw.1.trans hr9)
                    subst hr9
                    refine lv_if_ne (tgt := 128) hx hb dX4_readMilestone_123 (by decide) (fun c137 => ?_) (fun c9 => absurd c9 (by decide))
                    refine lv_aload_n hx hb dX4_readMilestone_128 rfl (lv_at hl 3 rfl) ?_
                    refine va_get (D := D) (ci := 8) (v := .ref p0) (C := RX4) (T := TX4) (N := 9) hx hb hts inX4 hown hK hP 9 rfl rfl 1 (by decide) (hts (.fieldLink RX4 25 "EscrowDesk$Reader" "plan" "LEscrowDesk$Plan;") (by decide +kernel)) (fun _ h9 => h9) rfl dX4_readMilestone_129 ?_
                    refine lv_lload_n hx hb dX4_readMilestone_132 rfl (lv_at hl 2 rfl) ?_
                    refine lv_iload_n hx hb dX4_readMilestone_133 rfl (lv_at hl 1 rfl) ?_
                    refine lv_iload hx hb dX4_readMilestone_134 (lv_at hl 0 rfl) ?_
                    obtain ⟨hPc, hDc, hFc⟩ := PDq.cut (wc := [(oX3 p0 pr pb pe pg p1 (nI nd) p2 p3 p4 p5 (nI cn) p6 (nI qn98) p7 p8 p9 (nI qn99)), (p2, .inl (cA 1, 10, .inr (.inl fna))), (p3, .inl (cA 0, 10, .inl fam)), (p4, .inl (cA 0, 10, .inl fpi)), (p5, .inl (cA 0, 10, .inl fby)), (p9, .inl (cA 0, 10, .inl fen))]) hP hD hS hA [4, 5, 0, 1, 2, 3] (by decide) rfl
                    refine va_callv (va_runV (As := [.long (fv (ti + 1)), .int zn47, .int zn64]) (rest := []) ⟨hx, hb, hml, hown, hts⟩ (x_addMilestone l D cA sa p0 p1 p2 p3 p4 p5 p6 p7 p8 p9 cn qn98 nd qn99 pr pb pe pg (fv (ti + 1)) zn47 zn64 fam fpi fby fen fna ml H.size hcn hn110 hnd hn111 hby hen hNM hn3) (cwV 3 hts gX4_readMilestone_X3_addMilestone rfl rfl rfl (by decide +kernel) ⟨(Nat.le_of_ble_eq_true rfl), (Nat.le_of_ble_eq_true rfl)⟩) ⟨Wd.blind, va_recv hK hPc (ci := 7) (q0 := 0) rfl rfl, fun U hU hW => ⟨rfl, Wd.call hPc hDc hK hC hZ hS hFc U hU hW⟩⟩ rfl rfl hl.1 rfl (lv_room (Nat.le_of_ble_eq_true rfl)) dX4_readMilestone_136 ⟨(Nat.le_of_ble_eq_true rfl), (Nat.le_of_ble_eq_true rfl)⟩) hS (fun q _ h => hFc q h) hFc (fun u t H1 locs ht hvm hw hB hz1 hk1 hS => ?_)
                    obtain ⟨fn138, fn139, fn140, fn141, fn142, hn143, hn144, hn145, hP1, hD1⟩ := hB
                    rw [ht] at hP1
                    obtain ⟨hP, hD⟩ := PDq.join (w := [(p6, .inl (cA 1, 8, .inr (.inl fn103))), (p7, .inl (cA 0, 350, .inl fn104)), (p8, .inl (cA 0, 350, .inl fn105)), (oX4 r0 r1 p0 (nI (qn97 + 1)) (fk (qn97 + 1)) (ft (qn97 + 1)) (fv (qn97 + 1)) zn100 iek iep), (oX5 r1 k1 k2 k3 (nI ct)), (k1, .inl (cA 0, 701, .inl fk)), (k2, .inl (cA 0, 701, .inl ft)), (k3, .inl (cA 1, 701, .inr (.inl fv))), (oX3 p0 pr pb pe pg p1 (nI nd) p2 p3 p4 p5 (nI (cn + 1)) p6 (nI qn98) p7 p8 p9 (nI qn99)), (p2, .inl (cA 1, 10, .inr (.inl fn138))), (p3, .inl (cA 0, 10, .inl fn139)), (p4, .inl (cA 0, 10, .inl fn140)), (p5, .inl (cA 0, 10, .inl fn141)), (p9, .inl (cA 0, 10, .inl fn142))]) 8 hP hD [4, 5, 0, 1, 2, 3] [6, 7, 8, 9, 10, 11, 12, 13] rfl rfl (by decide) (by decide +kernel) hk1 hFc hP1 hD1 rfl
                    generalize H1 = H at hP hS ⊢
                    refine lv_iconst (v := 1) hx hb dX4_readMilestone_139 (by decide) ?_
                    obtain ⟨hP9, hD9⟩ := PDq.sub (ws' := [(oX4 r0 r1 p0 (nI (qn97 + 1)) (fk (qn97 + 1)) (ft (qn97 + 1)) (fv (qn97 + 1)) zn100 iek iep), (oX5 r1 k1 k2 k3 (nI ct)), (k1, .inl (cA 0, 701, .inl fk)), (k2, .inl (cA 0, 701, .inl ft)), (k3, .inl (cA 1, 701, .inr (.inl fv))), (oX3 p0 pr pb pe pg p1 (nI nd) p2 p3 p4 p5 (nI (cn + 1)) p6 (nI qn98) p7 p8 p9 (nI qn99)), (p2, .inl (cA 1, 10, .inr (.inl fn138))), (p6, .inl (cA 1, 8, .inr (.inl fn103))), (p7, .inl (cA 0, 350, .inl fn104)), (p8, .inl (cA 0, 350, .inl fn105)), (p3, .inl (cA 0, 10, .inl fn139)), (p4, .inl (cA 0, 10, .inl fn140)), (p5, .inl (cA 0, 10, .inl fn141)), (p9, .inl (cA 0, 10, .inl fn142))]) hP hD [3, 4, 5, 6, 7, 8, 9, 0, 1, 2, 10, 11, 12, 13] (by decide +kernel) rfl
                    refine W.widen (k := 0) (n := 0) (Nat.le_of_ble_eq_true rfl) (Nat.le_of_ble_eq_true rfl) ?_
                    exact (W.zret (v := 1) hx hb hr (by first | rfl | decide) (fun t ht hW => ⟨⟨1, 1, rfl, ⟨rfl, by decide⟩, (qn97 + 1), zn100, iek, iep, (cn + 1), qn98, qn99, fn138, fn103, fn104, fn105, fn139, fn140, fn141, fn142, (ml ++ [(fv (ti + 1))]), zn106, hn125, hn126, (by omega), hn110, hn111, hn143, hn112, hn144, hn145, (fun _ => rfl), (fun _ => rfl), (fun _ => (by omega)), (fun _ => (by omega)), (fun _ => ⟨_, S_mil hk (fun q9 => absurd (hNM.1.symm.trans q9) (by omega)) hn39 hn24 hn57 hn74 hn90 hn117, hn132, rfl⟩), (fun h9 => absurd h9 (by decide)), by rw [ht]; exact hP9, hD9⟩, hS.F ht⟩) hS.2.2 dX4_readMilestone_140)
      · skip
        subst hr9
        have hn24 := NL.mem hNM hn26 hn24
        refine lv_iconst (v := (-1)) hx hb dX4_readMilestone_47 (by decide) ?_
        refine lv_icmp_eq (tgt := 57) hx hb dX4_readMilestone_48 (by decide) (fun c9 => absurd c9 (nI_neg (n := kn25) (by omega) (by decide))) (fun c146 => ?_)
        refine lv_aload_n hx hb dX4_readMilestone_51 rfl (lv_at hl 1 rfl) ?_
        refine lv_iconst (v := 4) hx hb dX4_readMilestone_52 (by decide) ?_
        obtain ⟨hPc, hDc, hFc⟩ := PDq.cut (wc := [(oX4 r0 r1 p0 (nI (ti + 1)) (fk (ti + 1)) (ft (ti + 1)) (fv (ti + 1)) inb iek iep)]) hP hD hS hA [7] (by decide) rfl
        refine va_calli (va_runV (As := [.int 4]) (rest := []) ⟨hx, hb, hml, hown, hts⟩ (x_fail l D cA sa r0 r1 p0 (nI (ti + 1)) (fk (ti + 1)) (ft (ti + 1)) inb iek iep (fv (ti + 1)) 4 H.size) (cwV 1 hts gX4_readMilestone_X4_fail rfl rfl rfl (by decide +kernel) ⟨(Nat.le_of_ble_eq_true rfl), (Nat.le_of_ble_eq_true rfl)⟩) ⟨Wd.blind, va_recv hK hPc (ci := 8) (q0 := 0) rfl rfl, fun U hU hW => ⟨rfl, Wd.call hPc hDc hK hC hZ hS hFc U hU hW⟩⟩ rfl rfl hl.1 rfl (lv_room (Nat.le_of_ble_eq_true rfl)) dX4_readMilestone_53 ⟨(Nat.le_of_ble_eq_true rfl), (Nat.le_of_ble_eq_true rfl)⟩) hS (fun q _ h => hFc q h) hFc (fun rn147 u t H1 locs ht hvm hw hB hz1 hk1 hS => ?_)
        obtain ⟨zn148, hn149, hP1, hD1⟩ := hB
        rw [ht] at hP1
        obtain ⟨hP, hD⟩ := PDq.join (w := [(p6, .inl (cA 1, 8, .inr (.inl fpn))), (p7, .inl (cA 0, 350, .inl fst)), (p8, .inl (cA 0, 350, .inl fop)), (p3, .inl (cA 0, 10, .inl fam)), (p4, .inl (cA 0, 10, .inl fpi)), (p5, .inl (cA 0, 10, .inl fby)), (p9, .inl (cA 0, 10, .inl fen)), (oX5 r1 k1 k2 k3 (nI ct)), (k1, .inl (cA 0, 701, .inl fk)), (k2, .inl (cA 0, 701, .inl ft)), (k3, .inl (cA 1, 701, .inr (.inl fv))), (oX3 p0 pr pb pe pg p1 (nI nd) p2 p3 p4 p5 (nI cn) p6 (nI pq) p7 p8 p9 (nI sc)), (p2, .inl (cA 1, 10, .inr (.inl fna))), (oX4 r0 r1 p0 (nI (ti + 1)) (fk (ti + 1)) (ft (ti + 1)) (fv (ti + 1)) inb zn148 (ft (ti + 1)))]) 13 hP hD [7] [0, 1, 2, 3, 4, 5, 6, 8, 9, 10, 11, 12, 13] rfl rfl (by decide +kernel) (by decide +kernel) hk1 hFc hP1 hD1 rfl
        generalize H1 = H at hP hS ⊢
        obtain rfl : rn147 = 0 := hw
        obtain ⟨hP9, hD9⟩ := PDq.sub (ws' := [(oX4 r0 r1 p0 (nI (ti + 1)) (fk (ti + 1)) (ft (ti + 1)) (fv (ti + 1)) inb zn148 (ft (ti + 1))), (oX5 r1 k1 k2 k3 (nI ct)), (k1, .inl (cA 0, 701, .inl fk)), (k2, .inl (cA 0, 701, .inl ft)), (k3, .inl (cA 1, 701, .inr (.inl fv))), (oX3 p0 pr pb pe pg p1 (nI nd) p2 p3 p4 p5 (nI cn) p6 (nI pq) p7 p8 p9 (nI sc)), (p2, .inl (cA 1, 10, .inr (.inl fna))), (p6, .inl (cA 1, 8, .inr (.inl fpn))), (p7, .inl (cA 0, 350, .inl fst)), (p8, .inl (cA 0, 350, .inl fop)), (p3, .inl (cA 0, 10, .inl fam)), (p4, .inl (cA 0, 10, .inl fpi)), (p5, .inl (cA 0, 10, .inl fby)), (p9, .inl (cA 0, 10, .inl fen))]) hP hD [13, 7, 8, 9, 10, 11, 12, 0, 1, 2, 3, 4, 5, 6] (by decide +kernel) rfl
        refine W.widen (k := 0) (n := 0) (Nat.le_of_ble_eq_true rfl) (Nat.le_of_ble_eq_true rfl) ?_
        exact (W.zret (v := 0) hx hb hr (by first | rfl | decide) (fun t ht hW => ⟨⟨0, 0, rfl, ⟨rfl, by decide⟩, (ti + 1), inb, zn148, (ft (ti + 1)), cn, pq, sc, fna, fpn, fst, fop, fam, fpi, fby, fen, ml, pl, hn1.1, (by omega), hcn, hpq, hsc, hNM, hNP, hby, hen, (fun h9 => absurd h9 (by decide)), (fun h9 => absurd h9 (by decide)), (fun h9 => absurd h9 (by decide)), (fun h9 => absurd h9 (by decide)), (fun h9 => absurd h9 (by decide)), (fun _ => (Or.inl (S_milDx hk (fun q9 => absurd (hNM.1.symm.trans q9) (by omega)) c6 hn24 hn149 rfl))), by rw [ht]; exact hP9, hD9⟩, hS.F ht⟩) hS.2.2 dX4_readMilestone_56)
  · skip
    subst hr9
    refine lv_if_ne (tgt := 16) hx hb dX4_readMilestone_7 (by decide) (fun c9 => absurd c9 (by decide)) (fun c150 => ?_)
    refine lv_aload_n hx hb dX4_readMilestone_10 rfl (lv_at hl 0 rfl) ?_
    refine lv_iconst (v := 5) hx hb dX4_readMilestone_11 (by decide) ?_
    obtain ⟨hPc, hDc, hFc⟩ := PDq.cut (wc := [(oX4 r0 r1 p0 (nI ti) (fk ti) (ft ti) (fv ti) inb iek iep)]) hP hD hS hA [0] (by decide) rfl
    refine va_calli (va_runV (As := [.int 5]) (rest := []) ⟨hx, hb, hml, hown, hts⟩ (x_fail l D cA sa r0 r1 p0 (nI ti) (fk ti) (ft ti) inb iek iep (fv ti) 5 H.size) (cwV 1 hts gX4_readMilestone_X4_fail rfl rfl rfl (by decide +kernel) ⟨(Nat.le_of_ble_eq_true rfl), (Nat.le_of_ble_eq_true rfl)⟩) ⟨Wd.blind, va_recv hK hPc (ci := 8) (q0 := 0) rfl rfl, fun U hU hW => ⟨rfl, Wd.call hPc hDc hK hC hZ hS hFc U hU hW⟩⟩ rfl rfl hl.1 rfl (lv_room (Nat.le_of_ble_eq_true rfl)) dX4_readMilestone_12 ⟨(Nat.le_of_ble_eq_true rfl), (Nat.le_of_ble_eq_true rfl)⟩) hS (fun q _ h => hFc q h) hFc (fun rn151 u t H1 locs ht hvm hw hB hz1 hk1 hS => ?_)
    obtain ⟨zn152, hn153, hP1, hD1⟩ := hB
    rw [ht] at hP1
    obtain ⟨hP, hD⟩ := PDq.join (w := [(oX5 r1 k1 k2 k3 (nI ct)), (k1, .inl (cA 0, 701, .inl fk)), (k2, .inl (cA 0, 701, .inl ft)), (k3, .inl (cA 1, 701, .inr (.inl fv))), (p2, .inl (cA 1, 10, .inr (.inl fna))), (p6, .inl (cA 1, 8, .inr (.inl fpn))), (p7, .inl (cA 0, 350, .inl fst)), (p8, .inl (cA 0, 350, .inl fop)), (p3, .inl (cA 0, 10, .inl fam)), (p4, .inl (cA 0, 10, .inl fpi)), (p5, .inl (cA 0, 10, .inl fby)), (p9, .inl (cA 0, 10, .inl fen)), (oX3 p0 pr pb pe pg p1 (nI nd) p2 p3 p4 p5 (nI cn) p6 (nI pq) p7 p8 p9 (nI sc)), (oX4 r0 r1 p0 (nI ti) (fk ti) (ft ti) (fv ti) inb zn152 (ft ti))]) 13 hP hD [0] [1, 2, 3, 4, 5, 6, 7, 8, 9, 10, 11, 12, 13] rfl rfl (by decide +kernel) (by decide +kernel) hk1 hFc hP1 hD1 rfl
    generalize H1 = H at hP hS ⊢
    obtain rfl : rn151 = 0 := hw
    obtain ⟨hP9, hD9⟩ := PDq.sub (ws' := [(oX4 r0 r1 p0 (nI ti) (fk ti) (ft ti) (fv ti) inb zn152 (ft ti)), (oX5 r1 k1 k2 k3 (nI ct)), (k1, .inl (cA 0, 701, .inl fk)), (k2, .inl (cA 0, 701, .inl ft)), (k3, .inl (cA 1, 701, .inr (.inl fv))), (oX3 p0 pr pb pe pg p1 (nI nd) p2 p3 p4 p5 (nI cn) p6 (nI pq) p7 p8 p9 (nI sc)), (p2, .inl (cA 1, 10, .inr (.inl fna))), (p6, .inl (cA 1, 8, .inr (.inl fpn))), (p7, .inl (cA 0, 350, .inl fst)), (p8, .inl (cA 0, 350, .inl fop)), (p3, .inl (cA 0, 10, .inl fam)), (p4, .inl (cA 0, 10, .inl fpi)), (p5, .inl (cA 0, 10, .inl fby)), (p9, .inl (cA 0, 10, .inl fen))]) hP hD [13, 0, 1, 2, 3, 12, 4, 5, 6, 7, 8, 9, 10, 11] (by decide +kernel) rfl
    refine W.widen (k := 0) (n := 0) (Nat.le_of_ble_eq_true rfl) (Nat.le_of_ble_eq_true rfl) ?_
    exact (W.zret (v := 0) hx hb hr (by first | rfl | decide) (fun t ht hW => ⟨⟨0, 0, rfl, ⟨rfl, by decide⟩, ti, inb, zn152, (ft ti), cn, pq, sc, fna, fpn, fst, fop, fam, fpi, fby, fen, ml, pl, hti, (by omega), hcn, hpq, hsc, hNM, hNP, hby, hen, (fun h9 => absurd h9 (by decide)), (fun h9 => absurd h9 (by decide)), (fun h9 => absurd h9 (by decide)), (fun h9 => absurd h9 (by decide)), (fun h9 => absurd h9 (by decide)), (fun _ => (Or.inl (S_milFx hk (hNM.1.trans (by omega)) hn153 rfl))), by rw [ht]; exact hP9, hD9⟩, hS.F ht⟩) hS.2.2 dX4_readMilestone_15)

set_option maxHeartbeats 4000000 in
set_option maxRecDepth 100000 in
/-- Plan.clear -/
theorem x_planClear_look (l : Launch) (D : va_G) (cA : Nat → ClassId) (sa : Nat → Nat) (p0 : Nat) (p1 : Nat) (p2 : Nat) (p3 : Nat) (p4 : Nat) (p5 : Nat) (p6 : Nat) (p7 : Nat) (p8 : Nat) (p9 : Nat) (cn : Nat) (pq : Nat) (nd : Nat) (sc : Nat) (pr : Int32) (pb : Int32) (pe : Int32) (pg : Int32) (sz : Nat) : Met l yX3_clear wsX3_clear ({ frames := 0, cells := 0, slots := 0, locals := 0 }) (va_Pc [.ref p0] (Wd D cA sa [(oX3 p0 pr pb pe pg p1 (nI nd) p2 p3 p4 p5 (nI cn) p6 (nI pq) p7 p8 p9 (nI sc))] sz)) (va_Qv (fun _ : Unit => True) (fun (_ : Unit) t => ∃ zra : Int32, ∃ zba : Int32, ∃ zea : Int32, ∃ zga : Int32, Wq D (va_A [(oX3 p0 pr pb pe pg p1 (nI nd) p2 p3 p4 p5 (nI cn) p6 (nI pq) p7 p8 p9 (nI sc))] sz) [(oX3 p0 zra zba zea zga p1 0 p2 p3 p4 p5 0 p6 0 p7 p8 p9 0)] t) (va_A [(oX3 p0 pr pb pe pg p1 (nI nd) p2 p3 p4 p5 (nI cn) p6 (nI pq) p7 p8 p9 (nI sc))] sz)) 0 0 (va_A [(oX3 p0 pr pb pe pg p1 (nI nd) p2 p3 p4 p5 (nI cn) p6 (nI pq) p7 p8 p9 (nI sc))] sz) := by
  refine Met.ofW (cc := cX3_clear) (maxL := 1) (ret := none) (by decide) rfl ?_
  intro p e s m args below meth c s₁ B hml hv
  obtain ⟨rfl, hsz, hP, hK, hD0, hC, hZ⟩ := hv
  have hx := B.exec
  have hb := B.bytes
  have hr := B.returns
  have hts := atoms_spec (ws := wsX3_clear) B.pre
  have hown : s.vm.findClass RX3 = some m.cls := findClass_of_methodNamed B.named
  have hlocks := B.notSynchronized
  subst hsz
  have hD := hD0.self (sz := s.heap.size)
  generalize hAe : va_A [(oX3 p0 pr pb pe pg p1 (nI nd) p2 p3 p4 p5 (nI cn) p6 (nI pq) p7 p8 p9 (nI sc))] s.heap.size = A at hD hZ ⊢
  have hA : ∀ q : Nat, s.heap.size ≤ q → A q := fun q h => by rw [← hAe]; exact Or.inr h
  have hS : va_S A s.heap s.heap [] := va_S.rf
  have hP : va_P D vwCl [(oX3 p0 pr pb pe pg p1 (nI nd) p2 p3 p4 p5 (nI cn) p6 (nI pq) p7 p8 p9 (nI sc))] s.heap := hP
  have hl := lv_entry ([.ref p0]) (n := 1) (Nat.le_of_ble_eq_true rfl)
  rw [lg_entry_eq]
  generalize (lg_sl ([.ref p0]) ++ List.replicate (1 - (lg_sl ([.ref p0])).length) Slot.unset).toArray = ls at hl ⊢
  have hl : lv_has ls 1 [(0, .ref p0)] := hl
  have inX3 : ∀ w ∈ u_ws RX3 TX3 17, w ∈ wsX3_clear := by decide +kernel
  refine lv_aload_n hx hb dX3_clear_0 rfl (lv_at hl 0 rfl) ?_
  refine lv_iconst (v := 0) hx hb dX3_clear_1 (by decide) ?_
  refine va_put (D := D) (ci := 7) (v := .int 0) (ty := .int) (C := RX3) (T := TX3) (N := 17) hx hb hts inX3 tyX3 tyX3_ok nmX3 hown hK hP hD hS 0 rfl rfl 0 (by decide) (hts (.fieldLink RX3 44 "EscrowDesk$Plan" "rate" "I") (by decide +kernel)) (fun _ h9 => h9) rfl (by decide +kernel) rfl rfl (Nat.le_of_ble_eq_true rfl) dX3_clear_2 (fun H locs hP hD hS => ?_)
  obtain ⟨hP, hD⟩ : PDq D A [(oX3 p0 0 pb pe pg p1 (nI nd) p2 p3 p4 p5 (nI cn) p6 (nI pq) p7 p8 p9 (nI sc))] H := ⟨hP, hD⟩
  refine lv_aload_n hx hb dX3_clear_5 rfl (lv_at hl 0 rfl) ?_
  refine lv_sipush (v := 365) hx hb dX3_clear_6 (by decide) ?_
  refine va_put (D := D) (ci := 7) (v := .int 365) (ty := .int) (C := RX3) (T := TX3) (N := 17) hx hb hts inX3 tyX3 tyX3_ok nmX3 hown hK hP hD hS 0 rfl rfl 1 (by decide) (hts (.fieldLink RX3 9 "EscrowDesk$Plan" "basis" "I") (by decide +kernel)) (fun _ h9 => h9) rfl (by decide +kernel) rfl rfl (Nat.le_of_ble_eq_true rfl) dX3_clear_9 (fun H locs hP hD hS => ?_)
  obtain ⟨hP, hD⟩ : PDq D A [(oX3 p0 0 365 pe pg p1 (nI nd) p2 p3 p4 p5 (nI cn) p6 (nI pq) p7 p8 p9 (nI sc))] H := ⟨hP, hD⟩
  refine lv_aload_n hx hb dX3_clear_12 rfl (lv_at hl 0 rfl) ?_
  refine lv_iconst (v := 0) hx hb dX3_clear_13 (by decide) ?_
  refine va_put (D := D) (ci := 7) (v := .int 0) (ty := .int) (C := RX3) (T := TX3) (N := 17) hx hb hts inX3 tyX3 tyX3_ok nmX3 hown hK hP hD hS 0 rfl rfl 2 (by decide) (hts (.fieldLink RX3 47 "EscrowDesk$Plan" "fee" "I") (by decide +kernel)) (fun _ h9 => h9) rfl (by decide +kernel) rfl rfl (Nat.le_of_ble_eq_true rfl) dX3_clear_14 (fun H locs hP hD hS => ?_)
  obtain ⟨hP, hD⟩ : PDq D A [(oX3 p0 0 365 0 pg p1 (nI nd) p2 p3 p4 p5 (nI cn) p6 (nI pq) p7 p8 p9 (nI sc))] H := ⟨hP, hD⟩
  refine lv_aload_n hx hb dX3_clear_17 rfl (lv_at hl 0 rfl) ?_
  refine lv_iconst (v := 0) hx hb dX3_clear_18 (by decide) ?_
  refine va_put (D := D) (ci := 7) (v := .int 0) (ty := .int) (C := RX3) (T := TX3) (N := 17) hx hb hts inX3 tyX3 tyX3_ok nmX3 hown hK hP hD hS 0 rfl rfl 3 (by decide) (hts (.fieldLink RX3 50 "EscrowDesk$Plan" "grace" "I") (by decide +kernel)) (fun _ h9 => h9) rfl (by decide +kernel) rfl rfl (Nat.le_of_ble_eq_true rfl) dX3_clear_19 (fun H locs hP hD hS => ?_)
  obtain ⟨hP, hD⟩ : PDq D A [(oX3 p0 0 365 0 0 p1 (nI nd) p2 p3 p4 p5 (nI cn) p6 (nI pq) p7 p8 p9 (nI sc))] H := ⟨hP, hD⟩
  refine lv_aload_n hx hb dX3_clear_22 rfl (lv_at hl 0 rfl) ?_
  refine lv_iconst (v := 0) hx hb dX3_clear_23 (by decide) ?_
  refine va_put (D := D) (ci := 7) (v := .int 0) (ty := .int) (C := RX3) (T := TX3) (N := 17) hx hb hts inX3 tyX3 tyX3_ok nmX3 hown hK hP hD hS 0 rfl rfl 5 (by decide) (hts (.fieldLink RX3 53 "EscrowDesk$Plan" "depositCount" "I") (by decide +kernel)) (fun _ h9 => h9) rfl (by decide +kernel) rfl rfl (Nat.le_of_ble_eq_true rfl) dX3_clear_24 (fun H locs hP hD hS => ?_)
  obtain ⟨hP, hD⟩ : PDq D A [(oX3 p0 0 365 0 0 p1 0 p2 p3 p4 p5 (nI cn) p6 (nI pq) p7 p8 p9 (nI sc))] H := ⟨hP, hD⟩
  refine lv_aload_n hx hb dX3_clear_27 rfl (lv_at hl 0 rfl) ?_
  refine lv_iconst (v := 0) hx hb dX3_clear_28 (by decide) ?_
  refine va_put (D := D) (ci := 7) (v := .int 0) (ty := .int) (C := RX3) (T := TX3) (N := 17) hx hb hts inX3 tyX3 tyX3_ok nmX3 hown hK hP hD hS 0 rfl rfl 10 (by decide) (hts (.fieldLink RX3 56 "EscrowDesk$Plan" "milestoneCount" "I") (by decide +kernel)) (fun _ h9 => h9) rfl (by decide +kernel) rfl rfl (Nat.le_of_ble_eq_true rfl) dX3_clear_29 (fun H locs hP hD hS => ?_)
  obtain ⟨hP, hD⟩ : PDq D A [(oX3 p0 0 365 0 0 p1 0 p2 p3 p4 p5 0 p6 (nI pq) p7 p8 p9 (nI sc))] H := ⟨hP, hD⟩
  refine lv_aload_n hx hb dX3_clear_32 rfl (lv_at hl 0 rfl) ?_
  refine lv_iconst (v := 0) hx hb dX3_clear_33 (by decide) ?_
  refine va_put (D := D) (ci := 7) (v := .int 0) (ty := .int) (C := RX3) (T := TX3) (N := 17) hx hb hts inX3 tyX3 tyX3_ok nmX3 hown hK hP hD hS 0 rfl rfl 12 (by decide) (hts (.fieldLink RX3 59 "EscrowDesk$Plan" "proofCount" "I") (by decide +kernel)) (fun _ h9 => h9) rfl (by decide +kernel) rfl rfl (Nat.le_of_ble_eq_true rfl) dX3_clear_34 (fun H locs hP hD hS => ?_)
  obtain ⟨hP, hD⟩ : PDq D A [(oX3 p0 0 365 0 0 p1 0 p2 p3 p4 p5 0 p6 0 p7 p8 p9 (nI sc))] H := ⟨hP, hD⟩
  refine lv_aload_n hx hb dX3_clear_37 rfl (lv_at hl 0 rfl) ?_
  refine lv_iconst (v := 0) hx hb dX3_clear_38 (by decide) ?_
  refine va_put (D := D) (ci := 7) (v := .int 0) (ty := .int) (C := RX3) (T := TX3) (N := 17) hx hb hts inX3 tyX3 tyX3_ok nmX3 hown hK hP hD hS 0 rfl rfl 16 (by decide) (hts (.fieldLink RX3 62 "EscrowDesk$Plan" "stepCount" "I") (by decide +kernel)) (fun _ h9 => h9) rfl (by decide +kernel) rfl rfl (Nat.le_of_ble_eq_true rfl) dX3_clear_39 (fun H locs hP hD hS => ?_)
  obtain ⟨hP, hD⟩ : PDq D A [(oX3 p0 0 365 0 0 p1 0 p2 p3 p4 p5 0 p6 0 p7 p8 p9 0)] H := ⟨hP, hD⟩
  obtain ⟨hP9, hD9⟩ := PDq.sub (ws' := [(oX3 p0 0 365 0 0 p1 0 p2 p3 p4 p5 0 p6 0 p7 p8 p9 0)]) hP hD [0] (by decide) rfl
  refine W.widen (k := 0) (n := 0) (Nat.le_of_ble_eq_true rfl) (Nat.le_of_ble_eq_true rfl) ?_
  exact (W.vret hx hb hr (fun t ht hW => ⟨⟨(), rfl, trivial, 0, 365, 0, 0, by rw [ht]; exact hP9, hD9⟩, hS.F ht⟩) hS.2.2 dX3_clear_42)

set_option maxHeartbeats 4000000 in
set_option maxRecDepth 100000 in
/-- readText -/
theorem x_readText_look (l : Launch) (D : va_G) (cA : Nat → ClassId) (sa : Nat → Nat) (r0 : Nat) (p0 : Nat) (ir2 : Int32) (ir3 : Int32) (ir4 : Int32) (ir6 : Int32) (ir7 : Int32) (ir8 : Int32) (ir5 : Int64) (r1 : Nat) (k1 : Nat) (k2 : Nat) (k3 : Nat) (ct : Nat) (fk : Nat → Int32) (ft : Nat → Int32) (fv : Nat → Int64) (p1 : Nat) (p2 : Nat) (p3 : Nat) (p4 : Nat) (p5 : Nat) (p6 : Nat) (p7 : Nat) (p8 : Nat) (p9 : Nat) (cn : Nat) (pq : Nat) (nd : Nat) (sc : Nat) (pr : Int32) (pb : Int32) (pe : Int32) (pg : Int32) (fde : Nat → Int32) (fam : Nat → Int32) (fpi : Nat → Int32) (fby : Nat → Int32) (fst : Nat → Int32) (fop : Nat → Int32) (fen : Nat → Int32) (fna : Nat → Int64) (fpn : Nat → Int64) (rq : Nat) (b0 : Nat) (ln : Nat) (fb : Nat → Int32) (sz : Nat) (hct : ct ≤ 701) (hby : Rng 10 10 fby) (hen : Rng 10 351 fen) (hln : ln ≤ 700) : Met l yX4_readText wsX4_readText ({ frames := 48, cells := 0, slots := 0, locals := 991 }) (va_Pc [.ref r0, .ref b0, .int (nI ln), .ref p0] (Wd D cA sa [(oX4 r0 r1 rq ir2 ir3 ir4 ir5 ir6 ir7 ir8), (oX5 r1 k1 k2 k3 (nI ct)), (k1, .inl (cA 0, 701, .inl fk)), (k2, .inl (cA 0, 701, .inl ft)), (k3, .inl (cA 1, 701, .inr (.inl fv))), (b0, .inl (cA 2, 700, .inl fb)), (oX3 p0 pr pb pe pg p1 (nI nd) p2 p3 p4 p5 (nI cn) p6 (nI pq) p7 p8 p9 (nI sc)), (p1, .inl (cA 0, 6, .inl fde)), (p2, .inl (cA 1, 10, .inr (.inl fna))), (p3, .inl (cA 0, 10, .inl fam)), (p4, .inl (cA 0, 10, .inl fpi)), (p5, .inl (cA 0, 10, .inl fby)), (p6, .inl (cA 1, 8, .inr (.inl fpn))), (p7, .inl (cA 0, 350, .inl fst)), (p8, .inl (cA 0, 350, .inl fop)), (p9, .inl (cA 0, 10, .inl fen))] sz)) (va_Qi (fun (r : Int32) (u9 : Int32) => u9 = r ∧ (r = 0 ∨ r = 1)) (fun (u9 : Int32) t => ∃ zr2 : Int32, ∃ zr3 : Int32, ∃ zr4 : Int32, ∃ zr6 : Int32, ∃ zr7 : Int32, ∃ zr8 : Int32, ∃ zr5 : Int64, ∃ cy : Nat, ∃ zk : Nat → Int32, ∃ zt : Nat → Int32, ∃ zv : Nat → Int64, ∃ cm : Nat, ∃ qm : Nat, ∃ dm : Nat, ∃ sm : Nat, ∃ zra : Int32, ∃ zba : Int32, ∃ zea : Int32, ∃ zga : Int32, ∃ zde : Nat → Int32, ∃ zam : Nat → Int32, ∃ zpi : Nat → Int32, ∃ zby : Nat → Int32, ∃ zst : Nat → Int32, ∃ zop : Nat → Int32, ∃ zen : Nat → Int32, ∃ zna : Nat → Int64, ∃ zpn : Nat → Int64, ∃ zml : List Int64, ∃ zpl : List Int64, cy ≤ 701 ∧ TXE fb ln cy zt zv zk ∧ cm ≤ 10 ∧ qm ≤ 8 ∧ dm ≤ 6 ∧ sm ≤ 350 ∧ Rng 10 10 zby ∧ Rng 10 351 zen ∧ NL zml cm zna ∧ NL zpl qm zpn ∧ (u9 = 1 → zr7 = 0) ∧ (u9 = 1 → zr8 = (-1)) ∧ (u9 = 1 → TP zk zt zv 0 0 [] [] (.inr (zml, zpl))) ∧ (u9 = 0 → TP zk zt zv 0 0 [] [] (.inl (zr7, zr8))) ∧ Wq D (va_A [(oX4 r0 r1 rq ir2 ir3 ir4 ir5 ir6 ir7 ir8), (oX5 r1 k1 k2 k3 (nI ct)), (k1, .inl (cA 0, 701, .inl fk)), (k2, .inl (cA 0, 701, .inl ft)), (k3, .inl (cA 1, 701, .inr (.inl fv))), (b0, .inl (cA 2, 700, .inl fb)), (oX3 p0 pr pb pe pg p1 (nI nd) p2 p3 p4 p5 (nI cn) p6 (nI pq) p7 p8 p9 (nI sc)), (p1, .inl (cA 0, 6, .inl fde)), (p2, .inl (cA 1, 10, .inr (.inl fna))), (p3, .inl (cA 0, 10, .inl fam)), (p4, .inl (cA 0, 10, .inl fpi)), (p5, .inl (cA 0, 10, .inl fby)), (p6, .inl (cA 1, 8, .inr (.inl fpn))), (p7, .inl (cA 0, 350, .inl fst)), (p8, .inl (cA 0, 350, .inl fop)), (p9, .inl (cA 0, 10, .inl fen))] sz) [(oX4 r0 r1 p0 zr2 zr3 zr4 zr5 zr6 zr7 zr8), (oX5 r1 k1 k2 k3 (nI cy)), (k1, .inl (cA 0, 701, .inl zk)), (k2, .inl (cA 0, 701, .inl zt)), (k3, .inl (cA 1, 701, .inr (.inl zv))), (b0, .inl (cA 2, 700, .inl fb)), (oX3 p0 zra zba zea zga p1 (nI dm) p2 p3 p4 p5 (nI cm) p6 (nI qm) p7 p8 p9 (nI sm)), (p1, .inl (cA 0, 6, .inl zde)), (p2, .inl (cA 1, 10, .inr (.inl zna))), (p3, .inl (cA 0, 10, .inl zam)), (p4, .inl (cA 0, 10, .inl zpi)), (p5, .inl (cA 0, 10, .inl zby)), (p6, .inl (cA 1, 8, .inr (.inl zpn))), (p7, .inl (cA 0, 350, .inl zst)), (p8, .inl (cA 0, 350, .inl zop)), (p9, .inl (cA 0, 10, .inl zen))] t) (va_A [(oX4 r0 r1 rq ir2 ir3 ir4 ir5 ir6 ir7 ir8), (oX5 r1 k1 k2 k3 (nI ct)), (k1, .inl (cA 0, 701, .inl fk)), (k2, .inl (cA 0, 701, .inl ft)), (k3, .inl (cA 1, 701, .inr (.inl fv))), (b0, .inl (cA 2, 700, .inl fb)), (oX3 p0 pr pb pe pg p1 (nI nd) p2 p3 p4 p5 (nI cn) p6 (nI pq) p7 p8 p9 (nI sc)), (p1, .inl (cA 0, 6, .inl fde)), (p2, .inl (cA 1, 10, .inr (.inl fna))), (p3, .inl (cA 0, 10, .inl fam)), (p4, .inl (cA 0, 10, .inl fpi)), (p5, .inl (cA 0, 10, .inl fby)), (p6, .inl (cA 1, 8, .inr (.inl fpn))), (p7, .inl (cA 0, 350, .inl fst)), (p8, .inl (cA 0, 350, .inl fop)), (p9, .inl (cA 0, 10, .inl fen))] sz)) 0 0 (va_A [(oX4 r0 r1 rq ir2 ir3 ir4 ir5 ir6 ir7 ir8), (oX5 r1 k1 k2 k3 (nI ct)), (k1, .inl (cA 0, 701, .inl fk)), (k2, .inl (cA 0, 701, .inl ft)), (k3, .inl (cA 1, 701, .inr (.inl fv))), (b0, .inl (cA 2, 700, .inl fb)), (oX3 p0 pr pb pe pg p1 (nI nd) p2 p3 p4 p5 (nI cn) p6 (nI pq) p7 p8 p9 (nI sc)), (p1, .inl (cA 0, 6, .inl fde)), (p2, .inl (cA 1, 10, .inr (.inl fna))), (p3, .inl (cA 0, 10, .inl fam)), (p4, .inl (cA 0, 10, .inl fpi)), (p5, .inl (cA 0, 10, .inl fby)), (p6, .inl (cA 1, 8, .inr (.inl fpn))), (p7, .inl (cA 0, 350, .inl fst)), (p8, .inl (cA 0, 350, .inl fop)), (p9, .inl (cA 0, 10, .inl fen))] sz) := by
  refine Met.ofW (cc := cX4_readText) (maxL := 6) (ret := (some .boolean)) (by decide) rfl ?_
  intro p e s m args below meth c s₁ B hml hv
  obtain ⟨rfl, hsz, hP, hK, hD0, hC, hZ⟩ := hv
  have hx := B.exec
  have hb := B.bytes
  have hr := B.returns
  have hts := atoms_spec (ws := wsX4_readText) B.pre
  have hown : s.vm.findClass RX4 = some m.cls := findClass_of_methodNamed B.named
  have hlocks := B.notSynchronized
  subst hsz
  have hD := hD0.self (sz := s.heap.size)
  generalize hAe : va_A [(oX4 r0 r1 rq ir2 ir3 ir4 ir5 ir6 ir7 ir8), (oX5 r1 k1 k2 k3 (nI ct)), (k1, .inl (cA 0, 701, .inl fk)), (k2, .inl (cA 0, 701, .inl ft)), (k3, .inl (cA 1, 701, .inr (.inl fv))), (b0, .inl (cA 2, 700, .inl fb)), (oX3 p0 pr pb pe pg p1 (nI nd) p2 p3 p4 p5 (nI cn) p6 (nI pq) p7 p8 p9 (nI sc)), (p1, .inl (cA 0, 6, .inl fde)), (p2, .inl (cA 1, 10, .inr (.inl fna))), (p3, .inl (cA 0, 10, .inl fam)), (p4, .inl (cA 0, 10, .inl fpi)), (p5, .inl (cA 0, 10, .inl fby)), (p6, .inl (cA 1, 8, .inr (.inl fpn))), (p7, .inl (cA 0, 350, .inl fst)), (p8, .inl (cA 0, 350, .inl fop)), (p9, .inl (cA 0, 10, .inl fen))] s.heap.size = A at hD hZ ⊢
  have hA : ∀ q : Nat, s.heap.size ≤ q → A q := fun q h => by rw [← hAe]; exact Or.inr h
  have hS : va_S A s.heap s.heap [] := va_S.rf
  have hP : va_P D vwCl [(oX4 r0 r1 rq ir2 ir3 ir4 ir5 ir6 ir7 ir8), (oX5 r1 k1 k2 k3 (nI ct)), (k1, .inl (cA 0, 701, .inl fk)), (k2, .inl (cA 0, 701, .inl ft)), (k3, .inl (cA 1, 701, .inr (.inl fv))), (b0, .inl (cA 2, 700, .inl fb)), (oX3 p0 pr pb pe pg p1 (nI nd) p2 p3 p4 p5 (nI cn) p6 (nI pq) p7 p8 p9 (nI sc)), (p1, .inl (cA 0, 6, .inl fde)), (p2, .inl (cA 1, 10, .inr (.inl fna))), (p3, .inl (cA 0, 10, .inl fam)), (p4, .inl (cA 0, 10, .inl fpi)), (p5, .inl (cA 0, 10, .inl fby)), (p6, .inl (cA 1, 8, .inr (.inl fpn))), (p7, .inl (cA 0, 350, .inl fst)), (p8, .inl (cA 0, 350, .inl fop)), (p9, .inl (cA 0, 10, .inl fen))] s.heap := hP
  have hl := lv_entry ([.ref r0, .ref b0, .int (nI ln), .ref p0]) (n := 6) (Nat.le_of_ble_eq_true rfl)
  rw [lg_entry_eq]
  generalize (lg_sl ([.ref r0, .ref b0, .int (nI ln), .ref p0]) ++ List.replicate (6 - (lg_sl ([.ref r0, .ref b0, .int (nI ln), .ref p0])).length) Slot.unset).toArray = ls at hl ⊢
  have hl : lv_has ls 6 [(0, .ref r0), (1, .ref b0), (2, .int (nI ln)), (3, .ref p0)] := hl
  have inX4 : ∀ w ∈ u_ws RX4 TX4 9, w ∈ wsX4_readText := by decide +kernel
  refine lv_aload_n hx hb dX4_readText_0 rfl (lv_at hl 0 rfl) ?_
  refine va_get (D := D) (ci := 8) (v := .ref r1) (C := RX4) (T := TX4) (N := 9) hx hb hts inX4 hown hK hP 0 rfl rfl 0 (by decide) (hts (.fieldLink RX4 12 "EscrowDesk$Reader" "scanner" "LEscrowDesk$Scanner;") (by decide +kernel)) (fun _ h9 => h9) rfl dX4_readText_1 ?_
  refine lv_aload_n hx hb dX4_readText_4 rfl (lv_at hl 1 rfl) ?_
  refine lv_iload_n hx hb dX4_readText_5 rfl (lv_at hl 2 rfl) ?_
  obtain ⟨hPc, hDc, hFc⟩ := PDq.cut (wc := [(oX5 r1 k1 k2 k3 (nI ct)), (k1, .inl (cA 0, 701, .inl fk)), (k2, .inl (cA 0, 701, .inl ft)), (k3, .inl (cA 1, 701, .inr (.inl fv))), (b0, .inl (cA 2, 700, .inl fb))]) hP hD hS hA [1, 2, 3, 4, 5] (by decide) rfl
  refine va_callv (va_runV (As := [.ref b0, .int (nI ln)]) (rest := []) ⟨hx, hb, hml, hown, hts⟩ (x_split l D cA sa r1 k1 k2 k3 ct fk ft fv b0 ln fb s.heap.size hct hln) (cwV 2 hts gX4_readText_X5_split rfl rfl rfl (by decide +kernel) ⟨(Nat.le_of_ble_eq_true rfl), (Nat.le_of_ble_eq_true rfl)⟩) ⟨Wd.blind, va_recv hK hPc (ci := 9) (q0 := 0) rfl rfl, fun U hU hW => ⟨rfl, Wd.call hPc hDc hK hC hZ hS hFc U hU hW⟩⟩ rfl rfl hl.1 rfl (lv_room (Nat.le_of_ble_eq_true rfl)) dX4_readText_6 ⟨(Nat.le_of_ble_eq_true rfl), (Nat.le_of_ble_eq_true rfl)⟩) hS (fun q _ h => hFc q h) hFc (fun u t H1 locs ht hvm hw hB hz1 hk1 hS => ?_)
  obtain ⟨qn1, fn2, fn3, fn4, hn5, hn6, hP1, hD1⟩ := hB
  rw [ht] at hP1
  obtain ⟨hP, hD⟩ := PDq.join (w := [(oX4 r0 r1 rq ir2 ir3 ir4 ir5 ir6 ir7 ir8), (oX3 p0 pr pb pe pg p1 (nI nd) p2 p3 p4 p5 (nI cn) p6 (nI pq) p7 p8 p9 (nI sc)), (p1, .inl (cA 0, 6, .inl fde)), (p2, .inl (cA 1, 10, .inr (.inl fna))), (p3, .inl (cA 0, 10, .inl fam)), (p4, .inl (cA 0, 10, .inl fpi)), (p5, .inl (cA 0, 10, .inl fby)), (p6, .inl (cA 1, 8, .inr (.inl fpn))), (p7, .inl (cA 0, 350, .inl fst)), (p8, .inl (cA 0, 350, .inl fop)), (p9, .inl (cA 0, 10, .inl fen)), (oX5 r1 k1 k2 k3 (nI qn1)), (k1, .inl (cA 0, 701, .inl fn2)), (k2, .inl (cA 0, 701, .inl fn3)), (k3, .inl (cA 1, 701, .inr (.inl fn4))), (b0, .inl (cA 2, 700, .inl fb))]) 11 hP hD [1, 2, 3, 4, 5] [0, 6, 7, 8, 9, 10, 11, 12, 13, 14, 15] rfl rfl (by decide +kernel) (by decide +kernel) hk1 hFc hP1 hD1 rfl
  generalize H1 = H at hP hS ⊢
  obtain ⟨gP, gR, hTX⟩ := hn6
  have hct0 := hTX.1
  refine lv_aload_n hx hb dX4_readText_9 rfl (lv_at hl 0 rfl) ?_
  refine lv_aload_n hx hb dX4_readText_10 rfl (lv_at hl 3 rfl) ?_
  refine va_put (D := D) (ci := 8) (v := .ref p0) (ty := (.object "EscrowDesk$Plan")) (C := RX4) (T := TX4) (N := 9) hx hb hts inX4 tyX4 tyX4_ok nmX4 hown hK hP hD hS 0 rfl rfl 1 (by decide) (hts (.fieldLink RX4 25 "EscrowDesk$Reader" "plan" "LEscrowDesk$Plan;") (by decide +kernel)) (fun _ h9 => h9) rfl (by decide +kernel) rfl rfl (Nat.le_of_ble_eq_true rfl) dX4_readText_11 (fun H locs hP hD hS => ?_)
  obtain ⟨hP, hD⟩ : PDq D A [(oX4 r0 r1 p0 ir2 ir3 ir4 ir5 ir6 ir7 ir8), (oX3 p0 pr pb pe pg p1 (nI nd) p2 p3 p4 p5 (nI cn) p6 (nI pq) p7 p8 p9 (nI sc)), (p1, .inl (cA 0, 6, .inl fde)), (p2, .inl (cA 1, 10, .inr (.inl fna))), (p3, .inl (cA 0, 10, .inl fam)), (p4, .inl (cA 0, 10, .inl fpi)), (p5, .inl (cA 0, 10, .inl fby)), (p6, .inl (cA 1, 8, .inr (.inl fpn))), (p7, .inl (cA 0, 350, .inl fst)), (p8, .inl (cA 0, 350, .inl fop)), (p9, .inl (cA 0, 10, .inl fen)), (oX5 r1 k1 k2 k3 (nI qn1)), (k1, .inl (cA 0, 701, .inl fn2)), (k2, .inl (cA 0, 701, .inl fn3)), (k3, .inl (cA 1, 701, .inr (.inl fn4))), (b0, .inl (cA 2, 700, .inl fb))] H := ⟨hP, hD⟩
  refine lv_aload_n hx hb dX4_readText_14 rfl (lv_at hl 0 rfl) ?_
  refine va_get (D := D) (ci := 8) (v := .ref p0) (C := RX4) (T := TX4) (N := 9) hx hb hts inX4 hown hK hP 0 rfl rfl 1 (by decide) (hts (.fieldLink RX4 25 "EscrowDesk$Reader" "plan" "LEscrowDesk$Plan;") (by decide +kernel)) (fun _ h9 => h9) rfl dX4_readText_15 ?_
  obtain ⟨hPc, hDc, hFc⟩ := PDq.cut (wc := [(oX3 p0 pr pb pe pg p1 (nI nd) p2 p3 p4 p5 (nI cn) p6 (nI pq) p7 p8 p9 (nI sc))]) hP hD hS hA [1] (by decide) rfl
  refine va_callv (va_runV (As := []) (rest := []) ⟨hx, hb, hml, hown, hts⟩ (x_planClear l D cA sa p0 p1 p2 p3 p4 p5 p6 p7 p8 p9 cn pq nd sc pr pb pe pg H.size) (cwV 0 hts gX4_readText_X3_clear rfl rfl rfl (by decide +kernel) ⟨(Nat.le_of_ble_eq_true rfl), (Nat.le_of_ble_eq_true rfl)⟩) ⟨Wd.blind, va_recv hK hPc (ci := 7) (q0 := 0) rfl rfl, fun U hU hW => ⟨rfl, Wd.call hPc hDc hK hC hZ hS hFc U hU hW⟩⟩ rfl rfl hl.1 rfl (lv_room (Nat.le_of_ble_eq_true rfl)) dX4_readText_18 ⟨(Nat.le_of_ble_eq_true rfl), (Nat.le_of_ble_eq_true rfl)⟩) hS (fun q _ h => hFc q h) hFc (fun u t H1 locs ht hvm hw hB hz1 hk1 hS => ?_)
  obtain ⟨zn7, zn8, zn9, zn10, hP1, hD1⟩ := hB
  rw [ht] at hP1
  obtain ⟨hP, hD⟩ := PDq.join (w := [(oX4 r0 r1 p0 ir2 ir3 ir4 ir5 ir6 ir7 ir8), (p1, .inl (cA 0, 6, .inl fde)), (p2, .inl (cA 1, 10, .inr (.inl fna))), (p3, .inl (cA 0, 10, .inl fam)), (p4, .inl (cA 0, 10, .inl fpi)), (p5, .inl (cA 0, 10, .inl fby)), (p6, .inl (cA 1, 8, .inr (.inl fpn))), (p7, .inl (cA 0, 350, .inl fst)), (p8, .inl (cA 0, 350, .inl fop)), (p9, .inl (cA 0, 10, .inl fen)), (oX5 r1 k1 k2 k3 (nI qn1)), (k1, .inl (cA 0, 701, .inl fn2)), (k2, .inl (cA 0, 701, .inl fn3)), (k3, .inl (cA 1, 701, .inr (.inl fn4))), (b0, .inl (cA 2, 700, .inl fb)), (oX3 p0 zn7 zn8 zn9 zn10 p1 0 p2 p3 p4 p5 0 p6 0 p7 p8 p9 0)]) 15 hP hD [1] [0, 2, 3, 4, 5, 6, 7, 8, 9, 10, 11, 12, 13, 14, 15] rfl rfl (by decide +kernel) (by decide +kernel) hk1 hFc hP1 hD1 rfl
  generalize H1 = H at hP hS ⊢
  refine lv_aload_n hx hb dX4_readText_21 rfl (lv_at hl 0 rfl) ?_
  refine lv_iconst (v := 0) hx hb dX4_readText_22 (by decide) ?_
  refine va_put (D := D) (ci := 8) (v := .int 0) (ty := .int) (C := RX4) (T := TX4) (N := 9) hx hb hts inX4 tyX4 tyX4_ok nmX4 hown hK hP hD hS 0 rfl rfl 7 (by decide) (hts (.fieldLink RX4 18 "EscrowDesk$Reader" "errorKind" "I") (by decide +kernel)) (fun _ h9 => h9) rfl (by decide +kernel) rfl rfl (Nat.le_of_ble_eq_true rfl) dX4_readText_23 (fun H locs hP hD hS => ?_)
  obtain ⟨hP, hD⟩ : PDq D A [(oX4 r0 r1 p0 ir2 ir3 ir4 ir5 ir6 0 ir8), (p1, .inl (cA 0, 6, .inl fde)), (p2, .inl (cA 1, 10, .inr (.inl fna))), (p3, .inl (cA 0, 10, .inl fam)), (p4, .inl (cA 0, 10, .inl fpi)), (p5, .inl (cA 0, 10, .inl fby)), (p6, .inl (cA 1, 8, .inr (.inl fpn))), (p7, .inl (cA 0, 350, .inl fst)), (p8, .inl (cA 0, 350, .inl fop)), (p9, .inl (cA 0, 10, .inl fen)), (oX5 r1 k1 k2 k3 (nI qn1)), (k1, .inl (cA 0, 701, .inl fn2)), (k2, .inl (cA 0, 701, .inl fn3)), (k3, .inl (cA 1, 701, .inr (.inl fn4))), (b0, .inl (cA 2, 700, .inl fb)), (oX3 p0 zn7 zn8 zn9 zn10 p1 0 p2 p3 p4 p5 0 p6 0 p7 p8 p9 0)] H := ⟨hP, hD⟩
  refine lv_aload_n hx hb dX4_readText_26 rfl (lv_at hl 0 rfl) ?_
  refine lv_iconst (v := (-1)) hx hb dX4_readText_27 (by decide) ?_
  refine va_put (D := D) (ci := 8) (v := .int (-1)) (ty := .int) (C := RX4) (T := TX4) (N := 9) hx hb hts inX4 tyX4 tyX4_ok nmX4 hown hK hP hD hS 0 rfl rfl 8 (by decide) (hts (.fieldLink RX4 22 "EscrowDesk$Reader" "errorPosition" "I") (by decide +kernel)) (fun _ h9 => h9) rfl (by decide +kernel) rfl rfl (Nat.le_of_ble_eq_true rfl) dX4_readText_28 (fun H locs hP hD hS => ?_)
  obtain ⟨hP, hD⟩ : PDq D A [(oX4 r0 r1 p0 ir2 ir3 ir4 ir5 ir6 0 (-1)), (p1, .inl (cA 0, 6, .inl fde)), (p2, .inl (cA 1, 10, .inr (.inl fna))), (p3, .inl (cA 0, 10, .inl fam)), (p4, .inl (cA 0, 10, .inl fpi)), (p5, .inl (cA 0, 10, .inl fby)), (p6, .inl (cA 1, 8, .inr (.inl fpn))), (p7, .inl (cA 0, 350, .inl fst)), (p8, .inl (cA 0, 350, .inl fop)), (p9, .inl (cA 0, 10, .inl fen)), (oX5 r1 k1 k2 k3 (nI qn1)), (k1, .inl (cA 0, 701, .inl fn2)), (k2, .inl (cA 0, 701, .inl fn3)), (k3, .inl (cA 1, 701, .inr (.inl fn4))), (b0, .inl (cA 2, 700, .inl fb)), (oX3 p0 zn7 zn8 zn9 zn10 p1 0 p2 p3 p4 p5 0 p6 0 p7 p8 p9 0)] H := ⟨hP, hD⟩
  refine lv_aload_n hx hb dX4_readText_31 rfl (lv_at hl 0 rfl) ?_
  refine lv_iconst (v := 0) hx hb dX4_readText_32 (by decide) ?_
  obtain ⟨hPc, hDc, hFc⟩ := PDq.cut (wc := [(oX4 r0 r1 p0 ir2 ir3 ir4 ir5 ir6 0 (-1)), (oX5 r1 k1 k2 k3 (nI qn1)), (k1, .inl (cA 0, 701, .inl fn2)), (k2, .inl (cA 0, 701, .inl fn3)), (k3, .inl (cA 1, 701, .inr (.inl fn4)))]) hP hD hS hA [0, 10, 11, 12, 13] (by decide) rfl
  refine va_callv (va_runV (As := [.int 0]) (rest := []) ⟨hx, hb, hml, hown, hts⟩ (x_lookAt l D cA sa r0 p0 0 ir2 ir3 ir4 ir6 0 (-1) ir5 r1 k1 k2 k3 qn1 fn2 fn3 fn4 H.size hn5 (by omega)) (cwV 1 hts gX4_readText_X4_lookAt rfl rfl rfl (by decide +kernel) ⟨(Nat.le_of_ble_eq_true rfl), (Nat.le_of_ble_eq_true rfl)⟩) ⟨Wd.blind, va_recv hK hPc (ci := 8) (q0 := 0) rfl rfl, fun U hU hW => ⟨rfl, Wd.call hPc hDc hK hC hZ hS hFc U hU hW⟩⟩ rfl rfl hl.1 rfl (lv_room (Nat.le_of_ble_eq_true rfl)) dX4_readText_33 ⟨(Nat.le_of_ble_eq_true rfl), (Nat.le_of_ble_eq_true rfl)⟩) hS (fun q _ h => hFc q h) hFc (fun u t H1 locs ht hvm hw hB hz1 hk1 hS => ?_)
  obtain ⟨hP1, hD1⟩ := hB
  rw [ht] at hP1
  obtain ⟨hP, hD⟩ := PDq.join (w := [(p1, .inl (cA 0, 6, .inl fde)), (p2, .inl (cA 1, 10, .inr (.inl fna))), (p3, .inl (cA 0, 10, .inl fam)), (p4, .inl (cA 0, 10, .inl fpi)), (p5, .inl (cA 0, 10, .inl fby)), (p6, .inl (cA 1, 8, .inr (.inl fpn))), (p7, .inl (cA 0, 350, .inl fst)), (p8, .inl (cA 0, 350, .inl fop)), (p9, .inl (cA 0, 10, .inl fen)), (b0, .inl (cA 2, 700, .inl fb)), (oX3 p0 zn7 zn8 zn9 zn10 p1 0 p2 p3 p4 p5 0 p6 0 p7 p8 p9 0), (oX4 r0 r1 p0 (nI 0) (fn2 0) (fn3 0) (fn4 0) ir6 0 (-1)), (oX5 r1 k1 k2 k3 (nI qn1)), (k1, .inl (cA 0, 701, .inl fn2)), (k2, .inl (cA 0, 701, .inl fn3)), (k3, .inl (cA 1, 701, .inr (.inl fn4)))]) 11 hP hD [0, 10, 11, 12, 13] [1, 2, 3, 4, 5, 6, 7, 8, 9, 14, 15] rfl rfl (by decide +kernel) (by decide +kernel) hk1 hFc hP1 hD1 rfl
  generalize H1 = H at hP hS ⊢
  have hle9 := TX.le hTX hct0
  refine lv_iconst (v := 1) hx hb dX4_readText_36 (by decide) ?_
  refine lv_istore (lv' := [(4, .int 1), (0, .ref r0), (1, .ref b0), (2, .int (nI ln)), (3, .ref p0)]) hx hb dX4_readText_37 hl (by decide) rfl (fun ls hl => ?_)
  refine lv_iconst (v := 0) hx hb dX4_readText_39 (by decide) ?_
  refine lv_istore (lv' := [(5, .int 0), (4, .int 1), (0, .ref r0), (1, .ref b0), (2, .int (nI ln)), (3, .ref p0)]) hx hb dX4_readText_40 hl (by decide) rfl (fun ls hl => ?_)
  have loop1 : ∀ (n1 i1 : Nat) (mli : List Int64) (pli : List Int64) (f0_1 : Nat → Int32) (f1_1 : Nat → Int64) (f2_1 : Nat → Int32) (f3_1 : Nat → Int32) (f4_1 : Nat → Int32) (f5_1 : Nat → Int64) (f6_1 : Nat → Int32) (f7_1 : Nat → Int32) (f8_1 : Nat → Int32) (u10_0_1 : Int32) (u10_1_1 : Int32) (u10_2_1 : Int32) (u10_3_1 : Int32) (dmi : Nat) (cmi : Nat) (qmi : Nat) (smi : Nat) (tii : Nat) (u11_6_1 : Int32) (H : Heap) (locs : List Loc) (ls : Array Slot), i1 + n1 = 700 → Rng 10 10 f4_1 → Rng 10 351 f8_1 → i1 + i1 ≤ tii → tii < qn1 → gP tii ≤ ln → 2 * smi ≤ gP tii → cmi ≤ 10 → qmi ≤ 8 → dmi ≤ 6 → smi ≤ 350 → NL mli cmi f1_1 → NL pli qmi f5_1 → Ctn fn2 fn3 fn4 0 0 [] [] tii dmi mli pli → va_P D vwCl [(p1, .inl (cA 0, 6, .inl f0_1)), (p2, .inl (cA 1, 10, .inr (.inl f1_1))), (p3, .inl (cA 0, 10, .inl f2_1)), (p4, .inl (cA 0, 10, .inl f3_1)), (p5, .inl (cA 0, 10, .inl f4_1)), (p6, .inl (cA 1, 8, .inr (.inl f5_1))), (p7, .inl (cA 0, 350, .inl f6_1)), (p8, .inl (cA 0, 350, .inl f7_1)), (p9, .inl (cA 0, 10, .inl f8_1)), (b0, .inl (cA 2, 700, .inl fb)), (oX3 p0 u10_0_1 u10_1_1 u10_2_1 u10_3_1 p1 (nI dmi) p2 p3 p4 p5 (nI cmi) p6 (nI qmi) p7 p8 p9 (nI smi)), (oX4 r0 r1 p0 (nI tii) (fn2 tii) (fn3 tii) (fn4 tii) u11_6_1 0 (-1)), (oX5 r1 k1 k2 k3 (nI qn1)), (k1, .inl (cA 0, 701, .inl fn2)), (k2, .inl (cA 0, 701, .inl fn3)), (k3, .inl (cA 1, 701, .inr (.inl fn4)))] H → va_D A [(p1, .inl (cA 0, 6, .inl f0_1)), (p2, .inl (cA 1, 10, .inr (.inl f1_1))), (p3, .inl (cA 0, 10, .inl f2_1)), (p4, .inl (cA 0, 10, .inl f3_1)), (p5, .inl (cA 0, 10, .inl f4_1)), (p6, .inl (cA 1, 8, .inr (.inl f5_1))), (p7, .inl (cA 0, 350, .inl f6_1)), (p8, .inl (cA 0, 350, .inl f7_1)), (p9, .inl (cA 0, 10, .inl f8_1)), (b0, .inl (cA 2, 700, .inl fb)), (oX3 p0 u10_0_1 u10_1_1 u10_2_1 u10_3_1 p1 (nI dmi) p2 p3 p4 p5 (nI cmi) p6 (nI qmi) p7 p8 p9 (nI smi)), (oX4 r0 r1 p0 (nI tii) (fn2 tii) (fn3 tii) (fn4 tii) u11_6_1 0 (-1)), (oX5 r1 k1 k2 k3 (nI qn1)), (k1, .inl (cA 0, 701, .inl fn2)), (k2, .inl (cA 0, 701, .inl fn3)), (k3, .inl (cA 1, 701, .inr (.inl fn4)))] → va_S A s.heap H locs → lv_has ls 6 [(5, .int (nI i1)), (4, .int 1), (0, .ref r0), (1, .ref b0), (2, .int (nI ln)), (3, .ref p0)] → W p l e (headSpec wsX4_readText ({ frames := 48, cells := 0, slots := 0, locals := 991 } : Room)).room s m ([.ref r0, .ref b0, .int (nI ln), .ref p0] : List Value).toArray below meth c H locs 0 0 (MQ below (va_Qi (fun (r : Int32) (u9 : Int32) => u9 = r ∧ (r = 0 ∨ r = 1)) (fun (u9 : Int32) t => ∃ zr2 : Int32, ∃ zr3 : Int32, ∃ zr4 : Int32, ∃ zr6 : Int32, ∃ zr7 : Int32, ∃ zr8 : Int32, ∃ zr5 : Int64, ∃ cy : Nat, ∃ zk : Nat → Int32, ∃ zt : Nat → Int32, ∃ zv : Nat → Int64, ∃ cm : Nat, ∃ qm : Nat, ∃ dm : Nat, ∃ sm : Nat, ∃ zra : Int32, ∃ zba : Int32, ∃ zea : Int32, ∃ zga : Int32, ∃ zde : Nat → Int32, ∃ zam : Nat → Int32, ∃ zpi : Nat → Int32, ∃ zby : Nat → Int32, ∃ zst : Nat → Int32, ∃ zop : Nat → Int32, ∃ zen : Nat → Int32, ∃ zna : Nat → Int64, ∃ zpn : Nat → Int64, ∃ zml : List Int64, ∃ zpl : List Int64, cy ≤ 701 ∧ TXE fb ln cy zt zv zk ∧ cm ≤ 10 ∧ qm ≤ 8 ∧ dm ≤ 6 ∧ sm ≤ 350 ∧ Rng 10 10 zby ∧ Rng 10 351 zen ∧ NL zml cm zna ∧ NL zpl qm zpn ∧ (u9 = 1 → zr7 = 0) ∧ (u9 = 1 → zr8 = (-1)) ∧ (u9 = 1 → TP zk zt zv 0 0 [] [] (.inr (zml, zpl))) ∧ (u9 = 0 → TP zk zt zv 0 0 [] [] (.inl (zr7, zr8))) ∧ Wq D A [(oX4 r0 r1 p0 zr2 zr3 zr4 zr5 zr6 zr7 zr8), (oX5 r1 k1 k2 k3 (nI cy)), (k1, .inl (cA 0, 701, .inl zk)), (k2, .inl (cA 0, 701, .inl zt)), (k3, .inl (cA 1, 701, .inr (.inl zv))), (b0, .inl (cA 2, 700, .inl fb)), (oX3 p0 zra zba zea zga p1 (nI dm) p2 p3 p4 p5 (nI cm) p6 (nI qm) p7 p8 p9 (nI sm)), (p1, .inl (cA 0, 6, .inl zde)), (p2, .inl (cA 1, 10, .inr (.inl zna))), (p3, .inl (cA 0, 10, .inl zam)), (p4, .inl (cA 0, 10, .inl zpi)), (p5, .inl (cA 0, 10, .inl zby)), (p6, .inl (cA 1, 8, .inr (.inl zpn))), (p7, .inl (cA 0, 350, .inl zst)), (p8, .inl (cA 0, 350, .inl zop)), (p9, .inl (cA 0, 10, .inl zen))] t) A) ([.ref r0, .ref b0, .int (nI ln), .ref p0] : List Value).toArray s 0 0 A) (F0 m 42 ls []) := by
    intro n1
    induction n1 with
    | zero =>
      intro i1 mli pli f0_1 f1_1 f2_1 f3_1 f4_1 f5_1 f6_1 f7_1 f8_1 u10_0_1 u10_1_1 u10_2_1 u10_3_1 dmi cmi qmi smi tii u11_6_1 H locs ls hi1 hf0_1 hf1_1 hv0_1 hv1_1 hv2_1 hv3_1 hv4_1 hv5_1 hv6_1 hv7_1 hv8_1 hv9_1 hv10_1 hP hD hS hl
      obtain rfl : 700 = i1 := by omega
      exact absurd hv0_1 (by omega)
    | succ n1 ih1 =>
      intro i1 mli pli f0_1 f1_1 f2_1 f3_1 f4_1 f5_1 f6_1 f7_1 f8_1 u10_0_1 u10_1_1 u10_2_1 u10_3_1 dmi cmi qmi smi tii u11_6_1 H locs ls hi1 hf0_1 hf1_1 hv0_1 hv1_1 hv2_1 hv3_1 hv4_1 hv5_1 hv6_1 hv7_1 hv8_1 hv9_1 hv10_1 hP hD hS hl
      refine lv_iload hx hb dX4_readText_42 (lv_at hl 1 rfl) ?_
      refine lv_if_eq (tgt := 158) hx hb dX4_readText_44 (by decide) (fun c9 => absurd c9 (by decide)) (fun c11 => ?_)
      refine lv_iload hx hb dX4_readText_47 (lv_at hl 0 rfl) ?_
      refine lv_sipush (v := 700) hx hb dX4_readText_49 (by decide) ?_
      refine lv_icmp_ge (tgt := 158) hx hb dX4_readText_52 (by decide) (fun c9 => absurd c9 (nI_ge (a := i1) (b := 700) (show i1 < 700 by omega) (by omega))) (fun c12 => ?_)
      refine lv_aload_n hx hb dX4_readText_55 rfl (lv_at hl 2 rfl) ?_
      refine va_get (D := D) (ci := 8) (v := .int (fn2 tii)) (C := RX4) (T := TX4) (N := 9) hx hb hts inX4 hown hK hP 11 rfl rfl 3 (by decide) (hts (.fieldLink RX4 42 "EscrowDesk$Reader" "kind" "I") (by decide +kernel)) (fun _ h9 => h9) rfl dX4_readText_56 ?_
      refine lv_iconst (v := 1) hx hb dX4_readText_59 (by decide) ?_
      refine lv_icmp_eq (tgt := 158) hx hb dX4_readText_60 (by decide) (fun c13 => ?_) (fun c13 => ?_)
      · skip
        refine lv_iload hx hb dX4_readText_158 (lv_at hl 1 rfl) ?_
        obtain ⟨hP9, hD9⟩ := PDq.sub (ws' := [(oX4 r0 r1 p0 (nI tii) (fn2 tii) (fn3 tii) (fn4 tii) u11_6_1 0 (-1)), (oX5 r1 k1 k2 k3 (nI qn1)), (k1, .inl (cA 0, 701, .inl fn2)), (k2, .inl (cA 0, 701, .inl fn3)), (k3, .inl (cA 1, 701, .inr (.inl fn4))), (b0, .inl (cA 2, 700, .inl fb)), (oX3 p0 u10_0_1 u10_1_1 u10_2_1 u10_3_1 p1 (nI dmi) p2 p3 p4 p5 (nI cmi) p6 (nI qmi) p7 p8 p9 (nI smi)), (p1, .inl (cA 0, 6, .inl f0_1)), (p2, .inl (cA 1, 10, .inr (.inl f1_1))), (p3, .inl (cA 0, 10, .inl f2_1)), (p4, .inl (cA 0, 10, .inl f3_1)), (p5, .inl (cA 0, 10, .inl f4_1)), (p6, .inl (cA 1, 8, .inr (.inl f5_1))), (p7, .inl (cA 0, 350, .inl f6_1)), (p8, .inl (cA 0, 350, .inl f7_1)), (p9, .inl (cA 0, 10, .inl f8_1))]) hP hD [11, 12, 13, 14, 15, 9, 10, 0, 1, 2, 3, 4, 5, 6, 7, 8] (by decide +kernel) rfl
        refine W.widen (k := 0) (n := 0) (Nat.le_of_ble_eq_true rfl) (Nat.le_of_ble_eq_true rfl) ?_
        exact (W.zret (v := 1) hx hb hr (by first | rfl | decide) (fun t ht hW => ⟨⟨1, 1, rfl, ⟨rfl, by decide⟩, (nI tii), (fn2 tii), (fn3 tii), u11_6_1, 0, (-1), (fn4 tii), qn1, fn2, fn3, fn4, cmi, qmi, dmi, smi, u10_0_1, u10_1_1, u10_2_1, u10_3_1, f0_1, f2_1, f3_1, f4_1, f6_1, f7_1, f8_1, f1_1, f5_1, mli, pli, hn5, hn6, hv4_1, hv5_1, hv6_1, hv7_1, hf0_1, hf1_1, hv8_1, hv9_1, (fun _ => rfl), (fun _ => rfl), (fun _ => (hv10_1 _ (T_end c13))), (fun h9 => absurd h9 (by decide)), by rw [ht]; exact hP9, hD9⟩, hS.F ht⟩) hS.2.2 dX4_readText_160)
      · skip
        refine lv_aload_n hx hb dX4_readText_63 rfl (lv_at hl 2 rfl) ?_
        refine va_get (D := D) (ci := 8) (v := .int (fn2 tii)) (C := RX4) (T := TX4) (N := 9) hx hb hts inX4 hown hK hP 11 rfl rfl 3 (by decide) (hts (.fieldLink RX4 42 "EscrowDesk$Reader" "kind" "I") (by decide +kernel)) (fun _ h9 => h9) rfl dX4_readText_64 ?_
        by_cases hn14 : (fn2 tii) = 8
        · skip
          refine W.eq (g2 := F0 m 67 ls [.int 8]) (by rw [hn14]) ?_
          refine lv_tableIn (off := 33) (tgt := 100) hx hb dX4_readText_67 (by decide) (by decide) (by decide) (by decide) ?_
          refine lv_aload_n hx hb dX4_readText_100 rfl (lv_at hl 2 rfl) ?_
          obtain ⟨hPc, hDc, hFc⟩ := PDq.cut (wc := [(oX4 r0 r1 p0 (nI tii) (fn2 tii) (fn3 tii) (fn4 tii) u11_6_1 0 (-1)), (oX5 r1 k1 k2 k3 (nI qn1)), (k1, .inl (cA 0, 701, .inl fn2)), (k2, .inl (cA 0, 701, .inl fn3)), (k3, .inl (cA 1, 701, .inr (.inl fn4))), (oX3 p0 u10_0_1 u10_1_1 u10_2_1 u10_3_1 p1 (nI dmi) p2 p3 p4 p5 (nI cmi) p6 (nI qmi) p7 p8 p9 (nI smi))]) hP hD hS hA [11, 12, 13, 14, 15, 10] (by decide) rfl
          refine va_calli (va_runV (As := []) (rest := []) ⟨hx, hb, hml, hown, hts⟩ (x_readRate l D cA sa r0 p0 tii ln u11_6_1 0 (-1) r1 k1 k2 k3 qn1 fn2 fn3 fn4 fb gP gR p1 p2 p3 p4 p5 p6 p7 p8 p9 cmi qmi dmi smi u10_0_1 u10_1_1 u10_2_1 u10_3_1 mli pli H.size hn5 hln hv1_1 hTX hv3_1 hn14) (cwV 0 hts gX4_readText_X4_readRate rfl rfl rfl (by decide +kernel) ⟨(Nat.le_of_ble_eq_true rfl), (Nat.le_of_ble_eq_true rfl)⟩) ⟨Wd.blind, va_recv hK hPc (ci := 8) (q0 := 0) rfl rfl, fun U hU hW => ⟨rfl, Wd.call hPc hDc hK hC hZ hS hFc U hU hW⟩⟩ rfl rfl hl.1 rfl (lv_room (Nat.le_of_ble_eq_true rfl)) dX4_readText_101 ⟨(Nat.le_of_ble_eq_true rfl), (Nat.le_of_ble_eq_true rfl)⟩) hS (fun q _ h => hFc q h) hFc (fun rn15 u t H1 locs ht hvm hw hB hz1 hk1 hS => ?_)
          obtain ⟨qn16, zn17, zn18, zn19, zn20, zn21, hn22, hn23, hn24, hn25, hn26, hn27, hn28, hn29, hP1, hD1⟩ := hB
          rw [ht] at hP1
          obtain ⟨hP, hD⟩ := PDq.join (w := [(p1, .inl (cA 0, 6, .inl f0_1)), (p2, .inl (cA 1, 10, .inr (.inl f1_1))), (p3, .inl (cA 0, 10, .inl f2_1)), (p4, .inl (cA 0, 10, .inl f3_1)), (p5, .inl (cA 0, 10, .inl f4_1)), (p6, .inl (cA 1, 8, .inr (.inl f5_1))), (p7, .inl (cA 0, 350, .inl f6_1)), (p8, .inl (cA 0, 350, .inl f7_1)), (p9, .inl (cA 0, 10, .inl f8_1)), (b0, .inl (cA 2, 700, .inl fb)), (oX4 r0 r1 p0 (nI qn16) (fn2 qn16) (fn3 qn16) (fn4 qn16) zn17 zn18 zn19), (oX5 r1 k1 k2 k3 (nI qn1)), (k1, .inl (cA 0, 701, .inl fn2)), (k2, .inl (cA 0, 701, .inl fn3)), (k3, .inl (cA 1, 701, .inr (.inl fn4))), (oX3 p0 zn20 zn21 u10_2_1 u10_3_1 p1 (nI dmi) p2 p3 p4 p5 (nI cmi) p6 (nI qmi) p7 p8 p9 (nI smi))]) 10 hP hD [11, 12, 13, 14, 15, 10] [0, 1, 2, 3, 4, 5, 6, 7, 8, 9] rfl rfl (by decide +kernel) (by decide +kernel) hk1 hFc hP1 hD1 rfl
          generalize H1 = H at hP hS ⊢
          rcases hw.2 with hr9 | hr9
          · skip
            have hn29 := hn29 (hw.1.trans hr9)
            subst hr9
            refine lv_istore (lv' := [(4, .int 0), (5, .int (nI i1)), (0, .ref r0), (1, .ref b0), (2, .int (nI ln)), (3, .ref p0)]) hx hb dX4_readText_104 hl (by decide) rfl (fun ls hl => ?_)
            refine lv_goto (tgt := 152) hx hb dX4_readText_106 (by decide) ?_
            refine lv_iinc (v := (nI (i1 + 1))) (lv' := [(5, .int (nI (i1 + 1))), (4, .int 0), (0, .ref r0), (1, .ref b0), (2, .int (nI ln)), (3, .ref p0)]) hx hb dX4_readText_152 hl (k := 1) rfl (nI_1 _) (by decide) rfl (fun ls hl => ?_)
            refine lv_goto (tgt := 42) hx hb dX4_readText_155 (by decide) ?_
            refine lv_iload hx hb dX4_readText_42 (lv_at hl 1 rfl) ?_
            refine lv_if_eq (tgt := 158) hx hb dX4_readText_44 (by decide) (fun c30 => ?_) (fun c9 => absurd c9 (by decide))
            refine lv_iload hx hb dX4_readText_158 (lv_at hl 1 rfl) ?_
            obtain ⟨hP9, hD9⟩ := PDq.sub (ws' := [(oX4 r0 r1 p0 (nI qn16) (fn2 qn16) (fn3 qn16) (fn4 qn16) zn17 zn18 zn19), (oX5 r1 k1 k2 k3 (nI qn1)), (k1, .inl (cA 0, 701, .inl fn2)), (k2, .inl (cA 0, 701, .inl fn3)), (k3, .inl (cA 1, 701, .inr (.inl fn4))), (b0, .inl (cA 2, 700, .inl fb)), (oX3 p0 zn20 zn21 u10_2_1 u10_3_1 p1 (nI dmi) p2 p3 p4 p5 (nI cmi) p6 (nI qmi) p7 p8 p9 (nI smi)), (p1, .inl (cA 0, 6, .inl f0_1)), (p2, .inl (cA 1, 10, .inr (.inl f1_1))), (p3, .inl (cA 0, 10, .inl f2_1)), (p4, .inl (cA 0, 10, .inl f3_1)), (p5, .inl (cA 0, 10, .inl f4_1)), (p6, .inl (cA 1, 8, .inr (.inl f5_1))), (p7, .inl (cA 0, 350, .inl f6_1)), (p8, .inl (cA 0, 350, .inl f7_1)), (p9, .inl (cA 0, 10, .inl f8_1))]) hP hD [10, 11, 12, 13, 14, 9, 15, 0, 1, 2, 3, 4, 5, 6, 7, 8] (by decide +kernel) rfl
            refine W.widen (k := 0) (n := 0) (Nat.le_of_ble_eq_true rfl) (Nat.le_of_ble_eq_true rfl) ?_
            exact (W.zret (v := 0) hx hb hr (by first | rfl | decide) (fun t ht hW => ⟨⟨0, 0, rfl, ⟨rfl, by decide⟩, (nI qn16), (fn2 qn16), (fn3 qn16), zn17, zn18, zn19, (fn4 qn16), qn1, fn2, fn3, fn4, cmi, qmi, dmi, smi, zn20, zn21, u10_2_1, u10_3_1, f0_1, f2_1, f3_1, f4_1, f6_1, f7_1, f8_1, f1_1, f5_1, mli, pli, hn5, hn6, hv4_1, hv5_1, hv6_1, hv7_1, hf0_1, hf1_1, hv8_1, hv9_1, (fun h9 => absurd h9 (by decide)), (fun h9 => absurd h9 (by decide)), (fun h9 => absurd h9 (by decide)), (fun _ => (hv10_1 _ (T_er9 c13 hn29))), by rw [ht]; exact hP9, hD9⟩, hS.F ht⟩) hS.2.2 dX4_readText_160)
          · skip
            have hn24 := hn24 (hw.1.trans hr9)
            subst hn24
            obtain ⟨hP, hD⟩ : PDq D A [(p1, .inl (cA 0, 6, .inl f0_1)), (p2, .inl (cA 1, 10, .inr (.inl f1_1))), (p3, .inl (cA 0, 10, .inl f2_1)), (p4, .inl (cA 0, 10, .inl f3_1)), (p5, .inl (cA 0, 10, .inl f4_1)), (p6, .inl (cA 1, 8, .inr (.inl f5_1))), (p7, .inl (cA 0, 350, .inl f6_1)), (p8, .inl (cA 0, 350, .inl f7_1)), (p9, .inl (cA 0, 10, .inl f8_1)), (b0, .inl (cA 2, 700, .inl fb)), (oX4 r0 r1 p0 (nI qn16) (fn2 qn16) (fn3 qn16) (fn4 qn16) zn17 0 zn19), (oX5 r1 k1 k2 k3 (nI qn1)), (k1, .inl (cA 0, 701, .inl fn2)), (k2, .inl (cA 0, 701, .inl fn3)), (k3, .inl (cA 1, 701, .inr (.inl fn4))), (oX3 p0 zn20 zn21 u10_2_1 u10_3_1 p1 (nI dmi) p2 p3 p4 p5 (nI cmi) p6 (nI qmi) p7 p8 p9 (nI smi))] H := ⟨hP, hD⟩
            have hn25 := hn25 (hw.1.trans hr9)
            subst hn25
            obtain ⟨hP, hD⟩ : PDq D A [(p1, .inl (cA 0, 6, .inl f0_1)), (p2, .inl (cA 1, 10, .inr (.inl f1_1))), (p3, .inl (cA 0, 10, .inl f2_1)), (p4, .inl (cA 0, 10, .inl f3_1)), (p5, .inl (cA 0, 10, .inl f4_1)), (p6, .inl (cA 1, 8, .inr (.inl f5_1))), (p7, .inl (cA 0, 350, .inl f6_1)), (p8, .inl (cA 0, 350, .inl f7_1)), (p9, .inl (cA 0, 10, .inl f8_1)), (b0, .inl (cA 2, 700, .inl fb)), (oX4 r0 r1 p0 (nI qn16) (fn2 qn16) (fn3 qn16) (fn4 qn16) zn17 0 (-1)), (oX5 r1 k1 k2 k3 (nI qn1)), (k1, .inl (cA 0, 701, .inl fn2)), (k2, .inl (cA 0, 701, .inl fn3)), (k3, .inl (cA 1, 701, .inr (.inl fn4))), (oX3 p0 zn20 zn21 u10_2_1 u10_3_1 p1 (nI dmi) p2 p3 p4 p5 (nI cmi) p6 (nI qmi) p7 p8 p9 (nI smi))] H := ⟨hP, hD⟩
            have hn26 := hn26 (hw.1.trans hr9)
            have hn27 := hn27 (hw.1.trans hr9)
            have hn28 := hn28 (hw.1.trans hr9)
            subst hr9
            refine lv_istore (lv' := [(4, .int 1), (5, .int (nI i1)), (0, .ref r0), (1, .ref b0), (2, .int (nI ln)), (3, .ref p0)]) hx hb dX4_readText_104 hl (by decide) rfl (fun ls hl => ?_)
            refine lv_goto (tgt := 152) hx hb dX4_readText_106 (by decide) ?_
            refine lv_iinc (v := (nI (i1 + 1))) (lv' := [(5, .int (nI (i1 + 1))), (4, .int 1), (0, .ref r0), (1, .ref b0), (2, .int (nI ln)), (3, .ref p0)]) hx hb dX4_readText_152 hl (k := 1) rfl (nI_1 _) (by decide) rfl (fun ls hl => ?_)
            refine lv_goto (tgt := 42) hx hb dX4_readText_155 (by decide) ?_
            obtain ⟨hP9, hD9⟩ := PDq.sub (ws' := [(p1, .inl (cA 0, 6, .inl f0_1)), (p2, .inl (cA 1, 10, .inr (.inl f1_1))), (p3, .inl (cA 0, 10, .inl f2_1)), (p4, .inl (cA 0, 10, .inl f3_1)), (p5, .inl (cA 0, 10, .inl f4_1)), (p6, .inl (cA 1, 8, .inr (.inl f5_1))), (p7, .inl (cA 0, 350, .inl f6_1)), (p8, .inl (cA 0, 350, .inl f7_1)), (p9, .inl (cA 0, 10, .inl f8_1)), (b0, .inl (cA 2, 700, .inl fb)), (oX3 p0 zn20 zn21 u10_2_1 u10_3_1 p1 (nI dmi) p2 p3 p4 p5 (nI cmi) p6 (nI qmi) p7 p8 p9 (nI smi)), (oX4 r0 r1 p0 (nI qn16) (fn2 qn16) (fn3 qn16) (fn4 qn16) zn17 0 (-1)), (oX5 r1 k1 k2 k3 (nI qn1)), (k1, .inl (cA 0, 701, .inl fn2)), (k2, .inl (cA 0, 701, .inl fn3)), (k3, .inl (cA 1, 701, .inr (.inl fn4)))]) hP hD [0, 1, 2, 3, 4, 5, 6, 7, 8, 9, 15, 10, 11, 12, 13, 14] (by decide +kernel) rfl
            exact ih1 (i1 + 1) mli pli f0_1 f1_1 f2_1 f3_1 f4_1 f5_1 f6_1 f7_1 f8_1 zn20 zn21 u10_2_1 u10_3_1 dmi cmi qmi smi qn16 zn17 H _ ls (by omega) hf0_1 hf1_1 (by omega) hn22 hn23 hn27 hv4_1 hv5_1 hv6_1 hv7_1 hv8_1 hv9_1 (fun r9 h9 => hv10_1 r9 (T_go9 c13 hn28 h9)) hP9 hD9 hS (lv_sub hl [0, 1, 2, 3, 4, 5] rfl)
        · skip
          by_cases hn31 : (fn2 tii) = 9
          · skip
            refine W.eq (g2 := F0 m 67 ls [.int 9]) (by rw [hn31]) ?_
            refine lv_tableIn (off := 42) (tgt := 109) hx hb dX4_readText_67 (by decide) (by decide) (by decide) (by decide) ?_
            refine lv_aload_n hx hb dX4_readText_109 rfl (lv_at hl 2 rfl) ?_
            obtain ⟨hPc, hDc, hFc⟩ := PDq.cut (wc := [(oX4 r0 r1 p0 (nI tii) (fn2 tii) (fn3 tii) (fn4 tii) u11_6_1 0 (-1)), (oX5 r1 k1 k2 k3 (nI qn1)), (k1, .inl (cA 0, 701, .inl fn2)), (k2, .inl (cA 0, 701, .inl fn3)), (k3, .inl (cA 1, 701, .inr (.inl fn4))), (oX3 p0 u10_0_1 u10_1_1 u10_2_1 u10_3_1 p1 (nI dmi) p2 p3 p4 p5 (nI cmi) p6 (nI qmi) p7 p8 p9 (nI smi))]) hP hD hS hA [11, 12, 13, 14, 15, 10] (by decide) rfl
            refine va_calli (va_runV (As := []) (rest := []) ⟨hx, hb, hml, hown, hts⟩ (x_readFee l D cA sa r0 p0 tii ln u11_6_1 0 (-1) r1 k1 k2 k3 qn1 fn2 fn3 fn4 fb gP gR p1 p2 p3 p4 p5 p6 p7 p8 p9 cmi qmi dmi smi u10_0_1 u10_1_1 u10_2_1 u10_3_1 mli pli H.size hn5 hln hv1_1 hTX hv3_1 hn31) (cwV 0 hts gX4_readText_X4_readFee rfl rfl rfl (by decide +kernel) ⟨(Nat.le_of_ble_eq_true rfl), (Nat.le_of_ble_eq_true rfl)⟩) ⟨Wd.blind, va_recv hK hPc (ci := 8) (q0 := 0) rfl rfl, fun U hU hW => ⟨rfl, Wd.call hPc hDc hK hC hZ hS hFc U hU hW⟩⟩ rfl rfl hl.1 rfl (lv_room (Nat.le_of_ble_eq_true rfl)) dX4_readText_110 ⟨(Nat.le_of_ble_eq_true rfl), (Nat.le_of_ble_eq_true rfl)⟩) hS (fun q _ h => hFc q h) hFc (fun rn32 u t H1 locs ht hvm hw hB hz1 hk1 hS => ?_)
            obtain ⟨qn33, zn34, zn35, zn36, zn37, hn38, hn39, hn40, hn41, hn42, hn43, hn44, hn45, hP1, hD1⟩ := hB
            rw [ht] at hP1
            obtain ⟨hP, hD⟩ := PDq.join (w := [(p1, .inl (cA 0, 6, .inl f0_1)), (p2, .inl (cA 1, 10, .inr (.inl f1_1))), (p3, .inl (cA 0, 10, .inl f2_1)), (p4, .inl (cA 0, 10, .inl f3_1)), (p5, .inl (cA 0, 10, .inl f4_1)), (p6, .inl (cA 1, 8, .inr (.inl f5_1))), (p7, .inl (cA 0, 350, .inl f6_1)), (p8, .inl (cA 0, 350, .inl f7_1)), (p9, .inl (cA 0, 10, .inl f8_1)), (b0, .inl (cA 2, 700, .inl fb)), (oX4 r0 r1 p0 (nI qn33) (fn2 qn33) (fn3 qn33) (fn4 qn33) zn34 zn35 zn36), (oX5 r1 k1 k2 k3 (nI qn1)), (k1, .inl (cA 0, 701, .inl fn2)), (k2, .inl (cA 0, 701, .inl fn3)), (k3, .inl (cA 1, 701, .inr (.inl fn4))), (oX3 p0 u10_0_1 u10_1_1 zn37 u10_3_1 p1 (nI dmi) p2 p3 p4 p5 (nI cmi) p6 (nI qmi) p7 p8 p9 (nI smi))]) 10 hP hD [11, 12, 13, 14, 15, 10] [0, 1, 2, 3, 4, 5, 6, 7, 8, 9] rfl rfl (by decide +kernel) (by decide +kernel) hk1 hFc hP1 hD1 rfl
            generalize H1 = H at hP hS ⊢
            rcases hw.2 with hr9 | hr9
            · skip
              have hn45 := hn45 (hw.1.trans hr9)
              subst hr9
              refine lv_istore (lv' := [(4, .int 0), (5, .int (nI i1)), (0, .ref r0), (1, .ref b0), (2, .int (nI ln)), (3, .ref p0)]) hx hb dX4_readText_113 hl (by decide) rfl (fun ls hl => ?_)
              refine lv_goto (tgt := 152) hx hb dX4_readText_115 (by decide) ?_
              refine lv_iinc (v := (nI (i1 + 1))) (lv' := [(5, .int (nI (i1 + 1))), (4, .int 0), (0, .ref r0), (1, .ref b0), (2, .int (nI ln)), (3, .ref p0)]) hx hb dX4_readText_152 hl (k := 1) rfl (nI_1 _) (by decide) rfl (fun ls hl => ?_)
              refine lv_goto (tgt := 42) hx hb dX4_readText_155 (by decide) ?_
              refine lv_iload hx hb dX4_readText_42 (lv_at hl 1 rfl) ?_
              refine lv_if_eq (tgt := 158) hx hb dX4_readText_44 (by decide) (fun c46 => ?_) (fun c9 => absurd c9 (by decide))
              refine lv_iload hx hb dX4_readText_158 (lv_at hl 1 rfl) ?_
              obtain ⟨hP9, hD9⟩ := PDq.sub (ws' := [(oX4 r0 r1 p0 (nI qn33) (fn2 qn33) (fn3 qn33) (fn4 qn33) zn34 zn35 zn36), (oX5 r1 k1 k2 k3 (nI qn1)), (k1, .inl (cA 0, 701, .inl fn2)), (k2, .inl (cA 0, 701, .inl fn3)), (k3, .inl (cA 1, 701, .inr (.inl fn4))), (b0, .inl (cA 2, 700, .inl fb)), (oX3 p0 u10_0_1 u10_1_1 zn37 u10_3_1 p1 (nI dmi) p2 p3 p4 p5 (nI cmi) p6 (nI qmi) p7 p8 p9 (nI smi)), (p1, .inl (cA 0, 6, .inl f0_1)), (p2, .inl (cA 1, 10, .inr (.inl f1_1))), (p3, .inl (cA 0, 10, .inl f2_1)), (p4, .inl (cA 0, 10, .inl f3_1)), (p5, .inl (cA 0, 10, .inl f4_1)), (p6, .inl (cA 1, 8, .inr (.inl f5_1))), (p7, .inl (cA 0, 350, .inl f6_1)), (p8, .inl (cA 0, 350, .inl f7_1)), (p9, .inl (cA 0, 10, .inl f8_1))]) hP hD [10, 11, 12, 13, 14, 9, 15, 0, 1, 2, 3, 4, 5, 6, 7, 8] (by decide +kernel) rfl
              refine W.widen (k := 0) (n := 0) (Nat.le_of_ble_eq_true rfl) (Nat.le_of_ble_eq_true rfl) ?_
              exact (W.zret (v := 0) hx hb hr (by first | rfl | decide) (fun t ht hW => ⟨⟨0, 0, rfl, ⟨rfl, by decide⟩, (nI qn33), (fn2 qn33), (fn3 qn33), zn34, zn35, zn36, (fn4 qn33), qn1, fn2, fn3, fn4, cmi, qmi, dmi, smi, u10_0_1, u10_1_1, zn37, u10_3_1, f0_1, f2_1, f3_1, f4_1, f6_1, f7_1, f8_1, f1_1, f5_1, mli, pli, hn5, hn6, hv4_1, hv5_1, hv6_1, hv7_1, hf0_1, hf1_1, hv8_1, hv9_1, (fun h9 => absurd h9 (by decide)), (fun h9 => absurd h9 (by decide)), (fun h9 => absurd h9 (by decide)), (fun _ => (hv10_1 _ (T_er9 c13 hn45))), by rw [ht]; exact hP9, hD9⟩, hS.F ht⟩) hS.2.2 dX4_readText_160)
            · skip
              have hn40 := hn40 (hw.1.trans hr9)
              subst hn40
              obtain ⟨hP, hD⟩ : PDq D A [(p1, .inl (cA 0, 6, .inl f0_1)), (p2, .inl (cA 1, 10, .inr (.inl f1_1))), (p3, .inl (cA 0, 10, .inl f2_1)), (p4, .inl (cA 0, 10, .inl f3_1)), (p5, .inl (cA 0, 10, .inl f4_1)), (p6, .inl (cA 1, 8, .inr (.inl f5_1))), (p7, .inl (cA 0, 350, .inl f6_1)), (p8, .inl (cA 0, 350, .inl f7_1)), (p9, .inl (cA 0, 10, .inl f8_1)), (b0, .inl (cA 2, 700, .inl fb)), (oX4 r0 r1 p0 (nI qn33) (fn2 qn33) (fn3 qn33) (fn4 qn33) zn34 0 zn36), (oX5 r1 k1 k2 k3 (nI qn1)), (k1, .inl (cA 0, 701, .inl fn2)), (k2, .inl (cA 0, 701, .inl fn3)), (k3, .inl (cA 1, 701, .inr (.inl fn4))), (oX3 p0 u10_0_1 u10_1_1 zn37 u10_3_1 p1 (nI dmi) p2 p3 p4 p5 (nI cmi) p6 (nI qmi) p7 p8 p9 (nI smi))] H := ⟨hP, hD⟩
              have hn41 := hn41 (hw.1.trans hr9)
              subst hn41
              obtain ⟨hP, hD⟩ : PDq D A [(p1, .inl (cA 0, 6, .inl f0_1)), (p2, .inl (cA 1, 10, .inr (.inl f1_1))), (p3, .inl (cA 0, 10, .inl f2_1)), (p4, .inl (cA 0, 10, .inl f3_1)), (p5, .inl (cA 0, 10, .inl f4_1)), (p6, .inl (cA 1, 8, .inr (.inl f5_1))), (p7, .inl (cA 0, 350, .inl f6_1)), (p8, .inl (cA 0, 350, .inl f7_1)), (p9, .inl (cA 0, 10, .inl f8_1)), (b0, .inl (cA 2, 700, .inl fb)), (oX4 r0 r1 p0 (nI qn33) (fn2 qn33) (fn3 qn33) (fn4 qn33) zn34 0 (-1)), (oX5 r1 k1 k2 k3 (nI qn1)), (k1, .inl (cA 0, 701, .inl fn2)), (k2, .inl (cA 0, 701, .inl fn3)), (k3, .inl (cA 1, 701, .inr (.inl fn4))), (oX3 p0 u10_0_1 u10_1_1 zn37 u10_3_1 p1 (nI dmi) p2 p3 p4 p5 (nI cmi) p6 (nI qmi) p7 p8 p9 (nI smi))] H := ⟨hP, hD⟩
              have hn42 := hn42 (hw.1.trans hr9)
              have hn43 := hn43 (hw.1.trans hr9)
              have hn44 := hn44 (hw.1.trans hr9)
              subst hr9
              refine lv_istore (lv' := [(4, .int 1), (5, .int (nI i1)), (0, .ref r0), (1, .ref b0), (2, .int (nI ln)), (3, .ref p0)]) hx hb dX4_readText_113 hl (by decide) rfl (fun ls hl => ?_)
              refine lv_goto (tgt := 152) hx hb dX4_readText_115 (by decide) ?_
              refine lv_iinc (v := (nI (i1 + 1))) (lv' := [(5, .int (nI (i1 + 1))), (4, .int 1), (0, .ref r0), (1, .ref b0), (2, .int (nI ln)), (3, .ref p0)]) hx hb dX4_readText_152 hl (k := 1) rfl (nI_1 _) (by decide) rfl (fun ls hl => ?_)
              refine lv_goto (tgt := 42) hx hb dX4_readText_155 (by decide) ?_
              obtain ⟨hP9, hD9⟩ := PDq.sub (ws' := [(p1, .inl (cA 0, 6, .inl f0_1)), (p2, .inl (cA 1, 10, .inr (.inl f1_1))), (p3, .inl (cA 0, 10, .inl f2_1)), (p4, .inl (cA 0, 10, .inl f3_1)), (p5, .inl (cA 0, 10, .inl f4_1)), (p6, .inl (cA 1, 8, .inr (.inl f5_1))), (p7, .inl (cA 0, 350, .inl f6_1)), (p8, .inl (cA 0, 350, .inl f7_1)), (p9, .inl (cA 0, 10, .inl f8_1)), (b0, .inl (cA 2, 700, .inl fb)), (oX3 p0 u10_0_1 u10_1_1 zn37 u10_3_1 p1 (nI dmi) p2 p3 p4 p5 (nI cmi) p6 (nI qmi) p7 p8 p9 (nI smi)), (oX4 r0 r1 p0 (nI qn33) (fn2 qn33) (fn3 qn33) (fn4 qn33) zn34 0 (-1)), (oX5 r1 k1 k2 k3 (nI qn1)), (k1, .inl (cA 0, 701, .inl fn2)), (k2, .inl (cA 0, 701, .inl fn3)), (k3, .inl (cA 1, 701, .inr (.inl fn4)))]) hP hD [0, 1, 2, 3, 4, 5, 6, 7, 8, 9, 15, 10, 11, 12, 13, 14] (by decide +kernel) rfl
              exact ih1 (i1 + 1) mli pli f0_1 f1_1 f2_1 f3_1 f4_1 f5_1 f6_1 f7_1 f8_1 u10_0_1 u10_1_1 zn37 u10_3_1 dmi cmi qmi smi qn33 zn34 H _ ls (by omega) hf0_1 hf1_1 (by omega) hn38 hn39 hn43 hv4_1 hv5_1 hv6_1 hv7_1 hv8_1 hv9_1 (fun r9 h9 => hv10_1 r9 (T_go9 c13 hn44 h9)) hP9 hD9 hS (lv_sub hl [0, 1, 2, 3, 4, 5] rfl)
          · skip
            by_cases hn47 : (fn2 tii) = 10
            · skip
              refine W.eq (g2 := F0 m 67 ls [.int 10]) (by rw [hn47]) ?_
              refine lv_tableIn (off := 51) (tgt := 118) hx hb dX4_readText_67 (by decide) (by decide) (by decide) (by decide) ?_
              refine lv_aload_n hx hb dX4_readText_118 rfl (lv_at hl 2 rfl) ?_
              obtain ⟨hPc, hDc, hFc⟩ := PDq.cut (wc := [(oX4 r0 r1 p0 (nI tii) (fn2 tii) (fn3 tii) (fn4 tii) u11_6_1 0 (-1)), (oX5 r1 k1 k2 k3 (nI qn1)), (k1, .inl (cA 0, 701, .inl fn2)), (k2, .inl (cA 0, 701, .inl fn3)), (k3, .inl (cA 1, 701, .inr (.inl fn4))), (oX3 p0 u10_0_1 u10_1_1 u10_2_1 u10_3_1 p1 (nI dmi) p2 p3 p4 p5 (nI cmi) p6 (nI qmi) p7 p8 p9 (nI smi))]) hP hD hS hA [11, 12, 13, 14, 15, 10] (by decide) rfl
              refine va_calli (va_runV (As := []) (rest := []) ⟨hx, hb, hml, hown, hts⟩ (x_readGrace l D cA sa r0 p0 tii ln u11_6_1 0 (-1) r1 k1 k2 k3 qn1 fn2 fn3 fn4 fb gP gR p1 p2 p3 p4 p5 p6 p7 p8 p9 cmi qmi dmi smi u10_0_1 u10_1_1 u10_2_1 u10_3_1 mli pli H.size hn5 hln hv1_1 hTX hv3_1 hn47) (cwV 0 hts gX4_readText_X4_readGrace rfl rfl rfl (by decide +kernel) ⟨(Nat.le_of_ble_eq_true rfl), (Nat.le_of_ble_eq_true rfl)⟩) ⟨Wd.blind, va_recv hK hPc (ci := 8) (q0 := 0) rfl rfl, fun U hU hW => ⟨rfl, Wd.call hPc hDc hK hC hZ hS hFc U hU hW⟩⟩ rfl rfl hl.1 rfl (lv_room (Nat.le_of_ble_eq_true rfl)) dX4_readText_119 ⟨(Nat.le_of_ble_eq_true rfl), (Nat.le_of_ble_eq_true rfl)⟩) hS (fun q _ h => hFc q h) hFc (fun rn48 u t H1 locs ht hvm hw hB hz1 hk1 hS => ?_)
              obtain ⟨qn49, zn50, zn51, zn52, zn53, hn54, hn55, hn56, hn57, hn58, hn59, hn60, hn61, hP1, hD1⟩ := hB
              rw [ht] at hP1
              obtain ⟨hP, hD⟩ := PDq.join (w := [(p1, .inl (cA 0, 6, .inl f0_1)), (p2, .inl (cA 1, 10, .inr (.inl f1_1))), (p3, .inl (cA 0, 10, .inl f2_1)), (p4, .inl (cA 0, 10, .inl f3_1)), (p5, .inl (cA 0, 10, .inl f4_1)), (p6, .inl (cA 1, 8, .inr (.inl f5_1))), (p7, .inl (cA 0, 350, .inl f6_1)), (p8, .inl (cA 0, 350, .inl f7_1)), (p9, .inl (cA 0, 10, .inl f8_1)), (b0, .inl (cA 2, 700, .inl fb)), (oX4 r0 r1 p0 (nI qn49) (fn2 qn49) (fn3 qn49) (fn4 qn49) zn50 zn51 zn52), (oX5 r1 k1 k2 k3 (nI qn1)), (k1, .inl (cA 0, 701, .inl fn2)), (k2, .inl (cA 0, 701, .inl fn3)), (k3, .inl (cA 1, 701, .inr (.inl fn4))), (oX3 p0 u10_0_1 u10_1_1 u10_2_1 zn53 p1 (nI dmi) p2 p3 p4 p5 (nI cmi) p6 (nI qmi) p7 p8 p9 (nI smi))]) 10 hP hD [11, 12, 13, 14, 15, 10] [0, 1, 2, 3, 4, 5, 6, 7, 8, 9] rfl rfl (by decide +kernel) (by decide +kernel) hk1 hFc hP1 hD1 rfl
              generalize H1 = H at hP hS ⊢
              rcases hw.2 with hr9 | hr9
              · skip
                have hn61 := hn61 (hw.1.trans hr9)
                subst hr9
                refine lv_istore (lv' := [(4, .int 0), (5, .int (nI i1)), (0, .ref r0), (1, .ref b0), (2, .int (nI ln)), (3, .ref p0)]) hx hb dX4_readText_122 hl (by decide) rfl (fun ls hl => ?_)
                refine lv_goto (tgt := 152) hx hb dX4_readText_124 (by decide) ?_
                refine lv_iinc (v := (nI (i1 + 1))) (lv' := [(5, .int (nI (i1 + 1))), (4, .int 0), (0, .ref r0), (1, .ref b0), (2, .int (nI ln)), (3, .ref p0)]) hx hb dX4_readText_152 hl (k := 1) rfl (nI_1 _) (by decide) rfl (fun ls hl => ?_)
                refine lv_goto (tgt := 42) hx hb dX4_readText_155 (by decide) ?_
                refine lv_iload hx hb dX4_readText_42 (lv_at hl 1 rfl) ?_
                refine lv_if_eq (tgt := 158) hx hb dX4_readText_44 (by decide) (fun c62 => ?_) (fun c9 => absurd c9 (by decide))
                refine lv_iload hx hb dX4_readText_158 (lv_at hl 1 rfl) ?_
                obtain ⟨hP9, hD9⟩ := PDq.sub (ws' := [(oX4 r0 r1 p0 (nI qn49) (fn2 qn49) (fn3 qn49) (fn4 qn49) zn50 zn51 zn52), (oX5 r1 k1 k2 k3 (nI qn1)), (k1, .inl (cA 0, 701, .inl fn2)), (k2, .inl (cA 0, 701, .inl fn3)), (k3, .inl (cA 1, 701, .inr (.inl fn4))), (b0, .inl (cA 2, 700, .inl fb)), (oX3 p0 u10_0_1 u10_1_1 u10_2_1 zn53 p1 (nI dmi) p2 p3 p4 p5 (nI cmi) p6 (nI qmi) p7 p8 p9 (nI smi)), (p1, .inl (cA 0, 6, .inl f0_1)), (p2, .inl (cA 1, 10, .inr (.inl f1_1))), (p3, .inl (cA 0, 10, .inl f2_1)), (p4, .inl (cA 0, 10, .inl f3_1)), (p5, .inl (cA 0, 10, .inl f4_1)), (p6, .inl (cA 1, 8, .inr (.inl f5_1))), (p7, .inl (cA 0, 350, .inl f6_1)), (p8, .inl (cA 0, 350, .inl f7_1)), (p9, .inl (cA 0, 10, .inl f8_1))]) hP hD [10, 11, 12, 13, 14, 9, 15, 0, 1, 2, 3, 4, 5, 6, 7, 8] (by decide +kernel) rfl
                refine W.widen (k := 0) (n := 0) (Nat.le_of_ble_eq_true rfl) (Nat.le_of_ble_eq_true rfl) ?_
                exact (W.zret (v := 0) hx hb hr (by first | rfl | decide) (fun t ht hW => ⟨⟨0, 0, rfl, ⟨rfl, by decide⟩, (nI qn49), (fn2 qn49), (fn3 qn49), zn50, zn51, zn52, (fn4 qn49), qn1, fn2, fn3, fn4, cmi, qmi, dmi, smi, u10_0_1, u10_1_1, u10_2_1, zn53, f0_1, f2_1, f3_1, f4_1, f6_1, f7_1, f8_1, f1_1, f5_1, mli, pli, hn5, hn6, hv4_1, hv5_1, hv6_1, hv7_1, hf0_1, hf1_1, hv8_1, hv9_1, (fun h9 => absurd h9 (by decide)), (fun h9 => absurd h9 (by decide)), (fun h9 => absurd h9 (by decide)), (fun _ => (hv10_1 _ (T_er9 c13 hn61))), by rw [ht]; exact hP9, hD9⟩, hS.F ht⟩) hS.2.2 dX4_readText_160)
              · skip
                have hn56 := hn56 (hw.1.trans hr9)
                subst hn56
                obtain ⟨hP, hD⟩ : PDq D A [(p1, .inl (cA 0, 6, .inl f0_1)), (p2, .inl (cA 1, 10, .inr (.inl f1_1))), (p3, .inl (cA 0, 10, .inl f2_1)), (p4, .inl (cA 0, 10, .inl f3_1)), (p5, .inl (cA 0, 10, .inl f4_1)), (p6, .inl (cA 1, 8, .inr (.inl f5_1))), (p7, .inl (cA 0, 350, .inl f6_1)), (p8, .inl (cA 0, 350, .inl f7_1)), (p9, .inl (cA 0, 10, .inl f8_1)), (b0, .inl (cA 2, 700, .inl fb)), (oX4 r0 r1 p0 (nI qn49) (fn2 qn49) (fn3 qn49) (fn4 qn49) zn50 0 zn52), (oX5 r1 k1 k2 k3 (nI qn1)), (k1, .inl (cA 0, 701, .inl fn2)), (k2, .inl (cA 0, 701, .inl fn3)), (k3, .inl (cA 1, 701, .inr (.inl fn4))), (oX3 p0 u10_0_1 u10_1_1 u10_2_1 zn53 p1 (nI dmi) p2 p3 p4 p5 (nI cmi) p6 (nI qmi) p7 p8 p9 (nI smi))] H := ⟨hP, hD⟩
                have hn57 := hn57 (hw.1.trans hr9)
                subst hn57
                obtain ⟨hP, hD⟩ : PDq D A [(p1, .inl (cA 0, 6, .inl f0_1)), (p2, .inl (cA 1, 10, .inr (.inl f1_1))), (p3, .inl (cA 0, 10, .inl f2_1)), (p4, .inl (cA 0, 10, .inl f3_1)), (p5, .inl (cA 0, 10, .inl f4_1)), (p6, .inl (cA 1, 8, .inr (.inl f5_1))), (p7, .inl (cA 0, 350, .inl f6_1)), (p8, .inl (cA 0, 350, .inl f7_1)), (p9, .inl (cA 0, 10, .inl f8_1)), (b0, .inl (cA 2, 700, .inl fb)), (oX4 r0 r1 p0 (nI qn49) (fn2 qn49) (fn3 qn49) (fn4 qn49) zn50 0 (-1)), (oX5 r1 k1 k2 k3 (nI qn1)), (k1, .inl (cA 0, 701, .inl fn2)), (k2, .inl (cA 0, 701, .inl fn3)), (k3, .inl (cA 1, 701, .inr (.inl fn4))), (oX3 p0 u10_0_1 u10_1_1 u10_2_1 zn53 p1 (nI dmi) p2 p3 p4 p5 (nI cmi) p6 (nI qmi) p7 p8 p9 (nI smi))] H := ⟨hP, hD⟩
                have hn58 := hn58 (hw.1.trans hr9)
                have hn59 := hn59 (hw.1.trans hr9)
                have hn60 := hn60 (hw.1.trans hr9)
                subst hr9
                refine lv_istore (lv' := [(4, .int 1), (5, .int (nI i1)), (0, .ref r0), (1, .ref b0), (2, .int (nI ln)), (3, .ref p0)]) hx hb dX4_readText_122 hl (by decide) rfl (fun ls hl => ?_)
                refine lv_goto (tgt := 152) hx hb dX4_readText_124 (by decide) ?_
                refine lv_iinc (v := (nI (i1 + 1))) (lv' := [(5, .int (nI (i1 + 1))), (4, .int 1), (0, .ref r0), (1, .ref b0), (2, .int (nI ln)), (3, .ref p0)]) hx hb dX4_readText_152 hl (k := 1) rfl (nI_1 _) (by decide) rfl (fun ls hl => ?_)
                refine lv_goto (tgt := 42) hx hb dX4_readText_155 (by decide) ?_
                obtain ⟨hP9, hD9⟩ := PDq.sub (ws' := [(p1, .inl (cA 0, 6, .inl f0_1)), (p2, .inl (cA 1, 10, .inr (.inl f1_1))), (p3, .inl (cA 0, 10, .inl f2_1)), (p4, .inl (cA 0, 10, .inl f3_1)), (p5, .inl (cA 0, 10, .inl f4_1)), (p6, .inl (cA 1, 8, .inr (.inl f5_1))), (p7, .inl (cA 0, 350, .inl f6_1)), (p8, .inl (cA 0, 350, .inl f7_1)), (p9, .inl (cA 0, 10, .inl f8_1)), (b0, .inl (cA 2, 700, .inl fb)), (oX3 p0 u10_0_1 u10_1_1 u10_2_1 zn53 p1 (nI dmi) p2 p3 p4 p5 (nI cmi) p6 (nI qmi) p7 p8 p9 (nI smi)), (oX4 r0 r1 p0 (nI qn49) (fn2 qn49) (fn3 qn49) (fn4 qn49) zn50 0 (-1)), (oX5 r1 k1 k2 k3 (nI qn1)), (k1, .inl (cA 0, 701, .inl fn2)), (k2, .inl (cA 0, 701, .inl fn3)), (k3, .inl (cA 1, 701, .inr (.inl fn4)))]) hP hD [0, 1, 2, 3, 4, 5, 6, 7, 8, 9, 15, 10, 11, 12, 13, 14] (by decide +kernel) rfl
                exact ih1 (i1 + 1) mli pli f0_1 f1_1 f2_1 f3_1 f4_1 f5_1 f6_1 f7_1 f8_1 u10_0_1 u10_1_1 u10_2_1 zn53 dmi cmi qmi smi qn49 zn50 H _ ls (by omega) hf0_1 hf1_1 (by omega) hn54 hn55 hn59 hv4_1 hv5_1 hv6_1 hv7_1 hv8_1 hv9_1 (fun r9 h9 => hv10_1 r9 (T_go9 c13 hn60 h9)) hP9 hD9 hS (lv_sub hl [0, 1, 2, 3, 4, 5] rfl)
            · skip
              by_cases hn63 : (fn2 tii) = 11
              · skip
                refine W.eq (g2 := F0 m 67 ls [.int 11]) (by rw [hn63]) ?_
                refine lv_tableIn (off := 60) (tgt := 127) hx hb dX4_readText_67 (by decide) (by decide) (by decide) (by decide) ?_
                refine lv_aload_n hx hb dX4_readText_127 rfl (lv_at hl 2 rfl) ?_
                obtain ⟨hPc, hDc, hFc⟩ := PDq.cut (wc := [(oX4 r0 r1 p0 (nI tii) (fn2 tii) (fn3 tii) (fn4 tii) u11_6_1 0 (-1)), (oX5 r1 k1 k2 k3 (nI qn1)), (k1, .inl (cA 0, 701, .inl fn2)), (k2, .inl (cA 0, 701, .inl fn3)), (k3, .inl (cA 1, 701, .inr (.inl fn4))), (oX3 p0 u10_0_1 u10_1_1 u10_2_1 u10_3_1 p1 (nI dmi) p2 p3 p4 p5 (nI cmi) p6 (nI qmi) p7 p8 p9 (nI smi)), (p1, .inl (cA 0, 6, .inl f0_1))]) hP hD hS hA [11, 12, 13, 14, 15, 10, 0] (by decide) rfl
                refine va_calli (va_runV (As := []) (rest := []) ⟨hx, hb, hml, hown, hts⟩ (x_readDeposit l D cA sa r0 p0 tii ln u11_6_1 0 (-1) r1 k1 k2 k3 qn1 fn2 fn3 fn4 fb gP gR p1 p2 p3 p4 p5 p6 p7 p8 p9 cmi qmi dmi smi u10_0_1 u10_1_1 u10_2_1 u10_3_1 mli pli f0_1 H.size hn5 hln hv1_1 hTX hv3_1 hv4_1 hv5_1 hv6_1 hv7_1 hn63) (cwV 0 hts gX4_readText_X4_readDeposit rfl rfl rfl (by decide +kernel) ⟨(Nat.le_of_ble_eq_true rfl), (Nat.le_of_ble_eq_true rfl)⟩) ⟨Wd.blind, va_recv hK hPc (ci := 8) (q0 := 0) rfl rfl, fun U hU hW => ⟨rfl, Wd.call hPc hDc hK hC hZ hS hFc U hU hW⟩⟩ rfl rfl hl.1 rfl (lv_room (Nat.le_of_ble_eq_true rfl)) dX4_readText_128 ⟨(Nat.le_of_ble_eq_true rfl), (Nat.le_of_ble_eq_true rfl)⟩) hS (fun q _ h => hFc q h) hFc (fun rn64 u t H1 locs ht hvm hw hB hz1 hk1 hS => ?_)
                obtain ⟨qn65, zn66, zn67, zn68, qn69, fn70, hn71, hn72, hn73, hn74, hn75, hn76, hn77, hn78, hn79, hP1, hD1⟩ := hB
                rw [ht] at hP1
                obtain ⟨hP, hD⟩ := PDq.join (w := [(p2, .inl (cA 1, 10, .inr (.inl f1_1))), (p3, .inl (cA 0, 10, .inl f2_1)), (p4, .inl (cA 0, 10, .inl f3_1)), (p5, .inl (cA 0, 10, .inl f4_1)), (p6, .inl (cA 1, 8, .inr (.inl f5_1))), (p7, .inl (cA 0, 350, .inl f6_1)), (p8, .inl (cA 0, 350, .inl f7_1)), (p9, .inl (cA 0, 10, .inl f8_1)), (b0, .inl (cA 2, 700, .inl fb)), (oX4 r0 r1 p0 (nI qn65) (fn2 qn65) (fn3 qn65) (fn4 qn65) zn66 zn67 zn68), (oX5 r1 k1 k2 k3 (nI qn1)), (k1, .inl (cA 0, 701, .inl fn2)), (k2, .inl (cA 0, 701, .inl fn3)), (k3, .inl (cA 1, 701, .inr (.inl fn4))), (oX3 p0 u10_0_1 u10_1_1 u10_2_1 u10_3_1 p1 (nI qn69) p2 p3 p4 p5 (nI cmi) p6 (nI qmi) p7 p8 p9 (nI smi)), (p1, .inl (cA 0, 6, .inl fn70))]) 9 hP hD [11, 12, 13, 14, 15, 10, 0] [1, 2, 3, 4, 5, 6, 7, 8, 9] rfl rfl (by decide +kernel) (by decide +kernel) hk1 hFc hP1 hD1 rfl
                generalize H1 = H at hP hS ⊢
                rcases hw.2 with hr9 | hr9
                · skip
                  have hn79 := hn79 (hw.1.trans hr9)
                  subst hr9
                  refine lv_istore (lv' := [(4, .int 0), (5, .int (nI i1)), (0, .ref r0), (1, .ref b0), (2, .int (nI ln)), (3, .ref p0)]) hx hb dX4_readText_131 hl (by decide) rfl (fun ls hl => ?_)
                  refine lv_goto (tgt := 152) hx hb dX4_readText_133 (by decide) ?_
                  refine lv_iinc (v := (nI (i1 + 1))) (lv' := [(5, .int (nI (i1 + 1))), (4, .int 0), (0, .ref r0), (1, .ref b0), (2, .int (nI ln)), (3, .ref p0)]) hx hb dX4_readText_152 hl (k := 1) rfl (nI_1 _) (by decide) rfl (fun ls hl => ?_)
                  refine lv_goto (tgt := 42) hx hb dX4_readText_155 (by decide) ?_
                  refine lv_iload hx hb dX4_readText_42 (lv_at hl 1 rfl) ?_
                  refine lv_if_eq (tgt := 158) hx hb dX4_readText_44 (by decide) (fun c80 => ?_) (fun c9 => absurd c9 (by decide))
                  refine lv_iload hx hb dX4_readText_158 (lv_at hl 1 rfl) ?_
                  obtain ⟨hP9, hD9⟩ := PDq.sub (ws' := [(oX4 r0 r1 p0 (nI qn65) (fn2 qn65) (fn3 qn65) (fn4 qn65) zn66 zn67 zn68), (oX5 r1 k1 k2 k3 (nI qn1)), (k1, .inl (cA 0, 701, .inl fn2)), (k2, .inl (cA 0, 701, .inl fn3)), (k3, .inl (cA 1, 701, .inr (.inl fn4))), (b0, .inl (cA 2, 700, .inl fb)), (oX3 p0 u10_0_1 u10_1_1 u10_2_1 u10_3_1 p1 (nI qn69) p2 p3 p4 p5 (nI cmi) p6 (nI qmi) p7 p8 p9 (nI smi)), (p1, .inl (cA 0, 6, .inl fn70)), (p2, .inl (cA 1, 10, .inr (.inl f1_1))), (p3, .inl (cA 0, 10, .inl f2_1)), (p4, .inl (cA 0, 10, .inl f3_1)), (p5, .inl (cA 0, 10, .inl f4_1)), (p6, .inl (cA 1, 8, .inr (.inl f5_1))), (p7, .inl (cA 0, 350, .inl f6_1)), (p8, .inl (cA 0, 350, .inl f7_1)), (p9, .inl (cA 0, 10, .inl f8_1))]) hP hD [9, 10, 11, 12, 13, 8, 14, 15, 0, 1, 2, 3, 4, 5, 6, 7] (by decide +kernel) rfl
                  refine W.widen (k := 0) (n := 0) (Nat.le_of_ble_eq_true rfl) (Nat.le_of_ble_eq_true rfl) ?_
                  exact (W.zret (v := 0) hx hb hr (by first | rfl | decide) (fun t ht hW => ⟨⟨0, 0, rfl, ⟨rfl, by decide⟩, (nI qn65), (fn2 qn65), (fn3 qn65), zn66, zn67, zn68, (fn4 qn65), qn1, fn2, fn3, fn4, cmi, qmi, qn69, smi, u10_0_1, u10_1_1, u10_2_1, u10_3_1, fn70, f2_1, f3_1, f4_1, f6_1, f7_1, f8_1, f1_1, f5_1, mli, pli, hn5, hn6, hv4_1, hv5_1, hn73, hv7_1, hf0_1, hf1_1, hv8_1, hv9_1, (fun h9 => absurd h9 (by decide)), (fun h9 => absurd h9 (by decide)), (fun h9 => absurd h9 (by decide)), (fun _ => (hv10_1 _ (T_er9 c13 hn79))), by rw [ht]; exact hP9, hD9⟩, hS.F ht⟩) hS.2.2 dX4_readText_160)
                · skip
                  have hn74 := hn74 (hw.1.trans hr9)
                  subst hn74
                  obtain ⟨hP, hD⟩ : PDq D A [(p2, .inl (cA 1, 10, .inr (.inl f1_1))), (p3, .inl (cA 0, 10, .inl f2_1)), (p4, .inl (cA 0, 10, .inl f3_1)), (p5, .inl (cA 0, 10, .inl f4_1)), (p6, .inl (cA 1, 8, .inr (.inl f5_1))), (p7, .inl (cA 0, 350, .inl f6_1)), (p8, .inl (cA 0, 350, .inl f7_1)), (p9, .inl (cA 0, 10, .inl f8_1)), (b0, .inl (cA 2, 700, .inl fb)), (oX4 r0 r1 p0 (nI qn65) (fn2 qn65) (fn3 qn65) (fn4 qn65) zn66 0 zn68), (oX5 r1 k1 k2 k3 (nI qn1)), (k1, .inl (cA 0, 701, .inl fn2)), (k2, .inl (cA 0, 701, .inl fn3)), (k3, .inl (cA 1, 701, .inr (.inl fn4))), (oX3 p0 u10_0_1 u10_1_1 u10_2_1 u10_3_1 p1 (nI qn69) p2 p3 p4 p5 (nI cmi) p6 (nI qmi) p7 p8 p9 (nI smi)), (p1, .inl (cA 0, 6, .inl fn70))] H := ⟨hP, hD⟩
                  have hn75 := hn75 (hw.1.trans hr9)
                  subst hn75
                  obtain ⟨hP, hD⟩ : PDq D A [(p2, .inl (cA 1, 10, .inr (.inl f1_1))), (p3, .inl (cA 0, 10, .inl f2_1)), (p4, .inl (cA 0, 10, .inl f3_1)), (p5, .inl (cA 0, 10, .inl f4_1)), (p6, .inl (cA 1, 8, .inr (.inl f5_1))), (p7, .inl (cA 0, 350, .inl f6_1)), (p8, .inl (cA 0, 350, .inl f7_1)), (p9, .inl (cA 0, 10, .inl f8_1)), (b0, .inl (cA 2, 700, .inl fb)), (oX4 r0 r1 p0 (nI qn65) (fn2 qn65) (fn3 qn65) (fn4 qn65) zn66 0 (-1)), (oX5 r1 k1 k2 k3 (nI qn1)), (k1, .inl (cA 0, 701, .inl fn2)), (k2, .inl (cA 0, 701, .inl fn3)), (k3, .inl (cA 1, 701, .inr (.inl fn4))), (oX3 p0 u10_0_1 u10_1_1 u10_2_1 u10_3_1 p1 (nI qn69) p2 p3 p4 p5 (nI cmi) p6 (nI qmi) p7 p8 p9 (nI smi)), (p1, .inl (cA 0, 6, .inl fn70))] H := ⟨hP, hD⟩
                  have hn76 := hn76 (hw.1.trans hr9)
                  have hn77 := hn77 (hw.1.trans hr9)
                  have hn78 := hn78 (hw.1.trans hr9)
                  subst hr9
                  refine lv_istore (lv' := [(4, .int 1), (5, .int (nI i1)), (0, .ref r0), (1, .ref b0), (2, .int (nI ln)), (3, .ref p0)]) hx hb dX4_readText_131 hl (by decide) rfl (fun ls hl => ?_)
                  refine lv_goto (tgt := 152) hx hb dX4_readText_133 (by decide) ?_
                  refine lv_iinc (v := (nI (i1 + 1))) (lv' := [(5, .int (nI (i1 + 1))), (4, .int 1), (0, .ref r0), (1, .ref b0), (2, .int (nI ln)), (3, .ref p0)]) hx hb dX4_readText_152 hl (k := 1) rfl (nI_1 _) (by decide) rfl (fun ls hl => ?_)
                  refine lv_goto (tgt := 42) hx hb dX4_readText_155 (by decide) ?_
                  obtain ⟨hP9, hD9⟩ := PDq.sub (ws' := [(p1, .inl (cA 0, 6, .inl fn70)), (p2, .inl (cA 1, 10, .inr (.inl f1_1))), (p3, .inl (cA 0, 10, .inl f2_1)), (p4, .inl (cA 0, 10, .inl f3_1)), (p5, .inl (cA 0, 10, .inl f4_1)), (p6, .inl (cA 1, 8, .inr (.inl f5_1))), (p7, .inl (cA 0, 350, .inl f6_1)), (p8, .inl (cA 0, 350, .inl f7_1)), (p9, .inl (cA 0, 10, .inl f8_1)), (b0, .inl (cA 2, 700, .inl fb)), (oX3 p0 u10_0_1 u10_1_1 u10_2_1 u10_3_1 p1 (nI qn69) p2 p3 p4 p5 (nI cmi) p6 (nI qmi) p7 p8 p9 (nI smi)), (oX4 r0 r1 p0 (nI qn65) (fn2 qn65) (fn3 qn65) (fn4 qn65) zn66 0 (-1)), (oX5 r1 k1 k2 k3 (nI qn1)), (k1, .inl (cA 0, 701, .inl fn2)), (k2, .inl (cA 0, 701, .inl fn3)), (k3, .inl (cA 1, 701, .inr (.inl fn4)))]) hP hD [15, 0, 1, 2, 3, 4, 5, 6, 7, 8, 14, 9, 10, 11, 12, 13] (by decide +kernel) rfl
                  exact ih1 (i1 + 1) mli pli fn70 f1_1 f2_1 f3_1 f4_1 f5_1 f6_1 f7_1 f8_1 u10_0_1 u10_1_1 u10_2_1 u10_3_1 qn69 cmi qmi smi qn65 zn66 H _ ls (by omega) hf0_1 hf1_1 (by omega) hn71 hn72 hn77 hv4_1 hv5_1 hn73 hv7_1 hv8_1 hv9_1 (fun r9 h9 => hv10_1 r9 (T_go9 c13 hn78 h9)) hP9 hD9 hS (lv_sub hl [0, 1, 2, 3, 4, 5] rfl)
              · skip
                by_cases hn81 : (fn2 tii) = 12
                · skip
                  refine W.eq (g2 := F0 m 67 ls [.int 12]) (by rw [hn81]) ?_
                  refine lv_tableIn (off := 69) (tgt := 136) hx hb dX4_readText_67 (by decide) (by decide) (by decide) (by decide) ?_
                  refine lv_aload_n hx hb dX4_readText_136 rfl (lv_at hl 2 rfl) ?_
                  obtain ⟨hPc, hDc, hFc⟩ := PDq.cut (wc := [(oX4 r0 r1 p0 (nI tii) (fn2 tii) (fn3 tii) (fn4 tii) u11_6_1 0 (-1)), (oX5 r1 k1 k2 k3 (nI qn1)), (k1, .inl (cA 0, 701, .inl fn2)), (k2, .inl (cA 0, 701, .inl fn3)), (k3, .inl (cA 1, 701, .inr (.inl fn4))), (oX3 p0 u10_0_1 u10_1_1 u10_2_1 u10_3_1 p1 (nI dmi) p2 p3 p4 p5 (nI cmi) p6 (nI qmi) p7 p8 p9 (nI smi)), (p2, .inl (cA 1, 10, .inr (.inl f1_1))), (p6, .inl (cA 1, 8, .inr (.inl f5_1))), (p7, .inl (cA 0, 350, .inl f6_1)), (p8, .inl (cA 0, 350, .inl f7_1)), (p3, .inl (cA 0, 10, .inl f2_1)), (p4, .inl (cA 0, 10, .inl f3_1)), (p5, .inl (cA 0, 10, .inl f4_1)), (p9, .inl (cA 0, 10, .inl f8_1))]) hP hD hS hA [11, 12, 13, 14, 15, 10, 1, 5, 6, 7, 2, 3, 4, 8] (by decide +kernel) rfl
                  refine va_calli (va_runV (As := []) (rest := []) ⟨hx, hb, hml, hown, hts⟩ (x_readMilestone l D cA sa r0 p0 tii ln u11_6_1 0 (-1) r1 k1 k2 k3 qn1 fn2 fn3 fn4 fb gP gR p1 p2 p3 p4 p5 p6 p7 p8 p9 cmi qmi dmi smi u10_0_1 u10_1_1 u10_2_1 u10_3_1 f1_1 f5_1 f6_1 f7_1 f2_1 f3_1 f4_1 f8_1 mli pli H.size hn5 hln hv1_1 hTX hv3_1 hv4_1 hv5_1 hv6_1 hv7_1 hv8_1 hv9_1 hf0_1 hf1_1 hn81) (cwV 0 hts gX4_readText_X4_readMilestone rfl rfl rfl (by decide +kernel) ⟨(Nat.le_of_ble_eq_true rfl), (Nat.le_of_ble_eq_true rfl)⟩) ⟨Wd.blind, va_recv hK hPc (ci := 8) (q0 := 0) rfl rfl, fun U hU hW => ⟨rfl, Wd.call hPc hDc hK hC hZ hS hFc U hU hW⟩⟩ rfl rfl hl.1 rfl (lv_room (Nat.le_of_ble_eq_true rfl)) dX4_readText_137 ⟨(Nat.le_of_ble_eq_true rfl), (Nat.le_of_ble_eq_true rfl)⟩) hS (fun q _ h => hFc q h) hFc (fun rn82 u t H1 locs ht hvm hw hB hz1 hk1 hS => ?_)
                  obtain ⟨qn83, zn84, zn85, zn86, qn87, qn88, qn89, fn90, fn91, fn92, fn93, fn94, fn95, fn96, fn97, zn98, zn99, hn100, hn101, hn102, hn103, hn104, hn105, hn106, hn107, hn108, hn109, hn110, hn111, hn112, hn113, hn114, hP1, hD1⟩ := hB
                  rw [ht] at hP1
                  obtain ⟨hP, hD⟩ := PDq.join (w := [(p1, .inl (cA 0, 6, .inl f0_1)), (b0, .inl (cA 2, 700, .inl fb)), (oX4 r0 r1 p0 (nI qn83) (fn2 qn83) (fn3 qn83) (fn4 qn83) zn84 zn85 zn86), (oX5 r1 k1 k2 k3 (nI qn1)), (k1, .inl (cA 0, 701, .inl fn2)), (k2, .inl (cA 0, 701, .inl fn3)), (k3, .inl (cA 1, 701, .inr (.inl fn4))), (oX3 p0 u10_0_1 u10_1_1 u10_2_1 u10_3_1 p1 (nI dmi) p2 p3 p4 p5 (nI qn87) p6 (nI qn88) p7 p8 p9 (nI qn89)), (p2, .inl (cA 1, 10, .inr (.inl fn90))), (p6, .inl (cA 1, 8, .inr (.inl fn91))), (p7, .inl (cA 0, 350, .inl fn92)), (p8, .inl (cA 0, 350, .inl fn93)), (p3, .inl (cA 0, 10, .inl fn94)), (p4, .inl (cA 0, 10, .inl fn95)), (p5, .inl (cA 0, 10, .inl fn96)), (p9, .inl (cA 0, 10, .inl fn97))]) 2 hP hD [11, 12, 13, 14, 15, 10, 1, 5, 6, 7, 2, 3, 4, 8] [0, 9] rfl rfl (by decide) (by decide +kernel) hk1 hFc hP1 hD1 rfl
                  generalize H1 = H at hP hS ⊢
                  rcases hw.2 with hr9 | hr9
                  · skip
                    have hn114 := hn114 (hw.1.trans hr9)
                    subst hr9
                    refine lv_istore (lv' := [(4, .int 0), (5, .int (nI i1)), (0, .ref r0), (1, .ref b0), (2, .int (nI ln)), (3, .ref p0)]) hx hb dX4_readText_140 hl (by decide) rfl (fun ls hl => ?_)
                    refine lv_goto (tgt := 152) hx hb dX4_readText_142 (by decide) ?_
                    refine lv_iinc (v := (nI (i1 + 1))) (lv' := [(5, .int (nI (i1 + 1))), (4, .int 0), (0, .ref r0), (1, .ref b0), (2, .int (nI ln)), (3, .ref p0)]) hx hb dX4_readText_152 hl (k := 1) rfl (nI_1 _) (by decide) rfl (fun ls hl => ?_)
                    refine lv_goto (tgt := 42) hx hb dX4_readText_155 (by decide) ?_
                    refine lv_iload hx hb dX4_readText_42 (lv_at hl 1 rfl) ?_
                    refine lv_if_eq (tgt := 158) hx hb dX4_readText_44 (by decide) (fun c115 => ?_) (fun c9 => absurd c9 (by decide))
                    refine lv_iload hx hb dX4_readText_158 (lv_at hl 1 rfl) ?_
                    obtain ⟨hP9, hD9⟩ := PDq.sub (ws' := [(oX4 r0 r1 p0 (nI qn83) (fn2 qn83) (fn3 qn83) (fn4 qn83) zn84 zn85 zn86), (oX5 r1 k1 k2 k3 (nI qn1)), (k1, .inl (cA 0, 701, .inl fn2)), (k2, .inl (cA 0, 701, .inl fn3)), (k3, .inl (cA 1, 701, .inr (.inl fn4))), (b0, .inl (cA 2, 700, .inl fb)), (oX3 p0 u10_0_1 u10_1_1 u10_2_1 u10_3_1 p1 (nI dmi) p2 p3 p4 p5 (nI qn87) p6 (nI qn88) p7 p8 p9 (nI qn89)), (p1, .inl (cA 0, 6, .inl f0_1)), (p2, .inl (cA 1, 10, .inr (.inl fn90))), (p3, .inl (cA 0, 10, .inl fn94)), (p4, .inl (cA 0, 10, .inl fn95)), (p5, .inl (cA 0, 10, .inl fn96)), (p6, .inl (cA 1, 8, .inr (.inl fn91))), (p7, .inl (cA 0, 350, .inl fn92)), (p8, .inl (cA 0, 350, .inl fn93)), (p9, .inl (cA 0, 10, .inl fn97))]) hP hD [2, 3, 4, 5, 6, 1, 7, 0, 8, 12, 13, 14, 9, 10, 11, 15] (by decide +kernel) rfl
                    refine W.widen (k := 0) (n := 0) (Nat.le_of_ble_eq_true rfl) (Nat.le_of_ble_eq_true rfl) ?_
                    exact (W.zret (v := 0) hx hb hr (by first | rfl | decide) (fun t ht hW => ⟨⟨0, 0, rfl, ⟨rfl, by decide⟩, (nI qn83), (fn2 qn83), (fn3 qn83), zn84, zn85, zn86, (fn4 qn83), qn1, fn2, fn3, fn4, qn87, qn88, dmi, qn89, u10_0_1, u10_1_1, u10_2_1, u10_3_1, f0_1, fn94, fn95, fn96, fn92, fn93, fn97, fn90, fn91, zn98, zn99, hn5, hn6, hn102, hn103, hv6_1, hn104, hn107, hn108, hn105, hn106, (fun h9 => absurd h9 (by decide)), (fun h9 => absurd h9 (by decide)), (fun h9 => absurd h9 (by decide)), (fun _ => (hv10_1 _ (T_er9 c13 hn114))), by rw [ht]; exact hP9, hD9⟩, hS.F ht⟩) hS.2.2 dX4_readText_160)
                  · skip
                    have hn109 := hn109 (hw.1.trans hr9)
                    subst hn109
                    obtain ⟨hP, hD⟩ : PDq D A [(p1, .inl (cA 0, 6, .inl f0_1)), (b0, .inl (cA 2, 700, .inl fb)), (oX4 r0 r1 p0 (nI qn83) (fn2 qn83) (fn3 qn83) (fn4 qn83) zn84 0 zn86), (oX5 r1 k1 k2 k3 (nI qn1)), (k1, .inl (cA 0, 701, .inl fn2)), (k2, .inl (cA 0, 701, .inl fn3)), (k3, .inl (cA 1, 701, .inr (.inl fn4))), (oX3 p0 u10_0_1 u10_1_1 u10_2_1 u10_3_1 p1 (nI dmi) p2 p3 p4 p5 (nI qn87) p6 (nI qn88) p7 p8 p9 (nI qn89)), (p2, .inl (cA 1, 10, .inr (.inl fn90))), (p6, .inl (cA 1, 8, .inr (.inl fn91))), (p7, .inl (cA 0, 350, .inl fn92)), (p8, .inl (cA 0, 350, .inl fn93)), (p3, .inl (cA 0, 10, .inl fn94)), (p4, .inl (cA 0, 10, .inl fn95)), (p5, .inl (cA 0, 10, .inl fn96)), (p9, .inl (cA 0, 10, .inl fn97))] H := ⟨hP, hD⟩
                    have hn110 := hn110 (hw.1.trans hr9)
                    subst hn110
                    obtain ⟨hP, hD⟩ : PDq D A [(p1, .inl (cA 0, 6, .inl f0_1)), (b0, .inl (cA 2, 700, .inl fb)), (oX4 r0 r1 p0 (nI qn83) (fn2 qn83) (fn3 qn83) (fn4 qn83) zn84 0 (-1)), (oX5 r1 k1 k2 k3 (nI qn1)), (k1, .inl (cA 0, 701, .inl fn2)), (k2, .inl (cA 0, 701, .inl fn3)), (k3, .inl (cA 1, 701, .inr (.inl fn4))), (oX3 p0 u10_0_1 u10_1_1 u10_2_1 u10_3_1 p1 (nI dmi) p2 p3 p4 p5 (nI qn87) p6 (nI qn88) p7 p8 p9 (nI qn89)), (p2, .inl (cA 1, 10, .inr (.inl fn90))), (p6, .inl (cA 1, 8, .inr (.inl fn91))), (p7, .inl (cA 0, 350, .inl fn92)), (p8, .inl (cA 0, 350, .inl fn93)), (p3, .inl (cA 0, 10, .inl fn94)), (p4, .inl (cA 0, 10, .inl fn95)), (p5, .inl (cA 0, 10, .inl fn96)), (p9, .inl (cA 0, 10, .inl fn97))] H := ⟨hP, hD⟩
                    have hn111 := hn111 (hw.1.trans hr9)
                    have hn112 := hn112 (hw.1.trans hr9)
                    have hn113 := hn113 (hw.1.trans hr9)
                    subst hr9
                    refine lv_istore (lv' := [(4, .int 1), (5, .int (nI i1)), (0, .ref r0), (1, .ref b0), (2, .int (nI ln)), (3, .ref p0)]) hx hb dX4_readText_140 hl (by decide) rfl (fun ls hl => ?_)
                    refine lv_goto (tgt := 152) hx hb dX4_readText_142 (by decide) ?_
                    refine lv_iinc (v := (nI (i1 + 1))) (lv' := [(5, .int (nI (i1 + 1))), (4, .int 1), (0, .ref r0), (1, .ref b0), (2, .int (nI ln)), (3, .ref p0)]) hx hb dX4_readText_152 hl (k := 1) rfl (nI_1 _) (by decide) rfl (fun ls hl => ?_)
                    refine lv_goto (tgt := 42) hx hb dX4_readText_155 (by decide) ?_
                    obtain ⟨hP9, hD9⟩ := PDq.sub (ws' := [(p1, .inl (cA 0, 6, .inl f0_1)), (p2, .inl (cA 1, 10, .inr (.inl fn90))), (p3, .inl (cA 0, 10, .inl fn94)), (p4, .inl (cA 0, 10, .inl fn95)), (p5, .inl (cA 0, 10, .inl fn96)), (p6, .inl (cA 1, 8, .inr (.inl fn91))), (p7, .inl (cA 0, 350, .inl fn92)), (p8, .inl (cA 0, 350, .inl fn93)), (p9, .inl (cA 0, 10, .inl fn97)), (b0, .inl (cA 2, 700, .inl fb)), (oX3 p0 u10_0_1 u10_1_1 u10_2_1 u10_3_1 p1 (nI dmi) p2 p3 p4 p5 (nI qn87) p6 (nI qn88) p7 p8 p9 (nI qn89)), (oX4 r0 r1 p0 (nI qn83) (fn2 qn83) (fn3 qn83) (fn4 qn83) zn84 0 (-1)), (oX5 r1 k1 k2 k3 (nI qn1)), (k1, .inl (cA 0, 701, .inl fn2)), (k2, .inl (cA 0, 701, .inl fn3)), (k3, .inl (cA 1, 701, .inr (.inl fn4)))]) hP hD [0, 8, 12, 13, 14, 9, 10, 11, 15, 1, 7, 2, 3, 4, 5, 6] (by decide +kernel) rfl
                    exact ih1 (i1 + 1) zn98 zn99 f0_1 fn90 fn94 fn95 fn96 fn91 fn92 fn93 fn97 u10_0_1 u10_1_1 u10_2_1 u10_3_1 dmi qn87 qn88 qn89 qn83 zn84 H _ ls (by omega) hn107 hn108 (by omega) hn100 hn101 hn112 hn102 hn103 hv6_1 hn104 hn105 hn106 (fun r9 h9 => hv10_1 r9 (T_go9 c13 hn113 h9)) hP9 hD9 hS (lv_sub hl [0, 1, 2, 3, 4, 5] rfl)
                · skip
                  refine lv_tableOut (tgt := 145) hx hb dX4_readText_67 (by have q0 : ¬ ((fn2 tii)).toInt = 8 := fun e9 => hn14 (Int32.toInt_inj.mp (e9.trans (by decide))); have q1 : ¬ ((fn2 tii)).toInt = 9 := fun e9 => hn31 (Int32.toInt_inj.mp (e9.trans (by decide))); have q2 : ¬ ((fn2 tii)).toInt = 10 := fun e9 => hn47 (Int32.toInt_inj.mp (e9.trans (by decide))); have q3 : ¬ ((fn2 tii)).toInt = 11 := fun e9 => hn63 (Int32.toInt_inj.mp (e9.trans (by decide))); have q4 : ¬ ((fn2 tii)).toInt = 12 := fun e9 => hn81 (Int32.toInt_inj.mp (e9.trans (by decide))); omega) (by decide) ?_
                  refine lv_aload_n hx hb dX4_readText_145 rfl (lv_at hl 2 rfl) ?_
                  refine lv_iconst (v := 2) hx hb dX4_readText_146 (by decide) ?_
                  obtain ⟨hPc, hDc, hFc⟩ := PDq.cut (wc := [(oX4 r0 r1 p0 (nI tii) (fn2 tii) (fn3 tii) (fn4 tii) u11_6_1 0 (-1))]) hP hD hS hA [11] (by decide) rfl
                  refine va_calli (va_runV (As := [.int 2]) (rest := []) ⟨hx, hb, hml, hown, hts⟩ (x_fail l D cA sa r0 r1 p0 (nI tii) (fn2 tii) (fn3 tii) u11_6_1 0 (-1) (fn4 tii) 2 H.size) (cwV 1 hts gX4_readText_X4_fail rfl rfl rfl (by decide +kernel) ⟨(Nat.le_of_ble_eq_true rfl), (Nat.le_of_ble_eq_true rfl)⟩) ⟨Wd.blind, va_recv hK hPc (ci := 8) (q0 := 0) rfl rfl, fun U hU hW => ⟨rfl, Wd.call hPc hDc hK hC hZ hS hFc U hU hW⟩⟩ rfl rfl hl.1 rfl (lv_room (Nat.le_of_ble_eq_true rfl)) dX4_readText_147 ⟨(Nat.le_of_ble_eq_true rfl), (Nat.le_of_ble_eq_true rfl)⟩) hS (fun q _ h => hFc q h) hFc (fun rn116 u t H1 locs ht hvm hw hB hz1 hk1 hS => ?_)
                  obtain ⟨zn117, hn118, hP1, hD1⟩ := hB
                  rw [ht] at hP1
                  obtain ⟨hP, hD⟩ := PDq.join (w := [(p1, .inl (cA 0, 6, .inl f0_1)), (p2, .inl (cA 1, 10, .inr (.inl f1_1))), (p3, .inl (cA 0, 10, .inl f2_1)), (p4, .inl (cA 0, 10, .inl f3_1)), (p5, .inl (cA 0, 10, .inl f4_1)), (p6, .inl (cA 1, 8, .inr (.inl f5_1))), (p7, .inl (cA 0, 350, .inl f6_1)), (p8, .inl (cA 0, 350, .inl f7_1)), (p9, .inl (cA 0, 10, .inl f8_1)), (b0, .inl (cA 2, 700, .inl fb)), (oX3 p0 u10_0_1 u10_1_1 u10_2_1 u10_3_1 p1 (nI dmi) p2 p3 p4 p5 (nI cmi) p6 (nI qmi) p7 p8 p9 (nI smi)), (oX5 r1 k1 k2 k3 (nI qn1)), (k1, .inl (cA 0, 701, .inl fn2)), (k2, .inl (cA 0, 701, .inl fn3)), (k3, .inl (cA 1, 701, .inr (.inl fn4))), (oX4 r0 r1 p0 (nI tii) (fn2 tii) (fn3 tii) (fn4 tii) u11_6_1 zn117 (fn3 tii))]) 15 hP hD [11] [0, 1, 2, 3, 4, 5, 6, 7, 8, 9, 10, 12, 13, 14, 15] rfl rfl (by decide +kernel) (by decide +kernel) hk1 hFc hP1 hD1 rfl
                  generalize H1 = H at hP hS ⊢
                  obtain rfl : rn116 = 0 := hw
                  refine lv_istore (lv' := [(4, .int 0), (5, .int (nI i1)), (0, .ref r0), (1, .ref b0), (2, .int (nI ln)), (3, .ref p0)]) hx hb dX4_readText_150 hl (by decide) rfl (fun ls hl => ?_)
                  refine lv_iinc (v := (nI (i1 + 1))) (lv' := [(5, .int (nI (i1 + 1))), (4, .int 0), (0, .ref r0), (1, .ref b0), (2, .int (nI ln)), (3, .ref p0)]) hx hb dX4_readText_152 hl (k := 1) rfl (nI_1 _) (by decide) rfl (fun ls hl => ?_)
                  refine lv_goto (tgt := 42) hx hb dX4_readText_155 (by decide) ?_
                  refine lv_iload hx hb dX4_readText_42 (lv_at hl 1 rfl) ?_
                  refine lv_if_eq (tgt := 158) hx hb dX4_readText_44 (by decide) (fun c119 => ?_) (fun c9 => absurd c9 (by decide))
                  refine lv_iload hx hb dX4_readText_158 (lv_at hl 1 rfl) ?_
                  obtain ⟨hP9, hD9⟩ := PDq.sub (ws' := [(oX4 r0 r1 p0 (nI tii) (fn2 tii) (fn3 tii) (fn4 tii) u11_6_1 zn117 (fn3 tii)), (oX5 r1 k1 k2 k3 (nI qn1)), (k1, .inl (cA 0, 701, .inl fn2)), (k2, .inl (cA 0, 701, .inl fn3)), (k3, .inl (cA 1, 701, .inr (.inl fn4))), (b0, .inl (cA 2, 700, .inl fb)), (oX3 p0 u10_0_1 u10_1_1 u10_2_1 u10_3_1 p1 (nI dmi) p2 p3 p4 p5 (nI cmi) p6 (nI qmi) p7 p8 p9 (nI smi)), (p1, .inl (cA 0, 6, .inl f0_1)), (p2, .inl (cA 1, 10, .inr (.inl f1_1))), (p3, .inl (cA 0, 10, .inl f2_1)), (p4, .inl (cA 0, 10, .inl f3_1)), (p5, .inl (cA 0, 10, .inl f4_1)), (p6, .inl (cA 1, 8, .inr (.inl f5_1))), (p7, .inl (cA 0, 350, .inl f6_1)), (p8, .inl (cA 0, 350, .inl f7_1)), (p9, .inl (cA 0, 10, .inl f8_1))]) hP hD [15, 11, 12, 13, 14, 9, 10, 0, 1, 2, 3, 4, 5, 6, 7, 8] (by decide +kernel) rfl
                  refine W.widen (k := 0) (n := 0) (Nat.le_of_ble_eq_true rfl) (Nat.le_of_ble_eq_true rfl) ?_
                  exact (W.zret (v := 0) hx hb hr (by first | rfl | decide) (fun t ht hW => ⟨⟨0, 0, rfl, ⟨rfl, by decide⟩, (nI tii), (fn2 tii), (fn3 tii), u11_6_1, zn117, (fn3 tii), (fn4 tii), qn1, fn2, fn3, fn4, cmi, qmi, dmi, smi, u10_0_1, u10_1_1, u10_2_1, u10_3_1, f0_1, f2_1, f3_1, f4_1, f6_1, f7_1, f8_1, f1_1, f5_1, mli, pli, hn5, hn6, hv4_1, hv5_1, hv6_1, hv7_1, hf0_1, hf1_1, hv8_1, hv9_1, (fun h9 => absurd h9 (by decide)), (fun h9 => absurd h9 (by decide)), (fun h9 => absurd h9 (by decide)), (fun _ => (hv10_1 _ (T_er c13 (S_nonex (k812 hn14 hn31 hn47 hn63 hn81) hn118 rfl)))), by rw [ht]; exact hP9, hD9⟩, hS.F ht⟩) hS.2.2 dX4_readText_160)
  obtain ⟨hP9, hD9⟩ := PDq.sub (ws' := [(p1, .inl (cA 0, 6, .inl fde)), (p2, .inl (cA 1, 10, .inr (.inl fna))), (p3, .inl (cA 0, 10, .inl fam)), (p4, .inl (cA 0, 10, .inl fpi)), (p5, .inl (cA 0, 10, .inl fby)), (p6, .inl (cA 1, 8, .inr (.inl fpn))), (p7, .inl (cA 0, 350, .inl fst)), (p8, .inl (cA 0, 350, .inl fop)), (p9, .inl (cA 0, 10, .inl fen)), (b0, .inl (cA 2, 700, .inl fb)), (oX3 p0 zn7 zn8 zn9 zn10 p1 0 p2 p3 p4 p5 0 p6 0 p7 p8 p9 0), (oX4 r0 r1 p0 (nI 0) (fn2 0) (fn3 0) (fn4 0) ir6 0 (-1)), (oX5 r1 k1 k2 k3 (nI qn1)), (k1, .inl (cA 0, 701, .inl fn2)), (k2, .inl (cA 0, 701, .inl fn3)), (k3, .inl (cA 1, 701, .inr (.inl fn4)))]) hP hD [0, 1, 2, 3, 4, 5, 6, 7, 8, 9, 10, 11, 12, 13, 14, 15] (by decide +kernel) rfl
  exact loop1 (700 - 0) 0 [] [] fde fna fam fpi fby fpn fst fop fen zn7 zn8 zn9 zn10 0 0 0 0 0 ir6 _ _ ls (by omega) hby hen (by omega) (by omega) (by omega) (by omega) (by omega) (by omega) (by omega) (by omega) (NL.zero _) (NL.zero _) (fun _ h9 => h9) hP9 hD9 hS (lv_sub hl [0, 1, 2, 3, 4, 5] rfl)

set_option maxHeartbeats 4000000 in
set_option maxRecDepth 100000 in
/-- load: within -/
theorem x_loadIn_look (l : Launch) (D : va_G) (cA : Nat → ClassId) (sa : Nat → Nat) (h0 : Nat) (b0 : Nat) (nb : Nat) (p0 : Nat) (u0 : Nat) (r0 : Nat) (a0 : Nat) (t0 : Nat) (s0 : Nat) (o0 : Nat) (ir2 : Int32) (ir3 : Int32) (ir4 : Int32) (ir6 : Int32) (ir7 : Int32) (ir8 : Int32) (ir5 : Int64) (r1 : Nat) (k1 : Nat) (k2 : Nat) (k3 : Nat) (ct : Nat) (fk : Nat → Int32) (ft : Nat → Int32) (fv : Nat → Int64) (rq : Nat) (fb : Nat → Int32) (u1 : Nat) (u2 : Nat) (u3 : Nat) (u4 : Nat) (u5 : Nat) (u6 : Nat) (u7 : Nat) (u8 : Nat) (u9 : Nat) (cu : Nat) (qu : Nat) (du : Nat) (su : Nat) (ur : Int32) (ub : Int32) (ue : Int32) (ug : Int32) (ude : Nat → Int32) (uam : Nat → Int32) (upi : Nat → Int32) (uby : Nat → Int32) (ust : Nat → Int32) (uop : Nat → Int32) (uen : Nat → Int32) (una : Nat → Int64) (upn : Nat → Int64) (s1 : Nat) (wn : Nat) (wc : Nat) (a1 : Nat) (a2 : Nat) (a3 : Nat) (a4 : Nat) (a5 : Nat) (a6 : Nat) (i6 : Int32) (i7 : Int32) (i8 : Int32) (i12 : Int32) (i13 : Int32) (i14 : Int32) (i15 : Int32) (i16 : Int32) (i17 : Int32) (i18 : Int32) (i19 : Int32) (i9 : Int64) (i10 : Int64) (i11 : Int64) (nx : Nat) (kp : Nat) (fr : Nat → Int32) (fs : Nat → Int32) (fp : Nat → Int32) (ff : Nat → Int32) (fd : Nat → Int32) (n0 : Nat) (sz : Nat) (hct : ct ≤ 701) (hnx : nx < 60) (hkp : kp ≤ 60) (hcu : cu ≤ 10) (hqu : qu ≤ 8) (hdu : du ≤ 6) (hsu : su ≤ 350) (huby : Rng 10 10 uby) (huen : Rng 10 351 uen) (hnb : nb ≤ 700) (hn0 : n0 ≤ nb) : Met l yX9_load wsX9_load ({ frames := 49, cells := 0, slots := 0, locals := 1016 }) (va_Pc [.ref h0, .int (nI n0)] (Wd D cA sa [(oX9 h0 b0 (nI nb) p0 u0 r0 a0 t0 s0 o0), (oX4 r0 r1 rq ir2 ir3 ir4 ir5 ir6 ir7 ir8), (oX5 r1 k1 k2 k3 (nI ct)), (k1, .inl (cA 0, 701, .inl fk)), (k2, .inl (cA 0, 701, .inl ft)), (k3, .inl (cA 1, 701, .inr (.inl fv))), (b0, .inl (cA 2, 700, .inl fb)), (oX3 u0 ur ub ue ug u1 (nI du) u2 u3 u4 u5 (nI cu) u6 (nI qu) u7 u8 u9 (nI su)), (u1, .inl (cA 0, 6, .inl ude)), (u2, .inl (cA 1, 10, .inr (.inl una))), (u3, .inl (cA 0, 10, .inl uam)), (u4, .inl (cA 0, 10, .inl upi)), (u5, .inl (cA 0, 10, .inl uby)), (u6, .inl (cA 1, 8, .inr (.inl upn))), (u7, .inl (cA 0, 350, .inl ust)), (u8, .inl (cA 0, 350, .inl uop)), (u9, .inl (cA 0, 10, .inl uen)), (oX0 a0 p0 a1 a3 a4 a5 a6 i6 i7 i8 i9 i10 i11 i12 i13 i14 i15 i16 i17 i18 i19), (a1, .inr (6, [.ref a2, .int (nI nx), .int (nI kp)])), (a2, .inl (cA 0, 240, .inl fr)), (a3, .inl (cA 0, 10, .inl fs)), (a4, .inl (cA 0, 10, .inl fp)), (a5, .inl (cA 0, 10, .inl ff)), (a6, .inl (cA 0, 10, .inl fd)), (s0, .inr (5, [.ref s1, .int (nI wn), .int (nI wc)]))] sz)) (va_Qi (fun (r : Int32) (uu9 : Int32) => uu9 = r) (fun (uu9 : Int32) t => ∃ pa : Nat, ∃ pu : Nat, ∃ pz : Nat, ∃ wc2 : Nat, ∃ yr2 : Int32, ∃ yr3 : Int32, ∃ yr4 : Int32, ∃ yr6 : Int32, ∃ yr7 : Int32, ∃ yr8 : Int32, ∃ yr5 : Int64, ∃ cy : Nat, ∃ zk : Nat → Int32, ∃ zt : Nat → Int32, ∃ zv : Nat → Int64, ∃ cm : Nat, ∃ qm : Nat, ∃ dm : Nat, ∃ sm : Nat, ∃ zra : Int32, ∃ zba : Int32, ∃ zea : Int32, ∃ zga : Int32, ∃ zde : Nat → Int32, ∃ zam : Nat → Int32, ∃ zpi : Nat → Int32, ∃ zby : Nat → Int32, ∃ zst : Nat → Int32, ∃ zop : Nat → Int32, ∃ zen : Nat → Int32, ∃ zna : Nat → Int64, ∃ zpn : Nat → Int64, ∃ z6 : Int32, ∃ z7 : Int32, ∃ z8 : Int32, ∃ z12 : Int32, ∃ z13 : Int32, ∃ z14 : Int32, ∃ z15 : Int32, ∃ z16 : Int32, ∃ z17 : Int32, ∃ z18 : Int32, ∃ z19 : Int32, ∃ z9 : Int64, ∃ z10 : Int64, ∃ z11 : Int64, ∃ ny : Nat, ∃ ky : Nat, ∃ zr : Nat → Int32, ∃ zs : Nat → Int32, ∃ zp : Nat → Int32, ∃ zf : Nat → Int32, ∃ zd : Nat → Int32, ∃ zml : List Int64, ∃ zpl : List Int64, ((pa = p0 ∧ pu = u0 ∧ pz = p0 ∧ wc2 = wc ∧ uu9 = -3 ∧ TP zk zt zv 0 0 [] [] (.inl (yr7, yr8))) ∨ (pa = u0 ∧ pu = p0 ∧ pz = u0 ∧ wc2 = 0 ∧ uu9 = nI cm ∧ yr7 = 0 ∧ yr8 = -1 ∧ TP zk zt zv 0 0 [] [] (.inr (zml, zpl)))) ∧ cy ≤ 701 ∧ TXE fb n0 cy zt zv zk ∧ cm ≤ 10 ∧ qm ≤ 8 ∧ dm ≤ 6 ∧ sm ≤ 350 ∧ Rng 10 10 zby ∧ Rng 10 351 zen ∧ ny < 60 ∧ ky ≤ 60 ∧ NL zml cm zna ∧ NL zpl qm zpn ∧ Wq D (va_A [(oX9 h0 b0 (nI nb) p0 u0 r0 a0 t0 s0 o0), (oX4 r0 r1 rq ir2 ir3 ir4 ir5 ir6 ir7 ir8), (oX5 r1 k1 k2 k3 (nI ct)), (k1, .inl (cA 0, 701, .inl fk)), (k2, .inl (cA 0, 701, .inl ft)), (k3, .inl (cA 1, 701, .inr (.inl fv))), (b0, .inl (cA 2, 700, .inl fb)), (oX3 u0 ur ub ue ug u1 (nI du) u2 u3 u4 u5 (nI cu) u6 (nI qu) u7 u8 u9 (nI su)), (u1, .inl (cA 0, 6, .inl ude)), (u2, .inl (cA 1, 10, .inr (.inl una))), (u3, .inl (cA 0, 10, .inl uam)), (u4, .inl (cA 0, 10, .inl upi)), (u5, .inl (cA 0, 10, .inl uby)), (u6, .inl (cA 1, 8, .inr (.inl upn))), (u7, .inl (cA 0, 350, .inl ust)), (u8, .inl (cA 0, 350, .inl uop)), (u9, .inl (cA 0, 10, .inl uen)), (oX0 a0 p0 a1 a3 a4 a5 a6 i6 i7 i8 i9 i10 i11 i12 i13 i14 i15 i16 i17 i18 i19), (a1, .inr (6, [.ref a2, .int (nI nx), .int (nI kp)])), (a2, .inl (cA 0, 240, .inl fr)), (a3, .inl (cA 0, 10, .inl fs)), (a4, .inl (cA 0, 10, .inl fp)), (a5, .inl (cA 0, 10, .inl ff)), (a6, .inl (cA 0, 10, .inl fd)), (s0, .inr (5, [.ref s1, .int (nI wn), .int (nI wc)]))] sz) [(oX9 h0 b0 0 pa pu r0 a0 t0 s0 o0), (oX4 r0 r1 u0 yr2 yr3 yr4 yr5 yr6 yr7 yr8), (oX5 r1 k1 k2 k3 (nI cy)), (k1, .inl (cA 0, 701, .inl zk)), (k2, .inl (cA 0, 701, .inl zt)), (k3, .inl (cA 1, 701, .inr (.inl zv))), (b0, .inl (cA 2, 700, .inl fb)), (oX3 u0 zra zba zea zga u1 (nI dm) u2 u3 u4 u5 (nI cm) u6 (nI qm) u7 u8 u9 (nI sm)), (u1, .inl (cA 0, 6, .inl zde)), (u2, .inl (cA 1, 10, .inr (.inl zna))), (u3, .inl (cA 0, 10, .inl zam)), (u4, .inl (cA 0, 10, .inl zpi)), (u5, .inl (cA 0, 10, .inl zby)), (u6, .inl (cA 1, 8, .inr (.inl zpn))), (u7, .inl (cA 0, 350, .inl zst)), (u8, .inl (cA 0, 350, .inl zop)), (u9, .inl (cA 0, 10, .inl zen)), (oX0 a0 pz a1 a3 a4 a5 a6 z6 z7 z8 z9 z10 z11 z12 z13 z14 z15 z16 z17 z18 z19), (a1, .inr (6, [.ref a2, .int (nI ny), .int (nI ky)])), (a2, .inl (cA 0, 240, .inl zr)), (a3, .inl (cA 0, 10, .inl zs)), (a4, .inl (cA 0, 10, .inl zp)), (a5, .inl (cA 0, 10, .inl zf)), (a6, .inl (cA 0, 10, .inl zd)), (s0, .inr (5, [.ref s1, .int (nI wn), .int (nI wc2)]))] t) (va_A [(oX9 h0 b0 (nI nb) p0 u0 r0 a0 t0 s0 o0), (oX4 r0 r1 rq ir2 ir3 ir4 ir5 ir6 ir7 ir8), (oX5 r1 k1 k2 k3 (nI ct)), (k1, .inl (cA 0, 701, .inl fk)), (k2, .inl (cA 0, 701, .inl ft)), (k3, .inl (cA 1, 701, .inr (.inl fv))), (b0, .inl (cA 2, 700, .inl fb)), (oX3 u0 ur ub ue ug u1 (nI du) u2 u3 u4 u5 (nI cu) u6 (nI qu) u7 u8 u9 (nI su)), (u1, .inl (cA 0, 6, .inl ude)), (u2, .inl (cA 1, 10, .inr (.inl una))), (u3, .inl (cA 0, 10, .inl uam)), (u4, .inl (cA 0, 10, .inl upi)), (u5, .inl (cA 0, 10, .inl uby)), (u6, .inl (cA 1, 8, .inr (.inl upn))), (u7, .inl (cA 0, 350, .inl ust)), (u8, .inl (cA 0, 350, .inl uop)), (u9, .inl (cA 0, 10, .inl uen)), (oX0 a0 p0 a1 a3 a4 a5 a6 i6 i7 i8 i9 i10 i11 i12 i13 i14 i15 i16 i17 i18 i19), (a1, .inr (6, [.ref a2, .int (nI nx), .int (nI kp)])), (a2, .inl (cA 0, 240, .inl fr)), (a3, .inl (cA 0, 10, .inl fs)), (a4, .inl (cA 0, 10, .inl fp)), (a5, .inl (cA 0, 10, .inl ff)), (a6, .inl (cA 0, 10, .inl fd)), (s0, .inr (5, [.ref s1, .int (nI wn), .int (nI wc)]))] sz)) 0 0 (va_A [(oX9 h0 b0 (nI nb) p0 u0 r0 a0 t0 s0 o0), (oX4 r0 r1 rq ir2 ir3 ir4 ir5 ir6 ir7 ir8), (oX5 r1 k1 k2 k3 (nI ct)), (k1, .inl (cA 0, 701, .inl fk)), (k2, .inl (cA 0, 701, .inl ft)), (k3, .inl (cA 1, 701, .inr (.inl fv))), (b0, .inl (cA 2, 700, .inl fb)), (oX3 u0 ur ub ue ug u1 (nI du) u2 u3 u4 u5 (nI cu) u6 (nI qu) u7 u8 u9 (nI su)), (u1, .inl (cA 0, 6, .inl ude)), (u2, .inl (cA 1, 10, .inr (.inl una))), (u3, .inl (cA 0, 10, .inl uam)), (u4, .inl (cA 0, 10, .inl upi)), (u5, .inl (cA 0, 10, .inl uby)), (u6, .inl (cA 1, 8, .inr (.inl upn))), (u7, .inl (cA 0, 350, .inl ust)), (u8, .inl (cA 0, 350, .inl uop)), (u9, .inl (cA 0, 10, .inl uen)), (oX0 a0 p0 a1 a3 a4 a5 a6 i6 i7 i8 i9 i10 i11 i12 i13 i14 i15 i16 i17 i18 i19), (a1, .inr (6, [.ref a2, .int (nI nx), .int (nI kp)])), (a2, .inl (cA 0, 240, .inl fr)), (a3, .inl (cA 0, 10, .inl fs)), (a4, .inl (cA 0, 10, .inl fp)), (a5, .inl (cA 0, 10, .inl ff)), (a6, .inl (cA 0, 10, .inl fd)), (s0, .inr (5, [.ref s1, .int (nI wn), .int (nI wc)]))] sz) := by
  refine Met.ofW (cc := cX9_load) (maxL := 4) (ret := (some .int)) (by decide) rfl ?_
  intro p e s m args below meth c s₁ B hml hv
  obtain ⟨rfl, hsz, hP, hK, hD0, hC, hZ⟩ := hv
  have hx := B.exec
  have hb := B.bytes
  have hr := B.returns
  have hts := atoms_spec (ws := wsX9_load) B.pre
  have hown : s.vm.findClass RX9 = some m.cls := findClass_of_methodNamed B.named
  have hlocks := B.notSynchronized
  subst hsz
  have hD := hD0.self (sz := s.heap.size)
  generalize hAe : va_A [(oX9 h0 b0 (nI nb) p0 u0 r0 a0 t0 s0 o0), (oX4 r0 r1 rq ir2 ir3 ir4 ir5 ir6 ir7 ir8), (oX5 r1 k1 k2 k3 (nI ct)), (k1, .inl (cA 0, 701, .inl fk)), (k2, .inl (cA 0, 701, .inl ft)), (k3, .inl (cA 1, 701, .inr (.inl fv))), (b0, .inl (cA 2, 700, .inl fb)), (oX3 u0 ur ub ue ug u1 (nI du) u2 u3 u4 u5 (nI cu) u6 (nI qu) u7 u8 u9 (nI su)), (u1, .inl (cA 0, 6, .inl ude)), (u2, .inl (cA 1, 10, .inr (.inl una))), (u3, .inl (cA 0, 10, .inl uam)), (u4, .inl (cA 0, 10, .inl upi)), (u5, .inl (cA 0, 10, .inl uby)), (u6, .inl (cA 1, 8, .inr (.inl upn))), (u7, .inl (cA 0, 350, .inl ust)), (u8, .inl (cA 0, 350, .inl uop)), (u9, .inl (cA 0, 10, .inl uen)), (oX0 a0 p0 a1 a3 a4 a5 a6 i6 i7 i8 i9 i10 i11 i12 i13 i14 i15 i16 i17 i18 i19), (a1, .inr (6, [.ref a2, .int (nI nx), .int (nI kp)])), (a2, .inl (cA 0, 240, .inl fr)), (a3, .inl (cA 0, 10, .inl fs)), (a4, .inl (cA 0, 10, .inl fp)), (a5, .inl (cA 0, 10, .inl ff)), (a6, .inl (cA 0, 10, .inl fd)), (s0, .inr (5, [.ref s1, .int (nI wn), .int (nI wc)]))] s.heap.size = A at hD hZ ⊢
  have hA : ∀ q : Nat, s.heap.size ≤ q → A q := fun q h => by rw [← hAe]; exact Or.inr h
  have hS : va_S A s.heap s.heap [] := va_S.rf
  have hP : va_P D vwCl [(oX9 h0 b0 (nI nb) p0 u0 r0 a0 t0 s0 o0), (oX4 r0 r1 rq ir2 ir3 ir4 ir5 ir6 ir7 ir8), (oX5 r1 k1 k2 k3 (nI ct)), (k1, .inl (cA 0, 701, .inl fk)), (k2, .inl (cA 0, 701, .inl ft)), (k3, .inl (cA 1, 701, .inr (.inl fv))), (b0, .inl (cA 2, 700, .inl fb)), (oX3 u0 ur ub ue ug u1 (nI du) u2 u3 u4 u5 (nI cu) u6 (nI qu) u7 u8 u9 (nI su)), (u1, .inl (cA 0, 6, .inl ude)), (u2, .inl (cA 1, 10, .inr (.inl una))), (u3, .inl (cA 0, 10, .inl uam)), (u4, .inl (cA 0, 10, .inl upi)), (u5, .inl (cA 0, 10, .inl uby)), (u6, .inl (cA 1, 8, .inr (.inl upn))), (u7, .inl (cA 0, 350, .inl ust)), (u8, .inl (cA 0, 350, .inl uop)), (u9, .inl (cA 0, 10, .inl uen)), (oX0 a0 p0 a1 a3 a4 a5 a6 i6 i7 i8 i9 i10 i11 i12 i13 i14 i15 i16 i17 i18 i19), (a1, .inr (6, [.ref a2, .int (nI nx), .int (nI kp)])), (a2, .inl (cA 0, 240, .inl fr)), (a3, .inl (cA 0, 10, .inl fs)), (a4, .inl (cA 0, 10, .inl fp)), (a5, .inl (cA 0, 10, .inl ff)), (a6, .inl (cA 0, 10, .inl fd)), (s0, .inr (5, [.ref s1, .int (nI wn), .int (nI wc)]))] s.heap := hP
  have hl := lv_entry ([.ref h0, .int (nI n0)]) (n := 4) (Nat.le_of_ble_eq_true rfl)
  rw [lg_entry_eq]
  generalize (lg_sl ([.ref h0, .int (nI n0)]) ++ List.replicate (4 - (lg_sl ([.ref h0, .int (nI n0)])).length) Slot.unset).toArray = ls at hl ⊢
  have hl : lv_has ls 4 [(0, .ref h0), (1, .int (nI n0))] := hl
  have inX3 : ∀ w ∈ u_ws RX3 TX3 17, w ∈ wsX9_load := by decide +kernel
  have inX9 : ∀ w ∈ u_ws RX9 TX9 9, w ∈ wsX9_load := by decide +kernel
  refine lv_iload_n hx hb dX9_load_0 rfl (lv_at hl 1 rfl) ?_
  refine lv_iconst (v := 0) hx hb dX9_load_1 (by decide) ?_
  refine lv_aload_n hx hb dX9_load_2 rfl (lv_at hl 0 rfl) ?_
  refine va_get (D := D) (ci := 10) (v := .int (nI nb)) (C := RX9) (T := TX9) (N := 9) hx hb hts inX9 hown hK hP 0 rfl rfl 1 (by decide) (hts (.fieldLink RX9 59 "EscrowDesk" "buffered" "I") (by decide +kernel)) (fun _ h9 => h9) rfl dX9_load_3 ?_
  obtain ⟨hPc, hDc, hFc⟩ := PDq.cut (wc := []) hP hD hS hA [] (by decide) rfl
  refine va_callv (va_runS (As := [.int (nI n0), .int 0, .int (nI nb)]) (rest := []) ⟨hx, hb, hml, hown, hts⟩ (s_needRangeIn l D cA sa n0 0 nb s.heap.size (by omega) (by omega) hn0) (va_cwS 3 hts gX9_load_X9_needRange rfl rfl rfl (by decide +kernel) ⟨(Nat.le_of_ble_eq_true rfl), (Nat.le_of_ble_eq_true rfl)⟩) ⟨Wd.blind, fun U hU hW => ⟨rfl, Wd.call hPc hDc hK hC hZ hS hFc U hU hW⟩⟩ rfl rfl hl.1 rfl (lv_room (Nat.le_of_ble_eq_true rfl)) dX9_load_6 ⟨(Nat.le_of_ble_eq_true rfl), (Nat.le_of_ble_eq_true rfl)⟩) hS (fun q _ h => hFc q h) hFc (fun u t H1 locs ht hvm hw hB hz1 hk1 hS => ?_)
  obtain ⟨hP1, hD1⟩ := hB
  rw [ht] at hP1
  obtain ⟨hP, hD⟩ := PDq.join (w := [(oX9 h0 b0 (nI nb) p0 u0 r0 a0 t0 s0 o0), (oX4 r0 r1 rq ir2 ir3 ir4 ir5 ir6 ir7 ir8), (oX5 r1 k1 k2 k3 (nI ct)), (k1, .inl (cA 0, 701, .inl fk)), (k2, .inl (cA 0, 701, .inl ft)), (k3, .inl (cA 1, 701, .inr (.inl fv))), (b0, .inl (cA 2, 700, .inl fb)), (oX3 u0 ur ub ue ug u1 (nI du) u2 u3 u4 u5 (nI cu) u6 (nI qu) u7 u8 u9 (nI su)), (u1, .inl (cA 0, 6, .inl ude)), (u2, .inl (cA 1, 10, .inr (.inl una))), (u3, .inl (cA 0, 10, .inl uam)), (u4, .inl (cA 0, 10, .inl upi)), (u5, .inl (cA 0, 10, .inl uby)), (u6, .inl (cA 1, 8, .inr (.inl upn))), (u7, .inl (cA 0, 350, .inl ust)), (u8, .inl (cA 0, 350, .inl uop)), (u9, .inl (cA 0, 10, .inl uen)), (oX0 a0 p0 a1 a3 a4 a5 a6 i6 i7 i8 i9 i10 i11 i12 i13 i14 i15 i16 i17 i18 i19), (a1, .inr (6, [.ref a2, .int (nI nx), .int (nI kp)])), (a2, .inl (cA 0, 240, .inl fr)), (a3, .inl (cA 0, 10, .inl fs)), (a4, .inl (cA 0, 10, .inl fp)), (a5, .inl (cA 0, 10, .inl ff)), (a6, .inl (cA 0, 10, .inl fd)), (s0, .inr (5, [.ref s1, .int (nI wn), .int (nI wc)]))]) 25 hP hD [] [0, 1, 2, 3, 4, 5, 6, 7, 8, 9, 10, 11, 12, 13, 14, 15, 16, 17, 18, 19, 20, 21, 22, 23, 24] rfl rfl (by decide +kernel) (by decide +kernel) hk1 hFc hP1 hD1 rfl
  generalize H1 = H at hP hS ⊢
  refine lv_aload_n hx hb dX9_load_9 rfl (lv_at hl 0 rfl) ?_
  refine va_get (D := D) (ci := 10) (v := .ref r0) (C := RX9) (T := TX9) (N := 9) hx hb hts inX9 hown hK hP 0 rfl rfl 4 (by decide) (hts (.fieldLink RX9 28 "EscrowDesk" "reader" "LEscrowDesk$Reader;") (by decide +kernel)) (fun _ h9 => h9) rfl dX9_load_10 ?_
  refine lv_aload_n hx hb dX9_load_13 rfl (lv_at hl 0 rfl) ?_
  refine va_get (D := D) (ci := 10) (v := .ref b0) (C := RX9) (T := TX9) (N := 9) hx hb hts inX9 hown hK hP 0 rfl rfl 0 (by decide) (hts (.fieldLink RX9 9 "EscrowDesk" "buffer" "[C") (by decide +kernel)) (fun _ h9 => h9) rfl dX9_load_14 ?_
  refine lv_iload_n hx hb dX9_load_17 rfl (lv_at hl 1 rfl) ?_
  refine lv_aload_n hx hb dX9_load_18 rfl (lv_at hl 0 rfl) ?_
  refine va_get (D := D) (ci := 10) (v := .ref u0) (C := RX9) (T := TX9) (N := 9) hx hb hts inX9 hown hK hP 0 rfl rfl 3 (by decide) (hts (.fieldLink RX9 20 "EscrowDesk" "sparePlan" "LEscrowDesk$Plan;") (by decide +kernel)) (fun _ h9 => h9) rfl dX9_load_19 ?_
  obtain ⟨hPc, hDc, hFc⟩ := PDq.cut (wc := [(oX4 r0 r1 rq ir2 ir3 ir4 ir5 ir6 ir7 ir8), (oX5 r1 k1 k2 k3 (nI ct)), (k1, .inl (cA 0, 701, .inl fk)), (k2, .inl (cA 0, 701, .inl ft)), (k3, .inl (cA 1, 701, .inr (.inl fv))), (b0, .inl (cA 2, 700, .inl fb)), (oX3 u0 ur ub ue ug u1 (nI du) u2 u3 u4 u5 (nI cu) u6 (nI qu) u7 u8 u9 (nI su)), (u1, .inl (cA 0, 6, .inl ude)), (u2, .inl (cA 1, 10, .inr (.inl una))), (u3, .inl (cA 0, 10, .inl uam)), (u4, .inl (cA 0, 10, .inl upi)), (u5, .inl (cA 0, 10, .inl uby)), (u6, .inl (cA 1, 8, .inr (.inl upn))), (u7, .inl (cA 0, 350, .inl ust)), (u8, .inl (cA 0, 350, .inl uop)), (u9, .inl (cA 0, 10, .inl uen))]) hP hD hS hA [1, 2, 3, 4, 5, 6, 7, 8, 9, 10, 11, 12, 13, 14, 15, 16] (by decide +kernel) rfl
  refine va_calli (va_runV (As := [.ref b0, .int (nI n0), .ref u0]) (rest := []) ⟨hx, hb, hml, hown, hts⟩ (x_readText l D cA sa r0 u0 ir2 ir3 ir4 ir6 ir7 ir8 ir5 r1 k1 k2 k3 ct fk ft fv u1 u2 u3 u4 u5 u6 u7 u8 u9 cu qu du su ur ub ue ug ude uam upi uby ust uop uen una upn rq b0 n0 fb H.size hct huby huen (by omega)) (cwV 3 hts gX9_load_X4_readText rfl rfl rfl (by decide +kernel) ⟨(Nat.le_of_ble_eq_true rfl), (Nat.le_of_ble_eq_true rfl)⟩) ⟨Wd.blind, va_recv hK hPc (ci := 8) (q0 := 0) rfl rfl, fun U hU hW => ⟨rfl, Wd.call hPc hDc hK hC hZ hS hFc U hU hW⟩⟩ rfl rfl hl.1 rfl (lv_room (Nat.le_of_ble_eq_true rfl)) dX9_load_22 ⟨(Nat.le_of_ble_eq_true rfl), (Nat.le_of_ble_eq_true rfl)⟩) hS (fun q _ h => hFc q h) hFc (fun rn1 u t H1 locs ht hvm hw hB hz1 hk1 hS => ?_)
  obtain ⟨zn2, zn3, zn4, zn5, zn6, zn7, zn8, qn9, fn10, fn11, fn12, qn13, qn14, qn15, qn16, zn17, zn18, zn19, zn20, fn21, fn22, fn23, fn24, fn25, fn26, fn27, fn28, fn29, zn30, zn31, hn32, hn33, hn34, hn35, hn36, hn37, hn38, hn39, hn40, hn41, hn42, hn43, hn44, hn45, hP1, hD1⟩ := hB
  rw [ht] at hP1
  obtain ⟨hP, hD⟩ := PDq.join (w := [(oX9 h0 b0 (nI nb) p0 u0 r0 a0 t0 s0 o0), (oX0 a0 p0 a1 a3 a4 a5 a6 i6 i7 i8 i9 i10 i11 i12 i13 i14 i15 i16 i17 i18 i19), (a1, .inr (6, [.ref a2, .int (nI nx), .int (nI kp)])), (a2, .inl (cA 0, 240, .inl fr)), (a3, .inl (cA 0, 10, .inl fs)), (a4, .inl (cA 0, 10, .inl fp)), (a5, .inl (cA 0, 10, .inl ff)), (a6, .inl (cA 0, 10, .inl fd)), (s0, .inr (5, [.ref s1, .int (nI wn), .int (nI wc)])), (oX4 r0 r1 u0 zn2 zn3 zn4 zn8 zn5 zn6 zn7), (oX5 r1 k1 k2 k3 (nI qn9)), (k1, .inl (cA 0, 701, .inl fn10)), (k2, .inl (cA 0, 701, .inl fn11)), (k3, .inl (cA 1, 701, .inr (.inl fn12))), (b0, .inl (cA 2, 700, .inl fb)), (oX3 u0 zn17 zn18 zn19 zn20 u1 (nI qn15) u2 u3 u4 u5 (nI qn13) u6 (nI qn14) u7 u8 u9 (nI qn16)), (u1, .inl (cA 0, 6, .inl fn21)), (u2, .inl (cA 1, 10, .inr (.inl fn28))), (u3, .inl (cA 0, 10, .inl fn22)), (u4, .inl (cA 0, 10, .inl fn23)), (u5, .inl (cA 0, 10, .inl fn24)), (u6, .inl (cA 1, 8, .inr (.inl fn29))), (u7, .inl (cA 0, 350, .inl fn25)), (u8, .inl (cA 0, 350, .inl fn26)), (u9, .inl (cA 0, 10, .inl fn27))]) 9 hP hD [1, 2, 3, 4, 5, 6, 7, 8, 9, 10, 11, 12, 13, 14, 15, 16] [0, 17, 18, 19, 20, 21, 22, 23, 24] rfl rfl (by decide +kernel) (by decide +kernel) hk1 hFc hP1 hD1 rfl
  generalize H1 = H at hP hS ⊢
  rcases hw.2 with hr9 | hr9
  · skip
    have hn45 := hn45 (hw.1.trans hr9)
    subst hr9
    refine lv_istore_n (lv' := [(2, .int 0), (0, .ref h0), (1, .int (nI n0))]) hx hb dX9_load_25 rfl hl (by decide) rfl (fun ls hl => ?_)
    refine lv_aload_n hx hb dX9_load_26 rfl (lv_at hl 1 rfl) ?_
    refine lv_iconst (v := 0) hx hb dX9_load_27 (by decide) ?_
    refine va_put (D := D) (ci := 10) (v := .int 0) (ty := .int) (C := RX9) (T := TX9) (N := 9) hx hb hts inX9 tyX9 tyX9_ok nmX9 hown hK hP hD hS 0 rfl rfl 1 (by decide) (hts (.fieldLink RX9 59 "EscrowDesk" "buffered" "I") (by decide +kernel)) (fun _ h9 => h9) rfl (by decide +kernel) rfl rfl (Nat.le_of_ble_eq_true rfl) dX9_load_28 (fun H locs hP hD hS => ?_)
    obtain ⟨hP, hD⟩ : PDq D A [(oX9 h0 b0 0 p0 u0 r0 a0 t0 s0 o0), (oX0 a0 p0 a1 a3 a4 a5 a6 i6 i7 i8 i9 i10 i11 i12 i13 i14 i15 i16 i17 i18 i19), (a1, .inr (6, [.ref a2, .int (nI nx), .int (nI kp)])), (a2, .inl (cA 0, 240, .inl fr)), (a3, .inl (cA 0, 10, .inl fs)), (a4, .inl (cA 0, 10, .inl fp)), (a5, .inl (cA 0, 10, .inl ff)), (a6, .inl (cA 0, 10, .inl fd)), (s0, .inr (5, [.ref s1, .int (nI wn), .int (nI wc)])), (oX4 r0 r1 u0 zn2 zn3 zn4 zn8 zn5 zn6 zn7), (oX5 r1 k1 k2 k3 (nI qn9)), (k1, .inl (cA 0, 701, .inl fn10)), (k2, .inl (cA 0, 701, .inl fn11)), (k3, .inl (cA 1, 701, .inr (.inl fn12))), (b0, .inl (cA 2, 700, .inl fb)), (oX3 u0 zn17 zn18 zn19 zn20 u1 (nI qn15) u2 u3 u4 u5 (nI qn13) u6 (nI qn14) u7 u8 u9 (nI qn16)), (u1, .inl (cA 0, 6, .inl fn21)), (u2, .inl (cA 1, 10, .inr (.inl fn28))), (u3, .inl (cA 0, 10, .inl fn22)), (u4, .inl (cA 0, 10, .inl fn23)), (u5, .inl (cA 0, 10, .inl fn24)), (u6, .inl (cA 1, 8, .inr (.inl fn29))), (u7, .inl (cA 0, 350, .inl fn25)), (u8, .inl (cA 0, 350, .inl fn26)), (u9, .inl (cA 0, 10, .inl fn27))] H := ⟨hP, hD⟩
    refine lv_iload_n hx hb dX9_load_31 rfl (lv_at hl 0 rfl) ?_
    refine lv_if_ne (tgt := 38) hx hb dX9_load_32 (by decide) (fun c9 => absurd c9 (by decide)) (fun c46 => ?_)
    refine lv_bipush (v := (-3)) hx hb dX9_load_35 (by decide) ?_
    obtain ⟨hP9, hD9⟩ := PDq.sub (ws' := [(oX9 h0 b0 0 p0 u0 r0 a0 t0 s0 o0), (oX4 r0 r1 u0 zn2 zn3 zn4 zn8 zn5 zn6 zn7), (oX5 r1 k1 k2 k3 (nI qn9)), (k1, .inl (cA 0, 701, .inl fn10)), (k2, .inl (cA 0, 701, .inl fn11)), (k3, .inl (cA 1, 701, .inr (.inl fn12))), (b0, .inl (cA 2, 700, .inl fb)), (oX3 u0 zn17 zn18 zn19 zn20 u1 (nI qn15) u2 u3 u4 u5 (nI qn13) u6 (nI qn14) u7 u8 u9 (nI qn16)), (u1, .inl (cA 0, 6, .inl fn21)), (u2, .inl (cA 1, 10, .inr (.inl fn28))), (u3, .inl (cA 0, 10, .inl fn22)), (u4, .inl (cA 0, 10, .inl fn23)), (u5, .inl (cA 0, 10, .inl fn24)), (u6, .inl (cA 1, 8, .inr (.inl fn29))), (u7, .inl (cA 0, 350, .inl fn25)), (u8, .inl (cA 0, 350, .inl fn26)), (u9, .inl (cA 0, 10, .inl fn27)), (oX0 a0 p0 a1 a3 a4 a5 a6 i6 i7 i8 i9 i10 i11 i12 i13 i14 i15 i16 i17 i18 i19), (a1, .inr (6, [.ref a2, .int (nI nx), .int (nI kp)])), (a2, .inl (cA 0, 240, .inl fr)), (a3, .inl (cA 0, 10, .inl fs)), (a4, .inl (cA 0, 10, .inl fp)), (a5, .inl (cA 0, 10, .inl ff)), (a6, .inl (cA 0, 10, .inl fd)), (s0, .inr (5, [.ref s1, .int (nI wn), .int (nI wc)]))]) hP hD [0, 9, 10, 11, 12, 13, 14, 15, 16, 17, 18, 19, 20, 21, 22, 23, 24, 1, 2, 3, 4, 5, 6, 7, 8] (by decide +kernel) rfl
    refine W.widen (k := 0) (n := 0) (Nat.le_of_ble_eq_true rfl) (Nat.le_of_ble_eq_true rfl) ?_
    exact (W.iret (v := (-3)) hx hb hr (fun t ht hW => ⟨⟨(-3), (-3), rfl, rfl, p0, u0, p0, wc, zn2, zn3, zn4, zn5, zn6, zn7, zn8, qn9, fn10, fn11, fn12, qn13, qn14, qn15, qn16, zn17, zn18, zn19, zn20, fn21, fn22, fn23, fn24, fn25, fn26, fn27, fn28, fn29, i6, i7, i8, i12, i13, i14, i15, i16, i17, i18, i19, i9, i10, i11, nx, kp, fr, fs, fp, ff, fd, zn30, zn31, (Or.inl ⟨rfl, rfl, rfl, rfl, rfl, hn45⟩), hn32, hn33, hn34, hn35, hn36, hn37, hn38, hn39, hnx, hkp, hn40, hn41, by rw [ht]; exact hP9, hD9⟩, hS.F ht⟩) hS.2.2 dX9_load_37)
  · skip
    have hn42 := hn42 (hw.1.trans hr9)
    subst hn42
    obtain ⟨hP, hD⟩ : PDq D A [(oX9 h0 b0 (nI nb) p0 u0 r0 a0 t0 s0 o0), (oX0 a0 p0 a1 a3 a4 a5 a6 i6 i7 i8 i9 i10 i11 i12 i13 i14 i15 i16 i17 i18 i19), (a1, .inr (6, [.ref a2, .int (nI nx), .int (nI kp)])), (a2, .inl (cA 0, 240, .inl fr)), (a3, .inl (cA 0, 10, .inl fs)), (a4, .inl (cA 0, 10, .inl fp)), (a5, .inl (cA 0, 10, .inl ff)), (a6, .inl (cA 0, 10, .inl fd)), (s0, .inr (5, [.ref s1, .int (nI wn), .int (nI wc)])), (oX4 r0 r1 u0 zn2 zn3 zn4 zn8 zn5 0 zn7), (oX5 r1 k1 k2 k3 (nI qn9)), (k1, .inl (cA 0, 701, .inl fn10)), (k2, .inl (cA 0, 701, .inl fn11)), (k3, .inl (cA 1, 701, .inr (.inl fn12))), (b0, .inl (cA 2, 700, .inl fb)), (oX3 u0 zn17 zn18 zn19 zn20 u1 (nI qn15) u2 u3 u4 u5 (nI qn13) u6 (nI qn14) u7 u8 u9 (nI qn16)), (u1, .inl (cA 0, 6, .inl fn21)), (u2, .inl (cA 1, 10, .inr (.inl fn28))), (u3, .inl (cA 0, 10, .inl fn22)), (u4, .inl (cA 0, 10, .inl fn23)), (u5, .inl (cA 0, 10, .inl fn24)), (u6, .inl (cA 1, 8, .inr (.inl fn29))), (u7, .inl (cA 0, 350, .inl fn25)), (u8, .inl (cA 0, 350, .inl fn26)), (u9, .inl (cA 0, 10, .inl fn27))] H := ⟨hP, hD⟩
    have hn43 := hn43 (hw.1.trans hr9)
    subst hn43
    obtain ⟨hP, hD⟩ : PDq D A [(oX9 h0 b0 (nI nb) p0 u0 r0 a0 t0 s0 o0), (oX0 a0 p0 a1 a3 a4 a5 a6 i6 i7 i8 i9 i10 i11 i12 i13 i14 i15 i16 i17 i18 i19), (a1, .inr (6, [.ref a2, .int (nI nx), .int (nI kp)])), (a2, .inl (cA 0, 240, .inl fr)), (a3, .inl (cA 0, 10, .inl fs)), (a4, .inl (cA 0, 10, .inl fp)), (a5, .inl (cA 0, 10, .inl ff)), (a6, .inl (cA 0, 10, .inl fd)), (s0, .inr (5, [.ref s1, .int (nI wn), .int (nI wc)])), (oX4 r0 r1 u0 zn2 zn3 zn4 zn8 zn5 0 (-1)), (oX5 r1 k1 k2 k3 (nI qn9)), (k1, .inl (cA 0, 701, .inl fn10)), (k2, .inl (cA 0, 701, .inl fn11)), (k3, .inl (cA 1, 701, .inr (.inl fn12))), (b0, .inl (cA 2, 700, .inl fb)), (oX3 u0 zn17 zn18 zn19 zn20 u1 (nI qn15) u2 u3 u4 u5 (nI qn13) u6 (nI qn14) u7 u8 u9 (nI qn16)), (u1, .inl (cA 0, 6, .inl fn21)), (u2, .inl (cA 1, 10, .inr (.inl fn28))), (u3, .inl (cA 0, 10, .inl fn22)), (u4, .inl (cA 0, 10, .inl fn23)), (u5, .inl (cA 0, 10, .inl fn24)), (u6, .inl (cA 1, 8, .inr (.inl fn29))), (u7, .inl (cA 0, 350, .inl fn25)), (u8, .inl (cA 0, 350, .inl fn26)), (u9, .inl (cA 0, 10, .inl fn27))] H := ⟨hP, hD⟩
    have hn44 := hn44 (hw.1.trans hr9)
    subst hr9
    refine lv_istore_n (lv' := [(2, .int 1), (0, .ref h0), (1, .int (nI n0))]) hx hb dX9_load_25 rfl hl (by decide) rfl (fun ls hl => ?_)
    refine lv_aload_n hx hb dX9_load_26 rfl (lv_at hl 1 rfl) ?_
    refine lv_iconst (v := 0) hx hb dX9_load_27 (by decide) ?_
    refine va_put (D := D) (ci := 10) (v := .int 0) (ty := .int) (C := RX9) (T := TX9) (N := 9) hx hb hts inX9 tyX9 tyX9_ok nmX9 hown hK hP hD hS 0 rfl rfl 1 (by decide) (hts (.fieldLink RX9 59 "EscrowDesk" "buffered" "I") (by decide +kernel)) (fun _ h9 => h9) rfl (by decide +kernel) rfl rfl (Nat.le_of_ble_eq_true rfl) dX9_load_28 (fun H locs hP hD hS => ?_)
    obtain ⟨hP, hD⟩ : PDq D A [(oX9 h0 b0 0 p0 u0 r0 a0 t0 s0 o0), (oX0 a0 p0 a1 a3 a4 a5 a6 i6 i7 i8 i9 i10 i11 i12 i13 i14 i15 i16 i17 i18 i19), (a1, .inr (6, [.ref a2, .int (nI nx), .int (nI kp)])), (a2, .inl (cA 0, 240, .inl fr)), (a3, .inl (cA 0, 10, .inl fs)), (a4, .inl (cA 0, 10, .inl fp)), (a5, .inl (cA 0, 10, .inl ff)), (a6, .inl (cA 0, 10, .inl fd)), (s0, .inr (5, [.ref s1, .int (nI wn), .int (nI wc)])), (oX4 r0 r1 u0 zn2 zn3 zn4 zn8 zn5 0 (-1)), (oX5 r1 k1 k2 k3 (nI qn9)), (k1, .inl (cA 0, 701, .inl fn10)), (k2, .inl (cA 0, 701, .inl fn11)), (k3, .inl (cA 1, 701, .inr (.inl fn12))), (b0, .inl (cA 2, 700, .inl fb)), (oX3 u0 zn17 zn18 zn19 zn20 u1 (nI qn15) u2 u3 u4 u5 (nI qn13) u6 (nI qn14) u7 u8 u9 (nI qn16)), (u1, .inl (cA 0, 6, .inl fn21)), (u2, .inl (cA 1, 10, .inr (.inl fn28))), (u3, .inl (cA 0, 10, .inl fn22)), (u4, .inl (cA 0, 10, .inl fn23)), (u5, .inl (cA 0, 10, .inl fn24)), (u6, .inl (cA 1, 8, .inr (.inl fn29))), (u7, .inl (cA 0, 350, .inl fn25)), (u8, .inl (cA 0, 350, .inl fn26)), (u9, .inl (cA 0, 10, .inl fn27))] H := ⟨hP, hD⟩
    refine lv_iload_n hx hb dX9_load_31 rfl (lv_at hl 0 rfl) ?_
    refine lv_if_ne (tgt := 38) hx hb dX9_load_32 (by decide) (fun c47 => ?_) (fun c9 => absurd c9 (by decide))
    refine lv_aload_n hx hb dX9_load_38 rfl (lv_at hl 1 rfl) ?_
    refine va_get (D := D) (ci := 10) (v := .ref u0) (C := RX9) (T := TX9) (N := 9) hx hb hts inX9 hown hK hP 0 rfl rfl 3 (by decide) (hts (.fieldLink RX9 20 "EscrowDesk" "sparePlan" "LEscrowDesk$Plan;") (by decide +kernel)) (fun _ h9 => h9) rfl dX9_load_39 ?_
    refine lv_astore_n (lv' := [(3, .ref u0), (2, .int 1), (0, .ref h0), (1, .int (nI n0))]) hx hb dX9_load_42 rfl hl (by decide) rfl (fun ls hl => ?_)
    refine lv_aload_n hx hb dX9_load_43 rfl (lv_at hl 2 rfl) ?_
    refine lv_aload_n hx hb dX9_load_44 rfl (lv_at hl 2 rfl) ?_
    refine va_get (D := D) (ci := 10) (v := .ref p0) (C := RX9) (T := TX9) (N := 9) hx hb hts inX9 hown hK hP 0 rfl rfl 2 (by decide) (hts (.fieldLink RX9 16 "EscrowDesk" "plan" "LEscrowDesk$Plan;") (by decide +kernel)) (fun _ h9 => h9) rfl dX9_load_45 ?_
    refine va_put (D := D) (ci := 10) (v := .ref p0) (ty := (.object "EscrowDesk$Plan")) (C := RX9) (T := TX9) (N := 9) hx hb hts inX9 tyX9 tyX9_ok nmX9 hown hK hP hD hS 0 rfl rfl 3 (by decide) (hts (.fieldLink RX9 20 "EscrowDesk" "sparePlan" "LEscrowDesk$Plan;") (by decide +kernel)) (fun _ h9 => h9) rfl (by decide +kernel) rfl rfl (Nat.le_of_ble_eq_true rfl) dX9_load_48 (fun H locs hP hD hS => ?_)
    obtain ⟨hP, hD⟩ : PDq D A [(oX9 h0 b0 0 p0 p0 r0 a0 t0 s0 o0), (oX0 a0 p0 a1 a3 a4 a5 a6 i6 i7 i8 i9 i10 i11 i12 i13 i14 i15 i16 i17 i18 i19), (a1, .inr (6, [.ref a2, .int (nI nx), .int (nI kp)])), (a2, .inl (cA 0, 240, .inl fr)), (a3, .inl (cA 0, 10, .inl fs)), (a4, .inl (cA 0, 10, .inl fp)), (a5, .inl (cA 0, 10, .inl ff)), (a6, .inl (cA 0, 10, .inl fd)), (s0, .inr (5, [.ref s1, .int (nI wn), .int (nI wc)])), (oX4 r0 r1 u0 zn2 zn3 zn4 zn8 zn5 0 (-1)), (oX5 r1 k1 k2 k3 (nI qn9)), (k1, .inl (cA 0, 701, .inl fn10)), (k2, .inl (cA 0, 701, .inl fn11)), (k3, .inl (cA 1, 701, .inr (.inl fn12))), (b0, .inl (cA 2, 700, .inl fb)), (oX3 u0 zn17 zn18 zn19 zn20 u1 (nI qn15) u2 u3 u4 u5 (nI qn13) u6 (nI qn14) u7 u8 u9 (nI qn16)), (u1, .inl (cA 0, 6, .inl fn21)), (u2, .inl (cA 1, 10, .inr (.inl fn28))), (u3, .inl (cA 0, 10, .inl fn22)), (u4, .inl (cA 0, 10, .inl fn23)), (u5, .inl (cA 0, 10, .inl fn24)), (u6, .inl (cA 1, 8, .inr (.inl fn29))), (u7, .inl (cA 0, 350, .inl fn25)), (u8, .inl (cA 0, 350, .inl fn26)), (u9, .inl (cA 0, 10, .inl fn27))] H := ⟨hP, hD⟩
    refine lv_aload_n hx hb dX9_load_51 rfl (lv_at hl 2 rfl) ?_
    refine lv_aload_n hx hb dX9_load_52 rfl (lv_at hl 0 rfl) ?_
    refine va_put (D := D) (ci := 10) (v := .ref u0) (ty := (.object "EscrowDesk$Plan")) (C := RX9) (T := TX9) (N := 9) hx hb hts inX9 tyX9 tyX9_ok nmX9 hown hK hP hD hS 0 rfl rfl 2 (by decide) (hts (.fieldLink RX9 16 "EscrowDesk" "plan" "LEscrowDesk$Plan;") (by decide +kernel)) (fun _ h9 => h9) rfl (by decide +kernel) rfl rfl (Nat.le_of_ble_eq_true rfl) dX9_load_53 (fun H locs hP hD hS => ?_)
    obtain ⟨hP, hD⟩ : PDq D A [(oX9 h0 b0 0 u0 p0 r0 a0 t0 s0 o0), (oX0 a0 p0 a1 a3 a4 a5 a6 i6 i7 i8 i9 i10 i11 i12 i13 i14 i15 i16 i17 i18 i19), (a1, .inr (6, [.ref a2, .int (nI nx), .int (nI kp)])), (a2, .inl (cA 0, 240, .inl fr)), (a3, .inl (cA 0, 10, .inl fs)), (a4, .inl (cA 0, 10, .inl fp)), (a5, .inl (cA 0, 10, .inl ff)), (a6, .inl (cA 0, 10, .inl fd)), (s0, .inr (5, [.ref s1, .int (nI wn), .int (nI wc)])), (oX4 r0 r1 u0 zn2 zn3 zn4 zn8 zn5 0 (-1)), (oX5 r1 k1 k2 k3 (nI qn9)), (k1, .inl (cA 0, 701, .inl fn10)), (k2, .inl (cA 0, 701, .inl fn11)), (k3, .inl (cA 1, 701, .inr (.inl fn12))), (b0, .inl (cA 2, 700, .inl fb)), (oX3 u0 zn17 zn18 zn19 zn20 u1 (nI qn15) u2 u3 u4 u5 (nI qn13) u6 (nI qn14) u7 u8 u9 (nI qn16)), (u1, .inl (cA 0, 6, .inl fn21)), (u2, .inl (cA 1, 10, .inr (.inl fn28))), (u3, .inl (cA 0, 10, .inl fn22)), (u4, .inl (cA 0, 10, .inl fn23)), (u5, .inl (cA 0, 10, .inl fn24)), (u6, .inl (cA 1, 8, .inr (.inl fn29))), (u7, .inl (cA 0, 350, .inl fn25)), (u8, .inl (cA 0, 350, .inl fn26)), (u9, .inl (cA 0, 10, .inl fn27))] H := ⟨hP, hD⟩
    refine lv_aload_n hx hb dX9_load_56 rfl (lv_at hl 2 rfl) ?_
    refine va_get (D := D) (ci := 10) (v := .ref a0) (C := RX9) (T := TX9) (N := 9) hx hb hts inX9 hown hK hP 0 rfl rfl 5 (by decide) (hts (.fieldLink RX9 35 "EscrowDesk" "account" "LEscrowDesk$Account;") (by decide +kernel)) (fun _ h9 => h9) rfl dX9_load_57 ?_
    refine lv_aload_n hx hb dX9_load_60 rfl (lv_at hl 2 rfl) ?_
    refine va_get (D := D) (ci := 10) (v := .ref u0) (C := RX9) (T := TX9) (N := 9) hx hb hts inX9 hown hK hP 0 rfl rfl 2 (by decide) (hts (.fieldLink RX9 16 "EscrowDesk" "plan" "LEscrowDesk$Plan;") (by decide +kernel)) (fun _ h9 => h9) rfl dX9_load_61 ?_
    obtain ⟨hPc, hDc, hFc⟩ := PDq.cut (wc := [(oX0 a0 p0 a1 a3 a4 a5 a6 i6 i7 i8 i9 i10 i11 i12 i13 i14 i15 i16 i17 i18 i19), (a1, .inr (6, [.ref a2, .int (nI nx), .int (nI kp)])), (a2, .inl (cA 0, 240, .inl fr)), (a3, .inl (cA 0, 10, .inl fs)), (a4, .inl (cA 0, 10, .inl fp)), (a5, .inl (cA 0, 10, .inl ff)), (a6, .inl (cA 0, 10, .inl fd)), (oX3 u0 zn17 zn18 zn19 zn20 u1 (nI qn15) u2 u3 u4 u5 (nI qn13) u6 (nI qn14) u7 u8 u9 (nI qn16)), (u1, .inl (cA 0, 6, .inl fn21))]) hP hD hS hA [1, 2, 3, 4, 5, 6, 7, 15, 16] (by decide +kernel) rfl
    refine va_callv (va_runV (As := [.ref u0]) (rest := []) ⟨hx, hb, hml, hown, hts⟩ (s_openWith l D cA sa a0 a1 a2 a3 a4 a5 a6 (.ref p0) (.int i6) (.int i7) (.int i8) (.long i9) (.long i10) (.long i11) (.int i12) (.int i13) (.int i14) (.int i15) (.int i16) (.int i17) (.int i18) (.int i19) nx kp fr fs fp ff fd u0 u1 u2 u3 u4 u5 u6 u7 u8 u9 qn13 qn14 qn15 qn16 zn17 zn18 zn19 zn20 fn21 H.size hnx hkp hn34 hn35 hn36 hn37) (cwV 1 hts gX9_load_X0_openWith rfl rfl rfl (by decide +kernel) ⟨(Nat.le_of_ble_eq_true rfl), (Nat.le_of_ble_eq_true rfl)⟩) ⟨Wd.blind, va_recv hK hPc (ci := 4) (q0 := 0) rfl rfl, fun U hU hW => ⟨rfl, Wd.call hPc hDc hK hC hZ hS hFc U hU hW⟩⟩ rfl rfl hl.1 rfl (lv_room (Nat.le_of_ble_eq_true rfl)) dX9_load_64 ⟨(Nat.le_of_ble_eq_true rfl), (Nat.le_of_ble_eq_true rfl)⟩) hS (fun q _ h => hFc q h) hFc (fun u t H1 locs ht hvm hw hB hz1 hk1 hS => ?_)
    obtain ⟨zn48, zn49, zn50, zn51, zn52, zn53, zn54, zn55, zn56, zn57, zn58, zn59, zn60, zn61, qn62, qn63, fn64, fn65, fn66, fn67, fn68, hn69, hn70, hP1, hD1⟩ := hB
    rw [ht] at hP1
    obtain ⟨hP, hD⟩ := PDq.join (w := [(oX9 h0 b0 0 u0 p0 r0 a0 t0 s0 o0), (s0, .inr (5, [.ref s1, .int (nI wn), .int (nI wc)])), (oX4 r0 r1 u0 zn2 zn3 zn4 zn8 zn5 0 (-1)), (oX5 r1 k1 k2 k3 (nI qn9)), (k1, .inl (cA 0, 701, .inl fn10)), (k2, .inl (cA 0, 701, .inl fn11)), (k3, .inl (cA 1, 701, .inr (.inl fn12))), (b0, .inl (cA 2, 700, .inl fb)), (u2, .inl (cA 1, 10, .inr (.inl fn28))), (u3, .inl (cA 0, 10, .inl fn22)), (u4, .inl (cA 0, 10, .inl fn23)), (u5, .inl (cA 0, 10, .inl fn24)), (u6, .inl (cA 1, 8, .inr (.inl fn29))), (u7, .inl (cA 0, 350, .inl fn25)), (u8, .inl (cA 0, 350, .inl fn26)), (u9, .inl (cA 0, 10, .inl fn27)), (oX0 a0 u0 a1 a3 a4 a5 a6 zn48 zn49 zn50 zn59 zn60 zn61 zn51 zn52 zn53 zn54 zn55 zn56 zn57 zn58), (a1, .inr (6, [.ref a2, .int (nI qn62), .int (nI qn63)])), (a2, .inl (cA 0, 240, .inl fn64)), (a3, .inl (cA 0, 10, .inl fn65)), (a4, .inl (cA 0, 10, .inl fn66)), (a5, .inl (cA 0, 10, .inl fn67)), (a6, .inl (cA 0, 10, .inl fn68)), (oX3 u0 zn17 zn18 zn19 zn20 u1 (nI qn15) u2 u3 u4 u5 (nI qn13) u6 (nI qn14) u7 u8 u9 (nI qn16)), (u1, .inl (cA 0, 6, .inl fn21))]) 16 hP hD [1, 2, 3, 4, 5, 6, 7, 15, 16] [0, 8, 9, 10, 11, 12, 13, 14, 17, 18, 19, 20, 21, 22, 23, 24] rfl rfl (by decide +kernel) (by decide +kernel) hk1 hFc hP1 hD1 rfl
    generalize H1 = H at hP hS ⊢
    refine lv_aload_n hx hb dX9_load_67 rfl (lv_at hl 2 rfl) ?_
    refine va_get (D := D) (ci := 10) (v := .ref s0) (C := RX9) (T := TX9) (N := 9) hx hb hts inX9 hown hK hP 0 rfl rfl 7 (by decide) (hts (.fieldLink RX9 45 "EscrowDesk" "history" "LEscrowDesk$History;") (by decide +kernel)) (fun _ h9 => h9) rfl dX9_load_68 ?_
    obtain ⟨hPc, hDc, hFc⟩ := PDq.cut (wc := [(s0, .inr (5, [.ref s1, .int (nI wn), .int (nI wc)]))]) hP hD hS hA [1] (by decide) rfl
    refine va_callv (va_runV (As := []) (rest := []) ⟨hx, hb, hml, hown, hts⟩ (s_forgetAll l D cA sa s0 s1 wn wc H.size) (cwV 0 hts gX9_load_X1_forgetAll rfl rfl rfl (by decide +kernel) ⟨(Nat.le_of_ble_eq_true rfl), (Nat.le_of_ble_eq_true rfl)⟩) ⟨Wd.blind, va_recv hK hPc (ci := 5) (q0 := 0) rfl rfl, fun U hU hW => ⟨rfl, Wd.call hPc hDc hK hC hZ hS hFc U hU hW⟩⟩ rfl rfl hl.1 rfl (lv_room (Nat.le_of_ble_eq_true rfl)) dX9_load_71 ⟨(Nat.le_of_ble_eq_true rfl), (Nat.le_of_ble_eq_true rfl)⟩) hS (fun q _ h => hFc q h) hFc (fun u t H1 locs ht hvm hw hB hz1 hk1 hS => ?_)
    obtain ⟨hP1, hD1⟩ := hB
    rw [ht] at hP1
    obtain ⟨hP, hD⟩ := PDq.join (w := [(oX9 h0 b0 0 u0 p0 r0 a0 t0 s0 o0), (oX4 r0 r1 u0 zn2 zn3 zn4 zn8 zn5 0 (-1)), (oX5 r1 k1 k2 k3 (nI qn9)), (k1, .inl (cA 0, 701, .inl fn10)), (k2, .inl (cA 0, 701, .inl fn11)), (k3, .inl (cA 1, 701, .inr (.inl fn12))), (b0, .inl (cA 2, 700, .inl fb)), (u2, .inl (cA 1, 10, .inr (.inl fn28))), (u3, .inl (cA 0, 10, .inl fn22)), (u4, .inl (cA 0, 10, .inl fn23)), (u5, .inl (cA 0, 10, .inl fn24)), (u6, .inl (cA 1, 8, .inr (.inl fn29))), (u7, .inl (cA 0, 350, .inl fn25)), (u8, .inl (cA 0, 350, .inl fn26)), (u9, .inl (cA 0, 10, .inl fn27)), (oX0 a0 u0 a1 a3 a4 a5 a6 zn48 zn49 zn50 zn59 zn60 zn61 zn51 zn52 zn53 zn54 zn55 zn56 zn57 zn58), (a1, .inr (6, [.ref a2, .int (nI qn62), .int (nI qn63)])), (a2, .inl (cA 0, 240, .inl fn64)), (a3, .inl (cA 0, 10, .inl fn65)), (a4, .inl (cA 0, 10, .inl fn66)), (a5, .inl (cA 0, 10, .inl fn67)), (a6, .inl (cA 0, 10, .inl fn68)), (oX3 u0 zn17 zn18 zn19 zn20 u1 (nI qn15) u2 u3 u4 u5 (nI qn13) u6 (nI qn14) u7 u8 u9 (nI qn16)), (u1, .inl (cA 0, 6, .inl fn21)), (s0, .inr (5, [.ref s1, .int (nI wn), .int 0]))]) 24 hP hD [1] [0, 2, 3, 4, 5, 6, 7, 8, 9, 10, 11, 12, 13, 14, 15, 16, 17, 18, 19, 20, 21, 22, 23, 24] rfl rfl (by decide +kernel) (by decide +kernel) hk1 hFc hP1 hD1 rfl
    generalize H1 = H at hP hS ⊢
    refine lv_aload_n hx hb dX9_load_74 rfl (lv_at hl 2 rfl) ?_
    refine va_get (D := D) (ci := 10) (v := .ref u0) (C := RX9) (T := TX9) (N := 9) hx hb hts inX9 hown hK hP 0 rfl rfl 2 (by decide) (hts (.fieldLink RX9 16 "EscrowDesk" "plan" "LEscrowDesk$Plan;") (by decide +kernel)) (fun _ h9 => h9) rfl dX9_load_75 ?_
    refine va_getN (D := D) (ci := 7) (v := .int (nI qn13)) (C := RX3) (T := TX3) (N := 17) hx hb hts inX3 hown hK hP 22 rfl rfl 10 (by decide) (hC.f (A := _) (a := RX9) (i := 78) (b := "EscrowDesk$Plan") (n := "milestoneCount") (d := "I") (x := "EscrowDesk") (by decide +kernel)) (fun _ h9 => h9) rfl dX9_load_78 ?_
    obtain ⟨hP9, hD9⟩ := PDq.sub (ws' := [(oX9 h0 b0 0 u0 p0 r0 a0 t0 s0 o0), (oX4 r0 r1 u0 zn2 zn3 zn4 zn8 zn5 0 (-1)), (oX5 r1 k1 k2 k3 (nI qn9)), (k1, .inl (cA 0, 701, .inl fn10)), (k2, .inl (cA 0, 701, .inl fn11)), (k3, .inl (cA 1, 701, .inr (.inl fn12))), (b0, .inl (cA 2, 700, .inl fb)), (oX3 u0 zn17 zn18 zn19 zn20 u1 (nI qn15) u2 u3 u4 u5 (nI qn13) u6 (nI qn14) u7 u8 u9 (nI qn16)), (u1, .inl (cA 0, 6, .inl fn21)), (u2, .inl (cA 1, 10, .inr (.inl fn28))), (u3, .inl (cA 0, 10, .inl fn22)), (u4, .inl (cA 0, 10, .inl fn23)), (u5, .inl (cA 0, 10, .inl fn24)), (u6, .inl (cA 1, 8, .inr (.inl fn29))), (u7, .inl (cA 0, 350, .inl fn25)), (u8, .inl (cA 0, 350, .inl fn26)), (u9, .inl (cA 0, 10, .inl fn27)), (oX0 a0 u0 a1 a3 a4 a5 a6 zn48 zn49 zn50 zn59 zn60 zn61 zn51 zn52 zn53 zn54 zn55 zn56 zn57 zn58), (a1, .inr (6, [.ref a2, .int (nI qn62), .int (nI qn63)])), (a2, .inl (cA 0, 240, .inl fn64)), (a3, .inl (cA 0, 10, .inl fn65)), (a4, .inl (cA 0, 10, .inl fn66)), (a5, .inl (cA 0, 10, .inl fn67)), (a6, .inl (cA 0, 10, .inl fn68)), (s0, .inr (5, [.ref s1, .int (nI wn), .int 0]))]) hP hD [0, 1, 2, 3, 4, 5, 6, 22, 23, 7, 8, 9, 10, 11, 12, 13, 14, 15, 16, 17, 18, 19, 20, 21, 24] (by decide +kernel) rfl
    refine W.widen (k := 0) (n := 0) (Nat.le_of_ble_eq_true rfl) (Nat.le_of_ble_eq_true rfl) ?_
    exact (W.iret (v := (nI qn13)) hx hb hr (fun t ht hW => ⟨⟨(nI qn13), (nI qn13), rfl, rfl, u0, p0, u0, 0, zn2, zn3, zn4, zn5, 0, (-1), zn8, qn9, fn10, fn11, fn12, qn13, qn14, qn15, qn16, zn17, zn18, zn19, zn20, fn21, fn22, fn23, fn24, fn25, fn26, fn27, fn28, fn29, zn48, zn49, zn50, zn51, zn52, zn53, zn54, zn55, zn56, zn57, zn58, zn59, zn60, zn61, qn62, qn63, fn64, fn65, fn66, fn67, fn68, zn30, zn31, (Or.inr ⟨rfl, rfl, rfl, rfl, rfl, rfl, rfl, hn44⟩), hn32, hn33, hn34, hn35, hn36, hn37, hn38, hn39, hn69, hn70, hn40, hn41, by rw [ht]; exact hP9, hD9⟩, hS.F ht⟩) hS.2.2 dX9_load_81)

set_option maxHeartbeats 4000000 in
set_option maxRecDepth 100000 in
/-- appendBytes -/
theorem x_appendBytes_look (l : Launch) (D : va_G) (cA : Nat → ClassId) (sa : Nat → Nat) (h0 : Nat) (b0 : Nat) (nb : Nat) (p0 : Nat) (u0 : Nat) (r0 : Nat) (a0 : Nat) (t0 : Nat) (s0 : Nat) (o0 : Nat) (w : Int32) (fb : Nat → Int32) (sz : Nat) (hnb : nb + 4 ≤ 700) : Met l yX9_appendBytes wsX9_appendBytes ({ frames := 0, cells := 0, slots := 0, locals := 0 }) (va_Pc [.ref h0, .int w] (Wd D cA sa [(oX9 h0 b0 (nI nb) p0 u0 r0 a0 t0 s0 o0), (b0, .inl (cA 2, 700, .inl fb))] sz)) (va_Qv (fun _ : Unit => True) (fun (_ : Unit) t => ∃ nb2 : Nat, ∃ zb : Nat → Int32, nb2 = nb + 4 ∧ A4 nb w fb zb ∧ Wq D (va_A [(oX9 h0 b0 (nI nb) p0 u0 r0 a0 t0 s0 o0), (b0, .inl (cA 2, 700, .inl fb))] sz) [(oX9 h0 b0 (nI nb2) p0 u0 r0 a0 t0 s0 o0), (b0, .inl (cA 2, 700, .inl zb))] t) (va_A [(oX9 h0 b0 (nI nb) p0 u0 r0 a0 t0 s0 o0), (b0, .inl (cA 2, 700, .inl fb))] sz)) 0 0 (va_A [(oX9 h0 b0 (nI nb) p0 u0 r0 a0 t0 s0 o0), (b0, .inl (cA 2, 700, .inl fb))] sz) := by
  refine Met.ofW (cc := cX9_appendBytes) (maxL := 3) (ret := none) (by decide) rfl ?_
  intro p e s m args below meth c s₁ B hml hv
  obtain ⟨rfl, hsz, hP, hK, hD0, hC, hZ⟩ := hv
  have hx := B.exec
  have hb := B.bytes
  have hr := B.returns
  have hts := atoms_spec (ws := wsX9_appendBytes) B.pre
  have hown : s.vm.findClass RX9 = some m.cls := findClass_of_methodNamed B.named
  have hlocks := B.notSynchronized
  subst hsz
  have hD := hD0.self (sz := s.heap.size)
  generalize hAe : va_A [(oX9 h0 b0 (nI nb) p0 u0 r0 a0 t0 s0 o0), (b0, .inl (cA 2, 700, .inl fb))] s.heap.size = A at hD hZ ⊢
  have hA : ∀ q : Nat, s.heap.size ≤ q → A q := fun q h => by rw [← hAe]; exact Or.inr h
  have hS : va_S A s.heap s.heap [] := va_S.rf
  have hP : va_P D vwCl [(oX9 h0 b0 (nI nb) p0 u0 r0 a0 t0 s0 o0), (b0, .inl (cA 2, 700, .inl fb))] s.heap := hP
  have hl := lv_entry ([.ref h0, .int w]) (n := 3) (Nat.le_of_ble_eq_true rfl)
  rw [lg_entry_eq]
  generalize (lg_sl ([.ref h0, .int w]) ++ List.replicate (3 - (lg_sl ([.ref h0, .int w])).length) Slot.unset).toArray = ls at hl ⊢
  have hl : lv_has ls 3 [(0, .ref h0), (1, .int w)] := hl
  have inX9 : ∀ w ∈ u_ws RX9 TX9 9, w ∈ wsX9_appendBytes := by decide +kernel
  refine lv_bipush (v := 24) hx hb dX9_appendBytes_0 (by decide) ?_
  refine lv_istore_n (lv' := [(2, .int 24), (0, .ref h0), (1, .int w)]) hx hb dX9_appendBytes_2 rfl hl (by decide) rfl (fun ls hl => ?_)
  refine lv_iload_n hx hb dX9_appendBytes_3 rfl (lv_at hl 0 rfl) ?_
  refine lv_if_lt (tgt := 52) hx hb dX9_appendBytes_4 (by decide) (fun c9 => absurd c9 (by decide)) (fun c1 => ?_)
  refine lv_aload_n hx hb dX9_appendBytes_7 rfl (lv_at hl 1 rfl) ?_
  refine va_get (D := D) (ci := 10) (v := .int (nI nb)) (C := RX9) (T := TX9) (N := 9) hx hb hts inX9 hown hK hP 0 rfl rfl 1 (by decide) (hts (.fieldLink RX9 59 "EscrowDesk" "buffered" "I") (by decide +kernel)) (fun _ h9 => h9) rfl dX9_appendBytes_8 ?_
  refine lv_aload_n hx hb dX9_appendBytes_11 rfl (lv_at hl 1 rfl) ?_
  refine va_get (D := D) (ci := 10) (v := .ref b0) (C := RX9) (T := TX9) (N := 9) hx hb hts inX9 hown hK hP 0 rfl rfl 0 (by decide) (hts (.fieldLink RX9 9 "EscrowDesk" "buffer" "[C") (by decide +kernel)) (fun _ h9 => h9) rfl dX9_appendBytes_12 ?_
  refine va_alen (v := 700) hx hb hK hP 1 2 rfl rfl rfl dX9_appendBytes_15 ?_
  refine lv_icmp_ge (tgt := 46) hx hb dX9_appendBytes_16 (by decide) (fun c9 => absurd c9 (nI_ge (a := nb) (b := 700) (show nb < 700 by omega) (by omega))) (fun c2 => ?_)
  refine lv_aload_n hx hb dX9_appendBytes_19 rfl (lv_at hl 1 rfl) ?_
  refine va_get (D := D) (ci := 10) (v := .ref b0) (C := RX9) (T := TX9) (N := 9) hx hb hts inX9 hown hK hP 0 rfl rfl 0 (by decide) (hts (.fieldLink RX9 9 "EscrowDesk" "buffer" "[C") (by decide +kernel)) (fun _ h9 => h9) rfl dX9_appendBytes_20 ?_
  refine lv_aload_n hx hb dX9_appendBytes_23 rfl (lv_at hl 1 rfl) ?_
  refine va_get (D := D) (ci := 10) (v := .int (nI nb)) (C := RX9) (T := TX9) (N := 9) hx hb hts inX9 hown hK hP 0 rfl rfl 1 (by decide) (hts (.fieldLink RX9 59 "EscrowDesk" "buffered" "I") (by decide +kernel)) (fun _ h9 => h9) rfl dX9_appendBytes_24 ?_
  refine lv_iload_n hx hb dX9_appendBytes_27 rfl (lv_at hl 2 rfl) ?_
  refine lv_iload_n hx hb dX9_appendBytes_28 rfl (lv_at hl 0 rfl) ?_
  refine lv_iushr hx hb dX9_appendBytes_29 rfl ?_
  refine lv_topi (fun yn3 eyn3 => ?_)
  refine lv_sipush (v := 255) hx hb dX9_appendBytes_30 (by decide) ?_
  refine lv_iand hx hb dX9_appendBytes_33 ?_
  refine lv_topi (fun yn4 eyn4 => ?_)
  refine lv_i2c hx hb dX9_appendBytes_34 rfl ?_
  refine lv_topi (fun yn5 eyn5 => ?_)
  refine va_cast hx hb hK hP hD hS 1 2 rfl rfl (vp_in_nI (n := nb) (N := 700) (show nb < 700 by omega) (by decide)) dX9_appendBytes_35 (fun H locs hP hD hS => ?_)
  obtain ⟨hP, hD⟩ : PDq D A [(oX9 h0 b0 (nI nb) p0 u0 r0 a0 t0 s0 o0), (b0, .inl (cA 2, 700, .inl (upd fb (((nI nb)).toNatClampNeg) (vp_nar .char yn5))))] H := ⟨hP, hD⟩
  have hn7 : Upp nb (vp_nar .char yn5) fb (upd fb (((nI nb)).toNatClampNeg) (vp_nar .char yn5)) := Upp.of (by omega)
  have hn8 : Rbb (upd fb (((nI nb)).toNatClampNeg) (vp_nar .char yn5)) := rfl
  generalize (upd fb (((nI nb)).toNatClampNeg) (vp_nar .char yn5)) = fn6 at hP hD hn7 hn8
  obtain ⟨hP, hD⟩ : PDq D A [(oX9 h0 b0 (nI nb) p0 u0 r0 a0 t0 s0 o0), (b0, .inl (cA 2, 700, .inl fn6))] H := ⟨hP, hD⟩
  refine lv_aload_n hx hb dX9_appendBytes_36 rfl (lv_at hl 1 rfl) ?_
  refine lv_dup hx hb dX9_appendBytes_37 rfl ?_
  refine va_get (D := D) (ci := 10) (v := .int (nI nb)) (C := RX9) (T := TX9) (N := 9) hx hb hts inX9 hown hK hP 0 rfl rfl 1 (by decide) (hts (.fieldLink RX9 59 "EscrowDesk" "buffered" "I") (by decide +kernel)) (fun _ h9 => h9) rfl dX9_appendBytes_38 ?_
  refine lv_iconst (v := 1) hx hb dX9_appendBytes_41 (by decide) ?_
  refine lv_iadd hx hb dX9_appendBytes_42 ?_
  refine lv_topi (fun yn9 eyn9 => ?_)
  obtain rfl : yn9 = (nI (nb + 1)) := eyn9.trans (nI_add nb 1)
  refine va_put (D := D) (ci := 10) (v := .int (nI (nb + 1))) (ty := .int) (C := RX9) (T := TX9) (N := 9) hx hb hts inX9 tyX9 tyX9_ok nmX9 hown hK hP hD hS 0 rfl rfl 1 (by decide) (hts (.fieldLink RX9 59 "EscrowDesk" "buffered" "I") (by decide +kernel)) (fun _ h9 => h9) rfl (by decide +kernel) rfl rfl (Nat.le_of_ble_eq_true rfl) dX9_appendBytes_43 (fun H locs hP hD hS => ?_)
  obtain ⟨hP, hD⟩ : PDq D A [(oX9 h0 b0 (nI (nb + 1)) p0 u0 r0 a0 t0 s0 o0), (b0, .inl (cA 2, 700, .inl fn6))] H := ⟨hP, hD⟩
  refine lv_iinc (v := 16) (lv' := [(2, .int 16), (0, .ref h0), (1, .int w)]) hx hb dX9_appendBytes_46 hl (k := 0) rfl (by first | rfl | decide +kernel) (by decide) rfl (fun ls hl => ?_)
  refine lv_goto (tgt := 3) hx hb dX9_appendBytes_49 (by decide) ?_
  refine lv_iload_n hx hb dX9_appendBytes_3 rfl (lv_at hl 0 rfl) ?_
  refine lv_if_lt (tgt := 52) hx hb dX9_appendBytes_4 (by decide) (fun c9 => absurd c9 (by decide)) (fun c10 => ?_)
  refine lv_aload_n hx hb dX9_appendBytes_7 rfl (lv_at hl 1 rfl) ?_
  refine va_get (D := D) (ci := 10) (v := .int (nI (nb + 1))) (C := RX9) (T := TX9) (N := 9) hx hb hts inX9 hown hK hP 0 rfl rfl 1 (by decide) (hts (.fieldLink RX9 59 "EscrowDesk" "buffered" "I") (by decide +kernel)) (fun _ h9 => h9) rfl dX9_appendBytes_8 ?_
  refine lv_aload_n hx hb dX9_appendBytes_11 rfl (lv_at hl 1 rfl) ?_
  refine va_get (D := D) (ci := 10) (v := .ref b0) (C := RX9) (T := TX9) (N := 9) hx hb hts inX9 hown hK hP 0 rfl rfl 0 (by decide) (hts (.fieldLink RX9 9 "EscrowDesk" "buffer" "[C") (by decide +kernel)) (fun _ h9 => h9) rfl dX9_appendBytes_12 ?_
  refine va_alen (v := 700) hx hb hK hP 1 2 rfl rfl rfl dX9_appendBytes_15 ?_
  refine lv_icmp_ge (tgt := 46) hx hb dX9_appendBytes_16 (by decide) (fun c9 => absurd c9 (nI_ge (a := (nb + 1)) (b := 700) (show (nb + 1) < 700 by omega) (by omega))) (fun c11 => ?_)
  refine lv_aload_n hx hb dX9_appendBytes_19 rfl (lv_at hl 1 rfl) ?_
  refine va_get (D := D) (ci := 10) (v := .ref b0) (C := RX9) (T := TX9) (N := 9) hx hb hts inX9 hown hK hP 0 rfl rfl 0 (by decide) (hts (.fieldLink RX9 9 "EscrowDesk" "buffer" "[C") (by decide +kernel)) (fun _ h9 => h9) rfl dX9_appendBytes_20 ?_
  refine lv_aload_n hx hb dX9_appendBytes_23 rfl (lv_at hl 1 rfl) ?_
  refine va_get (D := D) (ci := 10) (v := .int (nI (nb + 1))) (C := RX9) (T := TX9) (N := 9) hx hb hts inX9 hown hK hP 0 rfl rfl 1 (by decide) (hts (.fieldLink RX9 59 "EscrowDesk" "buffered" "I") (by decide +kernel)) (fun _ h9 => h9) rfl dX9_appendBytes_24 ?_
  refine lv_iload_n hx hb dX9_appendBytes_27 rfl (lv_at hl 2 rfl) ?_
  refine lv_iload_n hx hb dX9_appendBytes_28 rfl (lv_at hl 0 rfl) ?_
  refine lv_iushr hx hb dX9_appendBytes_29 rfl ?_
  refine lv_topi (fun yn12 eyn12 => ?_)
  refine lv_sipush (v := 255) hx hb dX9_appendBytes_30 (by decide) ?_
  refine lv_iand hx hb dX9_appendBytes_33 ?_
  refine lv_topi (fun yn13 eyn13 => ?_)
  refine lv_i2c hx hb dX9_appendBytes_34 rfl ?_
  refine lv_topi (fun yn14 eyn14 => ?_)
  refine va_cast hx hb hK hP hD hS 1 2 rfl rfl (vp_in_nI (n := (nb + 1)) (N := 700) (show (nb + 1) < 700 by omega) (by decide)) dX9_appendBytes_35 (fun H locs hP hD hS => ?_)
  obtain ⟨hP, hD⟩ : PDq D A [(oX9 h0 b0 (nI (nb + 1)) p0 u0 r0 a0 t0 s0 o0), (b0, .inl (cA 2, 700, .inl (upd fn6 (((nI (nb + 1))).toNatClampNeg) (vp_nar .char yn14))))] H := ⟨hP, hD⟩
  have hn16 : Upp (nb + 1) (vp_nar .char yn14) fn6 (upd fn6 (((nI (nb + 1))).toNatClampNeg) (vp_nar .char yn14)) := Upp.of (by omega)
  have hn17 : Rbb (upd fn6 (((nI (nb + 1))).toNatClampNeg) (vp_nar .char yn14)) := rfl
  generalize (upd fn6 (((nI (nb + 1))).toNatClampNeg) (vp_nar .char yn14)) = fn15 at hP hD hn16 hn17
  obtain ⟨hP, hD⟩ : PDq D A [(oX9 h0 b0 (nI (nb + 1)) p0 u0 r0 a0 t0 s0 o0), (b0, .inl (cA 2, 700, .inl fn15))] H := ⟨hP, hD⟩
  refine lv_aload_n hx hb dX9_appendBytes_36 rfl (lv_at hl 1 rfl) ?_
  refine lv_dup hx hb dX9_appendBytes_37 rfl ?_
  refine va_get (D := D) (ci := 10) (v := .int (nI (nb + 1))) (C := RX9) (T := TX9) (N := 9) hx hb hts inX9 hown hK hP 0 rfl rfl 1 (by decide) (hts (.fieldLink RX9 59 "EscrowDesk" "buffered" "I") (by decide +kernel)) (fun _ h9 => h9) rfl dX9_appendBytes_38 ?_
  refine lv_iconst (v := 1) hx hb dX9_appendBytes_41 (by decide) ?_
  refine lv_iadd hx hb dX9_appendBytes_42 ?_
  refine lv_topi (fun yn18 eyn18 => ?_)
  obtain rfl : yn18 = (nI ((nb + 1) + 1)) := eyn18.trans (nI_add (nb + 1) 1)
  refine va_put (D := D) (ci := 10) (v := .int (nI ((nb + 1) + 1))) (ty := .int) (C := RX9) (T := TX9) (N := 9) hx hb hts inX9 tyX9 tyX9_ok nmX9 hown hK hP hD hS 0 rfl rfl 1 (by decide) (hts (.fieldLink RX9 59 "EscrowDesk" "buffered" "I") (by decide +kernel)) (fun _ h9 => h9) rfl (by decide +kernel) rfl rfl (Nat.le_of_ble_eq_true rfl) dX9_appendBytes_43 (fun H locs hP hD hS => ?_)
  obtain ⟨hP, hD⟩ : PDq D A [(oX9 h0 b0 (nI ((nb + 1) + 1)) p0 u0 r0 a0 t0 s0 o0), (b0, .inl (cA 2, 700, .inl fn15))] H := ⟨hP, hD⟩
  refine lv_iinc (v := 8) (lv' := [(2, .int 8), (0, .ref h0), (1, .int w)]) hx hb dX9_appendBytes_46 hl (k := 0) rfl (by first | rfl | decide +kernel) (by decide) rfl (fun ls hl => ?_)
  refine lv_goto (tgt := 3) hx hb dX9_appendBytes_49 (by decide) ?_
  refine lv_iload_n hx hb dX9_appendBytes_3 rfl (lv_at hl 0 rfl) ?_
  refine lv_if_lt (tgt := 52) hx hb dX9_appendBytes_4 (by decide) (fun c9 => absurd c9 (by decide)) (fun c19 => ?_)
  refine lv_aload_n hx hb dX9_appendBytes_7 rfl (lv_at hl 1 rfl) ?_
  refine va_get (D := D) (ci := 10) (v := .int (nI ((nb + 1) + 1))) (C := RX9) (T := TX9) (N := 9) hx hb hts inX9 hown hK hP 0 rfl rfl 1 (by decide) (hts (.fieldLink RX9 59 "EscrowDesk" "buffered" "I") (by decide +kernel)) (fun _ h9 => h9) rfl dX9_appendBytes_8 ?_
  refine lv_aload_n hx hb dX9_appendBytes_11 rfl (lv_at hl 1 rfl) ?_
  refine va_get (D := D) (ci := 10) (v := .ref b0) (C := RX9) (T := TX9) (N := 9) hx hb hts inX9 hown hK hP 0 rfl rfl 0 (by decide) (hts (.fieldLink RX9 9 "EscrowDesk" "buffer" "[C") (by decide +kernel)) (fun _ h9 => h9) rfl dX9_appendBytes_12 ?_
  refine va_alen (v := 700) hx hb hK hP 1 2 rfl rfl rfl dX9_appendBytes_15 ?_
  refine lv_icmp_ge (tgt := 46) hx hb dX9_appendBytes_16 (by decide) (fun c9 => absurd c9 (nI_ge (a := ((nb + 1) + 1)) (b := 700) (show ((nb + 1) + 1) < 700 by omega) (by omega))) (fun c20 => ?_)
  refine lv_aload_n hx hb dX9_appendBytes_19 rfl (lv_at hl 1 rfl) ?_
  refine va_get (D := D) (ci := 10) (v := .ref b0) (C := RX9) (T := TX9) (N := 9) hx hb hts inX9 hown hK hP 0 rfl rfl 0 (by decide) (hts (.fieldLink RX9 9 "EscrowDesk" "buffer" "[C") (by decide +kernel)) (fun _ h9 => h9) rfl dX9_appendBytes_20 ?_
  refine lv_aload_n hx hb dX9_appendBytes_23 rfl (lv_at hl 1 rfl) ?_
  refine va_get (D := D) (ci := 10) (v := .int (nI ((nb + 1) + 1))) (C := RX9) (T := TX9) (N := 9) hx hb hts inX9 hown hK hP 0 rfl rfl 1 (by decide) (hts (.fieldLink RX9 59 "EscrowDesk" "buffered" "I") (by decide +kernel)) (fun _ h9 => h9) rfl dX9_appendBytes_24 ?_
  refine lv_iload_n hx hb dX9_appendBytes_27 rfl (lv_at hl 2 rfl) ?_
  refine lv_iload_n hx hb dX9_appendBytes_28 rfl (lv_at hl 0 rfl) ?_
  refine lv_iushr hx hb dX9_appendBytes_29 rfl ?_
  refine lv_topi (fun yn21 eyn21 => ?_)
  refine lv_sipush (v := 255) hx hb dX9_appendBytes_30 (by decide) ?_
  refine lv_iand hx hb dX9_appendBytes_33 ?_
  refine lv_topi (fun yn22 eyn22 => ?_)
  refine lv_i2c hx hb dX9_appendBytes_34 rfl ?_
  refine lv_topi (fun yn23 eyn23 => ?_)
  refine va_cast hx hb hK hP hD hS 1 2 rfl rfl (vp_in_nI (n := ((nb + 1) + 1)) (N := 700) (show ((nb + 1) + 1) < 700 by omega) (by decide)) dX9_appendBytes_35 (fun H locs hP hD hS => ?_)
  obtain ⟨hP, hD⟩ : PDq D A [(oX9 h0 b0 (nI ((nb + 1) + 1)) p0 u0 r0 a0 t0 s0 o0), (b0, .inl (cA 2, 700, .inl (upd fn15 (((nI ((nb + 1) + 1))).toNatClampNeg) (vp_nar .char yn23))))] H := ⟨hP, hD⟩
  have hn25 : Upp ((nb + 1) + 1) (vp_nar .char yn23) fn15 (upd fn15 (((nI ((nb + 1) + 1))).toNatClampNeg) (vp_nar .char yn23)) := Upp.of (by omega)
  have hn26 : Rbb (upd fn15 (((nI ((nb + 1) + 1))).toNatClampNeg) (vp_nar .char yn23)) := rfl
  generalize (upd fn15 (((nI ((nb + 1) + 1))).toNatClampNeg) (vp_nar .char yn23)) = fn24 at hP hD hn25 hn26
  obtain ⟨hP, hD⟩ : PDq D A [(oX9 h0 b0 (nI ((nb + 1) + 1)) p0 u0 r0 a0 t0 s0 o0), (b0, .inl (cA 2, 700, .inl fn24))] H := ⟨hP, hD⟩
  refine lv_aload_n hx hb dX9_appendBytes_36 rfl (lv_at hl 1 rfl) ?_
  refine lv_dup hx hb dX9_appendBytes_37 rfl ?_
  refine va_get (D := D) (ci := 10) (v := .int (nI ((nb + 1) + 1))) (C := RX9) (T := TX9) (N := 9) hx hb hts inX9 hown hK hP 0 rfl rfl 1 (by decide) (hts (.fieldLink RX9 59 "EscrowDesk" "buffered" "I") (by decide +kernel)) (fun _ h9 => h9) rfl dX9_appendBytes_38 ?_
  refine lv_iconst (v := 1) hx hb dX9_appendBytes_41 (by decide) ?_
  refine lv_iadd hx hb dX9_appendBytes_42 ?_
  refine lv_topi (fun yn27 eyn27 => ?_)
  obtain rfl : yn27 = (nI (((nb + 1) + 1) + 1)) := eyn27.trans (nI_add ((nb + 1) + 1) 1)
  refine va_put (D := D) (ci := 10) (v := .int (nI (((nb + 1) + 1) + 1))) (ty := .int) (C := RX9) (T := TX9) (N := 9) hx hb hts inX9 tyX9 tyX9_ok nmX9 hown hK hP hD hS 0 rfl rfl 1 (by decide) (hts (.fieldLink RX9 59 "EscrowDesk" "buffered" "I") (by decide +kernel)) (fun _ h9 => h9) rfl (by decide +kernel) rfl rfl (Nat.le_of_ble_eq_true rfl) dX9_appendBytes_43 (fun H locs hP hD hS => ?_)
  obtain ⟨hP, hD⟩ : PDq D A [(oX9 h0 b0 (nI (((nb + 1) + 1) + 1)) p0 u0 r0 a0 t0 s0 o0), (b0, .inl (cA 2, 700, .inl fn24))] H := ⟨hP, hD⟩
  refine lv_iinc (v := 0) (lv' := [(2, .int 0), (0, .ref h0), (1, .int w)]) hx hb dX9_appendBytes_46 hl (k := 0) rfl (by first | rfl | decide +kernel) (by decide) rfl (fun ls hl => ?_)
  refine lv_goto (tgt := 3) hx hb dX9_appendBytes_49 (by decide) ?_
  refine lv_iload_n hx hb dX9_appendBytes_3 rfl (lv_at hl 0 rfl) ?_
  refine lv_if_lt (tgt := 52) hx hb dX9_appendBytes_4 (by decide) (fun c9 => absurd c9 (by decide)) (fun c28 => ?_)
  refine lv_aload_n hx hb dX9_appendBytes_7 rfl (lv_at hl 1 rfl) ?_
  refine va_get (D := D) (ci := 10) (v := .int (nI (((nb + 1) + 1) + 1))) (C := RX9) (T := TX9) (N := 9) hx hb hts inX9 hown hK hP 0 rfl rfl 1 (by decide) (hts (.fieldLink RX9 59 "EscrowDesk" "buffered" "I") (by decide +kernel)) (fun _ h9 => h9) rfl dX9_appendBytes_8 ?_
  refine lv_aload_n hx hb dX9_appendBytes_11 rfl (lv_at hl 1 rfl) ?_
  refine va_get (D := D) (ci := 10) (v := .ref b0) (C := RX9) (T := TX9) (N := 9) hx hb hts inX9 hown hK hP 0 rfl rfl 0 (by decide) (hts (.fieldLink RX9 9 "EscrowDesk" "buffer" "[C") (by decide +kernel)) (fun _ h9 => h9) rfl dX9_appendBytes_12 ?_
  refine va_alen (v := 700) hx hb hK hP 1 2 rfl rfl rfl dX9_appendBytes_15 ?_
  refine lv_icmp_ge (tgt := 46) hx hb dX9_appendBytes_16 (by decide) (fun c9 => absurd c9 (nI_ge (a := (((nb + 1) + 1) + 1)) (b := 700) (show (((nb + 1) + 1) + 1) < 700 by omega) (by omega))) (fun c29 => ?_)
  refine lv_aload_n hx hb dX9_appendBytes_19 rfl (lv_at hl 1 rfl) ?_
  refine va_get (D := D) (ci := 10) (v := .ref b0) (C := RX9) (T := TX9) (N := 9) hx hb hts inX9 hown hK hP 0 rfl rfl 0 (by decide) (hts (.fieldLink RX9 9 "EscrowDesk" "buffer" "[C") (by decide +kernel)) (fun _ h9 => h9) rfl dX9_appendBytes_20 ?_
  refine lv_aload_n hx hb dX9_appendBytes_23 rfl (lv_at hl 1 rfl) ?_
  refine va_get (D := D) (ci := 10) (v := .int (nI (((nb + 1) + 1) + 1))) (C := RX9) (T := TX9) (N := 9) hx hb hts inX9 hown hK hP 0 rfl rfl 1 (by decide) (hts (.fieldLink RX9 59 "EscrowDesk" "buffered" "I") (by decide +kernel)) (fun _ h9 => h9) rfl dX9_appendBytes_24 ?_
  refine lv_iload_n hx hb dX9_appendBytes_27 rfl (lv_at hl 2 rfl) ?_
  refine lv_iload_n hx hb dX9_appendBytes_28 rfl (lv_at hl 0 rfl) ?_
  refine lv_iushr hx hb dX9_appendBytes_29 rfl ?_
  refine lv_topi (fun yn30 eyn30 => ?_)
  refine lv_sipush (v := 255) hx hb dX9_appendBytes_30 (by decide) ?_
  refine lv_iand hx hb dX9_appendBytes_33 ?_
  refine lv_topi (fun yn31 eyn31 => ?_)
  refine lv_i2c hx hb dX9_appendBytes_34 rfl ?_
  refine lv_topi (fun yn32 eyn32 => ?_)
  refine va_cast hx hb hK hP hD hS 1 2 rfl rfl (vp_in_nI (n := (((nb + 1) + 1) + 1)) (N := 700) (show (((nb + 1) + 1) + 1) < 700 by omega) (by decide)) dX9_appendBytes_35 (fun H locs hP hD hS => ?_)
  obtain ⟨hP, hD⟩ : PDq D A [(oX9 h0 b0 (nI (((nb + 1) + 1) + 1)) p0 u0 r0 a0 t0 s0 o0), (b0, .inl (cA 2, 700, .inl (upd fn24 (((nI (((nb + 1) + 1) + 1))).toNatClampNeg) (vp_nar .char yn32))))] H := ⟨hP, hD⟩
  have hn34 : Upp (((nb + 1) + 1) + 1) (vp_nar .char yn32) fn24 (upd fn24 (((nI (((nb + 1) + 1) + 1))).toNatClampNeg) (vp_nar .char yn32)) := Upp.of (by omega)
  have hn35 : Rbb (upd fn24 (((nI (((nb + 1) + 1) + 1))).toNatClampNeg) (vp_nar .char yn32)) := rfl
  generalize (upd fn24 (((nI (((nb + 1) + 1) + 1))).toNatClampNeg) (vp_nar .char yn32)) = fn33 at hP hD hn34 hn35
  obtain ⟨hP, hD⟩ : PDq D A [(oX9 h0 b0 (nI (((nb + 1) + 1) + 1)) p0 u0 r0 a0 t0 s0 o0), (b0, .inl (cA 2, 700, .inl fn33))] H := ⟨hP, hD⟩
  refine lv_aload_n hx hb dX9_appendBytes_36 rfl (lv_at hl 1 rfl) ?_
  refine lv_dup hx hb dX9_appendBytes_37 rfl ?_
  refine va_get (D := D) (ci := 10) (v := .int (nI (((nb + 1) + 1) + 1))) (C := RX9) (T := TX9) (N := 9) hx hb hts inX9 hown hK hP 0 rfl rfl 1 (by decide) (hts (.fieldLink RX9 59 "EscrowDesk" "buffered" "I") (by decide +kernel)) (fun _ h9 => h9) rfl dX9_appendBytes_38 ?_
  refine lv_iconst (v := 1) hx hb dX9_appendBytes_41 (by decide) ?_
  refine lv_iadd hx hb dX9_appendBytes_42 ?_
  refine lv_topi (fun yn36 eyn36 => ?_)
  obtain rfl : yn36 = (nI ((((nb + 1) + 1) + 1) + 1)) := eyn36.trans (nI_add (((nb + 1) + 1) + 1) 1)
  refine va_put (D := D) (ci := 10) (v := .int (nI ((((nb + 1) + 1) + 1) + 1))) (ty := .int) (C := RX9) (T := TX9) (N := 9) hx hb hts inX9 tyX9 tyX9_ok nmX9 hown hK hP hD hS 0 rfl rfl 1 (by decide) (hts (.fieldLink RX9 59 "EscrowDesk" "buffered" "I") (by decide +kernel)) (fun _ h9 => h9) rfl (by decide +kernel) rfl rfl (Nat.le_of_ble_eq_true rfl) dX9_appendBytes_43 (fun H locs hP hD hS => ?_)
  obtain ⟨hP, hD⟩ : PDq D A [(oX9 h0 b0 (nI ((((nb + 1) + 1) + 1) + 1)) p0 u0 r0 a0 t0 s0 o0), (b0, .inl (cA 2, 700, .inl fn33))] H := ⟨hP, hD⟩
  refine lv_iinc (v := (-8)) (lv' := [(2, .int (-8)), (0, .ref h0), (1, .int w)]) hx hb dX9_appendBytes_46 hl (k := 0) rfl (by first | rfl | decide +kernel) (by decide) rfl (fun ls hl => ?_)
  refine lv_goto (tgt := 3) hx hb dX9_appendBytes_49 (by decide) ?_
  refine lv_iload_n hx hb dX9_appendBytes_3 rfl (lv_at hl 0 rfl) ?_
  refine lv_if_lt (tgt := 52) hx hb dX9_appendBytes_4 (by decide) (fun c37 => ?_) (fun c9 => absurd c9 (by decide))
  obtain ⟨hP9, hD9⟩ := PDq.sub (ws' := [(oX9 h0 b0 (nI ((((nb + 1) + 1) + 1) + 1)) p0 u0 r0 a0 t0 s0 o0), (b0, .inl (cA 2, 700, .inl fn33))]) hP hD [0, 1] (by decide) rfl
  refine W.widen (k := 0) (n := 0) (Nat.le_of_ble_eq_true rfl) (Nat.le_of_ble_eq_true rfl) ?_
  exact (W.vret hx hb hr (fun t ht hW => ⟨⟨(), rfl, trivial, ((((nb + 1) + 1) + 1) + 1), fn33, (by omega), (A4.of hn7 hn16 hn25 hn34 (bw_c eyn3 eyn4 eyn5) (bw_c eyn12 eyn13 eyn14) (bw_c eyn21 eyn22 eyn23) (bw_c eyn30 eyn31 eyn32)), by rw [ht]; exact hP9, hD9⟩, hS.F ht⟩) hS.2.2 dX9_appendBytes_52)

set_option maxHeartbeats 4000000 in
set_option maxRecDepth 100000 in
/-- feed -/
theorem x_feed_look (l : Launch) (D : va_G) (cA : Nat → ClassId) (sa : Nat → Nat) (h0 : Nat) (b0 : Nat) (nb : Nat) (p0 : Nat) (u0 : Nat) (r0 : Nat) (a0 : Nat) (t0 : Nat) (s0 : Nat) (o0 : Nat) (w1 : Int32) (w2 : Int32) (w3 : Int32) (w4 : Int32) (w5 : Int32) (fb : Nat → Int32) (sz : Nat) (hnb : nb + 20 ≤ 700) : Met l yX9_feed wsX9_feed ({ frames := 1, cells := 0, slots := 0, locals := 22 }) (va_Pc [.ref h0, .int w1, .int w2, .int w3, .int w4, .int w5] (Wd D cA sa [(oX9 h0 b0 (nI nb) p0 u0 r0 a0 t0 s0 o0), (b0, .inl (cA 2, 700, .inl fb))] sz)) (va_Qi (fun (r : Int32) (_ : Unit) => r = nI (nb + 20)) (fun (_ : Unit) t => ∃ nb2 : Nat, ∃ zb : Nat → Int32, nb2 = nb + 20 ∧ A20 nb w1 w2 w3 w4 w5 fb zb ∧ Wq D (va_A [(oX9 h0 b0 (nI nb) p0 u0 r0 a0 t0 s0 o0), (b0, .inl (cA 2, 700, .inl fb))] sz) [(oX9 h0 b0 (nI nb2) p0 u0 r0 a0 t0 s0 o0), (b0, .inl (cA 2, 700, .inl zb))] t) (va_A [(oX9 h0 b0 (nI nb) p0 u0 r0 a0 t0 s0 o0), (b0, .inl (cA 2, 700, .inl fb))] sz)) 0 0 (va_A [(oX9 h0 b0 (nI nb) p0 u0 r0 a0 t0 s0 o0), (b0, .inl (cA 2, 700, .inl fb))] sz) := by
  refine Met.ofW (cc := cX9_feed) (maxL := 6) (ret := (some .int)) (by decide) rfl ?_
  intro p e s m args below meth c s₁ B hml hv
  obtain ⟨rfl, hsz, hP, hK, hD0, hC, hZ⟩ := hv
  have hx := B.exec
  have hb := B.bytes
  have hr := B.returns
  have hts := atoms_spec (ws := wsX9_feed) B.pre
  have hown : s.vm.findClass RX9 = some m.cls := findClass_of_methodNamed B.named
  have hlocks := B.notSynchronized
  subst hsz
  have hD := hD0.self (sz := s.heap.size)
  generalize hAe : va_A [(oX9 h0 b0 (nI nb) p0 u0 r0 a0 t0 s0 o0), (b0, .inl (cA 2, 700, .inl fb))] s.heap.size = A at hD hZ ⊢
  have hA : ∀ q : Nat, s.heap.size ≤ q → A q := fun q h => by rw [← hAe]; exact Or.inr h
  have hS : va_S A s.heap s.heap [] := va_S.rf
  have hP : va_P D vwCl [(oX9 h0 b0 (nI nb) p0 u0 r0 a0 t0 s0 o0), (b0, .inl (cA 2, 700, .inl fb))] s.heap := hP
  have hl := lv_entry ([.ref h0, .int w1, .int w2, .int w3, .int w4, .int w5]) (n := 6) (Nat.le_of_ble_eq_true rfl)
  rw [lg_entry_eq]
  generalize (lg_sl ([.ref h0, .int w1, .int w2, .int w3, .int w4, .int w5]) ++ List.replicate (6 - (lg_sl ([.ref h0, .int w1, .int w2, .int w3, .int w4, .int w5])).length) Slot.unset).toArray = ls at hl ⊢
  have hl : lv_has ls 6 [(0, .ref h0), (1, .int w1), (2, .int w2), (3, .int w3), (4, .int w4), (5, .int w5)] := hl
  have inX9 : ∀ w ∈ u_ws RX9 TX9 9, w ∈ wsX9_feed := by decide +kernel
  refine lv_aload_n hx hb dX9_feed_0 rfl (lv_at hl 0 rfl) ?_
  refine va_get (D := D) (ci := 10) (v := .int (nI nb)) (C := RX9) (T := TX9) (N := 9) hx hb hts inX9 hown hK hP 0 rfl rfl 1 (by decide) (hts (.fieldLink RX9 59 "EscrowDesk" "buffered" "I") (by decide +kernel)) (fun _ h9 => h9) rfl dX9_feed_1 ?_
  refine lv_bipush (v := 20) hx hb dX9_feed_4 (by decide) ?_
  refine lv_iadd hx hb dX9_feed_6 ?_
  refine lv_topi (fun yn1 eyn1 => ?_)
  obtain rfl : yn1 = (nI (nb + 20)) := eyn1.trans (nI_add nb 20)
  refine lv_sipush (v := 700) hx hb dX9_feed_7 (by decide) ?_
  refine lv_icmp_le (tgt := 16) hx hb dX9_feed_10 (by decide) (fun c2 => ?_) (fun c9 => absurd (nI_le (a := (nb + 20)) (b := 700) (show (nb + 20) ≤ 700 by omega) (by omega)) c9)
  refine lv_aload_n hx hb dX9_feed_16 rfl (lv_at hl 0 rfl) ?_
  refine lv_iload_n hx hb dX9_feed_17 rfl (lv_at hl 1 rfl) ?_
  obtain ⟨hPc, hDc, hFc⟩ := PDq.cut (wc := [(oX9 h0 b0 (nI nb) p0 u0 r0 a0 t0 s0 o0), (b0, .inl (cA 2, 700, .inl fb))]) hP hD hS hA [0, 1] (by decide) rfl
  refine va_callv (va_runV (As := [.int w1]) (rest := []) ⟨hx, hb, hml, hown, hts⟩ (x_appendBytes l D cA sa h0 b0 nb p0 u0 r0 a0 t0 s0 o0 w1 fb s.heap.size (by omega)) (cwV 1 hts gX9_feed_X9_appendBytes rfl rfl rfl (by decide +kernel) ⟨(Nat.le_of_ble_eq_true rfl), (Nat.le_of_ble_eq_true rfl)⟩) ⟨Wd.blind, va_recv hK hPc (ci := 10) (q0 := 0) rfl rfl, fun U hU hW => ⟨rfl, Wd.call hPc hDc hK hC hZ hS hFc U hU hW⟩⟩ rfl rfl hl.1 rfl (lv_room (Nat.le_of_ble_eq_true rfl)) dX9_feed_18 ⟨(Nat.le_of_ble_eq_true rfl), (Nat.le_of_ble_eq_true rfl)⟩) hS (fun q _ h => hFc q h) hFc (fun u t H1 locs ht hvm hw hB hz1 hk1 hS => ?_)
  obtain ⟨qn3, fn4, hn5, hn6, hP1, hD1⟩ := hB
  rw [ht] at hP1
  obtain ⟨hP, hD⟩ := PDq.join (w := [(oX9 h0 b0 (nI qn3) p0 u0 r0 a0 t0 s0 o0), (b0, .inl (cA 2, 700, .inl fn4))]) 0 hP hD [0, 1] [] rfl rfl (by decide) (by decide) hk1 hFc hP1 hD1 rfl
  generalize H1 = H at hP hS ⊢
  subst hn5
  obtain ⟨hP, hD⟩ : PDq D A [(oX9 h0 b0 (nI (nb + 4)) p0 u0 r0 a0 t0 s0 o0), (b0, .inl (cA 2, 700, .inl fn4))] H := ⟨hP, hD⟩
  refine lv_aload_n hx hb dX9_feed_21 rfl (lv_at hl 0 rfl) ?_
  refine lv_iload_n hx hb dX9_feed_22 rfl (lv_at hl 2 rfl) ?_
  obtain ⟨hPc, hDc, hFc⟩ := PDq.cut (wc := [(oX9 h0 b0 (nI (nb + 4)) p0 u0 r0 a0 t0 s0 o0), (b0, .inl (cA 2, 700, .inl fn4))]) hP hD hS hA [0, 1] (by decide) rfl
  refine va_callv (va_runV (As := [.int w2]) (rest := []) ⟨hx, hb, hml, hown, hts⟩ (x_appendBytes l D cA sa h0 b0 (nb + 4) p0 u0 r0 a0 t0 s0 o0 w2 fn4 H.size (by omega)) (cwV 1 hts gX9_feed_X9_appendBytes rfl rfl rfl (by decide +kernel) ⟨(Nat.le_of_ble_eq_true rfl), (Nat.le_of_ble_eq_true rfl)⟩) ⟨Wd.blind, va_recv hK hPc (ci := 10) (q0 := 0) rfl rfl, fun U hU hW => ⟨rfl, Wd.call hPc hDc hK hC hZ hS hFc U hU hW⟩⟩ rfl rfl hl.1 rfl (lv_room (Nat.le_of_ble_eq_true rfl)) dX9_feed_23 ⟨(Nat.le_of_ble_eq_true rfl), (Nat.le_of_ble_eq_true rfl)⟩) hS (fun q _ h => hFc q h) hFc (fun u t H1 locs ht hvm hw hB hz1 hk1 hS => ?_)
  obtain ⟨qn7, fn8, hn9, hn10, hP1, hD1⟩ := hB
  rw [ht] at hP1
  obtain ⟨hP, hD⟩ := PDq.join (w := [(oX9 h0 b0 (nI qn7) p0 u0 r0 a0 t0 s0 o0), (b0, .inl (cA 2, 700, .inl fn8))]) 0 hP hD [0, 1] [] rfl rfl (by decide) (by decide) hk1 hFc hP1 hD1 rfl
  generalize H1 = H at hP hS ⊢
  subst hn9
  obtain ⟨hP, hD⟩ : PDq D A [(oX9 h0 b0 (nI ((nb + 4) + 4)) p0 u0 r0 a0 t0 s0 o0), (b0, .inl (cA 2, 700, .inl fn8))] H := ⟨hP, hD⟩
  refine lv_aload_n hx hb dX9_feed_26 rfl (lv_at hl 0 rfl) ?_
  refine lv_iload_n hx hb dX9_feed_27 rfl (lv_at hl 3 rfl) ?_
  obtain ⟨hPc, hDc, hFc⟩ := PDq.cut (wc := [(oX9 h0 b0 (nI ((nb + 4) + 4)) p0 u0 r0 a0 t0 s0 o0), (b0, .inl (cA 2, 700, .inl fn8))]) hP hD hS hA [0, 1] (by decide) rfl
  refine va_callv (va_runV (As := [.int w3]) (rest := []) ⟨hx, hb, hml, hown, hts⟩ (x_appendBytes l D cA sa h0 b0 ((nb + 4) + 4) p0 u0 r0 a0 t0 s0 o0 w3 fn8 H.size (by omega)) (cwV 1 hts gX9_feed_X9_appendBytes rfl rfl rfl (by decide +kernel) ⟨(Nat.le_of_ble_eq_true rfl), (Nat.le_of_ble_eq_true rfl)⟩) ⟨Wd.blind, va_recv hK hPc (ci := 10) (q0 := 0) rfl rfl, fun U hU hW => ⟨rfl, Wd.call hPc hDc hK hC hZ hS hFc U hU hW⟩⟩ rfl rfl hl.1 rfl (lv_room (Nat.le_of_ble_eq_true rfl)) dX9_feed_28 ⟨(Nat.le_of_ble_eq_true rfl), (Nat.le_of_ble_eq_true rfl)⟩) hS (fun q _ h => hFc q h) hFc (fun u t H1 locs ht hvm hw hB hz1 hk1 hS => ?_)
  obtain ⟨qn11, fn12, hn13, hn14, hP1, hD1⟩ := hB
  rw [ht] at hP1
  obtain ⟨hP, hD⟩ := PDq.join (w := [(oX9 h0 b0 (nI qn11) p0 u0 r0 a0 t0 s0 o0), (b0, .inl (cA 2, 700, .inl fn12))]) 0 hP hD [0, 1] [] rfl rfl (by decide) (by decide) hk1 hFc hP1 hD1 rfl
  generalize H1 = H at hP hS ⊢
  subst hn13
  obtain ⟨hP, hD⟩ : PDq D A [(oX9 h0 b0 (nI (((nb + 4) + 4) + 4)) p0 u0 r0 a0 t0 s0 o0), (b0, .inl (cA 2, 700, .inl fn12))] H := ⟨hP, hD⟩
  refine lv_aload_n hx hb dX9_feed_31 rfl (lv_at hl 0 rfl) ?_
  refine lv_iload hx hb dX9_feed_32 (lv_at hl 4 rfl) ?_
  obtain ⟨hPc, hDc, hFc⟩ := PDq.cut (wc := [(oX9 h0 b0 (nI (((nb + 4) + 4) + 4)) p0 u0 r0 a0 t0 s0 o0), (b0, .inl (cA 2, 700, .inl fn12))]) hP hD hS hA [0, 1] (by decide) rfl
  refine va_callv (va_runV (As := [.int w4]) (rest := []) ⟨hx, hb, hml, hown, hts⟩ (x_appendBytes l D cA sa h0 b0 (((nb + 4) + 4) + 4) p0 u0 r0 a0 t0 s0 o0 w4 fn12 H.size (by omega)) (cwV 1 hts gX9_feed_X9_appendBytes rfl rfl rfl (by decide +kernel) ⟨(Nat.le_of_ble_eq_true rfl), (Nat.le_of_ble_eq_true rfl)⟩) ⟨Wd.blind, va_recv hK hPc (ci := 10) (q0 := 0) rfl rfl, fun U hU hW => ⟨rfl, Wd.call hPc hDc hK hC hZ hS hFc U hU hW⟩⟩ rfl rfl hl.1 rfl (lv_room (Nat.le_of_ble_eq_true rfl)) dX9_feed_34 ⟨(Nat.le_of_ble_eq_true rfl), (Nat.le_of_ble_eq_true rfl)⟩) hS (fun q _ h => hFc q h) hFc (fun u t H1 locs ht hvm hw hB hz1 hk1 hS => ?_)
  obtain ⟨qn15, fn16, hn17, hn18, hP1, hD1⟩ := hB
  rw [ht] at hP1
  obtain ⟨hP, hD⟩ := PDq.join (w := [(oX9 h0 b0 (nI qn15) p0 u0 r0 a0 t0 s0 o0), (b0, .inl (cA 2, 700, .inl fn16))]) 0 hP hD [0, 1] [] rfl rfl (by decide) (by decide) hk1 hFc hP1 hD1 rfl
  generalize H1 = H at hP hS ⊢
  subst hn17
  obtain ⟨hP, hD⟩ : PDq D A [(oX9 h0 b0 (nI ((((nb + 4) + 4) + 4) + 4)) p0 u0 r0 a0 t0 s0 o0), (b0, .inl (cA 2, 700, .inl fn16))] H := ⟨hP, hD⟩
  refine lv_aload_n hx hb dX9_feed_37 rfl (lv_at hl 0 rfl) ?_
  refine lv_iload hx hb dX9_feed_38 (lv_at hl 5 rfl) ?_
  obtain ⟨hPc, hDc, hFc⟩ := PDq.cut (wc := [(oX9 h0 b0 (nI ((((nb + 4) + 4) + 4) + 4)) p0 u0 r0 a0 t0 s0 o0), (b0, .inl (cA 2, 700, .inl fn16))]) hP hD hS hA [0, 1] (by decide) rfl
  refine va_callv (va_runV (As := [.int w5]) (rest := []) ⟨hx, hb, hml, hown, hts⟩ (x_appendBytes l D cA sa h0 b0 ((((nb + 4) + 4) + 4) + 4) p0 u0 r0 a0 t0 s0 o0 w5 fn16 H.size (by omega)) (cwV 1 hts gX9_feed_X9_appendBytes rfl rfl rfl (by decide +kernel) ⟨(Nat.le_of_ble_eq_true rfl), (Nat.le_of_ble_eq_true rfl)⟩) ⟨Wd.blind, va_recv hK hPc (ci := 10) (q0 := 0) rfl rfl, fun U hU hW => ⟨rfl, Wd.call hPc hDc hK hC hZ hS hFc U hU hW⟩⟩ rfl rfl hl.1 rfl (lv_room (Nat.le_of_ble_eq_true rfl)) dX9_feed_40 ⟨(Nat.le_of_ble_eq_true rfl), (Nat.le_of_ble_eq_true rfl)⟩) hS (fun q _ h => hFc q h) hFc (fun u t H1 locs ht hvm hw hB hz1 hk1 hS => ?_)
  obtain ⟨qn19, fn20, hn21, hn22, hP1, hD1⟩ := hB
  rw [ht] at hP1
  obtain ⟨hP, hD⟩ := PDq.join (w := [(oX9 h0 b0 (nI qn19) p0 u0 r0 a0 t0 s0 o0), (b0, .inl (cA 2, 700, .inl fn20))]) 0 hP hD [0, 1] [] rfl rfl (by decide) (by decide) hk1 hFc hP1 hD1 rfl
  generalize H1 = H at hP hS ⊢
  subst hn21
  obtain ⟨hP, hD⟩ : PDq D A [(oX9 h0 b0 (nI (((((nb + 4) + 4) + 4) + 4) + 4)) p0 u0 r0 a0 t0 s0 o0), (b0, .inl (cA 2, 700, .inl fn20))] H := ⟨hP, hD⟩
  refine lv_aload_n hx hb dX9_feed_43 rfl (lv_at hl 0 rfl) ?_
  refine va_get (D := D) (ci := 10) (v := .int (nI (((((nb + 4) + 4) + 4) + 4) + 4))) (C := RX9) (T := TX9) (N := 9) hx hb hts inX9 hown hK hP 0 rfl rfl 1 (by decide) (hts (.fieldLink RX9 59 "EscrowDesk" "buffered" "I") (by decide +kernel)) (fun _ h9 => h9) rfl dX9_feed_44 ?_
  obtain ⟨hP9, hD9⟩ := PDq.sub (ws' := [(oX9 h0 b0 (nI (((((nb + 4) + 4) + 4) + 4) + 4)) p0 u0 r0 a0 t0 s0 o0), (b0, .inl (cA 2, 700, .inl fn20))]) hP hD [0, 1] (by decide) rfl
  refine W.widen (k := 0) (n := 0) (Nat.le_of_ble_eq_true rfl) (Nat.le_of_ble_eq_true rfl) ?_
  exact (W.iret (v := (nI (((((nb + 4) + 4) + 4) + 4) + 4))) hx hb hr (fun t ht hW => ⟨⟨(nI (((((nb + 4) + 4) + 4) + 4) + 4)), (), rfl, (by rw [show nb + 20 = (((((nb + 4) + 4) + 4) + 4) + 4) by omega]), (((((nb + 4) + 4) + 4) + 4) + 4), fn20, (by omega), ⟨_, _, _, _, hn6, hn10, hn14, hn18, hn22⟩, by rw [ht]; exact hP9, hD9⟩, hS.F ht⟩) hS.2.2 dX9_feed_47)
