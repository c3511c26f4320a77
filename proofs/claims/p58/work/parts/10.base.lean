/-! the ground of the contracts: nest mates' links, strings, what a contract takes and gives -/
def nwL : List Cond := [.fieldLinkNest RX9 78 "EscrowDesk$Plan" "milestoneCount" "I" "EscrowDesk",
  .fieldLinkNest RX9 81 "EscrowDesk$Reader" "errorKind" "I" "EscrowDesk",
  .fieldLinkNest RX9 84 "EscrowDesk$Reader" "errorPosition" "I" "EscrowDesk",
  .fieldLinkNest RX9 87 "EscrowDesk$Account" "day" "I" "EscrowDesk",
  .fieldLinkNest RX9 90 "EscrowDesk$Account" "deposited" "I" "EscrowDesk",
  .fieldLinkNest RX9 93 "EscrowDesk$Account" "principal" "I" "EscrowDesk",
  .fieldLinkNest RX9 100 "EscrowDesk$Account" "interestPot" "J" "EscrowDesk",
  .fieldLinkNest RX9 104 "EscrowDesk$Account" "credited" "J" "EscrowDesk",
  .fieldLinkNest RX9 107 "EscrowDesk$Account" "accruedParts" "J" "EscrowDesk",
  .fieldLinkNest RX9 110 "EscrowDesk$Account" "received" "I" "EscrowDesk",
  .fieldLinkNest RX9 113 "EscrowDesk$Account" "fees" "I" "EscrowDesk",
  .fieldLinkNest RX9 116 "EscrowDesk$Account" "refunded" "I" "EscrowDesk",
  .fieldLinkNest RX9 122 "EscrowDesk$Account" "state" "[I" "EscrowDesk",
  .fieldLinkNest RX9 126 "EscrowDesk$Account" "paid" "[I" "EscrowDesk",
  .fieldLinkNest RX9 133 "EscrowDesk$Account" "frozen" "[I" "EscrowDesk",
  .fieldLinkNest RX9 136 "EscrowDesk$Account" "dueDay" "[I" "EscrowDesk",
  .fieldLinkNest RX9 147 "EscrowDesk$Plan" "proofCount" "I" "EscrowDesk",
  .fieldLinkNest RX9 150 "EscrowDesk$Account" "submittedSet" "I" "EscrowDesk",
  .fieldLinkNest RX9 165 "EscrowDesk$Plan" "amounts" "[I" "EscrowDesk",
  .fieldLinkNest RX9 186 "EscrowDesk$Plan" "proofNames" "[J" "EscrowDesk",
  .fieldLinkNest RX9 261 "EscrowDesk$Account" "approvedSet" "I" "EscrowDesk",
  .fieldLinkNest RX9 299 "EscrowDesk$Account" "rate" "I" "EscrowDesk",
  .fieldLinkNest RX9 302 "EscrowDesk$Account" "basis" "I" "EscrowDesk",
  .fieldLinkNest RX9 305 "EscrowDesk$Account" "grace" "I" "EscrowDesk",
  .fieldLinkNest RX9 315 "EscrowDesk$Plan" "names" "[J" "EscrowDesk",
  .fieldLinkNest RX9 347 "EscrowDesk$Account" "ledger" "LEscrowDesk$Ledger;" "EscrowDesk",
  .fieldLinkNest RX9 351 "EscrowDesk$Ledger" "kept" "I" "EscrowDesk",
  .fieldLinkNest RX0 69 "EscrowDesk$Plan" "rate" "I" "EscrowDesk",
  .fieldLinkNest RX0 75 "EscrowDesk$Plan" "basis" "I" "EscrowDesk",
  .fieldLinkNest RX0 79 "EscrowDesk$Plan" "grace" "I" "EscrowDesk",
  .fieldLinkNest RX0 89 "EscrowDesk$Plan" "depositCount" "I" "EscrowDesk",
  .fieldLinkNest RX0 92 "EscrowDesk$Plan" "deposits" "[I" "EscrowDesk",
  .fieldLinkNest RX0 109 "EscrowDesk$Plan" "milestoneCount" "I" "EscrowDesk",
  .fieldLinkNest RX0 116 "EscrowDesk$Plan" "amounts" "[I" "EscrowDesk",
  .fieldLinkNest RX0 138 "EscrowDesk$Plan" "byPriority" "[I" "EscrowDesk",
  .fieldLinkNest RX4 67 "EscrowDesk$Scanner" "count" "I" "EscrowDesk",
  .fieldLinkNest RX4 73 "EscrowDesk$Scanner" "kinds" "[I" "EscrowDesk",
  .fieldLinkNest RX4 77 "EscrowDesk$Scanner" "starts" "[I" "EscrowDesk",
  .fieldLinkNest RX4 83 "EscrowDesk$Scanner" "values" "[J" "EscrowDesk",
  .fieldLinkNest RX4 98 "EscrowDesk$Plan" "rate" "I" "EscrowDesk",
  .fieldLinkNest RX4 105 "EscrowDesk$Plan" "basis" "I" "EscrowDesk",
  .fieldLinkNest RX4 111 "EscrowDesk$Plan" "fee" "I" "EscrowDesk",
  .fieldLinkNest RX4 114 "EscrowDesk$Plan" "grace" "I" "EscrowDesk",
  .methodLinkNest RX9 15 ⟨RX3, "<init>", "()V"⟩ "EscrowDesk",
  .methodLinkNest RX0 11 ⟨RX2, "<init>", "()V"⟩ "EscrowDesk",
  .methodLinkNest RX4 101 ⟨RX9, "isBasis", "(J)Z"⟩ "EscrowDesk",
  .methodLinkNest RX4 11 ⟨RX5, "<init>", "()V"⟩ "EscrowDesk",
  .castable "java/lang/IndexOutOfBoundsException" "java/lang/IndexOutOfBoundsException",
  .castable "java/lang/IllegalArgumentException" "java/lang/IllegalArgumentException",
  .castable "java/lang/IllegalStateException" "java/lang/IllegalStateException",
  .declares (Bundle.initS "java/lang/RuntimeException"),
  .declares (Bundle.initS "java/lang/Exception"),
  .declares (Bundle.initS "java/lang/Throwable")]
def strL : List (String × Nat × String) := [(RX9, 367, "out of range"), (RX7, 9, "rate"), (RX7, 11, "fee"), (RX7, 13, "grace"), (RX7, 15, "deposit"), (RX7, 17, "milestone"), (RX7, 19, "when"), (RX7, 21, "or"), (RX7, 23, "and"), (RX7, 25, "not"), (RX7, 27, "day"), (RX7, 29, "proof"), (RX7, 31, "done"), (RX7, 33, "sum"), (RX7, 35, "approved"), (RX7, 37, "always"), (RX7, 39, ""), (RX9, 365, "there is no such thing"), (RX9, 212, "there are not so many due milestones"), (RX9, 371, "not possible in the present state"), (RX9, 281, "the interest pot does not hold such an amount"), (RX9, 297, "no such basis"), (RX9, 336, " since "), (RX9, 338, " frozen "), (RX10, 70, "rate fee grace deposit milestone when or and not day proof done sum approved always "), (RX10, 420, "open"), (RX10, 421, "due"), (RX10, 423, "disputed"), (RX10, 425, "paid"), (RX10, 427, "settled"), (RX10, 429, "cancelled"), (RX10, 442, " since "), (RX10, 444, " frozen "), (RX6, 7, "open"), (RX6, 9, "due"), (RX6, 11, "disputed"), (RX6, 13, "paid"), (RX6, 15, "settled"), (RX6, 17, "cancelled")]
def nwOk (w : Cond) : Bool := match w with
  | .fieldLinkNest _ _ _ _ _ _ => true
  | .methodLinkNest _ _ _ _ => true
  | .castable _ _ => true
  | .declares _ => true
  | _ => false
theorem nwL_ok : nwL.all nwOk = true := by decide +kernel
/-- what a contract takes of the tables beside its words: the nest mates' links, the strings at their addresses -/
def CX (sa : Nat → Nat) (U : State) : Prop := (∀ w ∈ nwL, va_Nw w U) ∧ (∀ (k : Nat) (q : String × Nat × String), strL[k]? = some q → vk_R q.1 q.2.1 q.2.2 (sa k) U) ∧ va_AO "EscrowDesk$Account" U
theorem CX.warm {sa : Nat → Nat} {s U : State} (hW : s.WarmedH U.vm) (h : CX sa s) : CX sa U := by
  refine ⟨fun w hw => ?_, fun k q hq => vk_R.warm hW (h.2.1 k q hq), va_AO.moved hW.alike h.2.2⟩
  have h1 := List.all_eq_true.mp nwL_ok w hw
  have h2 := h.1 w hw
  unfold nwOk at h1
  split at h1
  · exact va_Nw.warmF hW h2
  · exact va_Nw.warmM hW h2
  · exact va_Nw.warmC hW h2
  · exact va_Nw.warmD hW h2
  · exact absurd h1 (by decide)
theorem CX.same {sa : Nat → Nat} {s U : State} (hv : U.vm = s.vm) (h : CX sa s) : CX sa U := by
  refine ⟨fun w hw => ?_, fun k q hq => vk_R.same hv (h.2.1 k q hq), va_AO.moved (by rw [hv]; exact Vm.Alike.refl _) h.2.2⟩
  have h1 := List.all_eq_true.mp nwL_ok w hw
  have h2 := h.1 w hw
  unfold nwOk at h1
  split at h1
  · exact va_Nw.same rfl hv.symm h2
  · exact va_Nw.same rfl hv.symm h2
  · exact va_Nw.same rfl hv.symm h2
  · exact va_Nw.same rfl hv.symm h2
  · exact absurd h1 (by decide)
theorem CX.f {sa : Nat → Nat} {s : State} (h : CX sa s) {A : Array Value} {a : String} {i : Nat} {b n d x : String} (hm : Cond.fieldLinkNest a i b n d x ∈ nwL) : (Cond.fieldLinkNest a i b n d x).before A s = true := va_Nw.use rfl (h.1 _ hm)
theorem CX.m {sa : Nat → Nat} {s : State} (h : CX sa s) {a : String} {i : Nat} {y : MethodName} {x : String} (hm : Cond.methodLinkNest a i y x ∈ nwL) : va_Nw (Cond.methodLinkNest a i y x) s := h.1 _ hm
theorem CX.c {sa : Nat → Nat} {s : State} (h : CX sa s) {A : Array Value} {a b : String} (hm : Cond.castable a b ∈ nwL) : (Cond.castable a b).before A s = true := va_Nw.use rfl (h.1 _ hm)
theorem CX.d {sa : Nat → Nat} {s : State} (h : CX sa s) {A : Array Value} {a : MethodName} (hm : Cond.declares a ∈ nwL) : (Cond.declares a).before A s = true := va_Nw.use rfl (h.1 _ hm)
theorem CX.str {sa : Nat → Nat} {s : State} (h : CX sa s) (k : Nat) {a : String} {i : Nat} {t : String} (hm : strL[k]? = some (a, i, t)) : vk_R a i t (sa k) s := h.2.1 k _ hm
theorem F_of {A : Nat → Prop} {s t : State} {H : Heap} {locs : List Loc} (hS : va_S A s.heap H locs) (h1 : H.size ≤ t.heap.size) (h2 : ∀ q : Nat, q < H.size → t.heap[q]? = H[q]?) : va_F A s t := ⟨Nat.le_trans hS.1 h1, fun q hq hA => (h2 q (Nat.lt_of_lt_of_le hq hS.1)).trans (hS.2.1 q hq hA)⟩
/-- the bytes of the strings that are walked, by their place in strL -/
def sbL : List (Nat × List Int32) := [(1, [114, 97, 116, 101]), (2, [102, 101, 101]), (3, [103, 114, 97, 99, 101]), (4, [100, 101, 112, 111, 115, 105, 116]), (5, [109, 105, 108, 101, 115, 116, 111, 110, 101]), (6, [119, 104, 101, 110]), (7, [111, 114]), (8, [97, 110, 100]), (9, [110, 111, 116]), (10, [100, 97, 121]), (11, [112, 114, 111, 111, 102]), (12, [100, 111, 110, 101]), (13, [115, 117, 109]), (14, [97, 112, 112, 114, 111, 118, 101, 100]), (15, [97, 108, 119, 97, 121, 115]), (22, [32, 115, 105, 110, 99, 101, 32]), (23, [32, 102, 114, 111, 122, 101, 110, 32]), (24, [114, 97, 116, 101, 32, 102, 101, 101, 32, 103, 114, 97, 99, 101, 32, 100, 101, 112, 111, 115, 105, 116, 32, 109, 105, 108, 101, 115, 116, 111, 110, 101, 32, 119, 104, 101, 110, 32, 111, 114, 32, 97, 110, 100, 32, 110, 111, 116, 32, 100, 97, 121, 32, 112, 114, 111, 111, 102, 32, 100, 111, 110, 101, 32, 115, 117, 109, 32, 97, 112, 112, 114, 111, 118, 101, 100, 32, 97, 108, 119, 97, 121, 115, 32]), (25, [111, 112, 101, 110]), (26, [100, 117, 101]), (27, [100, 105, 115, 112, 117, 116, 101, 100]), (28, [112, 97, 105, 100]), (29, [115, 101, 116, 116, 108, 101, 100]), (30, [99, 97, 110, 99, 101, 108, 108, 101, 100]), (31, [32, 115, 105, 110, 99, 101, 32]), (32, [32, 102, 114, 111, 122, 101, 110, 32]), (33, [111, 112, 101, 110]), (34, [100, 117, 101]), (35, [100, 105, 115, 112, 117, 116, 101, 100]), (36, [112, 97, 105, 100]), (37, [115, 101, 116, 116, 108, 101, 100]), (38, [99, 97, 110, 99, 101, 108, 108, 101, 100])]
/-- a string of the given bytes at sa k, its byte array at sa (1000 + k), outside what is written -/
def SO (sa : Nat → Nat) (q : Nat × List Int32) (A : Nat → Prop) (U : State) (H : Heap) : Prop := va_O "java/lang/String" (sa q.1) A U H ∧ va_OF "java/lang/String" "coder" "B" (.int 0) (sa q.1) A U H ∧ va_OF "java/lang/String" "value" "[B" (.ref (sa (1000 + q.1))) (sa q.1) A U H ∧ va_T .byte (sa (1000 + q.1)) q.2.length (fun j => .int (q.2.getD j 0)) A U H
def SX (sa : Nat → Nat) (A : Nat → Prop) (U : State) (H : Heap) : Prop := ∀ q ∈ sbL, SO sa q A U H
theorem SX.moved {sa : Nat → Nat} {A : Nat → Prop} {u U : State} {H : Heap} (hvm : u.vm.Alike U.vm) (h : SX sa A u H) : SX sa A U H := fun q hq => ⟨va_O.moved hvm (h q hq).1, va_OF.moved hvm (h q hq).2.1, va_OF.moved hvm (h q hq).2.2.1, va_T.moved hvm (h q hq).2.2.2⟩
theorem SX.kept {sa : Nat → Nat} {A : Nat → Prop} {U : State} {H H1 : Heap} (h : SX sa A U H) (hq : ∀ a : Nat, a < H.size → ¬ A a → H1[a]? = H[a]?) : SX sa A U H1 := fun q h9 => ⟨(h q h9).1.kept hq, (h q h9).2.1.kept hq, (h q h9).2.2.1.kept hq, (h q h9).2.2.2.kept hq⟩
theorem SX.narrow {sa : Nat → Nat} {A B : Nat → Prop} {U : State} {H : Heap} (h : SX sa A U H) (hAB : ∀ q, B q → A q) : SX sa B U H := fun q h9 => ⟨(h q h9).1.narrow hAB, (h q h9).2.1.narrow hAB, (h q h9).2.2.1.narrow hAB, (h q h9).2.2.2.narrow hAB⟩
/-- the statics of Throwable, String and Preconditions, and the strings, lie outside what is written -/
def ZX (sa : Nat → Nat) (A : Nat → Prop) (U : State) (H : Heap) : Prop := vx_Zq Bundle.tN "UNASSIGNED_STACK" Bundle.steD A U H ∧ vx_Zq Bundle.tN "SUPPRESSED_SENTINEL" Bundle.listD A U H ∧ va_Z "java/lang/String" "COMPACT_STRINGS" "Z" (.int 1) A U H ∧ va_Zq "jdk/internal/util/Preconditions" "SIOOBE_FORMATTER" "Ljava/util/function/BiFunction;" A U H ∧ SX sa A U H
theorem ZX.moved {sa : Nat → Nat} {A : Nat → Prop} {u U : State} {H : Heap} (hvm : u.vm.Alike U.vm) (h : ZX sa A u H) : ZX sa A U H := ⟨h.1.moved hvm, h.2.1.moved hvm, h.2.2.1.moved hvm, h.2.2.2.1.moved hvm, h.2.2.2.2.moved hvm⟩
theorem ZX.kept {sa : Nat → Nat} {A : Nat → Prop} {U : State} {H H1 : Heap} (h : ZX sa A U H) (hq : ∀ a : Nat, a < H.size → ¬ A a → H1[a]? = H[a]?) : ZX sa A U H1 := ⟨h.1.kept hq, h.2.1.kept hq, h.2.2.1.kept hq, h.2.2.2.1.kept hq, h.2.2.2.2.kept hq⟩
theorem ZX.narrow {sa : Nat → Nat} {A B : Nat → Prop} {U : State} {H : Heap} (h : ZX sa A U H) (hAB : ∀ q, B q → A q) : ZX sa B U H := ⟨h.1.narrow hAB, h.2.1.narrow hAB, h.2.2.1.narrow hAB, h.2.2.2.1.narrow hAB, h.2.2.2.2.narrow hAB⟩
/-- the array classes, one for each kind of component -/
abbrev tyL (cA : Nat → ClassId) : List (ClassId × FieldType) := [(cA 0, .int), (cA 1, .long), (cA 2, .char), (cA 3, .byte), (cA 4, .boolean), (cA 5, .object "EscrowDesk$Account")]
theorem ra_one {U : State} {c1 c2 : ClassId} {ty : FieldType} (h1 : va_RA U c1 ty) (h2 : va_RA U c2 ty) : c1 = c2 := by
  cases ty with
  | object C =>
    obtain ⟨_, _, -, -, -, a⟩ := h1
    obtain ⟨_, _, -, -, -, b⟩ := h2
    exact Option.some.inj (a.symm.trans b)
  | _ => exact Option.some.inj (Eq.trans (Eq.symm h1) h2)
theorem ty_one {D : va_G} {cl : List vw_C} {tys : List (ClassId × FieldType)} {s : State} {c1 c2 : ClassId} {ty : FieldType} (h : va_K D cl (tys ++ [(c2, ty)]) s) (i : Nat) (hi : tys[i]? = some (c1, ty)) : c2 = c1 := by
  have hl : i < tys.length := (List.getElem?_eq_some_iff.mp hi).1
  have h1 := (h.2 i (c1, ty) (by rw [List.getElem?_append_left hl]; exact hi)).2
  have h2 := (h.2 tys.length (c2, ty) (by rw [List.getElem?_append_right (Nat.le_refl _), Nat.sub_self]; rfl)).2
  exact ra_one h2 h1
/-- what a contract takes -/
def Wd (D : va_G) (cA : Nat → ClassId) (sa : Nat → Nat) (ws : va_W) (sz : Nat) (U : State) : Prop := U.heap.size = sz ∧ va_P D vwCl ws U.heap ∧ va_K D vwCl (tyL cA) U ∧ va_D (fun _ => True) ws ∧ CX sa U ∧ ZX sa (va_A ws sz) U U.heap
/-- what it gives of the cells -/
def Wq (D : va_G) (A : Nat → Prop) (ws : va_W) (t : State) : Prop := va_P D vwCl ws t.heap ∧ va_D A ws
theorem Wd.blind {av : List Value} {D : va_G} {cA : Nat → ClassId} {sa : Nat → Nat} {ws : va_W} {sz : Nat} : FrameBlind (va_Pc av (Wd D cA sa ws sz)) := fun a U g mk q =>
  ⟨q.1, q.2.1, q.2.2.1, va_K.moved (u := U) (U := U.calling g mk a) (Vm.Alike.refl U.vm) q.2.2.2.1, q.2.2.2.2.1, CX.same (s := U) (U := U.calling g mk a) rfl q.2.2.2.2.2.1, ZX.moved (u := U) (U := U.calling g mk a) (Vm.Alike.refl U.vm) q.2.2.2.2.2.2⟩
theorem Wd.call {D : va_G} {cA : Nat → ClassId} {sa : Nat → Nat} {s : State} {H : Heap} {A : Nat → Prop} {wc : va_W} {locs : List Loc} (hP : va_P D vwCl wc H) (hD : va_D A wc) (hK : va_K D vwCl (tyL cA) s) (hC : CX sa s) (hZ : ZX sa A s s.heap) (hS : va_S A s.heap H locs) (hF : ∀ q, va_A wc H.size q → A q) : ∀ U : State, U.heap = H → s.WarmedH U.vm → Wd D cA sa wc H.size U := fun U hU hW =>
  ⟨by rw [hU], by rw [hU]; exact hP, va_K.moved hW.alike hK, hD.weaken (fun _ _ _ _ => trivial), CX.warm hW hC, by rw [hU]; exact ((hZ.kept hS.2.1).narrow hF).moved hW.alike⟩
theorem Wd.zx {D : va_G} {cA : Nat → ClassId} {sa : Nat → Nat} {ws : va_W} {U : State} (h : Wd D cA sa ws U.heap.size U) : ZX sa (va_A ws U.heap.size) U U.heap := h.2.2.2.2.2
/-- a world: its cells, and that they are apart -/
def PDq (D : va_G) (A : Nat → Prop) (ws : va_W) (H : Heap) : Prop := va_P D vwCl ws H ∧ va_D A ws
theorem PDq.pick {ws ws' : va_W} {is : List Nat} (hs : is.map (fun i => ws[i]?) = ws'.map some) (k : Nat) (q : Nat × va_E) (hk : ws'[k]? = some q) : ∃ i : Nat, ws[i]? = some q := by
  have h1 : (is.map (fun i => ws[i]?))[k]? = some (some q) := by rw [hs, List.getElem?_map, hk]; rfl
  rw [List.getElem?_map] at h1
  cases hi : is[k]? with
  | none => rw [hi] at h1; cases h1
  | some i => rw [hi] at h1; exact ⟨i, Option.some.inj h1⟩
theorem PDq.sub {D : va_G} {A : Nat → Prop} {ws ws' : va_W} {H : Heap} (hP : va_P D vwCl ws H) (hD : va_D A ws) (is : List Nat) (hn : va_nd is = true) (hs : is.map (fun i => ws[i]?) = ws'.map some) : va_P D vwCl ws' H ∧ va_D A ws' := by
  refine ⟨fun k q hk => ?_, hD.sub is hn hs⟩
  obtain ⟨i, hi⟩ := PDq.pick hs k q hk
  exact hP i q hi
theorem PDq.cut {D : va_G} {A : Nat → Prop} {ws wc : va_W} {H0 H : Heap} {locs : List Loc} (hP : va_P D vwCl ws H) (hD : va_D A ws) (hS : va_S A H0 H locs) (hA : ∀ q, H0.size ≤ q → A q) (is : List Nat) (hn : va_nd is = true) (hs : is.map (fun i => ws[i]?) = wc.map some) : va_P D vwCl wc H ∧ va_D A wc ∧ ∀ q, va_A wc H.size q → A q :=
  ⟨(PDq.sub hP hD is hn hs).1, hD.sub is hn hs, va_free hD hS hA is hs⟩
theorem PDq.join {A0 : Nat → Prop} {D : va_G} {ws wc w w1 : va_W} {H H1 : Heap} (n : Nat) (hP : va_P D vwCl ws H) (hD : va_D A0 ws) (isC isR : List Nat) (hC : isC.map (fun i => ws[i]?) = wc.map some) (hR : isR.map (fun i => ws[i]?) = (w.take n).map some) (hn : va_nd isR = true) (hdis : ∀ i ∈ isR, i ∉ isC)
    (hk : ∀ q : Nat, q < H.size → ¬ va_A wc H.size q → H1[q]? = H[q]?) (hF : ∀ q, va_A wc H.size q → A0 q) (hP1 : va_P D vwCl w1 H1) (hD1 : va_D (va_A wc H.size) w1) (e : w.drop n = w1) : va_P D vwCl w H1 ∧ va_D A0 w := by
  have h := va_join hP hD isC isR hC hR hn hdis hk hF hP1 hD1
  rw [← e, List.take_append_drop] at h
  exact h
theorem PDq.joinQ {A0 : Nat → Prop} {D : va_G} {X cx w w1 pl : va_W} {H H1 : Heap} (n : Nat) (hP : va_P D vwCl (X ++ pl) H) (hD : va_D A0 (X ++ pl)) (isC isR : List Nat) (hC : isC.map (fun i => X[i]?) = cx.map some) (hR : isR.map (fun i => X[i]?) = (w.take n).map some) (hn : va_nd isR = true) (hdis : ∀ i ∈ isR, i ∉ isC)
    (hk : ∀ q : Nat, q < H.size → ¬ va_A cx H.size q → H1[q]? = H[q]?) (hF : ∀ q, va_A cx H.size q → A0 q) (hP1 : va_P D vwCl w1 H1) (hD1 : va_D (va_A cx H.size) w1) (e : w.drop n = w1) : va_P D vwCl (w ++ pl) H1 ∧ va_D A0 (w ++ pl) := by
  have h := va_joinQ hP hD isC isR hC hR hn hdis hk hF hP1 hD1
  rw [← e, List.take_append_drop] at h
  exact h
theorem cq_lift {X pl : va_W} {k : Nat} {q : Nat × va_E} (h : X[k]? = some q) : (X ++ pl)[k]? = some q := by
  rw [List.getElem?_append_left (List.getElem?_eq_some_iff.mp h).1]
  exact h
theorem cq_P {D : va_G} {X pl : va_W} {H : Heap} (hP : va_P D vwCl (X ++ pl) H) : va_P D vwCl X H := fun k q h => hP k q (cq_lift h)
theorem cq_D {A : Nat → Prop} {X pl : va_W} (hD : va_D A (X ++ pl)) : va_D A X := ⟨fun i j p q h1 h2 e => hD.1 i j p q (cq_lift h1) (cq_lift h2) e, fun k q h => hD.2 k q (cq_lift h)⟩

abbrev oJ0 (a : Nat) (f0 : Nat) (f1 : Int32) (f2 : Int32) (f3 : Int32) : Nat × va_E := (a, .inr (0, [.ref f0, .int f1, .int f2, .int f3]))
abbrev oJ4 (a : Nat) (f0 : Nat) (f1 : Int32) (f2 : Int32) (f3 : Int32) : Nat × va_E := (a, .inr (1, [.ref f0, .int f1, .int f2, .int f3]))
abbrev oJx00060 (a : Nat) (f0 : Nat) (f1 : Nat) (f2 : Nat) (f3 : Nat) (f4 : Nat) (f5 : Int32) : Nat × va_E := (a, .inr (2, [.ref f0, .ref f1, .ref f2, .ref f3, .ref f4, .int f5]))
abbrev oJx7c733 (a : Nat) (f0 : Nat) (f1 : Nat) (f2 : Nat) (f3 : Nat) (f4 : Int32) (f5 : Nat) : Nat × va_E := (a, .inr (3, [.ref f0, .ref f1, .ref f2, .ref f3, .int f4, .ref f5]))
abbrev oX0 (a : Nat) (f0 : Nat) (f1 : Nat) (f2 : Nat) (f3 : Nat) (f4 : Nat) (f5 : Nat) (f6 : Int32) (f7 : Int32) (f8 : Int32) (f9 : Int64) (f10 : Int64) (f11 : Int64) (f12 : Int32) (f13 : Int32) (f14 : Int32) (f15 : Int32) (f16 : Int32) (f17 : Int32) (f18 : Int32) (f19 : Int32) : Nat × va_E := (a, .inr (4, [.ref f0, .ref f1, .ref f2, .ref f3, .ref f4, .ref f5, .int f6, .int f7, .int f8, .long f9, .long f10, .long f11, .int f12, .int f13, .int f14, .int f15, .int f16, .int f17, .int f18, .int f19]))
abbrev oX3 (a : Nat) (f0 : Int32) (f1 : Int32) (f2 : Int32) (f3 : Int32) (f4 : Nat) (f5 : Int32) (f6 : Nat) (f7 : Nat) (f8 : Nat) (f9 : Nat) (f10 : Int32) (f11 : Nat) (f12 : Int32) (f13 : Nat) (f14 : Nat) (f15 : Nat) (f16 : Int32) : Nat × va_E := (a, .inr (7, [.int f0, .int f1, .int f2, .int f3, .ref f4, .int f5, .ref f6, .ref f7, .ref f8, .ref f9, .int f10, .ref f11, .int f12, .ref f13, .ref f14, .ref f15, .int f16]))
abbrev oX4 (a : Nat) (f0 : Nat) (f1 : Nat) (f2 : Int32) (f3 : Int32) (f4 : Int32) (f5 : Int64) (f6 : Int32) (f7 : Int32) (f8 : Int32) : Nat × va_E := (a, .inr (8, [.ref f0, .ref f1, .int f2, .int f3, .int f4, .long f5, .int f6, .int f7, .int f8]))
abbrev oX5 (a : Nat) (f0 : Nat) (f1 : Nat) (f2 : Nat) (f3 : Int32) : Nat × va_E := (a, .inr (9, [.ref f0, .ref f1, .ref f2, .int f3]))
abbrev oX9 (a : Nat) (f0 : Nat) (f1 : Int32) (f2 : Nat) (f3 : Nat) (f4 : Nat) (f5 : Nat) (f6 : Nat) (f7 : Nat) (f8 : Nat) : Nat × va_E := (a, .inr (10, [.ref f0, .int f1, .ref f2, .ref f3, .ref f4, .ref f5, .ref f6, .ref f7, .ref f8]))
abbrev oX10 (a : Nat) (f0 : Nat) (f1 : Nat) (f2 : Nat) (f3 : Nat) (f4 : Nat) (f5 : Int64) (f6 : Int64) (f7 : Int32) (f8 : Int32) (f9 : Nat) (f10 : Int32) (f11 : Int32) (f12 : Int32) (f13 : Nat) (f14 : Int32) (f15 : Int32) (f16 : Int32) (f17 : Int32) (f18 : Int32) (f19 : Int32) (f20 : Int32) (f21 : Int32) (f22 : Int32) (f23 : Int32) (f24 : Int32) (f25 : Int64) (f26 : Int32) (f27 : Nat) (f28 : Nat) (f29 : Nat) (f30 : Nat) (f31 : Nat) (f32 : Nat) (f33 : Nat) (f34 : Nat) (f35 : Nat) (f36 : Nat) (f37 : Nat) (f38 : Int32) : Nat × va_E := (a, .inr (11, [.ref f0, .ref f1, .ref f2, .ref f3, .ref f4, .long f5, .long f6, .int f7, .int f8, .ref f9, .int f10, .int f11, .int f12, .ref f13, .int f14, .int f15, .int f16, .int f17, .int f18, .int f19, .int f20, .int f21, .int f22, .int f23, .int f24, .long f25, .int f26, .ref f27, .ref f28, .ref f29, .ref f30, .ref f31, .ref f32, .ref f33, .ref f34, .ref f35, .ref f36, .ref f37, .int f38]))
theorem dq_at {c : ByteArray} {l : List (Nat × Instr × Nat)} (h : (l.all fun x => decide (decode c x.1 = .ok (x.2.1, x.2.2))) = true) (k : Nat) {pc n : Nat} {i : Instr} (e : l[k]? = some (pc, i, n)) : decode c pc = .ok (i, n) := by
  have h1 := List.all_eq_true.mp h _ (List.mem_of_getElem? e)
  exact of_decide_eq_true h1
