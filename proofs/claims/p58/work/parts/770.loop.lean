set_option maxHeartbeats 4000000 in
set_option maxRecDepth 100000 in
theorem law_all {p : Program} {l : Launch} {e : Env} {s : State} {m : MethodId} {below : List Frame} {meth : Method} {c : Code} {b L i cz sz9 : Nat} {xs : Nat → Int32} {D : va_G} {cA : Nat → ClassId} {sa : Nat → Nat} {A : Nat → Prop} {H : Heap} {locs : List Loc} {ls : Array Slot} {na : Nat → Nat} {nn : Nat → Nat} {ii : Nat → Int32} {ll : Nat → Int64} {ff : Nat → Nat → Int32} {fl : Nat → Nat → Int64} {q : Nat → Nat → Nat} {mp : Nat → Nat} {mi : Nat → Nat → Int32} {ml : Nat → Nat → Int64} {mn : Nat → Nat} {mk : Nat → Nat} {mf : Nat → Nat → Nat → Int32} {FR : Nat → Option Nat} (LC : LawC p l s m meth c b L xs D cA sa A) (hG : DX A s s.heap) (hL : L ≤ 3072) (hiL : i + 6 ≤ L) (hI : LInv na nn ii ll ff fl q mp mi ml mn mk mf FR) (hP : va_P D vwCl (lawX cA FR na nn ii ll ff fl ++ memW cA q mp mi ml mn mk mf) H) (hD : va_D A (lawX cA FR na nn ii ll ff fl ++ memW cA q mp mi ml mn mk mf)) (hS : va_S A s.heap H locs) (hl : lv_has ls 7 [(4, .int (nI i)), (3, .ref (na 66)), (2, .ref (na 47)), (1, .ref (na 0)), (0, .ref b)]) (hcz : cz + 40 ≤ 601024) (hsz : sz9 + 12000 ≤ 7293034) (K : ∀ (na : Nat → Nat) (nn : Nat → Nat) (ii : Nat → Int32) (ll : Nat → Int64) (ff : Nat → Nat → Int32) (fl : Nat → Nat → Int64) (q : Nat → Nat → Nat) (mp : Nat → Nat) (mi : Nat → Nat → Int32) (ml : Nat → Nat → Int64) (mn : Nat → Nat) (mk : Nat → Nat) (mf : Nat → Nat → Nat → Int32) (FR : Nat → Option Nat) (H : Heap) (locs : List Loc) (ls : Array Slot), LInv na nn ii ll ff fl q mp mi ml mn mk mf FR → va_P D vwCl (lawX cA FR na nn ii ll ff fl ++ memW cA q mp mi ml mn mk mf) H → va_D A (lawX cA FR na nn ii ll ff fl ++ memW cA q mp mi ml mn mk mf) → va_S A s.heap H locs → lv_has ls 7 [(4, .int (nI i)), (3, .ref (na 66)), (2, .ref (na 47)), (1, .ref (na 0)), (0, .ref b)] → W p l e room_1 s m #[Value.ref b] below meth c H locs (cz + 40) (sz9 + 12000) (lw_Z below #[Value.ref b] s) (F0 m 1814 ls [])) (n : Nat) (hn : n < 64) : W p l e room_1 s m #[Value.ref b] below meth c H locs cz sz9 (lw_Z below #[Value.ref b] s) (F0 m 40 ls [.int (nI n)]) := by
  match n, hn with
  | 0, _ => exact law_0 LC hG hL hiL hI hP hD hS hl hcz hsz K
  | 1, _ => exact law_1 LC hG hL hiL hI hP hD hS hl hcz hsz K
  | 2, _ => exact law_2 LC hG hL hiL hI hP hD hS hl hcz hsz K
  | 3, _ => exact law_3 LC hG hL hiL hI hP hD hS hl hcz hsz K
  | 4, _ => exact law_4 LC hG hL hiL hI hP hD hS hl hcz hsz K
  | 5, _ => exact law_5 LC hG hL hiL hI hP hD hS hl hcz hsz K
  | 6, _ => exact law_6 LC hG hL hiL hI hP hD hS hl hcz hsz K
  | 7, _ => exact law_7 LC hG hL hiL hI hP hD hS hl hcz hsz K
  | 8, _ => exact law_8 LC hG hL hiL hI hP hD hS hl hcz hsz K
  | 9, _ => exact law_9 LC hG hL hiL hI hP hD hS hl hcz hsz K
  | 10, _ => exact law_10 LC hG hL hiL hI hP hD hS hl hcz hsz K
  | 11, _ => exact law_11 LC hG hL hiL hI hP hD hS hl hcz hsz K
  | 12, _ => exact law_12 LC hG hL hiL hI hP hD hS hl hcz hsz K
  | 13, _ => exact law_13 LC hG hL hiL hI hP hD hS hl hcz hsz K
  | 14, _ => exact law_14 LC hG hL hiL hI hP hD hS hl hcz hsz K
  | 15, _ => exact law_15 LC hG hL hiL hI hP hD hS hl hcz hsz K
  | 16, _ => exact law_16 LC hG hL hiL hI hP hD hS hl hcz hsz K
  | 17, _ => exact law_17 LC hG hL hiL hI hP hD hS hl hcz hsz K
  | 18, _ => exact law_18 LC hG hL hiL hI hP hD hS hl hcz hsz K
  | 19, _ => exact law_19 LC hG hL hiL hI hP hD hS hl hcz hsz K
  | 20, _ => exact law_20 LC hG hL hiL hI hP hD hS hl hcz hsz K
  | 21, _ => exact law_21 LC hG hL hiL hI hP hD hS hl hcz hsz K
  | 22, _ => exact law_22 LC hG hL hiL hI hP hD hS hl hcz hsz K
  | 23, _ => exact law_23 LC hG hL hiL hI hP hD hS hl hcz hsz K
  | 24, _ => exact law_24 LC hG hL hiL hI hP hD hS hl hcz hsz K
  | 25, _ => exact law_25 LC hG hL hiL hI hP hD hS hl hcz hsz K
  | 26, _ => exact law_26 LC hG hL hiL hI hP hD hS hl hcz hsz K
  | 27, _ => exact law_27 LC hG hL hiL hI hP hD hS hl hcz hsz K
  | 28, _ => exact law_28 LC hG hL hiL hI hP hD hS hl hcz hsz K
  | 29, _ => exact law_29 LC hG hL hiL hI hP hD hS hl hcz hsz K
  | 30, _ => exact law_30 LC hG hL hiL hI hP hD hS hl hcz hsz K
  | 31, _ => exact law_31 LC hG hL hiL hI hP hD hS hl hcz hsz K
  | 32, _ => exact law_32 LC hG hL hiL hI hP hD hS hl hcz hsz K
  | 33, _ => exact law_33 LC hG hL hiL hI hP hD hS hl hcz hsz K
  | 34, _ => exact law_34 LC hG hL hiL hI hP hD hS hl hcz hsz K
  | 35, _ => exact law_35 LC hG hL hiL hI hP hD hS hl hcz hsz K
  | 36, _ => exact law_36 LC hG hL hiL hI hP hD hS hl hcz hsz K
  | 37, _ => exact law_37 LC hG hL hiL hI hP hD hS hl hcz hsz K
  | 38, _ => exact law_38 LC hG hL hiL hI hP hD hS hl hcz hsz K
  | 39, _ => exact law_39 LC hG hL hiL hI hP hD hS hl hcz hsz K
  | 40, _ => exact law_40 LC hG hL hiL hI hP hD hS hl hcz hsz K
  | 41, _ => exact law_41 LC hG hL hiL hI hP hD hS hl hcz hsz K
  | 42, _ => exact law_42 LC hG hL hiL hI hP hD hS hl hcz hsz K
  | 43, _ => exact law_43 LC hG hL hiL hI hP hD hS hl hcz hsz K
  | 44, _ => exact law_44 LC hG hL hiL hI hP hD hS hl hcz hsz K
  | 45, _ => exact law_45 LC hG hL hiL hI hP hD hS hl hcz hsz K
  | 46, _ => exact law_46 LC hG hL hiL hI hP hD hS hl hcz hsz K
  | 47, _ => exact law_47 LC hG hL hiL hI hP hD hS hl hcz hsz K
  | 48, _ => exact law_48 LC hG hL hiL hI hP hD hS hl hcz hsz K
  | 49, _ => exact law_49 LC hG hL hiL hI hP hD hS hl hcz hsz K
  | 50, _ => exact law_50 LC hG hL hiL hI hP hD hS hl hcz hsz K
  | 51, _ => exact law_51 LC hG hL hiL hI hP hD hS hl hcz hsz K
  | 52, _ => exact law_52 LC hG hL hiL hI hP hD hS hl hcz hsz K
  | 53, _ => exact law_53 LC hG hL hiL hI hP hD hS hl hcz hsz K
  | 54, _ => exact law_54 LC hG hL hiL hI hP hD hS hl hcz hsz K
  | 55, _ => exact law_55 LC hG hL hiL hI hP hD hS hl hcz hsz K
  | 56, _ => exact law_56 LC hG hL hiL hI hP hD hS hl hcz hsz K
  | 57, _ => exact law_57 LC hG hL hiL hI hP hD hS hl hcz hsz K
  | 58, _ => exact law_58 LC hG hL hiL hI hP hD hS hl hcz hsz K
  | 59, _ => exact law_59 LC hG hL hiL hI hP hD hS hl hcz hsz K
  | 60, _ => exact lv_tableOut (tgt := 1814) LC.1 LC.2.1 dL_law_40 (Or.inr (by decide)) (by decide) (W.widen (k := cz + 40) (n := sz9 + 12000) (by omega) (by omega) (K na nn ii ll ff fl q mp mi ml mn mk mf FR H _ ls hI hP hD hS hl))
  | 61, _ => exact lv_tableOut (tgt := 1814) LC.1 LC.2.1 dL_law_40 (Or.inr (by decide)) (by decide) (W.widen (k := cz + 40) (n := sz9 + 12000) (by omega) (by omega) (K na nn ii ll ff fl q mp mi ml mn mk mf FR H _ ls hI hP hD hS hl))
  | 62, _ => exact lv_tableOut (tgt := 1814) LC.1 LC.2.1 dL_law_40 (Or.inr (by decide)) (by decide) (W.widen (k := cz + 40) (n := sz9 + 12000) (by omega) (by omega) (K na nn ii ll ff fl q mp mi ml mn mk mf FR H _ ls hI hP hD hS hl))
  | 63, _ => exact lv_tableOut (tgt := 1814) LC.1 LC.2.1 dL_law_40 (Or.inr (by decide)) (by decide) (W.widen (k := cz + 40) (n := sz9 + 12000) (by omega) (by omega) (K na nn ii ll ff fl q mp mi ml mn mk mf FR H _ ls hI hP hD hS hl))
  | n + 64, hn => exact absurd hn (by omega)
set_option maxHeartbeats 4000000 in
set_option maxRecDepth 100000 in
theorem law_loop {p : Program} {l : Launch} {e : Env} {s : State} {m : MethodId} {below : List Frame} {meth : Method} {c : Code} {b L : Nat} {xs : Nat → Int32} {D : va_G} {cA : Nat → ClassId} {sa : Nat → Nat} {A : Nat → Prop} (LC : LawC p l s m meth c b L xs D cA sa A) (hG : DX A s s.heap) (hL : L ≤ 3072) : ∀ (n i cz sz9 : Nat) (na : Nat → Nat) (nn : Nat → Nat) (ii : Nat → Int32) (ll : Nat → Int64) (ff : Nat → Nat → Int32) (fl : Nat → Nat → Int64) (q : Nat → Nat → Nat) (mp : Nat → Nat) (mi : Nat → Nat → Int32) (ml : Nat → Nat → Int64) (mn : Nat → Nat) (mk : Nat → Nat) (mf : Nat → Nat → Nat → Int32) (FR : Nat → Option Nat) (H : Heap) (locs : List Loc) (ls : Array Slot), L < i + 6 * n + 6 → i ≤ 3100 → cz + 40 * n ≤ 601024 → sz9 + 12000 * n ≤ 7293034 → LInv na nn ii ll ff fl q mp mi ml mn mk mf FR → va_P D vwCl (lawX cA FR na nn ii ll ff fl ++ memW cA q mp mi ml mn mk mf) H → va_D A (lawX cA FR na nn ii ll ff fl ++ memW cA q mp mi ml mn mk mf) → va_S A s.heap H locs → lv_has ls 7 [(4, .int (nI i)), (3, .ref (na 66)), (2, .ref (na 47)), (1, .ref (na 0)), (0, .ref b)] → W p l e room_1 s m #[Value.ref b] below meth c H locs cz sz9 (lw_Z below #[Value.ref b] s) (F0 m 23 ls []) := by
  obtain ⟨hx, hb, hr, hml, hown, hts, hX, hbl, hlocks, hl9, hK, hC, hZ, hA, hA2⟩ := id LC
  have hbA : ¬ A b := fun q => Nat.not_le.mpr hbl (hA2 b q)
  intro n
  induction n with
  | zero =>
    intro i cz sz9 na nn ii ll ff fl q mp mi ml mn mk mf FR H locs ls h1 h0 h2 h3 hI hP hD hS hl
    refine lv_iload hx hb dL_law_23 (lv_at hl 0 rfl) ?_
    refine lv_aload_n hx hb dL_law_25 rfl (lv_at hl 4 rfl) ?_
    refine va_slen hx hb hX hbl hbA hS dL_law_26 ?_
    refine lv_bipush (v := 6) hx hb dL_law_27 (by decide) ?_
    refine lv_isub hx hb dL_law_29 ?_
    refine lv_icmp_gt (tgt := 1820) hx hb dL_law_30 (by decide) (fun _ => ?_) (fun c9 => absurd (ex_gt (by omega) hL (by omega)) c9)
    refine lv_iconst (v := 1) hx hb dL_law_1820 (by decide) ?_
    refine va_forget (fun q hq => hA2 _ (hS.2.2 q hq)) ?_
    refine W.widen (k := 601024) (n := 7293034) (by omega) (by omega) ?_
    exact lw_ret hx hb hr hlocks dL_law_1821
  | succ n ih =>
    intro i cz sz9 na nn ii ll ff fl q mp mi ml mn mk mf FR H locs ls h1 h0 h2 h3 hI hP hD hS hl
    refine lv_iload hx hb dL_law_23 (lv_at hl 0 rfl) ?_
    refine lv_aload_n hx hb dL_law_25 rfl (lv_at hl 4 rfl) ?_
    refine va_slen hx hb hX hbl hbA hS dL_law_26 ?_
    refine lv_bipush (v := 6) hx hb dL_law_27 (by decide) ?_
    refine lv_isub hx hb dL_law_29 ?_
    rcases Nat.lt_or_ge L (i + 6) with hq | hq
    · refine lv_icmp_gt (tgt := 1820) hx hb dL_law_30 (by decide) (fun _ => ?_) (fun c9 => absurd (ex_gt (by omega) hL (by omega)) c9)
      refine lv_iconst (v := 1) hx hb dL_law_1820 (by decide) ?_
      refine va_forget (fun q hq => hA2 _ (hS.2.2 q hq)) ?_
      refine W.widen (k := 601024) (n := 7293034) (by omega) (by omega) ?_
      exact lw_ret hx hb hr hlocks dL_law_1821
    · refine lv_icmp_gt (tgt := 1820) hx hb dL_law_30 (by decide) (fun c9 => absurd c9 (ex_ngt hq hL)) (fun _ => ?_)
      refine lv_aload_n hx hb dL_law_33 rfl (lv_at hl 4 rfl) ?_
      refine lv_iload hx hb dL_law_34 (lv_at hl 0 rfl) ?_
      refine va_sld hx hb hX hbl hbA hS (vp_in_nI (n := i) (N := L) (by omega) (by omega)) dL_law_36 ?_
      refine lv_bipush (v := 63) hx hb dL_law_37 (by decide) ?_
      refine lv_iand hx hb dL_law_39 ?_
      refine lv_topi (fun y ey => ?_)
      obtain ⟨k, hk, ek⟩ := pk_andE (xs (nI i).toNatClampNeg) (m := 63) 6 (by decide)
      obtain rfl : y = nI k := ey.trans ek
      refine law_all LC hG hL hq hI hP hD hS hl (by omega) (by omega) ?_ k hk
      intro na nn ii ll ff fl q mp mi ml mn mk mf FR H locs ls hI hP hD hS hl
      refine lv_iinc (v := (nI (i + 6))) (lv' := [(4, .int (nI (i + 6))), (3, .ref (na 66)), (2, .ref (na 47)), (1, .ref (na 0)), (0, .ref b)]) hx hb dL_law_1814 hl (k := 0) rfl (nI_add i 6) (by decide) rfl (fun ls hl => ?_)
      refine lv_goto (tgt := 23) hx hb dL_law_1817 (by decide) ?_
      exact ih (i + 6) (cz + 40) (sz9 + 12000) na nn ii ll ff fl q mp mi ml mn mk mf FR H _ ls (by omega) (by omega) (by omega) (by omega) hI hP hD hS hl
