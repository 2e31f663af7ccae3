theorem law_gt {L i : Nat} (hL : L < 2 ^ 30) (hi : i < 2 ^ 30) : (nI L - 5 < nI i) = (L < i + 5) := by
  rw [Int32.lt_iff_toInt_lt, show (5 : Int32) = nI 5 from rfl, pk_sub_toInt hL (by omega), nI_toInt (by omega)]
  exact propext ⟨fun q => by omega, fun q => by omega⟩
def adR (h : Nat) (a : Nat → Nat) : Nat → Nat
  | 0 => h
  | k + 1 => a (k + 1)
set_option maxHeartbeats 4000000 in
set_option maxRecDepth 100000 in
theorem law_loop (l : Launch) (D : va_G) (tys : eT) (cI : ClassId) (ht0 : tys[0]? = some (cI, .int)) (cT : ClassId) (ht1 : tys[1]? = some (cT, .object RX5)) {p9 : Program} {e9 : Env} {s9 : State} {m9 : MethodId} {b9 : List Frame} {t9 : Method} {c9 : Code} (o aT aB aS g y z : Nat → Nat) (ad : Nat → Nat → Nat) {bm : Nat → Nat} {bs L : Nat} {xs : Nat → Int32} (S : CallFix p9 m9 c9 cL_law 8 s9 #[Value.ref bs] wsL_law RL) (hr : t9.sig.returnType = ret) (hlocks : t9.locks = false) (hK : va_K D vwCl tys s9) (hN : eN s9) (hX : va_X bs L xs s9 s9.heap) (hbl : bs < s9.heap.size) (hL : L ≤ 2560) (A : Nat → Prop) (hA : ∀ q : Nat, s9.heap.size ≤ q → A q) (hA2 : ∀ q : Nat, A q → s9.heap.size ≤ q) :
    ∀ (k i : Nat), L < i + k → i ≤ 2600 → ∀ (sk s0 s1 s2 : Int32) (t : Pn) (u : Tr) (tb : Pn) (ub : Tr) (ts : Pn) (us : Tr) (n ro : Nat) (hp : Nat → Pn × Tr) (q : Nat) (f f1 f2 : Nat → Int32) (sp : Nat) (be fo op ha st : Int32) (ga : Nat → Int32) (ps : Nat → Pn × Tr) (tM : Pn) (uM : Tr) (z3 m7 g8 : Nat → Int32) (H : Heap) (locs : List Loc) (ls : Array Slot), LI (12 * i) n ro hp ps t u sk ts us tM uM q s0 s1 s2 st z3 → va_P D vwCl (CW cI cT o aT aB aS g y z ad sk s0 s1 s2 t u tb ub ts us n ro hp q f f1 f2 ++ MW cI bm n q sp sk be fo op ha st t u ga ps tM uM f z3 m7 g8) H → va_D A (CW cI cT o aT aB aS g y z ad sk s0 s1 s2 t u tb ub ts us n ro hp q f f1 f2 ++ MW cI bm n q sp sk be fo op ha st t u ga ps tM uM f z3 m7 g8) → va_S A s9.heap H locs → lv_has ls 8 [(0, .ref bs), (1, .ref (o 0)), (2, .ref (bm 0)), (3, .int (nI i))] → W p9 l e9 room_1 s9 m9 #[Value.ref bs] b9 t9 c9 H locs 146 3194 (lw_Z b9 #[Value.ref bs] s9) (F0 m9 18 ls []) := by
  obtain ⟨hx, hb, hml, hown, hts⟩ := id S
  have hbA : ¬ A bs := fun h => absurd (hA2 _ h) (Nat.not_le.mpr hbl)
  intro k
  induction k with
  | zero =>
    intro i hk hi26 sk s0 s1 s2 t u tb ub ts us n ro hp q f f1 f2 sp be fo op ha st ga ps tM uM z3 m7 g8 H locs ls hI hP hD hS hl
    refine lv_iload_n hx hb dL_law_18 rfl (lv_at hl 3 rfl) ?_
    refine lv_aload_n hx hb dL_law_19 rfl (lv_at hl 0 rfl) ?_
    refine va_slen hx hb hX hbl hbA hS dL_law_20 ?_
    refine lv_iconst (v := 5) hx hb dL_law_21 (by decide) ?_
    refine lv_isub hx hb dL_law_22 ?_
    refine lv_icmp_gt (tgt := 868) hx hb dL_law_23 (by decide) (fun c_0 => ?_) (fun c_0 => ?_)
    · refine lv_iconst (v := 1) hx hb dL_law_868 (by decide) ?_
      refine va_forget (fun q hq => hA2 _ (hS.2.2 q hq)) ?_
      refine W.widen (k := 600000) (n := 7302250) (Nat.le_of_ble_eq_true rfl) (Nat.le_of_ble_eq_true rfl) ?_
      refine W.base ?_
      exact lw_ret (Drawn.sameBut.refl s9.drawn lw_cs) hx hb hr hlocks dL_law_869
    · have hi : ¬ L < i + 5 := fun q9 => c_0 (Eq.mpr (law_gt (L := L) (i := i) (by omega) (by omega)) q9)
      exact absurd (show L < i + 5 by omega) hi
  | succ k ih =>
    intro i hk hi26 sk s0 s1 s2 t u tb ub ts us n ro hp q f f1 f2 sp be fo op ha st ga ps tM uM z3 m7 g8 H locs ls hI hP hD hS hl
    refine lv_iload_n hx hb dL_law_18 rfl (lv_at hl 3 rfl) ?_
    refine lv_aload_n hx hb dL_law_19 rfl (lv_at hl 0 rfl) ?_
    refine va_slen hx hb hX hbl hbA hS dL_law_20 ?_
    refine lv_iconst (v := 5) hx hb dL_law_21 (by decide) ?_
    refine lv_isub hx hb dL_law_22 ?_
    refine lv_icmp_gt (tgt := 868) hx hb dL_law_23 (by decide) (fun c_0 => ?_) (fun c_0 => ?_)
    · refine lv_iconst (v := 1) hx hb dL_law_868 (by decide) ?_
      refine va_forget (fun q hq => hA2 _ (hS.2.2 q hq)) ?_
      refine W.widen (k := 600000) (n := 7302250) (Nat.le_of_ble_eq_true rfl) (Nat.le_of_ble_eq_true rfl) ?_
      refine W.base ?_
      exact lw_ret (Drawn.sameBut.refl s9.drawn lw_cs) hx hb hr hlocks dL_law_869
    · have hi : ¬ L < i + 5 := fun q9 => c_0 (Eq.mpr (law_gt (L := L) (i := i) (by omega) (by omega)) q9)
      have hi : i + 5 ≤ L := by omega
      have hLK : LK p9 l e9 s9 m9 #[Value.ref bs] b9 t9 c9 D A s9.heap (lw_Z b9 #[Value.ref bs] s9) cI cT o aT aB aS g y z ad bm bs i := by
        intro sk s0 s1 s2 t u tb ub ts us n ro hp q f f1 f2 sp be fo op ha st ga ps tM uM z3 m7 g8 H locs ls hI hP hD hS hl
        refine lv_iinc (v := nI (i + 5)) (lv' := [(3, .int (nI (i + 5))), (0, .ref bs), (1, .ref (o 0)), (2, .ref (bm 0))]) hx hb dL_law_862 hl (k := 3) rfl (nI_add i 5) (by decide) rfl (fun ls hl => ?_)
        refine lv_goto (tgt := 18) hx hb dL_law_865 (by decide) ?_
        exact ih (i + 5) (by omega) (by omega) sk s0 s1 s2 t u tb ub ts us n ro hp q f f1 f2 sp be fo op ha st ga ps tM uM z3 m7 g8 H locs ls hI hP hD hS (lv_sub hl [1, 2, 3, 0] rfl)
      refine lv_aload_n hx hb dL_law_26 rfl (lv_at hl 0 rfl) ?_
      refine lv_iload_n hx hb dL_law_27 rfl (lv_at hl 3 rfl) ?_
      refine va_sld hx hb hX hbl hbA hS (vp_in_nI (n := i) (N := L) (by omega) (by omega)) dL_law_28 ?_
      refine ej_topi (show xs (nI i).toNatClampNeg = xs i from congrArg xs (nI_clamp (by omega))) ?_
      refine lv_bipush (v := 31) hx hb dL_law_29 (by decide) ?_
      refine lv_iand hx hb dL_law_31 ?_
      generalize xs i &&& 31 = v9
      rcases Decidable.em (v9 = 0) with c_1 | c_1
      · refine lv_tableIn (off := 120) (tgt := 152) hx hb dL_law_32 (by rw [c_1]; decide) (by rw [c_1]; decide) (by rw [c_1]; rfl) (by decide) ?_
        exact law_c0 l D tys cI ht0 cT ht1 S hK hN hA hX hbl hbA hL hi hLK hI hP hD hS hl
      rcases Decidable.em (v9 = 1) with c_2 | c_2
      · refine lv_tableIn (off := 169) (tgt := 201) hx hb dL_law_32 (by rw [c_2]; decide) (by rw [c_2]; decide) (by rw [c_2]; rfl) (by decide) ?_
        exact law_c1 l D tys cI ht0 cT ht1 S hK hN hA hX hbl hbA hL hi hLK hI hP hD hS hl
      rcases Decidable.em (v9 = 2) with c_3 | c_3
      · refine lv_tableIn (off := 218) (tgt := 250) hx hb dL_law_32 (by rw [c_3]; decide) (by rw [c_3]; decide) (by rw [c_3]; rfl) (by decide) ?_
        exact law_c2 l D tys cI ht0 cT ht1 S hK hN hA hX hbl hbA hL hi hLK hI hP hD hS hl
      rcases Decidable.em (v9 = 3) with c_4 | c_4
      · refine lv_tableIn (off := 241) (tgt := 273) hx hb dL_law_32 (by rw [c_4]; decide) (by rw [c_4]; decide) (by rw [c_4]; rfl) (by decide) ?_
        exact law_c3 l D tys cI ht0 cT ht1 S hK hN hA hX hbl hbA hL hi hLK hI hP hD hS hl
      rcases Decidable.em (v9 = 4) with c_5 | c_5
      · refine lv_tableIn (off := 264) (tgt := 296) hx hb dL_law_32 (by rw [c_5]; decide) (by rw [c_5]; decide) (by rw [c_5]; rfl) (by decide) ?_
        exact law_c4 l D tys cI ht0 cT ht1 S hK hN hA hX hbl hbA hL hi hLK hI hP hD hS hl
      rcases Decidable.em (v9 = 5) with c_6 | c_6
      · refine lv_tableIn (off := 297) (tgt := 329) hx hb dL_law_32 (by rw [c_6]; decide) (by rw [c_6]; decide) (by rw [c_6]; rfl) (by decide) ?_
        exact law_c5 l D tys cI ht0 cT ht1 S hK hN hA hX hbl hbA hL hi hLK hI hP hD hS hl
      rcases Decidable.em (v9 = 6) with c_7 | c_7
      · refine lv_tableIn (off := 330) (tgt := 362) hx hb dL_law_32 (by rw [c_7]; decide) (by rw [c_7]; decide) (by rw [c_7]; rfl) (by decide) ?_
        exact law_c6 l D tys cI ht0 cT ht1 S hK hN hA hX hbl hbA hL hi hLK hI hP hD hS hl
      rcases Decidable.em (v9 = 7) with c_8 | c_8
      · refine lv_tableIn (off := 343) (tgt := 375) hx hb dL_law_32 (by rw [c_8]; decide) (by rw [c_8]; decide) (by rw [c_8]; rfl) (by decide) ?_
        exact law_c7 l D tys cI ht0 cT ht1 S hK hN hA hX hbl hbA hL hi hLK hI hP hD hS hl
      rcases Decidable.em (v9 = 8) with c_9 | c_9
      · refine lv_tableIn (off := 366) (tgt := 398) hx hb dL_law_32 (by rw [c_9]; decide) (by rw [c_9]; decide) (by rw [c_9]; rfl) (by decide) ?_
        exact law_c8 l D tys cI ht0 cT ht1 S hK hN hA hX hbl hbA hL hi hLK hI hP hD hS hl
      rcases Decidable.em (v9 = 9) with c_10 | c_10
      · refine lv_tableIn (off := 379) (tgt := 411) hx hb dL_law_32 (by rw [c_10]; decide) (by rw [c_10]; decide) (by rw [c_10]; rfl) (by decide) ?_
        exact law_c9 l D tys cI ht0 cT ht1 S hK hN hA hX hbl hbA hL hi hLK hI hP hD hS hl
      rcases Decidable.em (v9 = 10) with c_11 | c_11
      · refine lv_tableIn (off := 402) (tgt := 434) hx hb dL_law_32 (by rw [c_11]; decide) (by rw [c_11]; decide) (by rw [c_11]; rfl) (by decide) ?_
        exact law_c10 l D tys cI ht0 cT ht1 S hK hN hA hX hbl hbA hL hi hLK hI hP hD hS hl
      rcases Decidable.em (v9 = 11) with c_12 | c_12
      · refine lv_tableIn (off := 415) (tgt := 447) hx hb dL_law_32 (by rw [c_12]; decide) (by rw [c_12]; decide) (by rw [c_12]; rfl) (by decide) ?_
        exact law_c11 l D tys cI ht0 cT ht1 S hK hN hA hX hbl hbA hL hi hLK hI hP hD hS hl
      rcases Decidable.em (v9 = 12) with c_13 | c_13
      · refine lv_tableIn (off := 428) (tgt := 460) hx hb dL_law_32 (by rw [c_13]; decide) (by rw [c_13]; decide) (by rw [c_13]; rfl) (by decide) ?_
        exact law_c12 l D tys cI ht0 cT ht1 S hK hN hA hX hbl hbA hL hi hLK hI hP hD hS hl
      rcases Decidable.em (v9 = 13) with c_14 | c_14
      · refine lv_tableIn (off := 451) (tgt := 483) hx hb dL_law_32 (by rw [c_14]; decide) (by rw [c_14]; decide) (by rw [c_14]; rfl) (by decide) ?_
        exact law_c13 l D tys cI ht0 cT ht1 S hK hN hA hX hbl hbA hL hi hLK hI hP hD hS hl
      rcases Decidable.em (v9 = 14) with c_15 | c_15
      · refine lv_tableIn (off := 474) (tgt := 506) hx hb dL_law_32 (by rw [c_15]; decide) (by rw [c_15]; decide) (by rw [c_15]; rfl) (by decide) ?_
        exact law_c14 l D tys cI ht0 cT ht1 S hK hN hA hX hbl hbA hL hi hLK hI hP hD hS hl
      rcases Decidable.em (v9 = 15) with c_16 | c_16
      · refine lv_tableIn (off := 507) (tgt := 539) hx hb dL_law_32 (by rw [c_16]; decide) (by rw [c_16]; decide) (by rw [c_16]; rfl) (by decide) ?_
        exact law_c15 l D tys cI ht0 cT ht1 S hK hN hA hX hbl hbA hL hi hLK hI hP hD hS hl
      rcases Decidable.em (v9 = 16) with c_17 | c_17
      · refine lv_tableIn (off := 540) (tgt := 572) hx hb dL_law_32 (by rw [c_17]; decide) (by rw [c_17]; decide) (by rw [c_17]; rfl) (by decide) ?_
        exact law_c16 l D tys cI ht0 cT ht1 S hK hN hA hX hbl hbA hL hi hLK hI hP hD hS hl
      rcases Decidable.em (v9 = 17) with c_18 | c_18
      · refine lv_tableIn (off := 563) (tgt := 595) hx hb dL_law_32 (by rw [c_18]; decide) (by rw [c_18]; decide) (by rw [c_18]; rfl) (by decide) ?_
        exact law_c17 l D tys cI ht0 cT ht1 S hK hN hA hX hbl hbA hL hi hLK hI hP hD hS hl
      rcases Decidable.em (v9 = 18) with c_19 | c_19
      · refine lv_tableIn (off := 596) (tgt := 628) hx hb dL_law_32 (by rw [c_19]; decide) (by rw [c_19]; decide) (by rw [c_19]; rfl) (by decide) ?_
        exact law_c18 l D tys cI ht0 cT ht1 S hK hN hA hX hbl hbA hL hi hLK hI hP hD hS hl
      rcases Decidable.em (v9 = 19) with c_20 | c_20
      · refine lv_tableIn (off := 619) (tgt := 651) hx hb dL_law_32 (by rw [c_20]; decide) (by rw [c_20]; decide) (by rw [c_20]; rfl) (by decide) ?_
        exact law_c19 l D tys cI ht0 cT ht1 S hK hN hA hX hbl hbA hL hi hLK hI hP hD hS hl
      rcases Decidable.em (v9 = 20) with c_21 | c_21
      · refine lv_tableIn (off := 660) (tgt := 692) hx hb dL_law_32 (by rw [c_21]; decide) (by rw [c_21]; decide) (by rw [c_21]; rfl) (by decide) ?_
        exact law_c20 l D tys cI ht0 cT ht1 S hK hN hA hX hbl hbA hL hi hLK hI hP hD hS hl
      rcases Decidable.em (v9 = 21) with c_22 | c_22
      · refine lv_tableIn (off := 683) (tgt := 715) hx hb dL_law_32 (by rw [c_22]; decide) (by rw [c_22]; decide) (by rw [c_22]; rfl) (by decide) ?_
        exact law_c21 l D tys cI ht0 cT ht1 S hK hN hA hX hbl hbA hL hi hLK hI hP hD hS hl
      rcases Decidable.em (v9 = 22) with c_23 | c_23
      · refine lv_tableIn (off := 752) (tgt := 784) hx hb dL_law_32 (by rw [c_23]; decide) (by rw [c_23]; decide) (by rw [c_23]; rfl) (by decide) ?_
        exact law_c22 l D tys cI ht0 cT ht1 S hK hN hA hX hbl hbA hL hi hLK hI hP hD hS hl
      rcases Decidable.em (v9 = 23) with c_24 | c_24
      · refine lv_tableIn (off := 791) (tgt := 823) hx hb dL_law_32 (by rw [c_24]; decide) (by rw [c_24]; decide) (by rw [c_24]; rfl) (by decide) ?_
        exact law_c23 l D tys cI ht0 cT ht1 S hK hN hA hX hbl hbA hL hi hLK hI hP hD hS hl
      rcases Decidable.em (v9 = 24) with c_25 | c_25
      · refine lv_tableIn (off := 804) (tgt := 836) hx hb dL_law_32 (by rw [c_25]; decide) (by rw [c_25]; decide) (by rw [c_25]; rfl) (by decide) ?_
        exact law_c24 l D tys cI ht0 cT ht1 S hK hN hA hX hbl hbA hL hi hLK hI hP hD hS hl
      rcases Decidable.em (v9 = 25) with c_26 | c_26
      · refine lv_tableIn (off := 817) (tgt := 849) hx hb dL_law_32 (by rw [c_26]; decide) (by rw [c_26]; decide) (by rw [c_26]; rfl) (by decide) ?_
        exact law_c25 l D tys cI ht0 cT ht1 S hK hN hA hX hbl hbA hL hi hLK hI hP hD hS hl
      have t_1 := lv_neT c_1 (show (0 : Int32).toInt = 0 by decide)
      have t_2 := lv_neT c_2 (show (1 : Int32).toInt = 1 by decide)
      have t_3 := lv_neT c_3 (show (2 : Int32).toInt = 2 by decide)
      have t_4 := lv_neT c_4 (show (3 : Int32).toInt = 3 by decide)
      have t_5 := lv_neT c_5 (show (4 : Int32).toInt = 4 by decide)
      have t_6 := lv_neT c_6 (show (5 : Int32).toInt = 5 by decide)
      have t_7 := lv_neT c_7 (show (6 : Int32).toInt = 6 by decide)
      have t_8 := lv_neT c_8 (show (7 : Int32).toInt = 7 by decide)
      have t_9 := lv_neT c_9 (show (8 : Int32).toInt = 8 by decide)
      have t_10 := lv_neT c_10 (show (9 : Int32).toInt = 9 by decide)
      have t_11 := lv_neT c_11 (show (10 : Int32).toInt = 10 by decide)
      have t_12 := lv_neT c_12 (show (11 : Int32).toInt = 11 by decide)
      have t_13 := lv_neT c_13 (show (12 : Int32).toInt = 12 by decide)
      have t_14 := lv_neT c_14 (show (13 : Int32).toInt = 13 by decide)
      have t_15 := lv_neT c_15 (show (14 : Int32).toInt = 14 by decide)
      have t_16 := lv_neT c_16 (show (15 : Int32).toInt = 15 by decide)
      have t_17 := lv_neT c_17 (show (16 : Int32).toInt = 16 by decide)
      have t_18 := lv_neT c_18 (show (17 : Int32).toInt = 17 by decide)
      have t_19 := lv_neT c_19 (show (18 : Int32).toInt = 18 by decide)
      have t_20 := lv_neT c_20 (show (19 : Int32).toInt = 19 by decide)
      have t_21 := lv_neT c_21 (show (20 : Int32).toInt = 20 by decide)
      have t_22 := lv_neT c_22 (show (21 : Int32).toInt = 21 by decide)
      have t_23 := lv_neT c_23 (show (22 : Int32).toInt = 22 by decide)
      have t_24 := lv_neT c_24 (show (23 : Int32).toInt = 23 by decide)
      have t_25 := lv_neT c_25 (show (24 : Int32).toInt = 24 by decide)
      have t_26 := lv_neT c_26 (show (25 : Int32).toInt = 25 by decide)
      refine lv_tableOut (tgt := 862) hx hb dL_law_32 (by omega) (by decide) ?_
      exact hLK sk s0 s1 s2 t u tb ub ts us n ro hp q f f1 f2 sp be fo op ha st ga ps tM uM z3 m7 g8 H locs ls (LI_up hI (by omega)) hP hD hS hl
