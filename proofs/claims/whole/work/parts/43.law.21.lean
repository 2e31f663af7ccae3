set_option maxHeartbeats 4000000 in
set_option maxRecDepth 100000 in
theorem law_c21 (l : Launch) (D : va_G) (tys : eT) (cI : ClassId) (ht0 : tys[0]? = some (cI, .int)) (cT : ClassId) (ht1 : tys[1]? = some (cT, .object RX5)) {p9 : Program} {e9 : Env} {s9 : State} {m9 : MethodId} {a9 : Array Value} {b9 : List Frame} {t9 : Method} {c9 : Code} {A : Nat → Prop} {H0 : Heap} {Q : State → Prop} {o aT aB aS g y z : Nat → Nat} {ad : Nat → Nat → Nat} {bm : Nat → Nat} {bs i L : Nat} {xs : Nat → Int32} (S : CallFix p9 m9 c9 cL_law 8 s9 a9 wsL_law RL) (hK : va_K D vwCl tys s9) (hN : eN s9) (hA : ∀ q : Nat, H0.size ≤ q → A q) (hX : va_X bs L xs s9 H0) (hbl : bs < H0.size) (hbA : ¬ A bs) (hL : L ≤ 2560) (hi : i + 5 ≤ L)
    (hLK : LK p9 l e9 s9 m9 a9 b9 t9 c9 D A H0 Q cI cT o aT aB aS g y z ad bm bs i) {sk s0 s1 s2 : Int32} {t : Pn} {u : Tr} {tb : Pn} {ub : Tr} {ts : Pn} {us : Tr} {n ro : Nat} {hp : Nat → Pn × Tr} {q : Nat} {f f1 f2 : Nat → Int32} {sp : Nat} {be fo op ha st : Int32} {ga : Nat → Int32} {ps : Nat → Pn × Tr} {tM : Pn} {uM : Tr} {z3 m7 g8 : Nat → Int32} (hI : LI (12 * i) n ro hp ps t u sk ts us tM uM q s0 s1 s2 st z3) {H : Heap} {locs : List Loc} {ls : Array Slot} (hP : va_P D vwCl (CW cI cT o aT aB aS g y z ad sk s0 s1 s2 t u tb ub ts us n ro hp q f f1 f2 ++ MW cI bm n q sp sk be fo op ha st t u ga ps tM uM f z3 m7 g8) H) (hD : va_D A (CW cI cT o aT aB aS g y z ad sk s0 s1 s2 t u tb ub ts us n ro hp q f f1 f2 ++ MW cI bm n q sp sk be fo op ha st t u ga ps tM uM f z3 m7 g8)) (hS : va_S A H0 H locs) (hl : lv_has ls 8 [(0, .ref bs), (1, .ref (o 0)), (2, .ref (bm 0)), (3, .int (nI i))]) : W p9 l e9 room_1 s9 m9 a9 b9 t9 c9 H locs 146 3194 Q (F0 m9 715 ls []) := by
  obtain ⟨hx, hb, hml, hown, hts⟩ := id S
  obtain ⟨⟨hok, hwk, hsn⟩, ⟨hn4, hr4, hq60⟩, hhis, hsav, hstp⟩ := id hI
  refine lv_aload_n hx hb dL_law_715 rfl (lv_at hl 1 rfl) ?_
  refine lv_aload_n hx hb dL_law_716 rfl (lv_at hl 0 rfl) ?_
  refine lv_iload_n hx hb dL_law_717 rfl (lv_at hl 3 rfl) ?_
  refine lv_iconst (v := 1) hx hb dL_law_718 (by decide) ?_
  refine lv_iadd hx hb dL_law_719 ?_
  refine ej_topi (show nI i + 1 = nI (i + 1) from nI_add i 1) ?_
  refine va_sld hx hb hX hbl hbA hS (vp_in_nI (n := i + 1) (N := L) (by omega) (by omega)) dL_law_720 ?_
  refine ej_topi (show xs (nI (i + 1)).toNatClampNeg = xs (i + 1) from congrArg xs (nI_clamp (by omega))) ?_
  refine lv_aload_n hx hb dL_law_721 rfl (lv_at hl 0 rfl) ?_
  refine lv_iload_n hx hb dL_law_722 rfl (lv_at hl 3 rfl) ?_
  refine lv_iconst (v := 2) hx hb dL_law_723 (by decide) ?_
  refine lv_iadd hx hb dL_law_724 ?_
  refine ej_topi (show nI i + 2 = nI (i + 2) from nI_add i 2) ?_
  refine va_sld hx hb hX hbl hbA hS (vp_in_nI (n := i + 2) (N := L) (by omega) (by omega)) dL_law_725 ?_
  refine ej_topi (show xs (nI (i + 2)).toNatClampNeg = xs (i + 2) from congrArg xs (nI_clamp (by omega))) ?_
  refine lv_if_eq (tgt := 733) hx hb dL_law_726 (by decide) (fun b_1 => ?_) (fun b_1 => ?_)
  · refine lv_iconst (v := 0) hx hb dL_law_733 (by decide) ?_
    refine lv_aload_n hx hb dL_law_734 rfl (lv_at hl 0 rfl) ?_
    refine lv_iload_n hx hb dL_law_735 rfl (lv_at hl 3 rfl) ?_
    refine lv_iconst (v := 3) hx hb dL_law_736 (by decide) ?_
    refine lv_iadd hx hb dL_law_737 ?_
    refine ej_topi (show nI i + 3 = nI (i + 3) from nI_add i 3) ?_
    refine va_sld hx hb hX hbl hbA hS (vp_in_nI (n := i + 3) (N := L) (by omega) (by omega)) dL_law_738 ?_
    refine ej_topi (show xs (nI (i + 3)).toNatClampNeg = xs (i + 3) from congrArg xs (nI_clamp (by omega))) ?_
    refine lv_aload_n hx hb dL_law_739 rfl (lv_at hl 0 rfl) ?_
    refine lv_iload_n hx hb dL_law_740 rfl (lv_at hl 3 rfl) ?_
    refine lv_iconst (v := 4) hx hb dL_law_741 (by decide) ?_
    refine lv_iadd hx hb dL_law_742 ?_
    refine ej_topi (show nI i + 4 = nI (i + 4) from nI_add i 4) ?_
    refine va_sld hx hb hX hbl hbA hS (vp_in_nI (n := i + 4) (N := L) (by omega) (by omega)) dL_law_743 ?_
    refine ej_topi (show xs (nI (i + 4)).toNatClampNeg = xs (i + 4) from congrArg xs (nI_clamp (by omega))) ?_
    obtain ⟨r1C_2, e_r1C_2⟩ : ∃ z9 : Int32, z9 = if inP (xs (i + 1)) 6 ∧ ((¬ (xs (i + 3)) < 1 ∧ ¬ 20 < (xs (i + 3))) ∧ inP (xs (i + 4)) 2) then ifR t u (ifG t u (xs (i + 1)).toNatClampNeg 0 (xs (i + 3)).toNatClampNeg) (xs (i + 4)) else -1 := ⟨_, rfl⟩
    obtain ⟨tb1C_3, e_tb1C_3⟩ : ∃ z9 : Pn, z9 = if inP (xs (i + 1)) 6 ∧ ((¬ (xs (i + 3)) < 1 ∧ ¬ 20 < (xs (i + 3))) ∧ inP (xs (i + 4)) 2) then (ifG t u (xs (i + 1)).toNatClampNeg 0 (xs (i + 3)).toNatClampNeg).1 else tb := ⟨_, rfl⟩
    obtain ⟨ub1C_4, e_ub1C_4⟩ : ∃ z9 : Tr, z9 = if inP (xs (i + 1)) 6 ∧ ((¬ (xs (i + 3)) < 1 ∧ ¬ 20 < (xs (i + 3))) ∧ inP (xs (i + 4)) 2) then (ifG t u (xs (i + 1)).toNatClampNeg 0 (xs (i + 3)).toNatClampNeg).2 else ub := ⟨_, rfl⟩
    refine ej_VL (wa := CW cI cT o aT aB aS g y z ad sk s0 s1 s2 t u tb ub ts us n ro hp q f f1 f2) (wa' := CW cI cT o aT aB aS g y z ad sk s0 s1 s2 t u tb1C_3 ub1C_4 ts us n ro hp q f f1 f2) (wb := MW cI bm n q sp sk be fo op ha st t u ga ps tM uM f z3 m7 g8) (As := [.int (xs (i + 1)), .int 0, .int (xs (i + 3)), .int (xs (i + 4))]) (rest := []) S hK hN hA hP hD hS (c_X6_ifShot l D tys cI ht0 o aT aB aS g y z sk s0 s1 s2 t u tb ub (xs (i + 1)) 0 (xs (i + 3)) (xs (i + 4)) r1C_2 e_r1C_2 tb1C_3 e_tb1C_3 ub1C_4 e_ub1C_4 hok.1) (cwV 4 hts gL_law_X6_ifShot rfl rfl rfl hdv_X6_ifShot ⟨Nat.le_of_ble_eq_true rfl, Nat.le_of_ble_eq_true rfl⟩) [0, 1, 2, 3, 4, 5, 6, 7, 8, 9, 10, 11, 12, 13, 14, 15, 16, 17, 18, 19, 20, 21, 22, 23, 24, 25, 26, 27, 28, 29, 30, 31, 32, 33, 34, 35, 36, 129] [some 0, some 1, some 2, some 3, some 4, some 5, some 6, some 7, some 8, some 9, some 10, some 11, some 12, some 13, some 14, some 15, some 16, some 17, some 18, some 19, some 20, some 21, some 22, some 23, some 24, some 25, some 26, some 27, some 28, some 29, some 30, some 31, some 32, some 33, some 34, some 35, some 36, none, none, none, none, none, none, none, none, none, none, none, none, none, none, none, none, none, none, none, none, none, none, none, none, none, none, none, none, none, none, none, none, none, none, none, none, none, none, none, none, none, none, none, none, none, none, none, none, none, none, none, none, none, none, none, none, none, none, none, none, none, none, none, none, none, none, none, none, none, none, none, none, none, none, none, none, none, none, none, none, none, none, none, none, none, none, none, none, none, none, none, none, some 37] [(o 0), (aT 0), (aT 1), (aT 2), (aT 3), (aT 4), (aT 5), (aT 6), (aT 7), (aT 8), (aT 9), (aT 10), (aT 11), (aT 12), (aT 13), (aT 14), (aT 15), (aT 16), (aT 17), (aB 0), (aB 1), (aB 2), (aB 3), (aB 4), (aB 5), (aB 6), (aB 7), (aB 8), (aB 9), (aB 10), (aB 11), (aB 12), (aB 13), (aB 14), (aB 15), (aB 16), (aB 17), (y 0)] rfl (by decide +kernel) ⟨rfl, rfl⟩ rfl (by decide +kernel) (Nat.le_of_ble_eq_true rfl) 0 6 rfl rfl rfl rfl hl.1 (Nat.le_of_ble_eq_true rfl) dL_law_744 ⟨Nat.le_of_ble_eq_true rfl, Nat.le_of_ble_eq_true rfl⟩ (fun H locs hP hD hS => ?_)
    show W p9 l e9 room_1 s9 m9 a9 b9 t9 c9 H locs 146 3194 Q (F0 m9 747 ls (.int r1C_2 :: []))
    have hP : va_P D vwCl (CW cI cT o aT aB aS g y z ad sk s0 s1 s2 t u tb1C_3 ub1C_4 ts us n ro hp q f f1 f2 ++ MW cI bm n q sp sk be fo op ha st t u ga ps tM uM f z3 m7 g8) H := hP
    have hD : va_D A (CW cI cT o aT aB aS g y z ad sk s0 s1 s2 t u tb1C_3 ub1C_4 ts us n ro hp q f f1 f2 ++ MW cI bm n q sp sk be fo op ha st t u ga ps tM uM f z3 m7 g8) := hD
    refine lv_aload_n hx hb dL_law_747 rfl (lv_at hl 2 rfl) ?_
    refine lv_aload_n hx hb dL_law_748 rfl (lv_at hl 0 rfl) ?_
    refine lv_iload_n hx hb dL_law_749 rfl (lv_at hl 3 rfl) ?_
    refine lv_iconst (v := 1) hx hb dL_law_750 (by decide) ?_
    refine lv_iadd hx hb dL_law_751 ?_
    refine ej_topi (show nI i + 1 = nI (i + 1) from nI_add i 1) ?_
    refine va_sld hx hb hX hbl hbA hS (vp_in_nI (n := i + 1) (N := L) (by omega) (by omega)) dL_law_752 ?_
    refine ej_topi (show xs (nI (i + 1)).toNatClampNeg = xs (i + 1) from congrArg xs (nI_clamp (by omega))) ?_
    refine lv_aload_n hx hb dL_law_753 rfl (lv_at hl 0 rfl) ?_
    refine lv_iload_n hx hb dL_law_754 rfl (lv_at hl 3 rfl) ?_
    refine lv_iconst (v := 2) hx hb dL_law_755 (by decide) ?_
    refine lv_iadd hx hb dL_law_756 ?_
    refine ej_topi (show nI i + 2 = nI (i + 2) from nI_add i 2) ?_
    refine va_sld hx hb hX hbl hbA hS (vp_in_nI (n := i + 2) (N := L) (by omega) (by omega)) dL_law_757 ?_
    refine ej_topi (show xs (nI (i + 2)).toNatClampNeg = xs (i + 2) from congrArg xs (nI_clamp (by omega))) ?_
    refine lv_if_eq (tgt := 765) hx hb dL_law_758 (by decide) (fun _ => ?_) (fun h9 => absurd b_1 h9)
    refine lv_iconst (v := 0) hx hb dL_law_765 (by decide) ?_
    refine lv_aload_n hx hb dL_law_766 rfl (lv_at hl 0 rfl) ?_
    refine lv_iload_n hx hb dL_law_767 rfl (lv_at hl 3 rfl) ?_
    refine lv_iconst (v := 3) hx hb dL_law_768 (by decide) ?_
    refine lv_iadd hx hb dL_law_769 ?_
    refine ej_topi (show nI i + 3 = nI (i + 3) from nI_add i 3) ?_
    refine va_sld hx hb hX hbl hbA hS (vp_in_nI (n := i + 3) (N := L) (by omega) (by omega)) dL_law_770 ?_
    refine ej_topi (show xs (nI (i + 3)).toNatClampNeg = xs (i + 3) from congrArg xs (nI_clamp (by omega))) ?_
    refine lv_aload_n hx hb dL_law_771 rfl (lv_at hl 0 rfl) ?_
    refine lv_iload_n hx hb dL_law_772 rfl (lv_at hl 3 rfl) ?_
    refine lv_iconst (v := 4) hx hb dL_law_773 (by decide) ?_
    refine lv_iadd hx hb dL_law_774 ?_
    refine ej_topi (show nI i + 4 = nI (i + 4) from nI_add i 4) ?_
    refine va_sld hx hb hX hbl hbA hS (vp_in_nI (n := i + 4) (N := L) (by omega) (by omega)) dL_law_775 ?_
    refine ej_topi (show xs (nI (i + 4)).toNatClampNeg = xs (i + 4) from congrArg xs (nI_clamp (by omega))) ?_
    obtain ⟨g1M_5, e_g1M_5⟩ : ∃ z9 : Nat → Int32, z9 = if inP (xs (i + 1)) 6 ∧ ((¬ (xs (i + 3)) < 1 ∧ ¬ 20 < (xs (i + 3))) ∧ inP (xs (i + 4)) 2) then flatS t u else ga := ⟨_, rfl⟩
    obtain ⟨be1M_6, e_be1M_6⟩ : ∃ z9 : Int32, z9 = if inP (xs (i + 1)) 6 ∧ ((¬ (xs (i + 3)) < 1 ∧ ¬ 20 < (xs (i + 3))) ∧ inP (xs (i + 4)) 2) then tbG t u (xs (i + 1)).toNatClampNeg 0 be (xs (i + 3)).toNatClampNeg else be := ⟨_, rfl⟩
    obtain ⟨r1M_7, e_r1M_7⟩ : ∃ z9 : Int32, z9 = if inP (xs (i + 1)) 6 ∧ ((¬ (xs (i + 3)) < 1 ∧ ¬ 20 < (xs (i + 3))) ∧ inP (xs (i + 4)) 2) then ifR t u (ifG t u (xs (i + 1)).toNatClampNeg 0 (xs (i + 3)).toNatClampNeg) (xs (i + 4)) else -1 := ⟨_, rfl⟩
    refine ej_VR (wa := MW cI bm n q sp sk be fo op ha st t u ga ps tM uM f z3 m7 g8) (wa' := MW cI bm n q sp sk be1M_6 fo op ha st t u g1M_5 ps tM uM f z3 m7 g8) (wb := CW cI cT o aT aB aS g y z ad sk s0 s1 s2 t u tb1C_3 ub1C_4 ts us n ro hp q f f1 f2) (As := [.int (xs (i + 1)), .int 0, .int (xs (i + 3)), .int (xs (i + 4))]) (rest := [.int r1C_2]) S hK hN hA hP hD hS (c_X7_ifShot l D tys cI ht0 bm n q sp sk be fo op ha st t u ga (xs (i + 1)) 0 (xs (i + 3)) (xs (i + 4)) g1M_5 e_g1M_5 be1M_6 e_be1M_6 r1M_7 e_r1M_7 hok.1 hok.2.1 hwk.1) (cwV 4 hts gL_law_X7_ifShot rfl rfl rfl hdv_X7_ifShot ⟨Nat.le_of_ble_eq_true rfl, Nat.le_of_ble_eq_true rfl⟩) [0, 1, 2] [some 0, some 1, some 2] [(bm 0), (bm 1), (bm 2)] rfl (by decide +kernel) ⟨rfl, rfl⟩ rfl (by decide +kernel) (Nat.le_of_ble_eq_true rfl) 0 7 rfl rfl rfl rfl hl.1 (Nat.le_of_ble_eq_true rfl) dL_law_776 ⟨Nat.le_of_ble_eq_true rfl, Nat.le_of_ble_eq_true rfl⟩ (fun H locs hP hD hS => ?_)
    show W p9 l e9 room_1 s9 m9 a9 b9 t9 c9 H locs 146 3194 Q (F0 m9 779 ls (.int r1M_7 :: [.int r1C_2]))
    have hP : va_P D vwCl (CW cI cT o aT aB aS g y z ad sk s0 s1 s2 t u tb1C_3 ub1C_4 ts us n ro hp q f f1 f2 ++ MW cI bm n q sp sk be1M_6 fo op ha st t u g1M_5 ps tM uM f z3 m7 g8) H := hP
    have hD : va_D A (CW cI cT o aT aB aS g y z ad sk s0 s1 s2 t u tb1C_3 ub1C_4 ts us n ro hp q f f1 f2 ++ MW cI bm n q sp sk be1M_6 fo op ha st t u g1M_5 ps tM uM f z3 m7 g8) := hD
    refine lv_icmp_eq (tgt := 862) hx hb dL_law_779 (by decide) (fun _ => ?_) (fun h9 => absurd (by rw [e_r1C_2, e_r1M_7]) h9)
    exact hLK sk s0 s1 s2 t u tb1C_3 ub1C_4 ts us n ro hp q f f1 f2 sp be1M_6 fo op ha st g1M_5 ps tM uM z3 m7 g8 H locs ls (LI_up hI (by omega)) hP hD hS hl
  · refine lv_iconst (v := 1) hx hb dL_law_729 (by decide) ?_
    refine lv_goto (tgt := 734) hx hb dL_law_730 (by decide) ?_
    refine lv_aload_n hx hb dL_law_734 rfl (lv_at hl 0 rfl) ?_
    refine lv_iload_n hx hb dL_law_735 rfl (lv_at hl 3 rfl) ?_
    refine lv_iconst (v := 3) hx hb dL_law_736 (by decide) ?_
    refine lv_iadd hx hb dL_law_737 ?_
    refine ej_topi (show nI i + 3 = nI (i + 3) from nI_add i 3) ?_
    refine va_sld hx hb hX hbl hbA hS (vp_in_nI (n := i + 3) (N := L) (by omega) (by omega)) dL_law_738 ?_
    refine ej_topi (show xs (nI (i + 3)).toNatClampNeg = xs (i + 3) from congrArg xs (nI_clamp (by omega))) ?_
    refine lv_aload_n hx hb dL_law_739 rfl (lv_at hl 0 rfl) ?_
    refine lv_iload_n hx hb dL_law_740 rfl (lv_at hl 3 rfl) ?_
    refine lv_iconst (v := 4) hx hb dL_law_741 (by decide) ?_
    refine lv_iadd hx hb dL_law_742 ?_
    refine ej_topi (show nI i + 4 = nI (i + 4) from nI_add i 4) ?_
    refine va_sld hx hb hX hbl hbA hS (vp_in_nI (n := i + 4) (N := L) (by omega) (by omega)) dL_law_743 ?_
    refine ej_topi (show xs (nI (i + 4)).toNatClampNeg = xs (i + 4) from congrArg xs (nI_clamp (by omega))) ?_
    obtain ⟨r1C_8, e_r1C_8⟩ : ∃ z9 : Int32, z9 = if inP (xs (i + 1)) 6 ∧ ((¬ (xs (i + 3)) < 1 ∧ ¬ 20 < (xs (i + 3))) ∧ inP (xs (i + 4)) 2) then ifR t u (ifG t u (xs (i + 1)).toNatClampNeg 1 (xs (i + 3)).toNatClampNeg) (xs (i + 4)) else -1 := ⟨_, rfl⟩
    obtain ⟨tb1C_9, e_tb1C_9⟩ : ∃ z9 : Pn, z9 = if inP (xs (i + 1)) 6 ∧ ((¬ (xs (i + 3)) < 1 ∧ ¬ 20 < (xs (i + 3))) ∧ inP (xs (i + 4)) 2) then (ifG t u (xs (i + 1)).toNatClampNeg 1 (xs (i + 3)).toNatClampNeg).1 else tb := ⟨_, rfl⟩
    obtain ⟨ub1C_10, e_ub1C_10⟩ : ∃ z9 : Tr, z9 = if inP (xs (i + 1)) 6 ∧ ((¬ (xs (i + 3)) < 1 ∧ ¬ 20 < (xs (i + 3))) ∧ inP (xs (i + 4)) 2) then (ifG t u (xs (i + 1)).toNatClampNeg 1 (xs (i + 3)).toNatClampNeg).2 else ub := ⟨_, rfl⟩
    refine ej_VL (wa := CW cI cT o aT aB aS g y z ad sk s0 s1 s2 t u tb ub ts us n ro hp q f f1 f2) (wa' := CW cI cT o aT aB aS g y z ad sk s0 s1 s2 t u tb1C_9 ub1C_10 ts us n ro hp q f f1 f2) (wb := MW cI bm n q sp sk be fo op ha st t u ga ps tM uM f z3 m7 g8) (As := [.int (xs (i + 1)), .int 1, .int (xs (i + 3)), .int (xs (i + 4))]) (rest := []) S hK hN hA hP hD hS (c_X6_ifShot l D tys cI ht0 o aT aB aS g y z sk s0 s1 s2 t u tb ub (xs (i + 1)) 1 (xs (i + 3)) (xs (i + 4)) r1C_8 e_r1C_8 tb1C_9 e_tb1C_9 ub1C_10 e_ub1C_10 hok.1) (cwV 4 hts gL_law_X6_ifShot rfl rfl rfl hdv_X6_ifShot ⟨Nat.le_of_ble_eq_true rfl, Nat.le_of_ble_eq_true rfl⟩) [0, 1, 2, 3, 4, 5, 6, 7, 8, 9, 10, 11, 12, 13, 14, 15, 16, 17, 18, 19, 20, 21, 22, 23, 24, 25, 26, 27, 28, 29, 30, 31, 32, 33, 34, 35, 36, 129] [some 0, some 1, some 2, some 3, some 4, some 5, some 6, some 7, some 8, some 9, some 10, some 11, some 12, some 13, some 14, some 15, some 16, some 17, some 18, some 19, some 20, some 21, some 22, some 23, some 24, some 25, some 26, some 27, some 28, some 29, some 30, some 31, some 32, some 33, some 34, some 35, some 36, none, none, none, none, none, none, none, none, none, none, none, none, none, none, none, none, none, none, none, none, none, none, none, none, none, none, none, none, none, none, none, none, none, none, none, none, none, none, none, none, none, none, none, none, none, none, none, none, none, none, none, none, none, none, none, none, none, none, none, none, none, none, none, none, none, none, none, none, none, none, none, none, none, none, none, none, none, none, none, none, none, none, none, none, none, none, none, none, none, none, none, none, some 37] [(o 0), (aT 0), (aT 1), (aT 2), (aT 3), (aT 4), (aT 5), (aT 6), (aT 7), (aT 8), (aT 9), (aT 10), (aT 11), (aT 12), (aT 13), (aT 14), (aT 15), (aT 16), (aT 17), (aB 0), (aB 1), (aB 2), (aB 3), (aB 4), (aB 5), (aB 6), (aB 7), (aB 8), (aB 9), (aB 10), (aB 11), (aB 12), (aB 13), (aB 14), (aB 15), (aB 16), (aB 17), (y 0)] rfl (by decide +kernel) ⟨rfl, rfl⟩ rfl (by decide +kernel) (Nat.le_of_ble_eq_true rfl) 0 6 rfl rfl rfl rfl hl.1 (Nat.le_of_ble_eq_true rfl) dL_law_744 ⟨Nat.le_of_ble_eq_true rfl, Nat.le_of_ble_eq_true rfl⟩ (fun H locs hP hD hS => ?_)
    show W p9 l e9 room_1 s9 m9 a9 b9 t9 c9 H locs 146 3194 Q (F0 m9 747 ls (.int r1C_8 :: []))
    have hP : va_P D vwCl (CW cI cT o aT aB aS g y z ad sk s0 s1 s2 t u tb1C_9 ub1C_10 ts us n ro hp q f f1 f2 ++ MW cI bm n q sp sk be fo op ha st t u ga ps tM uM f z3 m7 g8) H := hP
    have hD : va_D A (CW cI cT o aT aB aS g y z ad sk s0 s1 s2 t u tb1C_9 ub1C_10 ts us n ro hp q f f1 f2 ++ MW cI bm n q sp sk be fo op ha st t u ga ps tM uM f z3 m7 g8) := hD
    refine lv_aload_n hx hb dL_law_747 rfl (lv_at hl 2 rfl) ?_
    refine lv_aload_n hx hb dL_law_748 rfl (lv_at hl 0 rfl) ?_
    refine lv_iload_n hx hb dL_law_749 rfl (lv_at hl 3 rfl) ?_
    refine lv_iconst (v := 1) hx hb dL_law_750 (by decide) ?_
    refine lv_iadd hx hb dL_law_751 ?_
    refine ej_topi (show nI i + 1 = nI (i + 1) from nI_add i 1) ?_
    refine va_sld hx hb hX hbl hbA hS (vp_in_nI (n := i + 1) (N := L) (by omega) (by omega)) dL_law_752 ?_
    refine ej_topi (show xs (nI (i + 1)).toNatClampNeg = xs (i + 1) from congrArg xs (nI_clamp (by omega))) ?_
    refine lv_aload_n hx hb dL_law_753 rfl (lv_at hl 0 rfl) ?_
    refine lv_iload_n hx hb dL_law_754 rfl (lv_at hl 3 rfl) ?_
    refine lv_iconst (v := 2) hx hb dL_law_755 (by decide) ?_
    refine lv_iadd hx hb dL_law_756 ?_
    refine ej_topi (show nI i + 2 = nI (i + 2) from nI_add i 2) ?_
    refine va_sld hx hb hX hbl hbA hS (vp_in_nI (n := i + 2) (N := L) (by omega) (by omega)) dL_law_757 ?_
    refine ej_topi (show xs (nI (i + 2)).toNatClampNeg = xs (i + 2) from congrArg xs (nI_clamp (by omega))) ?_
    refine lv_if_eq (tgt := 765) hx hb dL_law_758 (by decide) (fun h9 => absurd h9 b_1) (fun _ => ?_)
    refine lv_iconst (v := 1) hx hb dL_law_761 (by decide) ?_
    refine lv_goto (tgt := 766) hx hb dL_law_762 (by decide) ?_
    refine lv_aload_n hx hb dL_law_766 rfl (lv_at hl 0 rfl) ?_
    refine lv_iload_n hx hb dL_law_767 rfl (lv_at hl 3 rfl) ?_
    refine lv_iconst (v := 3) hx hb dL_law_768 (by decide) ?_
    refine lv_iadd hx hb dL_law_769 ?_
    refine ej_topi (show nI i + 3 = nI (i + 3) from nI_add i 3) ?_
    refine va_sld hx hb hX hbl hbA hS (vp_in_nI (n := i + 3) (N := L) (by omega) (by omega)) dL_law_770 ?_
    refine ej_topi (show xs (nI (i + 3)).toNatClampNeg = xs (i + 3) from congrArg xs (nI_clamp (by omega))) ?_
    refine lv_aload_n hx hb dL_law_771 rfl (lv_at hl 0 rfl) ?_
    refine lv_iload_n hx hb dL_law_772 rfl (lv_at hl 3 rfl) ?_
    refine lv_iconst (v := 4) hx hb dL_law_773 (by decide) ?_
    refine lv_iadd hx hb dL_law_774 ?_
    refine ej_topi (show nI i + 4 = nI (i + 4) from nI_add i 4) ?_
    refine va_sld hx hb hX hbl hbA hS (vp_in_nI (n := i + 4) (N := L) (by omega) (by omega)) dL_law_775 ?_
    refine ej_topi (show xs (nI (i + 4)).toNatClampNeg = xs (i + 4) from congrArg xs (nI_clamp (by omega))) ?_
    obtain ⟨g1M_11, e_g1M_11⟩ : ∃ z9 : Nat → Int32, z9 = if inP (xs (i + 1)) 6 ∧ ((¬ (xs (i + 3)) < 1 ∧ ¬ 20 < (xs (i + 3))) ∧ inP (xs (i + 4)) 2) then flatS t u else ga := ⟨_, rfl⟩
    obtain ⟨be1M_12, e_be1M_12⟩ : ∃ z9 : Int32, z9 = if inP (xs (i + 1)) 6 ∧ ((¬ (xs (i + 3)) < 1 ∧ ¬ 20 < (xs (i + 3))) ∧ inP (xs (i + 4)) 2) then tbG t u (xs (i + 1)).toNatClampNeg 1 be (xs (i + 3)).toNatClampNeg else be := ⟨_, rfl⟩
    obtain ⟨r1M_13, e_r1M_13⟩ : ∃ z9 : Int32, z9 = if inP (xs (i + 1)) 6 ∧ ((¬ (xs (i + 3)) < 1 ∧ ¬ 20 < (xs (i + 3))) ∧ inP (xs (i + 4)) 2) then ifR t u (ifG t u (xs (i + 1)).toNatClampNeg 1 (xs (i + 3)).toNatClampNeg) (xs (i + 4)) else -1 := ⟨_, rfl⟩
    refine ej_VR (wa := MW cI bm n q sp sk be fo op ha st t u ga ps tM uM f z3 m7 g8) (wa' := MW cI bm n q sp sk be1M_12 fo op ha st t u g1M_11 ps tM uM f z3 m7 g8) (wb := CW cI cT o aT aB aS g y z ad sk s0 s1 s2 t u tb1C_9 ub1C_10 ts us n ro hp q f f1 f2) (As := [.int (xs (i + 1)), .int 1, .int (xs (i + 3)), .int (xs (i + 4))]) (rest := [.int r1C_8]) S hK hN hA hP hD hS (c_X7_ifShot l D tys cI ht0 bm n q sp sk be fo op ha st t u ga (xs (i + 1)) 1 (xs (i + 3)) (xs (i + 4)) g1M_11 e_g1M_11 be1M_12 e_be1M_12 r1M_13 e_r1M_13 hok.1 hok.2.1 hwk.1) (cwV 4 hts gL_law_X7_ifShot rfl rfl rfl hdv_X7_ifShot ⟨Nat.le_of_ble_eq_true rfl, Nat.le_of_ble_eq_true rfl⟩) [0, 1, 2] [some 0, some 1, some 2] [(bm 0), (bm 1), (bm 2)] rfl (by decide +kernel) ⟨rfl, rfl⟩ rfl (by decide +kernel) (Nat.le_of_ble_eq_true rfl) 0 7 rfl rfl rfl rfl hl.1 (Nat.le_of_ble_eq_true rfl) dL_law_776 ⟨Nat.le_of_ble_eq_true rfl, Nat.le_of_ble_eq_true rfl⟩ (fun H locs hP hD hS => ?_)
    show W p9 l e9 room_1 s9 m9 a9 b9 t9 c9 H locs 146 3194 Q (F0 m9 779 ls (.int r1M_13 :: [.int r1C_8]))
    have hP : va_P D vwCl (CW cI cT o aT aB aS g y z ad sk s0 s1 s2 t u tb1C_9 ub1C_10 ts us n ro hp q f f1 f2 ++ MW cI bm n q sp sk be1M_12 fo op ha st t u g1M_11 ps tM uM f z3 m7 g8) H := hP
    have hD : va_D A (CW cI cT o aT aB aS g y z ad sk s0 s1 s2 t u tb1C_9 ub1C_10 ts us n ro hp q f f1 f2 ++ MW cI bm n q sp sk be1M_12 fo op ha st t u g1M_11 ps tM uM f z3 m7 g8) := hD
    refine lv_icmp_eq (tgt := 862) hx hb dL_law_779 (by decide) (fun _ => ?_) (fun h9 => absurd (by rw [e_r1C_8, e_r1M_13]) h9)
    exact hLK sk s0 s1 s2 t u tb1C_9 ub1C_10 ts us n ro hp q f f1 f2 sp be1M_12 fo op ha st g1M_11 ps tM uM z3 m7 g8 H locs ls (LI_up hI (by omega)) hP hD hS hl
