set_option maxHeartbeats 4000000 in
set_option maxRecDepth 100000 in
theorem law_c22 (l : Launch) (D : va_G) (tys : eT) (cI : ClassId) (ht0 : tys[0]? = some (cI, .int)) (cT : ClassId) (ht1 : tys[1]? = some (cT, .object RX5)) {p9 : Program} {e9 : Env} {s9 : State} {m9 : MethodId} {a9 : Array Value} {b9 : List Frame} {t9 : Method} {c9 : Code} {A : Nat → Prop} {H0 : Heap} {Q : State → Prop} {o aT aB aS g y z : Nat → Nat} {ad : Nat → Nat → Nat} {bm : Nat → Nat} {bs i L : Nat} {xs : Nat → Int32} (S : CallFix p9 m9 c9 cL_law 8 s9 a9 wsL_law RL) (hK : va_K D vwCl tys s9) (hN : eN s9) (hA : ∀ q : Nat, H0.size ≤ q → A q) (hX : va_X bs L xs s9 H0) (hbl : bs < H0.size) (hbA : ¬ A bs) (hL : L ≤ 2560) (hi : i + 5 ≤ L)
    (hLK : LK p9 l e9 s9 m9 a9 b9 t9 c9 D A H0 Q cI cT o aT aB aS g y z ad bm bs i) {sk s0 s1 s2 : Int32} {t : Pn} {u : Tr} {tb : Pn} {ub : Tr} {ts : Pn} {us : Tr} {n ro : Nat} {hp : Nat → Pn × Tr} {q : Nat} {f f1 f2 : Nat → Int32} {sp : Nat} {be fo op ha st : Int32} {ga : Nat → Int32} {ps : Nat → Pn × Tr} {tM : Pn} {uM : Tr} {z3 m7 g8 : Nat → Int32} (hI : LI (12 * i) n ro hp ps t u sk ts us tM uM q s0 s1 s2 st z3) {H : Heap} {locs : List Loc} {ls : Array Slot} (hP : va_P D vwCl (CW cI cT o aT aB aS g y z ad sk s0 s1 s2 t u tb ub ts us n ro hp q f f1 f2 ++ MW cI bm n q sp sk be fo op ha st t u ga ps tM uM f z3 m7 g8) H) (hD : va_D A (CW cI cT o aT aB aS g y z ad sk s0 s1 s2 t u tb ub ts us n ro hp q f f1 f2 ++ MW cI bm n q sp sk be fo op ha st t u ga ps tM uM f z3 m7 g8)) (hS : va_S A H0 H locs) (hl : lv_has ls 8 [(0, .ref bs), (1, .ref (o 0)), (2, .ref (bm 0)), (3, .int (nI i))]) : W p9 l e9 room_1 s9 m9 a9 b9 t9 c9 H locs 146 3194 Q (F0 m9 784 ls []) := by
  obtain ⟨hx, hb, hml, hown, hts⟩ := id S
  obtain ⟨⟨hok, hwk, hsn⟩, ⟨hn4, hr4, hq60⟩, hhis, hsav, hstp⟩ := id hI
  refine lv_aload_n hx hb dL_law_784 rfl (lv_at hl 1 rfl) ?_
  refine lv_aload_n hx hb dL_law_785 rfl (lv_at hl 0 rfl) ?_
  refine lv_iload_n hx hb dL_law_786 rfl (lv_at hl 3 rfl) ?_
  refine lv_iconst (v := 1) hx hb dL_law_787 (by decide) ?_
  refine lv_iadd hx hb dL_law_788 ?_
  refine ej_topi (show nI i + 1 = nI (i + 1) from nI_add i 1) ?_
  refine va_sld hx hb hX hbl hbA hS (vp_in_nI (n := i + 1) (N := L) (by omega) (by omega)) dL_law_789 ?_
  refine ej_topi (show xs (nI (i + 1)).toNatClampNeg = xs (i + 1) from congrArg xs (nI_clamp (by omega))) ?_
  refine lv_if_eq (tgt := 797) hx hb dL_law_790 (by decide) (fun b_1 => ?_) (fun b_1 => ?_)
  · refine lv_iconst (v := 0) hx hb dL_law_797 (by decide) ?_
    obtain ⟨r1C_2, e_r1C_2⟩ : ∃ z9 : Int32, z9 = if 0 < T_le u then nI (bstG t u 0 7).1 else -2 := ⟨_, rfl⟩
    obtain ⟨tb1C_3, e_tb1C_3⟩ : ∃ z9 : Pn, z9 = if 0 < T_le u then shP t u 6 0 else tb := ⟨_, rfl⟩
    obtain ⟨ub1C_4, e_ub1C_4⟩ : ∃ z9 : Tr, z9 = if 0 < T_le u then shU t u 6 0 else ub := ⟨_, rfl⟩
    refine ej_VL (wa := CW cI cT o aT aB aS g y z ad sk s0 s1 s2 t u tb ub ts us n ro hp q f f1 f2) (wa' := CW cI cT o aT aB aS g y z ad sk s0 s1 s2 t u tb1C_3 ub1C_4 ts us n ro hp q f f1 f2) (wb := MW cI bm n q sp sk be fo op ha st t u ga ps tM uM f z3 m7 g8) (As := [.int 0]) (rest := []) S hK hN hA hP hD hS (c_X6_best l D tys cI ht0 o aT aB aS g y z sk s0 s1 s2 t u tb ub 0 r1C_2 e_r1C_2 tb1C_3 e_tb1C_3 ub1C_4 e_ub1C_4 hok.1) (cwV 1 hts gL_law_X6_best rfl rfl rfl hdv_X6_best ⟨Nat.le_of_ble_eq_true rfl, Nat.le_of_ble_eq_true rfl⟩) [0, 1, 2, 3, 4, 5, 6, 7, 8, 9, 10, 11, 12, 13, 14, 15, 16, 17, 18, 19, 20, 21, 22, 23, 24, 25, 26, 27, 28, 29, 30, 31, 32, 33, 34, 35, 36, 129] [some 0, some 1, some 2, some 3, some 4, some 5, some 6, some 7, some 8, some 9, some 10, some 11, some 12, some 13, some 14, some 15, some 16, some 17, some 18, some 19, some 20, some 21, some 22, some 23, some 24, some 25, some 26, some 27, some 28, some 29, some 30, some 31, some 32, some 33, some 34, some 35, some 36, none, none, none, none, none, none, none, none, none, none, none, none, none, none, none, none, none, none, none, none, none, none, none, none, none, none, none, none, none, none, none, none, none, none, none, none, none, none, none, none, none, none, none, none, none, none, none, none, none, none, none, none, none, none, none, none, none, none, none, none, none, none, none, none, none, none, none, none, none, none, none, none, none, none, none, none, none, none, none, none, none, none, none, none, none, none, none, none, none, none, none, none, some 37] [(o 0), (aT 0), (aT 1), (aT 2), (aT 3), (aT 4), (aT 5), (aT 6), (aT 7), (aT 8), (aT 9), (aT 10), (aT 11), (aT 12), (aT 13), (aT 14), (aT 15), (aT 16), (aT 17), (aB 0), (aB 1), (aB 2), (aB 3), (aB 4), (aB 5), (aB 6), (aB 7), (aB 8), (aB 9), (aB 10), (aB 11), (aB 12), (aB 13), (aB 14), (aB 15), (aB 16), (aB 17), (y 0)] rfl (by decide +kernel) ⟨rfl, rfl⟩ rfl (by decide +kernel) (Nat.le_of_ble_eq_true rfl) 0 6 rfl rfl rfl rfl hl.1 (Nat.le_of_ble_eq_true rfl) dL_law_798 ⟨Nat.le_of_ble_eq_true rfl, Nat.le_of_ble_eq_true rfl⟩ (fun H locs hP hD hS => ?_)
    show W p9 l e9 room_1 s9 m9 a9 b9 t9 c9 H locs 146 3194 Q (F0 m9 801 ls (.int r1C_2 :: []))
    have hP : va_P D vwCl (CW cI cT o aT aB aS g y z ad sk s0 s1 s2 t u tb1C_3 ub1C_4 ts us n ro hp q f f1 f2 ++ MW cI bm n q sp sk be fo op ha st t u ga ps tM uM f z3 m7 g8) H := hP
    have hD : va_D A (CW cI cT o aT aB aS g y z ad sk s0 s1 s2 t u tb1C_3 ub1C_4 ts us n ro hp q f f1 f2 ++ MW cI bm n q sp sk be fo op ha st t u ga ps tM uM f z3 m7 g8) := hD
    refine lv_aload_n hx hb dL_law_801 rfl (lv_at hl 2 rfl) ?_
    refine lv_aload_n hx hb dL_law_802 rfl (lv_at hl 0 rfl) ?_
    refine lv_iload_n hx hb dL_law_803 rfl (lv_at hl 3 rfl) ?_
    refine lv_iconst (v := 1) hx hb dL_law_804 (by decide) ?_
    refine lv_iadd hx hb dL_law_805 ?_
    refine ej_topi (show nI i + 1 = nI (i + 1) from nI_add i 1) ?_
    refine va_sld hx hb hX hbl hbA hS (vp_in_nI (n := i + 1) (N := L) (by omega) (by omega)) dL_law_806 ?_
    refine ej_topi (show xs (nI (i + 1)).toNatClampNeg = xs (i + 1) from congrArg xs (nI_clamp (by omega))) ?_
    refine lv_if_eq (tgt := 814) hx hb dL_law_807 (by decide) (fun _ => ?_) (fun h9 => absurd b_1 h9)
    refine lv_iconst (v := 0) hx hb dL_law_814 (by decide) ?_
    obtain ⟨g1M_5, e_g1M_5⟩ : ∃ z9 : Nat → Int32, z9 = if ¬ T_le u = 0 then flatS t u else ga := ⟨_, rfl⟩
    obtain ⟨be1M_6, e_be1M_6⟩ : ∃ z9 : Int32, z9 = if ¬ T_le u = 0 then bbG t u 0 be 7 else be := ⟨_, rfl⟩
    obtain ⟨r1M_7, e_r1M_7⟩ : ∃ z9 : Int32, z9 = if ¬ T_le u = 0 then nI (bmS t u 0 7).1 else -2 := ⟨_, rfl⟩
    refine ej_VR (wa := MW cI bm n q sp sk be fo op ha st t u ga ps tM uM f z3 m7 g8) (wa' := MW cI bm n q sp sk be1M_6 fo op ha st t u g1M_5 ps tM uM f z3 m7 g8) (wb := CW cI cT o aT aB aS g y z ad sk s0 s1 s2 t u tb1C_3 ub1C_4 ts us n ro hp q f f1 f2) (As := [.int 0]) (rest := [.int r1C_2]) S hK hN hA hP hD hS (c_X7_best l D tys cI ht0 bm n q sp sk be fo op ha st t u ga 0 g1M_5 e_g1M_5 be1M_6 e_be1M_6 r1M_7 e_r1M_7 hok.1 hok.2.1 hwk.1) (cwV 1 hts gL_law_X7_best rfl rfl rfl hdv_X7_best ⟨Nat.le_of_ble_eq_true rfl, Nat.le_of_ble_eq_true rfl⟩) [0, 1, 2] [some 0, some 1, some 2] [(bm 0), (bm 1), (bm 2)] rfl (by decide +kernel) ⟨rfl, rfl⟩ rfl (by decide +kernel) (Nat.le_of_ble_eq_true rfl) 0 7 rfl rfl rfl rfl hl.1 (Nat.le_of_ble_eq_true rfl) dL_law_815 ⟨Nat.le_of_ble_eq_true rfl, Nat.le_of_ble_eq_true rfl⟩ (fun H locs hP hD hS => ?_)
    show W p9 l e9 room_1 s9 m9 a9 b9 t9 c9 H locs 146 3194 Q (F0 m9 818 ls (.int r1M_7 :: [.int r1C_2]))
    have hP : va_P D vwCl (CW cI cT o aT aB aS g y z ad sk s0 s1 s2 t u tb1C_3 ub1C_4 ts us n ro hp q f f1 f2 ++ MW cI bm n q sp sk be1M_6 fo op ha st t u g1M_5 ps tM uM f z3 m7 g8) H := hP
    have hD : va_D A (CW cI cT o aT aB aS g y z ad sk s0 s1 s2 t u tb1C_3 ub1C_4 ts us n ro hp q f f1 f2 ++ MW cI bm n q sp sk be1M_6 fo op ha st t u g1M_5 ps tM uM f z3 m7 g8) := hD
    refine lv_icmp_eq (tgt := 862) hx hb dL_law_818 (by decide) (fun _ => ?_) (fun h9 => absurd (by rw [e_r1C_2, e_r1M_7]; exact best_fin _ hok hwk) h9)
    exact hLK sk s0 s1 s2 t u tb1C_3 ub1C_4 ts us n ro hp q f f1 f2 sp be1M_6 fo op ha st g1M_5 ps tM uM z3 m7 g8 H locs ls (LI_up hI (by omega)) hP hD hS hl
  · refine lv_iconst (v := 1) hx hb dL_law_793 (by decide) ?_
    refine lv_goto (tgt := 798) hx hb dL_law_794 (by decide) ?_
    obtain ⟨r1C_8, e_r1C_8⟩ : ∃ z9 : Int32, z9 = if 0 < T_le u then nI (bstG t u 1 7).1 else -2 := ⟨_, rfl⟩
    obtain ⟨tb1C_9, e_tb1C_9⟩ : ∃ z9 : Pn, z9 = if 0 < T_le u then shP t u 6 1 else tb := ⟨_, rfl⟩
    obtain ⟨ub1C_10, e_ub1C_10⟩ : ∃ z9 : Tr, z9 = if 0 < T_le u then shU t u 6 1 else ub := ⟨_, rfl⟩
    refine ej_VL (wa := CW cI cT o aT aB aS g y z ad sk s0 s1 s2 t u tb ub ts us n ro hp q f f1 f2) (wa' := CW cI cT o aT aB aS g y z ad sk s0 s1 s2 t u tb1C_9 ub1C_10 ts us n ro hp q f f1 f2) (wb := MW cI bm n q sp sk be fo op ha st t u ga ps tM uM f z3 m7 g8) (As := [.int 1]) (rest := []) S hK hN hA hP hD hS (c_X6_best l D tys cI ht0 o aT aB aS g y z sk s0 s1 s2 t u tb ub 1 r1C_8 e_r1C_8 tb1C_9 e_tb1C_9 ub1C_10 e_ub1C_10 hok.1) (cwV 1 hts gL_law_X6_best rfl rfl rfl hdv_X6_best ⟨Nat.le_of_ble_eq_true rfl, Nat.le_of_ble_eq_true rfl⟩) [0, 1, 2, 3, 4, 5, 6, 7, 8, 9, 10, 11, 12, 13, 14, 15, 16, 17, 18, 19, 20, 21, 22, 23, 24, 25, 26, 27, 28, 29, 30, 31, 32, 33, 34, 35, 36, 129] [some 0, some 1, some 2, some 3, some 4, some 5, some 6, some 7, some 8, some 9, some 10, some 11, some 12, some 13, some 14, some 15, some 16, some 17, some 18, some 19, some 20, some 21, some 22, some 23, some 24, some 25, some 26, some 27, some 28, some 29, some 30, some 31, some 32, some 33, some 34, some 35, some 36, none, none, none, none, none, none, none, none, none, none, none, none, none, none, none, none, none, none, none, none, none, none, none, none, none, none, none, none, none, none, none, none, none, none, none, none, none, none, none, none, none, none, none, none, none, none, none, none, none, none, none, none, none, none, none, none, none, none, none, none, none, none, none, none, none, none, none, none, none, none, none, none, none, none, none, none, none, none, none, none, none, none, none, none, none, none, none, none, none, none, none, none, some 37] [(o 0), (aT 0), (aT 1), (aT 2), (aT 3), (aT 4), (aT 5), (aT 6), (aT 7), (aT 8), (aT 9), (aT 10), (aT 11), (aT 12), (aT 13), (aT 14), (aT 15), (aT 16), (aT 17), (aB 0), (aB 1), (aB 2), (aB 3), (aB 4), (aB 5), (aB 6), (aB 7), (aB 8), (aB 9), (aB 10), (aB 11), (aB 12), (aB 13), (aB 14), (aB 15), (aB 16), (aB 17), (y 0)] rfl (by decide +kernel) ⟨rfl, rfl⟩ rfl (by decide +kernel) (Nat.le_of_ble_eq_true rfl) 0 6 rfl rfl rfl rfl hl.1 (Nat.le_of_ble_eq_true rfl) dL_law_798 ⟨Nat.le_of_ble_eq_true rfl, Nat.le_of_ble_eq_true rfl⟩ (fun H locs hP hD hS => ?_)
    show W p9 l e9 room_1 s9 m9 a9 b9 t9 c9 H locs 146 3194 Q (F0 m9 801 ls (.int r1C_8 :: []))
    have hP : va_P D vwCl (CW cI cT o aT aB aS g y z ad sk s0 s1 s2 t u tb1C_9 ub1C_10 ts us n ro hp q f f1 f2 ++ MW cI bm n q sp sk be fo op ha st t u ga ps tM uM f z3 m7 g8) H := hP
    have hD : va_D A (CW cI cT o aT aB aS g y z ad sk s0 s1 s2 t u tb1C_9 ub1C_10 ts us n ro hp q f f1 f2 ++ MW cI bm n q sp sk be fo op ha st t u ga ps tM uM f z3 m7 g8) := hD
    refine lv_aload_n hx hb dL_law_801 rfl (lv_at hl 2 rfl) ?_
    refine lv_aload_n hx hb dL_law_802 rfl (lv_at hl 0 rfl) ?_
    refine lv_iload_n hx hb dL_law_803 rfl (lv_at hl 3 rfl) ?_
    refine lv_iconst (v := 1) hx hb dL_law_804 (by decide) ?_
    refine lv_iadd hx hb dL_law_805 ?_
    refine ej_topi (show nI i + 1 = nI (i + 1) from nI_add i 1) ?_
    refine va_sld hx hb hX hbl hbA hS (vp_in_nI (n := i + 1) (N := L) (by omega) (by omega)) dL_law_806 ?_
    refine ej_topi (show xs (nI (i + 1)).toNatClampNeg = xs (i + 1) from congrArg xs (nI_clamp (by omega))) ?_
    refine lv_if_eq (tgt := 814) hx hb dL_law_807 (by decide) (fun h9 => absurd h9 b_1) (fun _ => ?_)
    refine lv_iconst (v := 1) hx hb dL_law_810 (by decide) ?_
    refine lv_goto (tgt := 815) hx hb dL_law_811 (by decide) ?_
    obtain ⟨g1M_11, e_g1M_11⟩ : ∃ z9 : Nat → Int32, z9 = if ¬ T_le u = 0 then flatS t u else ga := ⟨_, rfl⟩
    obtain ⟨be1M_12, e_be1M_12⟩ : ∃ z9 : Int32, z9 = if ¬ T_le u = 0 then bbG t u 1 be 7 else be := ⟨_, rfl⟩
    obtain ⟨r1M_13, e_r1M_13⟩ : ∃ z9 : Int32, z9 = if ¬ T_le u = 0 then nI (bmS t u 1 7).1 else -2 := ⟨_, rfl⟩
    refine ej_VR (wa := MW cI bm n q sp sk be fo op ha st t u ga ps tM uM f z3 m7 g8) (wa' := MW cI bm n q sp sk be1M_12 fo op ha st t u g1M_11 ps tM uM f z3 m7 g8) (wb := CW cI cT o aT aB aS g y z ad sk s0 s1 s2 t u tb1C_9 ub1C_10 ts us n ro hp q f f1 f2) (As := [.int 1]) (rest := [.int r1C_8]) S hK hN hA hP hD hS (c_X7_best l D tys cI ht0 bm n q sp sk be fo op ha st t u ga 1 g1M_11 e_g1M_11 be1M_12 e_be1M_12 r1M_13 e_r1M_13 hok.1 hok.2.1 hwk.1) (cwV 1 hts gL_law_X7_best rfl rfl rfl hdv_X7_best ⟨Nat.le_of_ble_eq_true rfl, Nat.le_of_ble_eq_true rfl⟩) [0, 1, 2] [some 0, some 1, some 2] [(bm 0), (bm 1), (bm 2)] rfl (by decide +kernel) ⟨rfl, rfl⟩ rfl (by decide +kernel) (Nat.le_of_ble_eq_true rfl) 0 7 rfl rfl rfl rfl hl.1 (Nat.le_of_ble_eq_true rfl) dL_law_815 ⟨Nat.le_of_ble_eq_true rfl, Nat.le_of_ble_eq_true rfl⟩ (fun H locs hP hD hS => ?_)
    show W p9 l e9 room_1 s9 m9 a9 b9 t9 c9 H locs 146 3194 Q (F0 m9 818 ls (.int r1M_13 :: [.int r1C_8]))
    have hP : va_P D vwCl (CW cI cT o aT aB aS g y z ad sk s0 s1 s2 t u tb1C_9 ub1C_10 ts us n ro hp q f f1 f2 ++ MW cI bm n q sp sk be1M_12 fo op ha st t u g1M_11 ps tM uM f z3 m7 g8) H := hP
    have hD : va_D A (CW cI cT o aT aB aS g y z ad sk s0 s1 s2 t u tb1C_9 ub1C_10 ts us n ro hp q f f1 f2 ++ MW cI bm n q sp sk be1M_12 fo op ha st t u g1M_11 ps tM uM f z3 m7 g8) := hD
    refine lv_icmp_eq (tgt := 862) hx hb dL_law_818 (by decide) (fun _ => ?_) (fun h9 => absurd (by rw [e_r1C_8, e_r1M_13]; exact best_fin _ hok hwk) h9)
    exact hLK sk s0 s1 s2 t u tb1C_9 ub1C_10 ts us n ro hp q f f1 f2 sp be1M_12 fo op ha st g1M_11 ps tM uM z3 m7 g8 H locs ls (LI_up hI (by omega)) hP hD hS hl
