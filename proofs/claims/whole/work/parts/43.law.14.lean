set_option maxHeartbeats 4000000 in
set_option maxRecDepth 100000 in
theorem law_c14 (l : Launch) (D : va_G) (tys : eT) (cI : ClassId) (ht0 : tys[0]? = some (cI, .int)) (cT : ClassId) (ht1 : tys[1]? = some (cT, .object RX5)) {p9 : Program} {e9 : Env} {s9 : State} {m9 : MethodId} {a9 : Array Value} {b9 : List Frame} {t9 : Method} {c9 : Code} {A : Nat → Prop} {H0 : Heap} {Q : State → Prop} {o aT aB aS g y z : Nat → Nat} {ad : Nat → Nat → Nat} {bm : Nat → Nat} {bs i L : Nat} {xs : Nat → Int32} (S : CallFix p9 m9 c9 cL_law 8 s9 a9 wsL_law RL) (hK : va_K D vwCl tys s9) (hN : eN s9) (hA : ∀ q : Nat, H0.size ≤ q → A q) (hX : va_X bs L xs s9 H0) (hbl : bs < H0.size) (hbA : ¬ A bs) (hL : L ≤ 2560) (hi : i + 5 ≤ L)
    (hLK : LK p9 l e9 s9 m9 a9 b9 t9 c9 D A H0 Q cI cT o aT aB aS g y z ad bm bs i) {sk s0 s1 s2 : Int32} {t : Pn} {u : Tr} {tb : Pn} {ub : Tr} {ts : Pn} {us : Tr} {n ro : Nat} {hp : Nat → Pn × Tr} {q : Nat} {f f1 f2 : Nat → Int32} {sp : Nat} {be fo op ha st : Int32} {ga : Nat → Int32} {ps : Nat → Pn × Tr} {tM : Pn} {uM : Tr} {z3 m7 g8 : Nat → Int32} (hI : LI (12 * i) n ro hp ps t u sk ts us tM uM q s0 s1 s2 st z3) {H : Heap} {locs : List Loc} {ls : Array Slot} (hP : va_P D vwCl (CW cI cT o aT aB aS g y z ad sk s0 s1 s2 t u tb ub ts us n ro hp q f f1 f2 ++ MW cI bm n q sp sk be fo op ha st t u ga ps tM uM f z3 m7 g8) H) (hD : va_D A (CW cI cT o aT aB aS g y z ad sk s0 s1 s2 t u tb ub ts us n ro hp q f f1 f2 ++ MW cI bm n q sp sk be fo op ha st t u ga ps tM uM f z3 m7 g8)) (hS : va_S A H0 H locs) (hl : lv_has ls 8 [(0, .ref bs), (1, .ref (o 0)), (2, .ref (bm 0)), (3, .int (nI i))]) : W p9 l e9 room_1 s9 m9 a9 b9 t9 c9 H locs 146 3194 Q (F0 m9 506 ls []) := by
  obtain ⟨hx, hb, hml, hown, hts⟩ := id S
  obtain ⟨⟨hok, hwk, hsn⟩, ⟨hn4, hr4, hq60⟩, hhis, hsav, hstp⟩ := id hI
  refine lv_aload_n hx hb dL_law_506 rfl (lv_at hl 1 rfl) ?_
  refine lv_aload_n hx hb dL_law_507 rfl (lv_at hl 0 rfl) ?_
  refine lv_iload_n hx hb dL_law_508 rfl (lv_at hl 3 rfl) ?_
  refine lv_iconst (v := 1) hx hb dL_law_509 (by decide) ?_
  refine lv_iadd hx hb dL_law_510 ?_
  refine ej_topi (show nI i + 1 = nI (i + 1) from nI_add i 1) ?_
  refine va_sld hx hb hX hbl hbA hS (vp_in_nI (n := i + 1) (N := L) (by omega) (by omega)) dL_law_511 ?_
  refine ej_topi (show xs (nI (i + 1)).toNatClampNeg = xs (i + 1) from congrArg xs (nI_clamp (by omega))) ?_
  refine lv_aload_n hx hb dL_law_512 rfl (lv_at hl 0 rfl) ?_
  refine lv_iload_n hx hb dL_law_513 rfl (lv_at hl 3 rfl) ?_
  refine lv_iconst (v := 2) hx hb dL_law_514 (by decide) ?_
  refine lv_iadd hx hb dL_law_515 ?_
  refine ej_topi (show nI i + 2 = nI (i + 2) from nI_add i 2) ?_
  refine va_sld hx hb hX hbl hbA hS (vp_in_nI (n := i + 2) (N := L) (by omega) (by omega)) dL_law_516 ?_
  refine ej_topi (show xs (nI (i + 2)).toNatClampNeg = xs (i + 2) from congrArg xs (nI_clamp (by omega))) ?_
  obtain ⟨r1C_1, e_r1C_1⟩ : ∃ z9 : Int32, z9 = if inP (xs (i + 1)) 34 then pinR t (xs (i + 1)).toNatClampNeg (xs (i + 2)) else -1 := ⟨_, rfl⟩
  refine ej_VL (wa := CW cI cT o aT aB aS g y z ad sk s0 s1 s2 t u tb ub ts us n ro hp q f f1 f2) (wa' := CW cI cT o aT aB aS g y z ad sk s0 s1 s2 t u tb ub ts us n ro hp q f f1 f2) (wb := MW cI bm n q sp sk be fo op ha st t u ga ps tM uM f z3 m7 g8) (As := [.int (xs (i + 1)), .int (xs (i + 2))]) (rest := []) S hK hN hA hP hD hS (c_X6_pin l D tys cI ht0 o aT aB aS g y z sk s0 s1 s2 t u (xs (i + 1)) (xs (i + 2)) r1C_1 e_r1C_1 hok.1) (cwV 2 hts gL_law_X6_pin rfl rfl rfl hdv_X6_pin ⟨Nat.le_of_ble_eq_true rfl, Nat.le_of_ble_eq_true rfl⟩) [0, 1, 2, 3, 4, 5, 6, 7, 8, 9, 10, 11, 12, 13, 14, 15, 16, 17, 18, 129] [some 0, some 1, some 2, some 3, some 4, some 5, some 6, some 7, some 8, some 9, some 10, some 11, some 12, some 13, some 14, some 15, some 16, some 17, some 18, none, none, none, none, none, none, none, none, none, none, none, none, none, none, none, none, none, none, none, none, none, none, none, none, none, none, none, none, none, none, none, none, none, none, none, none, none, none, none, none, none, none, none, none, none, none, none, none, none, none, none, none, none, none, none, none, none, none, none, none, none, none, none, none, none, none, none, none, none, none, none, none, none, none, none, none, none, none, none, none, none, none, none, none, none, none, none, none, none, none, none, none, none, none, none, none, none, none, none, none, none, none, none, none, none, none, none, none, none, none, some 19] [(o 0), (aT 0), (aT 1), (aT 2), (aT 3), (aT 4), (aT 5), (aT 6), (aT 7), (aT 8), (aT 9), (aT 10), (aT 11), (aT 12), (aT 13), (aT 14), (aT 15), (aT 16), (aT 17), (y 0)] rfl (by decide +kernel) ⟨rfl, rfl⟩ rfl (by decide +kernel) (Nat.le_of_ble_eq_true rfl) 0 6 rfl rfl rfl rfl hl.1 (Nat.le_of_ble_eq_true rfl) dL_law_517 ⟨Nat.le_of_ble_eq_true rfl, Nat.le_of_ble_eq_true rfl⟩ (fun H locs hP hD hS => ?_)
  show W p9 l e9 room_1 s9 m9 a9 b9 t9 c9 H locs 146 3194 Q (F0 m9 520 ls (.int r1C_1 :: []))
  have hP : va_P D vwCl (CW cI cT o aT aB aS g y z ad sk s0 s1 s2 t u tb ub ts us n ro hp q f f1 f2 ++ MW cI bm n q sp sk be fo op ha st t u ga ps tM uM f z3 m7 g8) H := hP
  have hD : va_D A (CW cI cT o aT aB aS g y z ad sk s0 s1 s2 t u tb ub ts us n ro hp q f f1 f2 ++ MW cI bm n q sp sk be fo op ha st t u ga ps tM uM f z3 m7 g8) := hD
  rcases Decidable.em ((xs (i + 2)) = 0) with k_1 | k_1
  · refine lv_aload_n hx hb dL_law_520 rfl (lv_at hl 2 rfl) ?_
    refine lv_aload_n hx hb dL_law_521 rfl (lv_at hl 0 rfl) ?_
    refine lv_iload_n hx hb dL_law_522 rfl (lv_at hl 3 rfl) ?_
    refine lv_iconst (v := 1) hx hb dL_law_523 (by decide) ?_
    refine lv_iadd hx hb dL_law_524 ?_
    refine ej_topi (show nI i + 1 = nI (i + 1) from nI_add i 1) ?_
    refine va_sld hx hb hX hbl hbA hS (vp_in_nI (n := i + 1) (N := L) (by omega) (by omega)) dL_law_525 ?_
    refine ej_topi (show xs (nI (i + 1)).toNatClampNeg = xs (i + 1) from congrArg xs (nI_clamp (by omega))) ?_
    refine lv_aload_n hx hb dL_law_526 rfl (lv_at hl 0 rfl) ?_
    refine lv_iload_n hx hb dL_law_527 rfl (lv_at hl 3 rfl) ?_
    refine lv_iconst (v := 2) hx hb dL_law_528 (by decide) ?_
    refine lv_iadd hx hb dL_law_529 ?_
    refine ej_topi (show nI i + 2 = nI (i + 2) from nI_add i 2) ?_
    refine va_sld hx hb hX hbl hbA hS (vp_in_nI (n := i + 2) (N := L) (by omega) (by omega)) dL_law_530 ?_
    refine ej_topi (show xs (nI (i + 2)).toNatClampNeg = xs (i + 2) from congrArg xs (nI_clamp (by omega))) ?_
    refine ej_topi (show xs (i + 2) = 0 from k_1) ?_
    obtain ⟨r1M_2, e_r1M_2⟩ : ∃ z9 : Int32, z9 = if inP (xs (i + 1)) 34 then if P_ou t (xs (i + 1)).toNatClampNeg = 0 then P_be t (xs (i + 1)).toNatClampNeg + 3 else -4 else -1 := ⟨_, rfl⟩
    refine ej_VR (wa := MW cI bm n q sp sk be fo op ha st t u ga ps tM uM f z3 m7 g8) (wa' := MW cI bm n q sp sk be fo op ha st t u ga ps tM uM f z3 m7 g8) (wb := CW cI cT o aT aB aS g y z ad sk s0 s1 s2 t u tb ub ts us n ro hp q f f1 f2) (As := [.int (xs (i + 1)), .int 0]) (rest := [.int r1C_1]) S hK hN hA hP hD hS (c_X7_pin_0 l D tys cI ht0 bm n q sp sk be fo op ha st t u (xs (i + 1)) r1M_2 e_r1M_2 hok.1 hok.2.1) (cwV 2 hts gL_law_X7_pin rfl rfl rfl hdv_X7_pin ⟨Nat.le_of_ble_eq_true rfl, Nat.le_of_ble_eq_true rfl⟩) [0, 1] [some 0, some 1] [(bm 0), (bm 1)] rfl (by decide +kernel) ⟨rfl, rfl⟩ rfl (by decide +kernel) (Nat.le_of_ble_eq_true rfl) 0 7 rfl rfl rfl rfl hl.1 (Nat.le_of_ble_eq_true rfl) dL_law_531 ⟨Nat.le_of_ble_eq_true rfl, Nat.le_of_ble_eq_true rfl⟩ (fun H locs hP hD hS => ?_)
    show W p9 l e9 room_1 s9 m9 a9 b9 t9 c9 H locs 146 3194 Q (F0 m9 534 ls (.int r1M_2 :: [.int r1C_1]))
    have hP : va_P D vwCl (CW cI cT o aT aB aS g y z ad sk s0 s1 s2 t u tb ub ts us n ro hp q f f1 f2 ++ MW cI bm n q sp sk be fo op ha st t u ga ps tM uM f z3 m7 g8) H := hP
    have hD : va_D A (CW cI cT o aT aB aS g y z ad sk s0 s1 s2 t u tb ub ts us n ro hp q f f1 f2 ++ MW cI bm n q sp sk be fo op ha st t u ga ps tM uM f z3 m7 g8) := hD
    refine lv_icmp_eq (tgt := 862) hx hb dL_law_534 (by decide) (fun _ => ?_) (fun h9 => absurd (by rw [e_r1C_1, k_1, e_r1M_2]; rfl) h9)
    exact hLK sk s0 s1 s2 t u tb ub ts us n ro hp q f f1 f2 sp be fo op ha st ga ps tM uM z3 m7 g8 H locs ls (LI_up hI (by omega)) hP hD hS hl
  · rcases Decidable.em ((xs (i + 2)) = 1) with k_2 | k_2
    · refine lv_aload_n hx hb dL_law_520 rfl (lv_at hl 2 rfl) ?_
      refine lv_aload_n hx hb dL_law_521 rfl (lv_at hl 0 rfl) ?_
      refine lv_iload_n hx hb dL_law_522 rfl (lv_at hl 3 rfl) ?_
      refine lv_iconst (v := 1) hx hb dL_law_523 (by decide) ?_
      refine lv_iadd hx hb dL_law_524 ?_
      refine ej_topi (show nI i + 1 = nI (i + 1) from nI_add i 1) ?_
      refine va_sld hx hb hX hbl hbA hS (vp_in_nI (n := i + 1) (N := L) (by omega) (by omega)) dL_law_525 ?_
      refine ej_topi (show xs (nI (i + 1)).toNatClampNeg = xs (i + 1) from congrArg xs (nI_clamp (by omega))) ?_
      refine lv_aload_n hx hb dL_law_526 rfl (lv_at hl 0 rfl) ?_
      refine lv_iload_n hx hb dL_law_527 rfl (lv_at hl 3 rfl) ?_
      refine lv_iconst (v := 2) hx hb dL_law_528 (by decide) ?_
      refine lv_iadd hx hb dL_law_529 ?_
      refine ej_topi (show nI i + 2 = nI (i + 2) from nI_add i 2) ?_
      refine va_sld hx hb hX hbl hbA hS (vp_in_nI (n := i + 2) (N := L) (by omega) (by omega)) dL_law_530 ?_
      refine ej_topi (show xs (nI (i + 2)).toNatClampNeg = xs (i + 2) from congrArg xs (nI_clamp (by omega))) ?_
      refine ej_topi (show xs (i + 2) = 1 from k_2) ?_
      obtain ⟨r1M_3, e_r1M_3⟩ : ∃ z9 : Int32, z9 = if inP (xs (i + 1)) 34 then P_bl t (xs (i + 1)).toNatClampNeg else -1 := ⟨_, rfl⟩
      refine ej_VR (wa := MW cI bm n q sp sk be fo op ha st t u ga ps tM uM f z3 m7 g8) (wa' := MW cI bm n q sp sk be fo op ha st t u ga ps tM uM f z3 m7 g8) (wb := CW cI cT o aT aB aS g y z ad sk s0 s1 s2 t u tb ub ts us n ro hp q f f1 f2) (As := [.int (xs (i + 1)), .int 1]) (rest := [.int r1C_1]) S hK hN hA hP hD hS (c_X7_pin_1 l D tys cI ht0 bm n q sp sk be fo op ha st t u (xs (i + 1)) r1M_3 e_r1M_3 hok.1 hok.2.1) (cwV 2 hts gL_law_X7_pin rfl rfl rfl hdv_X7_pin ⟨Nat.le_of_ble_eq_true rfl, Nat.le_of_ble_eq_true rfl⟩) [0, 1] [some 0, some 1] [(bm 0), (bm 1)] rfl (by decide +kernel) ⟨rfl, rfl⟩ rfl (by decide +kernel) (Nat.le_of_ble_eq_true rfl) 0 7 rfl rfl rfl rfl hl.1 (Nat.le_of_ble_eq_true rfl) dL_law_531 ⟨Nat.le_of_ble_eq_true rfl, Nat.le_of_ble_eq_true rfl⟩ (fun H locs hP hD hS => ?_)
      show W p9 l e9 room_1 s9 m9 a9 b9 t9 c9 H locs 146 3194 Q (F0 m9 534 ls (.int r1M_3 :: [.int r1C_1]))
      have hP : va_P D vwCl (CW cI cT o aT aB aS g y z ad sk s0 s1 s2 t u tb ub ts us n ro hp q f f1 f2 ++ MW cI bm n q sp sk be fo op ha st t u ga ps tM uM f z3 m7 g8) H := hP
      have hD : va_D A (CW cI cT o aT aB aS g y z ad sk s0 s1 s2 t u tb ub ts us n ro hp q f f1 f2 ++ MW cI bm n q sp sk be fo op ha st t u ga ps tM uM f z3 m7 g8) := hD
      refine lv_icmp_eq (tgt := 862) hx hb dL_law_534 (by decide) (fun _ => ?_) (fun h9 => absurd (by rw [e_r1C_1, k_2, e_r1M_3]; rfl) h9)
      exact hLK sk s0 s1 s2 t u tb ub ts us n ro hp q f f1 f2 sp be fo op ha st ga ps tM uM z3 m7 g8 H locs ls (LI_up hI (by omega)) hP hD hS hl
    · rcases Decidable.em ((xs (i + 2)) = 2) with k_3 | k_3
      · refine lv_aload_n hx hb dL_law_520 rfl (lv_at hl 2 rfl) ?_
        refine lv_aload_n hx hb dL_law_521 rfl (lv_at hl 0 rfl) ?_
        refine lv_iload_n hx hb dL_law_522 rfl (lv_at hl 3 rfl) ?_
        refine lv_iconst (v := 1) hx hb dL_law_523 (by decide) ?_
        refine lv_iadd hx hb dL_law_524 ?_
        refine ej_topi (show nI i + 1 = nI (i + 1) from nI_add i 1) ?_
        refine va_sld hx hb hX hbl hbA hS (vp_in_nI (n := i + 1) (N := L) (by omega) (by omega)) dL_law_525 ?_
        refine ej_topi (show xs (nI (i + 1)).toNatClampNeg = xs (i + 1) from congrArg xs (nI_clamp (by omega))) ?_
        refine lv_aload_n hx hb dL_law_526 rfl (lv_at hl 0 rfl) ?_
        refine lv_iload_n hx hb dL_law_527 rfl (lv_at hl 3 rfl) ?_
        refine lv_iconst (v := 2) hx hb dL_law_528 (by decide) ?_
        refine lv_iadd hx hb dL_law_529 ?_
        refine ej_topi (show nI i + 2 = nI (i + 2) from nI_add i 2) ?_
        refine va_sld hx hb hX hbl hbA hS (vp_in_nI (n := i + 2) (N := L) (by omega) (by omega)) dL_law_530 ?_
        refine ej_topi (show xs (nI (i + 2)).toNatClampNeg = xs (i + 2) from congrArg xs (nI_clamp (by omega))) ?_
        refine ej_topi (show xs (i + 2) = 2 from k_3) ?_
        obtain ⟨r1M_4, e_r1M_4⟩ : ∃ z9 : Int32, z9 = if inP (xs (i + 1)) 34 then if P_ou t (xs (i + 1)).toNatClampNeg = 0 then P_si t (xs (i + 1)).toNatClampNeg else -4 else -1 := ⟨_, rfl⟩
        refine ej_VR (wa := MW cI bm n q sp sk be fo op ha st t u ga ps tM uM f z3 m7 g8) (wa' := MW cI bm n q sp sk be fo op ha st t u ga ps tM uM f z3 m7 g8) (wb := CW cI cT o aT aB aS g y z ad sk s0 s1 s2 t u tb ub ts us n ro hp q f f1 f2) (As := [.int (xs (i + 1)), .int 2]) (rest := [.int r1C_1]) S hK hN hA hP hD hS (c_X7_pin_2 l D tys cI ht0 bm n q sp sk be fo op ha st t u (xs (i + 1)) r1M_4 e_r1M_4 hok.1 hok.2.1) (cwV 2 hts gL_law_X7_pin rfl rfl rfl hdv_X7_pin ⟨Nat.le_of_ble_eq_true rfl, Nat.le_of_ble_eq_true rfl⟩) [0, 1] [some 0, some 1] [(bm 0), (bm 1)] rfl (by decide +kernel) ⟨rfl, rfl⟩ rfl (by decide +kernel) (Nat.le_of_ble_eq_true rfl) 0 7 rfl rfl rfl rfl hl.1 (Nat.le_of_ble_eq_true rfl) dL_law_531 ⟨Nat.le_of_ble_eq_true rfl, Nat.le_of_ble_eq_true rfl⟩ (fun H locs hP hD hS => ?_)
        show W p9 l e9 room_1 s9 m9 a9 b9 t9 c9 H locs 146 3194 Q (F0 m9 534 ls (.int r1M_4 :: [.int r1C_1]))
        have hP : va_P D vwCl (CW cI cT o aT aB aS g y z ad sk s0 s1 s2 t u tb ub ts us n ro hp q f f1 f2 ++ MW cI bm n q sp sk be fo op ha st t u ga ps tM uM f z3 m7 g8) H := hP
        have hD : va_D A (CW cI cT o aT aB aS g y z ad sk s0 s1 s2 t u tb ub ts us n ro hp q f f1 f2 ++ MW cI bm n q sp sk be fo op ha st t u ga ps tM uM f z3 m7 g8) := hD
        refine lv_icmp_eq (tgt := 862) hx hb dL_law_534 (by decide) (fun _ => ?_) (fun h9 => absurd (by rw [e_r1C_1, k_3, e_r1M_4]; rfl) h9)
        exact hLK sk s0 s1 s2 t u tb ub ts us n ro hp q f f1 f2 sp be fo op ha st ga ps tM uM z3 m7 g8 H locs ls (LI_up hI (by omega)) hP hD hS hl
      · rcases Decidable.em ((xs (i + 2)) = 3) with k_4 | k_4
        · refine lv_aload_n hx hb dL_law_520 rfl (lv_at hl 2 rfl) ?_
          refine lv_aload_n hx hb dL_law_521 rfl (lv_at hl 0 rfl) ?_
          refine lv_iload_n hx hb dL_law_522 rfl (lv_at hl 3 rfl) ?_
          refine lv_iconst (v := 1) hx hb dL_law_523 (by decide) ?_
          refine lv_iadd hx hb dL_law_524 ?_
          refine ej_topi (show nI i + 1 = nI (i + 1) from nI_add i 1) ?_
          refine va_sld hx hb hX hbl hbA hS (vp_in_nI (n := i + 1) (N := L) (by omega) (by omega)) dL_law_525 ?_
          refine ej_topi (show xs (nI (i + 1)).toNatClampNeg = xs (i + 1) from congrArg xs (nI_clamp (by omega))) ?_
          refine lv_aload_n hx hb dL_law_526 rfl (lv_at hl 0 rfl) ?_
          refine lv_iload_n hx hb dL_law_527 rfl (lv_at hl 3 rfl) ?_
          refine lv_iconst (v := 2) hx hb dL_law_528 (by decide) ?_
          refine lv_iadd hx hb dL_law_529 ?_
          refine ej_topi (show nI i + 2 = nI (i + 2) from nI_add i 2) ?_
          refine va_sld hx hb hX hbl hbA hS (vp_in_nI (n := i + 2) (N := L) (by omega) (by omega)) dL_law_530 ?_
          refine ej_topi (show xs (nI (i + 2)).toNatClampNeg = xs (i + 2) from congrArg xs (nI_clamp (by omega))) ?_
          refine ej_topi (show xs (i + 2) = 3 from k_4) ?_
          obtain ⟨r1M_5, e_r1M_5⟩ : ∃ z9 : Int32, z9 = if inP (xs (i + 1)) 34 then P_vi t (xs (i + 1)).toNatClampNeg else -1 := ⟨_, rfl⟩
          refine ej_VR (wa := MW cI bm n q sp sk be fo op ha st t u ga ps tM uM f z3 m7 g8) (wa' := MW cI bm n q sp sk be fo op ha st t u ga ps tM uM f z3 m7 g8) (wb := CW cI cT o aT aB aS g y z ad sk s0 s1 s2 t u tb ub ts us n ro hp q f f1 f2) (As := [.int (xs (i + 1)), .int 3]) (rest := [.int r1C_1]) S hK hN hA hP hD hS (c_X7_pin_3 l D tys cI ht0 bm n q sp sk be fo op ha st t u (xs (i + 1)) r1M_5 e_r1M_5 hok.1 hok.2.1) (cwV 2 hts gL_law_X7_pin rfl rfl rfl hdv_X7_pin ⟨Nat.le_of_ble_eq_true rfl, Nat.le_of_ble_eq_true rfl⟩) [0, 1] [some 0, some 1] [(bm 0), (bm 1)] rfl (by decide +kernel) ⟨rfl, rfl⟩ rfl (by decide +kernel) (Nat.le_of_ble_eq_true rfl) 0 7 rfl rfl rfl rfl hl.1 (Nat.le_of_ble_eq_true rfl) dL_law_531 ⟨Nat.le_of_ble_eq_true rfl, Nat.le_of_ble_eq_true rfl⟩ (fun H locs hP hD hS => ?_)
          show W p9 l e9 room_1 s9 m9 a9 b9 t9 c9 H locs 146 3194 Q (F0 m9 534 ls (.int r1M_5 :: [.int r1C_1]))
          have hP : va_P D vwCl (CW cI cT o aT aB aS g y z ad sk s0 s1 s2 t u tb ub ts us n ro hp q f f1 f2 ++ MW cI bm n q sp sk be fo op ha st t u ga ps tM uM f z3 m7 g8) H := hP
          have hD : va_D A (CW cI cT o aT aB aS g y z ad sk s0 s1 s2 t u tb ub ts us n ro hp q f f1 f2 ++ MW cI bm n q sp sk be fo op ha st t u ga ps tM uM f z3 m7 g8) := hD
          refine lv_icmp_eq (tgt := 862) hx hb dL_law_534 (by decide) (fun _ => ?_) (fun h9 => absurd (by rw [e_r1C_1, k_4, e_r1M_5]; rfl) h9)
          exact hLK sk s0 s1 s2 t u tb ub ts us n ro hp q f f1 f2 sp be fo op ha st ga ps tM uM z3 m7 g8 H locs ls (LI_up hI (by omega)) hP hD hS hl
        · rcases Decidable.em ((xs (i + 2)) = 4) with k_5 | k_5
          · refine lv_aload_n hx hb dL_law_520 rfl (lv_at hl 2 rfl) ?_
            refine lv_aload_n hx hb dL_law_521 rfl (lv_at hl 0 rfl) ?_
            refine lv_iload_n hx hb dL_law_522 rfl (lv_at hl 3 rfl) ?_
            refine lv_iconst (v := 1) hx hb dL_law_523 (by decide) ?_
            refine lv_iadd hx hb dL_law_524 ?_
            refine ej_topi (show nI i + 1 = nI (i + 1) from nI_add i 1) ?_
            refine va_sld hx hb hX hbl hbA hS (vp_in_nI (n := i + 1) (N := L) (by omega) (by omega)) dL_law_525 ?_
            refine ej_topi (show xs (nI (i + 1)).toNatClampNeg = xs (i + 1) from congrArg xs (nI_clamp (by omega))) ?_
            refine lv_aload_n hx hb dL_law_526 rfl (lv_at hl 0 rfl) ?_
            refine lv_iload_n hx hb dL_law_527 rfl (lv_at hl 3 rfl) ?_
            refine lv_iconst (v := 2) hx hb dL_law_528 (by decide) ?_
            refine lv_iadd hx hb dL_law_529 ?_
            refine ej_topi (show nI i + 2 = nI (i + 2) from nI_add i 2) ?_
            refine va_sld hx hb hX hbl hbA hS (vp_in_nI (n := i + 2) (N := L) (by omega) (by omega)) dL_law_530 ?_
            refine ej_topi (show xs (nI (i + 2)).toNatClampNeg = xs (i + 2) from congrArg xs (nI_clamp (by omega))) ?_
            refine ej_topi (show xs (i + 2) = 4 from k_5) ?_
            obtain ⟨r1M_6, e_r1M_6⟩ : ∃ z9 : Int32, z9 = if inP (xs (i + 1)) 34 then if (cmG t 127 ((xs (i + 1)).toNatClampNeg / 7)).testBit ((xs (i + 1)).toNatClampNeg % 7) = true then 1 else 0 else -1 := ⟨_, rfl⟩
            refine ej_VR (wa := MW cI bm n q sp sk be fo op ha st t u ga ps tM uM f z3 m7 g8) (wa' := MW cI bm n q sp sk be fo op ha st t u ga ps tM uM f z3 m7 g8) (wb := CW cI cT o aT aB aS g y z ad sk s0 s1 s2 t u tb ub ts us n ro hp q f f1 f2) (As := [.int (xs (i + 1)), .int 4]) (rest := [.int r1C_1]) S hK hN hA hP hD hS (c_X7_pin_4 l D tys cI ht0 bm n q sp sk be fo op ha st t u (xs (i + 1)) r1M_6 e_r1M_6 hok.1 hok.2.1) (cwV 2 hts gL_law_X7_pin rfl rfl rfl hdv_X7_pin ⟨Nat.le_of_ble_eq_true rfl, Nat.le_of_ble_eq_true rfl⟩) [0, 1] [some 0, some 1] [(bm 0), (bm 1)] rfl (by decide +kernel) ⟨rfl, rfl⟩ rfl (by decide +kernel) (Nat.le_of_ble_eq_true rfl) 0 7 rfl rfl rfl rfl hl.1 (Nat.le_of_ble_eq_true rfl) dL_law_531 ⟨Nat.le_of_ble_eq_true rfl, Nat.le_of_ble_eq_true rfl⟩ (fun H locs hP hD hS => ?_)
            show W p9 l e9 room_1 s9 m9 a9 b9 t9 c9 H locs 146 3194 Q (F0 m9 534 ls (.int r1M_6 :: [.int r1C_1]))
            have hP : va_P D vwCl (CW cI cT o aT aB aS g y z ad sk s0 s1 s2 t u tb ub ts us n ro hp q f f1 f2 ++ MW cI bm n q sp sk be fo op ha st t u ga ps tM uM f z3 m7 g8) H := hP
            have hD : va_D A (CW cI cT o aT aB aS g y z ad sk s0 s1 s2 t u tb ub ts us n ro hp q f f1 f2 ++ MW cI bm n q sp sk be fo op ha st t u ga ps tM uM f z3 m7 g8) := hD
            refine lv_icmp_eq (tgt := 862) hx hb dL_law_534 (by decide) (fun _ => ?_) (fun h9 => absurd (by rw [e_r1C_1, k_5, e_r1M_6, cm_fwd]; rfl) h9)
            exact hLK sk s0 s1 s2 t u tb ub ts us n ro hp q f f1 f2 sp be fo op ha st ga ps tM uM z3 m7 g8 H locs ls (LI_up hI (by omega)) hP hD hS hl
          · refine lv_aload_n hx hb dL_law_520 rfl (lv_at hl 2 rfl) ?_
            refine lv_aload_n hx hb dL_law_521 rfl (lv_at hl 0 rfl) ?_
            refine lv_iload_n hx hb dL_law_522 rfl (lv_at hl 3 rfl) ?_
            refine lv_iconst (v := 1) hx hb dL_law_523 (by decide) ?_
            refine lv_iadd hx hb dL_law_524 ?_
            refine ej_topi (show nI i + 1 = nI (i + 1) from nI_add i 1) ?_
            refine va_sld hx hb hX hbl hbA hS (vp_in_nI (n := i + 1) (N := L) (by omega) (by omega)) dL_law_525 ?_
            refine ej_topi (show xs (nI (i + 1)).toNatClampNeg = xs (i + 1) from congrArg xs (nI_clamp (by omega))) ?_
            refine lv_aload_n hx hb dL_law_526 rfl (lv_at hl 0 rfl) ?_
            refine lv_iload_n hx hb dL_law_527 rfl (lv_at hl 3 rfl) ?_
            refine lv_iconst (v := 2) hx hb dL_law_528 (by decide) ?_
            refine lv_iadd hx hb dL_law_529 ?_
            refine ej_topi (show nI i + 2 = nI (i + 2) from nI_add i 2) ?_
            refine va_sld hx hb hX hbl hbA hS (vp_in_nI (n := i + 2) (N := L) (by omega) (by omega)) dL_law_530 ?_
            refine ej_topi (show xs (nI (i + 2)).toNatClampNeg = xs (i + 2) from congrArg xs (nI_clamp (by omega))) ?_
            refine ej_VR (wa := MW cI bm n q sp sk be fo op ha st t u ga ps tM uM f z3 m7 g8) (wa' := MW cI bm n q sp sk be fo op ha st t u ga ps tM uM f z3 m7 g8) (wb := CW cI cT o aT aB aS g y z ad sk s0 s1 s2 t u tb ub ts us n ro hp q f f1 f2) (As := [.int (xs (i + 1)), .int (xs (i + 2))]) (rest := [.int r1C_1]) S hK hN hA hP hD hS (c_X7_pin_n l D tys cI ht0 bm n q sp sk be fo op ha st t u (xs (i + 1)) (xs (i + 2)) (by intro z9; obtain ⟨k9, hk9, e9⟩ := ej_in 4 4 (by decide) z9; rcases (show k9 = 0 ∨ k9 = 1 ∨ k9 = 2 ∨ k9 = 3 ∨ k9 = 4 by omega) with h9 | h9 | h9 | h9 | h9 <;> subst h9; exact k_1 e9; exact k_2 e9; exact k_3 e9; exact k_4 e9; exact k_5 e9)) (cwV 2 hts gL_law_X7_pin rfl rfl rfl hdv_X7_pin ⟨Nat.le_of_ble_eq_true rfl, Nat.le_of_ble_eq_true rfl⟩) [0, 1] [some 0, some 1] [(bm 0), (bm 1)] rfl (by decide +kernel) ⟨rfl, rfl⟩ rfl (by decide +kernel) (Nat.le_of_ble_eq_true rfl) 0 7 rfl rfl rfl rfl hl.1 (Nat.le_of_ble_eq_true rfl) dL_law_531 ⟨Nat.le_of_ble_eq_true rfl, Nat.le_of_ble_eq_true rfl⟩ (fun H locs hP hD hS => ?_)
            show W p9 l e9 room_1 s9 m9 a9 b9 t9 c9 H locs 146 3194 Q (F0 m9 534 ls (.int (-1) :: [.int r1C_1]))
            have hP : va_P D vwCl (CW cI cT o aT aB aS g y z ad sk s0 s1 s2 t u tb ub ts us n ro hp q f f1 f2 ++ MW cI bm n q sp sk be fo op ha st t u ga ps tM uM f z3 m7 g8) H := hP
            have hD : va_D A (CW cI cT o aT aB aS g y z ad sk s0 s1 s2 t u tb ub ts us n ro hp q f f1 f2 ++ MW cI bm n q sp sk be fo op ha st t u ga ps tM uM f z3 m7 g8) := hD
            refine lv_icmp_eq (tgt := 862) hx hb dL_law_534 (by decide) (fun _ => ?_) (fun h9 => absurd (by rw [e_r1C_1]; unfold pinR; rw [if_neg k_1, if_neg k_2, if_neg k_3, if_neg k_4, if_neg k_5]; exact ite_self _) h9)
            exact hLK sk s0 s1 s2 t u tb ub ts us n ro hp q f f1 f2 sp be fo op ha st ga ps tM uM z3 m7 g8 H locs ls (LI_up hI (by omega)) hP hD hS hl
