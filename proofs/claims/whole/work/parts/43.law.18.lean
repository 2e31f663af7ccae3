set_option maxHeartbeats 4000000 in
set_option maxRecDepth 100000 in
theorem law_c18 (l : Launch) (D : va_G) (tys : eT) (cI : ClassId) (ht0 : tys[0]? = some (cI, .int)) (cT : ClassId) (ht1 : tys[1]? = some (cT, .object RX5)) {p9 : Program} {e9 : Env} {s9 : State} {m9 : MethodId} {a9 : Array Value} {b9 : List Frame} {t9 : Method} {c9 : Code} {A : Nat → Prop} {H0 : Heap} {Q : State → Prop} {o aT aB aS g y z : Nat → Nat} {ad : Nat → Nat → Nat} {bm : Nat → Nat} {bs i L : Nat} {xs : Nat → Int32} (S : CallFix p9 m9 c9 cL_law 8 s9 a9 wsL_law RL) (hK : va_K D vwCl tys s9) (hN : eN s9) (hA : ∀ q : Nat, H0.size ≤ q → A q) (hX : va_X bs L xs s9 H0) (hbl : bs < H0.size) (hbA : ¬ A bs) (hL : L ≤ 2560) (hi : i + 5 ≤ L)
    (hLK : LK p9 l e9 s9 m9 a9 b9 t9 c9 D A H0 Q cI cT o aT aB aS g y z ad bm bs i) {sk s0 s1 s2 : Int32} {t : Pn} {u : Tr} {tb : Pn} {ub : Tr} {ts : Pn} {us : Tr} {n ro : Nat} {hp : Nat → Pn × Tr} {q : Nat} {f f1 f2 : Nat → Int32} {sp : Nat} {be fo op ha st : Int32} {ga : Nat → Int32} {ps : Nat → Pn × Tr} {tM : Pn} {uM : Tr} {z3 m7 g8 : Nat → Int32} (hI : LI (12 * i) n ro hp ps t u sk ts us tM uM q s0 s1 s2 st z3) {H : Heap} {locs : List Loc} {ls : Array Slot} (hP : va_P D vwCl (CW cI cT o aT aB aS g y z ad sk s0 s1 s2 t u tb ub ts us n ro hp q f f1 f2 ++ MW cI bm n q sp sk be fo op ha st t u ga ps tM uM f z3 m7 g8) H) (hD : va_D A (CW cI cT o aT aB aS g y z ad sk s0 s1 s2 t u tb ub ts us n ro hp q f f1 f2 ++ MW cI bm n q sp sk be fo op ha st t u ga ps tM uM f z3 m7 g8)) (hS : va_S A H0 H locs) (hl : lv_has ls 8 [(0, .ref bs), (1, .ref (o 0)), (2, .ref (bm 0)), (3, .int (nI i))]) : W p9 l e9 room_1 s9 m9 a9 b9 t9 c9 H locs 146 3194 Q (F0 m9 628 ls []) := by
  obtain ⟨hx, hb, hml, hown, hts⟩ := id S
  obtain ⟨⟨hok, hwk, hsn⟩, ⟨hn4, hr4, hq60⟩, hhis, hsav, hstp⟩ := id hI
  refine lv_aload_n hx hb dL_law_628 rfl (lv_at hl 1 rfl) ?_
  refine lv_aload_n hx hb dL_law_629 rfl (lv_at hl 0 rfl) ?_
  refine lv_iload_n hx hb dL_law_630 rfl (lv_at hl 3 rfl) ?_
  refine lv_iconst (v := 1) hx hb dL_law_631 (by decide) ?_
  refine lv_iadd hx hb dL_law_632 ?_
  refine ej_topi (show nI i + 1 = nI (i + 1) from nI_add i 1) ?_
  refine va_sld hx hb hX hbl hbA hS (vp_in_nI (n := i + 1) (N := L) (by omega) (by omega)) dL_law_633 ?_
  refine ej_topi (show xs (nI (i + 1)).toNatClampNeg = xs (i + 1) from congrArg xs (nI_clamp (by omega))) ?_
  obtain ⟨r1C_1, e_r1C_1⟩ : ∃ z9 : Int32, z9 = couA t u q n (xs (i + 1)) := ⟨_, rfl⟩
  refine ej_VL (wa := CW cI cT o aT aB aS g y z ad sk s0 s1 s2 t u tb ub ts us n ro hp q f f1 f2) (wa' := CW cI cT o aT aB aS g y z ad sk s0 s1 s2 t u tb ub ts us n ro hp q f f1 f2) (wb := MW cI bm n q sp sk be fo op ha st t u ga ps tM uM f z3 m7 g8) (As := [.int (xs (i + 1))]) (rest := []) S hK hN hA hP hD hS (c_X6_count l D tys cI ht0 o aT aB aS g y z sk s0 s1 s2 t u n q (xs (i + 1)) r1C_1 e_r1C_1 hok.1) (cwV 1 hts gL_law_X6_count rfl rfl rfl hdv_X6_count ⟨Nat.le_of_ble_eq_true rfl, Nat.le_of_ble_eq_true rfl⟩) [0, 1, 2, 3, 4, 5, 6, 7, 8, 9, 10, 11, 12, 13, 14, 15, 16, 17, 18, 55, 129, 134] [some 0, some 1, some 2, some 3, some 4, some 5, some 6, some 7, some 8, some 9, some 10, some 11, some 12, some 13, some 14, some 15, some 16, some 17, some 18, none, none, none, none, none, none, none, none, none, none, none, none, none, none, none, none, none, none, none, none, none, none, none, none, none, none, none, none, none, none, none, none, none, none, none, none, some 19, none, none, none, none, none, none, none, none, none, none, none, none, none, none, none, none, none, none, none, none, none, none, none, none, none, none, none, none, none, none, none, none, none, none, none, none, none, none, none, none, none, none, none, none, none, none, none, none, none, none, none, none, none, none, none, none, none, none, none, none, none, none, none, none, none, none, none, none, none, none, none, none, none, some 20, none, none, none, none, some 21] [(o 0), (aT 0), (aT 1), (aT 2), (aT 3), (aT 4), (aT 5), (aT 6), (aT 7), (aT 8), (aT 9), (aT 10), (aT 11), (aT 12), (aT 13), (aT 14), (aT 15), (aT 16), (aT 17), (g 0), (y 0), (z 0)] rfl (by decide +kernel) ⟨rfl, rfl⟩ rfl (by decide +kernel) (Nat.le_of_ble_eq_true rfl) 0 6 rfl rfl rfl rfl hl.1 (Nat.le_of_ble_eq_true rfl) dL_law_634 ⟨Nat.le_of_ble_eq_true rfl, Nat.le_of_ble_eq_true rfl⟩ (fun H locs hP hD hS => ?_)
  show W p9 l e9 room_1 s9 m9 a9 b9 t9 c9 H locs 146 3194 Q (F0 m9 637 ls (.int r1C_1 :: []))
  have hP : va_P D vwCl (CW cI cT o aT aB aS g y z ad sk s0 s1 s2 t u tb ub ts us n ro hp q f f1 f2 ++ MW cI bm n q sp sk be fo op ha st t u ga ps tM uM f z3 m7 g8) H := hP
  have hD : va_D A (CW cI cT o aT aB aS g y z ad sk s0 s1 s2 t u tb ub ts us n ro hp q f f1 f2 ++ MW cI bm n q sp sk be fo op ha st t u ga ps tM uM f z3 m7 g8) := hD
  rcases Decidable.em ((xs (i + 1)) = 0) with k_1 | k_1
  · refine lv_aload_n hx hb dL_law_637 rfl (lv_at hl 2 rfl) ?_
    refine lv_aload_n hx hb dL_law_638 rfl (lv_at hl 0 rfl) ?_
    refine lv_iload_n hx hb dL_law_639 rfl (lv_at hl 3 rfl) ?_
    refine lv_iconst (v := 1) hx hb dL_law_640 (by decide) ?_
    refine lv_iadd hx hb dL_law_641 ?_
    refine ej_topi (show nI i + 1 = nI (i + 1) from nI_add i 1) ?_
    refine va_sld hx hb hX hbl hbA hS (vp_in_nI (n := i + 1) (N := L) (by omega) (by omega)) dL_law_642 ?_
    refine ej_topi (show xs (nI (i + 1)).toNatClampNeg = xs (i + 1) from congrArg xs (nI_clamp (by omega))) ?_
    refine ej_topi (show xs (i + 1) = 0 from k_1) ?_
    refine ej_VR (wa := MW cI bm n q sp sk be fo op ha st t u ga ps tM uM f z3 m7 g8) (wa' := MW cI bm n q sp sk be fo op ha st t u ga ps tM uM f z3 m7 g8) (wb := CW cI cT o aT aB aS g y z ad sk s0 s1 s2 t u tb ub ts us n ro hp q f f1 f2) (As := [.int 0]) (rest := [.int r1C_1]) S hK hN hA hP hD hS (c_X7_count_0 l D tys cI ht0 bm n q sp sk be fo op ha st t u) (cwV 1 hts gL_law_X7_count rfl rfl rfl hdv_X7_count ⟨Nat.le_of_ble_eq_true rfl, Nat.le_of_ble_eq_true rfl⟩) [0, 1] [some 0, some 1] [(bm 0), (bm 1)] rfl (by decide +kernel) ⟨rfl, rfl⟩ rfl (by decide +kernel) (Nat.le_of_ble_eq_true rfl) 0 7 rfl rfl rfl rfl hl.1 (Nat.le_of_ble_eq_true rfl) dL_law_643 ⟨Nat.le_of_ble_eq_true rfl, Nat.le_of_ble_eq_true rfl⟩ (fun H locs hP hD hS => ?_)
    show W p9 l e9 room_1 s9 m9 a9 b9 t9 c9 H locs 146 3194 Q (F0 m9 646 ls (.int (T_po u) :: [.int r1C_1]))
    have hP : va_P D vwCl (CW cI cT o aT aB aS g y z ad sk s0 s1 s2 t u tb ub ts us n ro hp q f f1 f2 ++ MW cI bm n q sp sk be fo op ha st t u ga ps tM uM f z3 m7 g8) H := hP
    have hD : va_D A (CW cI cT o aT aB aS g y z ad sk s0 s1 s2 t u tb ub ts us n ro hp q f f1 f2 ++ MW cI bm n q sp sk be fo op ha st t u ga ps tM uM f z3 m7 g8) := hD
    refine lv_icmp_eq (tgt := 862) hx hb dL_law_646 (by decide) (fun _ => ?_) (fun h9 => absurd (by rw [e_r1C_1, k_1]; rfl) h9)
    exact hLK sk s0 s1 s2 t u tb ub ts us n ro hp q f f1 f2 sp be fo op ha st ga ps tM uM z3 m7 g8 H locs ls (LI_up hI (by omega)) hP hD hS hl
  · rcases Decidable.em ((xs (i + 1)) = 1) with k_2 | k_2
    · refine lv_aload_n hx hb dL_law_637 rfl (lv_at hl 2 rfl) ?_
      refine lv_aload_n hx hb dL_law_638 rfl (lv_at hl 0 rfl) ?_
      refine lv_iload_n hx hb dL_law_639 rfl (lv_at hl 3 rfl) ?_
      refine lv_iconst (v := 1) hx hb dL_law_640 (by decide) ?_
      refine lv_iadd hx hb dL_law_641 ?_
      refine ej_topi (show nI i + 1 = nI (i + 1) from nI_add i 1) ?_
      refine va_sld hx hb hX hbl hbA hS (vp_in_nI (n := i + 1) (N := L) (by omega) (by omega)) dL_law_642 ?_
      refine ej_topi (show xs (nI (i + 1)).toNatClampNeg = xs (i + 1) from congrArg xs (nI_clamp (by omega))) ?_
      refine ej_topi (show xs (i + 1) = 1 from k_2) ?_
      refine ej_VR (wa := MW cI bm n q sp sk be fo op ha st t u ga ps tM uM f z3 m7 g8) (wa' := MW cI bm n q sp sk be fo op ha st t u ga ps tM uM f z3 m7 g8) (wb := CW cI cT o aT aB aS g y z ad sk s0 s1 s2 t u tb ub ts us n ro hp q f f1 f2) (As := [.int 1]) (rest := [.int r1C_1]) S hK hN hA hP hD hS (c_X7_count_1 l D tys cI ht0 bm n q sp sk be fo op ha st t u) (cwV 1 hts gL_law_X7_count rfl rfl rfl hdv_X7_count ⟨Nat.le_of_ble_eq_true rfl, Nat.le_of_ble_eq_true rfl⟩) [0, 1] [some 0, some 1] [(bm 0), (bm 1)] rfl (by decide +kernel) ⟨rfl, rfl⟩ rfl (by decide +kernel) (Nat.le_of_ble_eq_true rfl) 0 7 rfl rfl rfl rfl hl.1 (Nat.le_of_ble_eq_true rfl) dL_law_643 ⟨Nat.le_of_ble_eq_true rfl, Nat.le_of_ble_eq_true rfl⟩ (fun H locs hP hD hS => ?_)
      show W p9 l e9 room_1 s9 m9 a9 b9 t9 c9 H locs 146 3194 Q (F0 m9 646 ls (.int (T_le u) :: [.int r1C_1]))
      have hP : va_P D vwCl (CW cI cT o aT aB aS g y z ad sk s0 s1 s2 t u tb ub ts us n ro hp q f f1 f2 ++ MW cI bm n q sp sk be fo op ha st t u ga ps tM uM f z3 m7 g8) H := hP
      have hD : va_D A (CW cI cT o aT aB aS g y z ad sk s0 s1 s2 t u tb ub ts us n ro hp q f f1 f2 ++ MW cI bm n q sp sk be fo op ha st t u ga ps tM uM f z3 m7 g8) := hD
      refine lv_icmp_eq (tgt := 862) hx hb dL_law_646 (by decide) (fun _ => ?_) (fun h9 => absurd (by rw [e_r1C_1, k_2]; rfl) h9)
      exact hLK sk s0 s1 s2 t u tb ub ts us n ro hp q f f1 f2 sp be fo op ha st ga ps tM uM z3 m7 g8 H locs ls (LI_up hI (by omega)) hP hD hS hl
    · rcases Decidable.em ((xs (i + 1)) = 2) with k_3 | k_3
      · refine lv_aload_n hx hb dL_law_637 rfl (lv_at hl 2 rfl) ?_
        refine lv_aload_n hx hb dL_law_638 rfl (lv_at hl 0 rfl) ?_
        refine lv_iload_n hx hb dL_law_639 rfl (lv_at hl 3 rfl) ?_
        refine lv_iconst (v := 1) hx hb dL_law_640 (by decide) ?_
        refine lv_iadd hx hb dL_law_641 ?_
        refine ej_topi (show nI i + 1 = nI (i + 1) from nI_add i 1) ?_
        refine va_sld hx hb hX hbl hbA hS (vp_in_nI (n := i + 1) (N := L) (by omega) (by omega)) dL_law_642 ?_
        refine ej_topi (show xs (nI (i + 1)).toNatClampNeg = xs (i + 1) from congrArg xs (nI_clamp (by omega))) ?_
        refine ej_topi (show xs (i + 1) = 2 from k_3) ?_
        refine ej_VR (wa := MW cI bm n q sp sk be fo op ha st t u ga ps tM uM f z3 m7 g8) (wa' := MW cI bm n q sp sk be fo op ha st t u ga ps tM uM f z3 m7 g8) (wb := CW cI cT o aT aB aS g y z ad sk s0 s1 s2 t u tb ub ts us n ro hp q f f1 f2) (As := [.int 2]) (rest := [.int r1C_1]) S hK hN hA hP hD hS (c_X7_count_2 l D tys cI ht0 bm n q sp sk be fo op ha st t u) (cwV 1 hts gL_law_X7_count rfl rfl rfl hdv_X7_count ⟨Nat.le_of_ble_eq_true rfl, Nat.le_of_ble_eq_true rfl⟩) [0, 1] [some 0, some 1] [(bm 0), (bm 1)] rfl (by decide +kernel) ⟨rfl, rfl⟩ rfl (by decide +kernel) (Nat.le_of_ble_eq_true rfl) 0 7 rfl rfl rfl rfl hl.1 (Nat.le_of_ble_eq_true rfl) dL_law_643 ⟨Nat.le_of_ble_eq_true rfl, Nat.le_of_ble_eq_true rfl⟩ (fun H locs hP hD hS => ?_)
        show W p9 l e9 room_1 s9 m9 a9 b9 t9 c9 H locs 146 3194 Q (F0 m9 646 ls (.int (sumI (T_he u) 7) :: [.int r1C_1]))
        have hP : va_P D vwCl (CW cI cT o aT aB aS g y z ad sk s0 s1 s2 t u tb ub ts us n ro hp q f f1 f2 ++ MW cI bm n q sp sk be fo op ha st t u ga ps tM uM f z3 m7 g8) H := hP
        have hD : va_D A (CW cI cT o aT aB aS g y z ad sk s0 s1 s2 t u tb ub ts us n ro hp q f f1 f2 ++ MW cI bm n q sp sk be fo op ha st t u ga ps tM uM f z3 m7 g8) := hD
        refine lv_icmp_eq (tgt := 862) hx hb dL_law_646 (by decide) (fun _ => ?_) (fun h9 => absurd (by rw [e_r1C_1, k_3]; rfl) h9)
        exact hLK sk s0 s1 s2 t u tb ub ts us n ro hp q f f1 f2 sp be fo op ha st ga ps tM uM z3 m7 g8 H locs ls (LI_up hI (by omega)) hP hD hS hl
      · rcases Decidable.em ((xs (i + 1)) = 3) with k_4 | k_4
        · refine lv_aload_n hx hb dL_law_637 rfl (lv_at hl 2 rfl) ?_
          refine lv_aload_n hx hb dL_law_638 rfl (lv_at hl 0 rfl) ?_
          refine lv_iload_n hx hb dL_law_639 rfl (lv_at hl 3 rfl) ?_
          refine lv_iconst (v := 1) hx hb dL_law_640 (by decide) ?_
          refine lv_iadd hx hb dL_law_641 ?_
          refine ej_topi (show nI i + 1 = nI (i + 1) from nI_add i 1) ?_
          refine va_sld hx hb hX hbl hbA hS (vp_in_nI (n := i + 1) (N := L) (by omega) (by omega)) dL_law_642 ?_
          refine ej_topi (show xs (nI (i + 1)).toNatClampNeg = xs (i + 1) from congrArg xs (nI_clamp (by omega))) ?_
          refine ej_topi (show xs (i + 1) = 3 from k_4) ?_
          refine ej_VR (wa := MW cI bm n q sp sk be fo op ha st t u ga ps tM uM f z3 m7 g8) (wa' := MW cI bm n q sp sk be fo op ha st t u ga ps tM uM f z3 m7 g8) (wb := CW cI cT o aT aB aS g y z ad sk s0 s1 s2 t u tb ub ts us n ro hp q f f1 f2) (As := [.int 3]) (rest := [.int r1C_1]) S hK hN hA hP hD hS (c_X7_count_3 l D tys cI ht0 bm n q sp sk be fo op ha st t u) (cwV 1 hts gL_law_X7_count rfl rfl rfl hdv_X7_count ⟨Nat.le_of_ble_eq_true rfl, Nat.le_of_ble_eq_true rfl⟩) [0, 1] [some 0, some 1] [(bm 0), (bm 1)] rfl (by decide +kernel) ⟨rfl, rfl⟩ rfl (by decide +kernel) (Nat.le_of_ble_eq_true rfl) 0 7 rfl rfl rfl rfl hl.1 (Nat.le_of_ble_eq_true rfl) dL_law_643 ⟨Nat.le_of_ble_eq_true rfl, Nat.le_of_ble_eq_true rfl⟩ (fun H locs hP hD hS => ?_)
          show W p9 l e9 room_1 s9 m9 a9 b9 t9 c9 H locs 146 3194 Q (F0 m9 646 ls (.int (T_lo u) :: [.int r1C_1]))
          have hP : va_P D vwCl (CW cI cT o aT aB aS g y z ad sk s0 s1 s2 t u tb ub ts us n ro hp q f f1 f2 ++ MW cI bm n q sp sk be fo op ha st t u ga ps tM uM f z3 m7 g8) H := hP
          have hD : va_D A (CW cI cT o aT aB aS g y z ad sk s0 s1 s2 t u tb ub ts us n ro hp q f f1 f2 ++ MW cI bm n q sp sk be fo op ha st t u ga ps tM uM f z3 m7 g8) := hD
          refine lv_icmp_eq (tgt := 862) hx hb dL_law_646 (by decide) (fun _ => ?_) (fun h9 => absurd (by rw [e_r1C_1, k_4]; rfl) h9)
          exact hLK sk s0 s1 s2 t u tb ub ts us n ro hp q f f1 f2 sp be fo op ha st ga ps tM uM z3 m7 g8 H locs ls (LI_up hI (by omega)) hP hD hS hl
        · rcases Decidable.em ((xs (i + 1)) = 4) with k_5 | k_5
          · refine lv_aload_n hx hb dL_law_637 rfl (lv_at hl 2 rfl) ?_
            refine lv_aload_n hx hb dL_law_638 rfl (lv_at hl 0 rfl) ?_
            refine lv_iload_n hx hb dL_law_639 rfl (lv_at hl 3 rfl) ?_
            refine lv_iconst (v := 1) hx hb dL_law_640 (by decide) ?_
            refine lv_iadd hx hb dL_law_641 ?_
            refine ej_topi (show nI i + 1 = nI (i + 1) from nI_add i 1) ?_
            refine va_sld hx hb hX hbl hbA hS (vp_in_nI (n := i + 1) (N := L) (by omega) (by omega)) dL_law_642 ?_
            refine ej_topi (show xs (nI (i + 1)).toNatClampNeg = xs (i + 1) from congrArg xs (nI_clamp (by omega))) ?_
            refine ej_topi (show xs (i + 1) = 4 from k_5) ?_
            refine ej_VR (wa := MW cI bm n q sp sk be fo op ha st t u ga ps tM uM f z3 m7 g8) (wa' := MW cI bm n q sp sk be fo op ha st t u ga ps tM uM f z3 m7 g8) (wb := CW cI cT o aT aB aS g y z ad sk s0 s1 s2 t u tb ub ts us n ro hp q f f1 f2) (As := [.int 4]) (rest := [.int r1C_1]) S hK hN hA hP hD hS (c_X7_count_4 l D tys cI ht0 bm n q sp sk be fo op ha st t u) (cwV 1 hts gL_law_X7_count rfl rfl rfl hdv_X7_count ⟨Nat.le_of_ble_eq_true rfl, Nat.le_of_ble_eq_true rfl⟩) [0, 1] [some 0, some 1] [(bm 0), (bm 1)] rfl (by decide +kernel) ⟨rfl, rfl⟩ rfl (by decide +kernel) (Nat.le_of_ble_eq_true rfl) 0 7 rfl rfl rfl rfl hl.1 (Nat.le_of_ble_eq_true rfl) dL_law_643 ⟨Nat.le_of_ble_eq_true rfl, Nat.le_of_ble_eq_true rfl⟩ (fun H locs hP hD hS => ?_)
            show W p9 l e9 room_1 s9 m9 a9 b9 t9 c9 H locs 146 3194 Q (F0 m9 646 ls (.int (35 - sumI (P_ou t) 35) :: [.int r1C_1]))
            have hP : va_P D vwCl (CW cI cT o aT aB aS g y z ad sk s0 s1 s2 t u tb ub ts us n ro hp q f f1 f2 ++ MW cI bm n q sp sk be fo op ha st t u ga ps tM uM f z3 m7 g8) H := hP
            have hD : va_D A (CW cI cT o aT aB aS g y z ad sk s0 s1 s2 t u tb ub ts us n ro hp q f f1 f2 ++ MW cI bm n q sp sk be fo op ha st t u ga ps tM uM f z3 m7 g8) := hD
            refine lv_icmp_eq (tgt := 862) hx hb dL_law_646 (by decide) (fun _ => ?_) (fun h9 => absurd (by rw [e_r1C_1, k_5]; rfl) h9)
            exact hLK sk s0 s1 s2 t u tb ub ts us n ro hp q f f1 f2 sp be fo op ha st ga ps tM uM z3 m7 g8 H locs ls (LI_up hI (by omega)) hP hD hS hl
          · rcases Decidable.em ((xs (i + 1)) = 5) with k_6 | k_6
            · refine lv_aload_n hx hb dL_law_637 rfl (lv_at hl 2 rfl) ?_
              refine lv_aload_n hx hb dL_law_638 rfl (lv_at hl 0 rfl) ?_
              refine lv_iload_n hx hb dL_law_639 rfl (lv_at hl 3 rfl) ?_
              refine lv_iconst (v := 1) hx hb dL_law_640 (by decide) ?_
              refine lv_iadd hx hb dL_law_641 ?_
              refine ej_topi (show nI i + 1 = nI (i + 1) from nI_add i 1) ?_
              refine va_sld hx hb hX hbl hbA hS (vp_in_nI (n := i + 1) (N := L) (by omega) (by omega)) dL_law_642 ?_
              refine ej_topi (show xs (nI (i + 1)).toNatClampNeg = xs (i + 1) from congrArg xs (nI_clamp (by omega))) ?_
              refine ej_topi (show xs (i + 1) = 5 from k_6) ?_
              obtain ⟨r1M_2, e_r1M_2⟩ : ∃ z9 : Int32, z9 = sumI (fun p => if P_ou t p = 0 ∧ P_be t p = 0 then 1 else 0) 35 := ⟨_, rfl⟩
              refine ej_VR (wa := MW cI bm n q sp sk be fo op ha st t u ga ps tM uM f z3 m7 g8) (wa' := MW cI bm n q sp sk be fo op ha st t u ga ps tM uM f z3 m7 g8) (wb := CW cI cT o aT aB aS g y z ad sk s0 s1 s2 t u tb ub ts us n ro hp q f f1 f2) (As := [.int 5]) (rest := [.int r1C_1]) S hK hN hA hP hD hS (c_X7_count_5 l D tys cI ht0 bm n q sp sk be fo op ha st t u r1M_2 e_r1M_2 hok.1 hok.2.1) (cwV 1 hts gL_law_X7_count rfl rfl rfl hdv_X7_count ⟨Nat.le_of_ble_eq_true rfl, Nat.le_of_ble_eq_true rfl⟩) [0, 1] [some 0, some 1] [(bm 0), (bm 1)] rfl (by decide +kernel) ⟨rfl, rfl⟩ rfl (by decide +kernel) (Nat.le_of_ble_eq_true rfl) 0 7 rfl rfl rfl rfl hl.1 (Nat.le_of_ble_eq_true rfl) dL_law_643 ⟨Nat.le_of_ble_eq_true rfl, Nat.le_of_ble_eq_true rfl⟩ (fun H locs hP hD hS => ?_)
              show W p9 l e9 room_1 s9 m9 a9 b9 t9 c9 H locs 146 3194 Q (F0 m9 646 ls (.int r1M_2 :: [.int r1C_1]))
              have hP : va_P D vwCl (CW cI cT o aT aB aS g y z ad sk s0 s1 s2 t u tb ub ts us n ro hp q f f1 f2 ++ MW cI bm n q sp sk be fo op ha st t u ga ps tM uM f z3 m7 g8) H := hP
              have hD : va_D A (CW cI cT o aT aB aS g y z ad sk s0 s1 s2 t u tb ub ts us n ro hp q f f1 f2 ++ MW cI bm n q sp sk be fo op ha st t u ga ps tM uM f z3 m7 g8) := hD
              refine lv_icmp_eq (tgt := 862) hx hb dL_law_646 (by decide) (fun _ => ?_) (fun h9 => absurd (by rw [e_r1C_1, k_6, e_r1M_2]; rfl) h9)
              exact hLK sk s0 s1 s2 t u tb ub ts us n ro hp q f f1 f2 sp be fo op ha st ga ps tM uM z3 m7 g8 H locs ls (LI_up hI (by omega)) hP hD hS hl
            · rcases Decidable.em ((xs (i + 1)) = 6) with k_7 | k_7
              · refine lv_aload_n hx hb dL_law_637 rfl (lv_at hl 2 rfl) ?_
                refine lv_aload_n hx hb dL_law_638 rfl (lv_at hl 0 rfl) ?_
                refine lv_iload_n hx hb dL_law_639 rfl (lv_at hl 3 rfl) ?_
                refine lv_iconst (v := 1) hx hb dL_law_640 (by decide) ?_
                refine lv_iadd hx hb dL_law_641 ?_
                refine ej_topi (show nI i + 1 = nI (i + 1) from nI_add i 1) ?_
                refine va_sld hx hb hX hbl hbA hS (vp_in_nI (n := i + 1) (N := L) (by omega) (by omega)) dL_law_642 ?_
                refine ej_topi (show xs (nI (i + 1)).toNatClampNeg = xs (i + 1) from congrArg xs (nI_clamp (by omega))) ?_
                refine ej_topi (show xs (i + 1) = 6 from k_7) ?_
                obtain ⟨r1M_3, e_r1M_3⟩ : ∃ z9 : Int32, z9 = sumI (fun p => if P_ou t p = 0 then (if 0 ≤ P_be t p then P_be t p else -(P_be t p)) else 0) 35 := ⟨_, rfl⟩
                refine ej_VR (wa := MW cI bm n q sp sk be fo op ha st t u ga ps tM uM f z3 m7 g8) (wa' := MW cI bm n q sp sk be fo op ha st t u ga ps tM uM f z3 m7 g8) (wb := CW cI cT o aT aB aS g y z ad sk s0 s1 s2 t u tb ub ts us n ro hp q f f1 f2) (As := [.int 6]) (rest := [.int r1C_1]) S hK hN hA hP hD hS (c_X7_count_6 l D tys cI ht0 bm n q sp sk be fo op ha st t u r1M_3 e_r1M_3 hok.1 hok.2.1) (cwV 1 hts gL_law_X7_count rfl rfl rfl hdv_X7_count ⟨Nat.le_of_ble_eq_true rfl, Nat.le_of_ble_eq_true rfl⟩) [0, 1] [some 0, some 1] [(bm 0), (bm 1)] rfl (by decide +kernel) ⟨rfl, rfl⟩ rfl (by decide +kernel) (Nat.le_of_ble_eq_true rfl) 0 7 rfl rfl rfl rfl hl.1 (Nat.le_of_ble_eq_true rfl) dL_law_643 ⟨Nat.le_of_ble_eq_true rfl, Nat.le_of_ble_eq_true rfl⟩ (fun H locs hP hD hS => ?_)
                show W p9 l e9 room_1 s9 m9 a9 b9 t9 c9 H locs 146 3194 Q (F0 m9 646 ls (.int r1M_3 :: [.int r1C_1]))
                have hP : va_P D vwCl (CW cI cT o aT aB aS g y z ad sk s0 s1 s2 t u tb ub ts us n ro hp q f f1 f2 ++ MW cI bm n q sp sk be fo op ha st t u ga ps tM uM f z3 m7 g8) H := hP
                have hD : va_D A (CW cI cT o aT aB aS g y z ad sk s0 s1 s2 t u tb ub ts us n ro hp q f f1 f2 ++ MW cI bm n q sp sk be fo op ha st t u ga ps tM uM f z3 m7 g8) := hD
                refine lv_icmp_eq (tgt := 862) hx hb dL_law_646 (by decide) (fun _ => ?_) (fun h9 => absurd (by rw [e_r1C_1, k_7, e_r1M_3]; exact bnd_eq hok) h9)
                exact hLK sk s0 s1 s2 t u tb ub ts us n ro hp q f f1 f2 sp be fo op ha st ga ps tM uM z3 m7 g8 H locs ls (LI_up hI (by omega)) hP hD hS hl
              · rcases Decidable.em ((xs (i + 1)) = 7) with k_8 | k_8
                · refine lv_aload_n hx hb dL_law_637 rfl (lv_at hl 2 rfl) ?_
                  refine lv_aload_n hx hb dL_law_638 rfl (lv_at hl 0 rfl) ?_
                  refine lv_iload_n hx hb dL_law_639 rfl (lv_at hl 3 rfl) ?_
                  refine lv_iconst (v := 1) hx hb dL_law_640 (by decide) ?_
                  refine lv_iadd hx hb dL_law_641 ?_
                  refine ej_topi (show nI i + 1 = nI (i + 1) from nI_add i 1) ?_
                  refine va_sld hx hb hX hbl hbA hS (vp_in_nI (n := i + 1) (N := L) (by omega) (by omega)) dL_law_642 ?_
                  refine ej_topi (show xs (nI (i + 1)).toNatClampNeg = xs (i + 1) from congrArg xs (nI_clamp (by omega))) ?_
                  refine ej_topi (show xs (i + 1) = 7 from k_8) ?_
                  refine ej_VR (wa := MW cI bm n q sp sk be fo op ha st t u ga ps tM uM f z3 m7 g8) (wa' := MW cI bm n q sp sk be fo op ha st t u ga ps tM uM f z3 m7 g8) (wb := CW cI cT o aT aB aS g y z ad sk s0 s1 s2 t u tb ub ts us n ro hp q f f1 f2) (As := [.int 7]) (rest := [.int r1C_1]) S hK hN hA hP hD hS (c_X7_count_7 l D tys cI ht0 bm n q sp sk be fo op ha st t u) (cwV 1 hts gL_law_X7_count rfl rfl rfl hdv_X7_count ⟨Nat.le_of_ble_eq_true rfl, Nat.le_of_ble_eq_true rfl⟩) [0, 1] [some 0, some 1] [(bm 0), (bm 1)] rfl (by decide +kernel) ⟨rfl, rfl⟩ rfl (by decide +kernel) (Nat.le_of_ble_eq_true rfl) 0 7 rfl rfl rfl rfl hl.1 (Nat.le_of_ble_eq_true rfl) dL_law_643 ⟨Nat.le_of_ble_eq_true rfl, Nat.le_of_ble_eq_true rfl⟩ (fun H locs hP hD hS => ?_)
                  show W p9 l e9 room_1 s9 m9 a9 b9 t9 c9 H locs 146 3194 Q (F0 m9 646 ls (.int (sumI (P_bl t) 35) :: [.int r1C_1]))
                  have hP : va_P D vwCl (CW cI cT o aT aB aS g y z ad sk s0 s1 s2 t u tb ub ts us n ro hp q f f1 f2 ++ MW cI bm n q sp sk be fo op ha st t u ga ps tM uM f z3 m7 g8) H := hP
                  have hD : va_D A (CW cI cT o aT aB aS g y z ad sk s0 s1 s2 t u tb ub ts us n ro hp q f f1 f2 ++ MW cI bm n q sp sk be fo op ha st t u ga ps tM uM f z3 m7 g8) := hD
                  refine lv_icmp_eq (tgt := 862) hx hb dL_law_646 (by decide) (fun _ => ?_) (fun h9 => absurd (by rw [e_r1C_1, k_8]; rfl) h9)
                  exact hLK sk s0 s1 s2 t u tb ub ts us n ro hp q f f1 f2 sp be fo op ha st ga ps tM uM z3 m7 g8 H locs ls (LI_up hI (by omega)) hP hD hS hl
                · rcases Decidable.em ((xs (i + 1)) = 8) with k_9 | k_9
                  · refine lv_aload_n hx hb dL_law_637 rfl (lv_at hl 2 rfl) ?_
                    refine lv_aload_n hx hb dL_law_638 rfl (lv_at hl 0 rfl) ?_
                    refine lv_iload_n hx hb dL_law_639 rfl (lv_at hl 3 rfl) ?_
                    refine lv_iconst (v := 1) hx hb dL_law_640 (by decide) ?_
                    refine lv_iadd hx hb dL_law_641 ?_
                    refine ej_topi (show nI i + 1 = nI (i + 1) from nI_add i 1) ?_
                    refine va_sld hx hb hX hbl hbA hS (vp_in_nI (n := i + 1) (N := L) (by omega) (by omega)) dL_law_642 ?_
                    refine ej_topi (show xs (nI (i + 1)).toNatClampNeg = xs (i + 1) from congrArg xs (nI_clamp (by omega))) ?_
                    refine ej_topi (show xs (i + 1) = 8 from k_9) ?_
                    obtain ⟨r1M_4, e_r1M_4⟩ : ∃ z9 : Int32, z9 = sumI (fun k => if ¬ T_he u k < T_fu u then 1 else 0) 7 := ⟨_, rfl⟩
                    refine ej_VR (wa := MW cI bm n q sp sk be fo op ha st t u ga ps tM uM f z3 m7 g8) (wa' := MW cI bm n q sp sk be fo op ha st t u ga ps tM uM f z3 m7 g8) (wb := CW cI cT o aT aB aS g y z ad sk s0 s1 s2 t u tb ub ts us n ro hp q f f1 f2) (As := [.int 8]) (rest := [.int r1C_1]) S hK hN hA hP hD hS (c_X7_count_8 l D tys cI ht0 bm n q sp sk be fo op ha st t u r1M_4 e_r1M_4 hok.1 hok.2.1) (cwV 1 hts gL_law_X7_count rfl rfl rfl hdv_X7_count ⟨Nat.le_of_ble_eq_true rfl, Nat.le_of_ble_eq_true rfl⟩) [0, 1] [some 0, some 1] [(bm 0), (bm 1)] rfl (by decide +kernel) ⟨rfl, rfl⟩ rfl (by decide +kernel) (Nat.le_of_ble_eq_true rfl) 0 7 rfl rfl rfl rfl hl.1 (Nat.le_of_ble_eq_true rfl) dL_law_643 ⟨Nat.le_of_ble_eq_true rfl, Nat.le_of_ble_eq_true rfl⟩ (fun H locs hP hD hS => ?_)
                    show W p9 l e9 room_1 s9 m9 a9 b9 t9 c9 H locs 146 3194 Q (F0 m9 646 ls (.int r1M_4 :: [.int r1C_1]))
                    have hP : va_P D vwCl (CW cI cT o aT aB aS g y z ad sk s0 s1 s2 t u tb ub ts us n ro hp q f f1 f2 ++ MW cI bm n q sp sk be fo op ha st t u ga ps tM uM f z3 m7 g8) H := hP
                    have hD : va_D A (CW cI cT o aT aB aS g y z ad sk s0 s1 s2 t u tb ub ts us n ro hp q f f1 f2 ++ MW cI bm n q sp sk be fo op ha st t u ga ps tM uM f z3 m7 g8) := hD
                    refine lv_icmp_eq (tgt := 862) hx hb dL_law_646 (by decide) (fun _ => ?_) (fun h9 => absurd (by rw [e_r1C_1, k_9, e_r1M_4]; rfl) h9)
                    exact hLK sk s0 s1 s2 t u tb ub ts us n ro hp q f f1 f2 sp be fo op ha st ga ps tM uM z3 m7 g8 H locs ls (LI_up hI (by omega)) hP hD hS hl
                  · rcases Decidable.em ((xs (i + 1)) = 9) with k_10 | k_10
                    · refine lv_aload_n hx hb dL_law_637 rfl (lv_at hl 2 rfl) ?_
                      refine lv_aload_n hx hb dL_law_638 rfl (lv_at hl 0 rfl) ?_
                      refine lv_iload_n hx hb dL_law_639 rfl (lv_at hl 3 rfl) ?_
                      refine lv_iconst (v := 1) hx hb dL_law_640 (by decide) ?_
                      refine lv_iadd hx hb dL_law_641 ?_
                      refine ej_topi (show nI i + 1 = nI (i + 1) from nI_add i 1) ?_
                      refine va_sld hx hb hX hbl hbA hS (vp_in_nI (n := i + 1) (N := L) (by omega) (by omega)) dL_law_642 ?_
                      refine ej_topi (show xs (nI (i + 1)).toNatClampNeg = xs (i + 1) from congrArg xs (nI_clamp (by omega))) ?_
                      refine ej_topi (show xs (i + 1) = 9 from k_10) ?_
                      obtain ⟨r1M_5, e_r1M_5⟩ : ∃ z9 : Int32, z9 = nI (popc (cmG t 127 5)) := ⟨_, rfl⟩
                      refine ej_VR (wa := MW cI bm n q sp sk be fo op ha st t u ga ps tM uM f z3 m7 g8) (wa' := MW cI bm n q sp sk be fo op ha st t u ga ps tM uM f z3 m7 g8) (wb := CW cI cT o aT aB aS g y z ad sk s0 s1 s2 t u tb ub ts us n ro hp q f f1 f2) (As := [.int 9]) (rest := [.int r1C_1]) S hK hN hA hP hD hS (c_X7_count_9 l D tys cI ht0 bm n q sp sk be fo op ha st t u r1M_5 e_r1M_5 hok.1 hok.2.1) (cwV 1 hts gL_law_X7_count rfl rfl rfl hdv_X7_count ⟨Nat.le_of_ble_eq_true rfl, Nat.le_of_ble_eq_true rfl⟩) [0, 1] [some 0, some 1] [(bm 0), (bm 1)] rfl (by decide +kernel) ⟨rfl, rfl⟩ rfl (by decide +kernel) (Nat.le_of_ble_eq_true rfl) 0 7 rfl rfl rfl rfl hl.1 (Nat.le_of_ble_eq_true rfl) dL_law_643 ⟨Nat.le_of_ble_eq_true rfl, Nat.le_of_ble_eq_true rfl⟩ (fun H locs hP hD hS => ?_)
                      show W p9 l e9 room_1 s9 m9 a9 b9 t9 c9 H locs 146 3194 Q (F0 m9 646 ls (.int r1M_5 :: [.int r1C_1]))
                      have hP : va_P D vwCl (CW cI cT o aT aB aS g y z ad sk s0 s1 s2 t u tb ub ts us n ro hp q f f1 f2 ++ MW cI bm n q sp sk be fo op ha st t u ga ps tM uM f z3 m7 g8) H := hP
                      have hD : va_D A (CW cI cT o aT aB aS g y z ad sk s0 s1 s2 t u tb ub ts us n ro hp q f f1 f2 ++ MW cI bm n q sp sk be fo op ha st t u ga ps tM uM f z3 m7 g8) := hD
                      refine lv_icmp_eq (tgt := 862) hx hb dL_law_646 (by decide) (fun _ => ?_) (fun h9 => absurd (by rw [e_r1C_1, k_10, e_r1M_5, cm_fwd]; rfl) h9)
                      exact hLK sk s0 s1 s2 t u tb ub ts us n ro hp q f f1 f2 sp be fo op ha st ga ps tM uM z3 m7 g8 H locs ls (LI_up hI (by omega)) hP hD hS hl
                    · rcases Decidable.em ((xs (i + 1)) = 10) with k_11 | k_11
                      · refine lv_aload_n hx hb dL_law_637 rfl (lv_at hl 2 rfl) ?_
                        refine lv_aload_n hx hb dL_law_638 rfl (lv_at hl 0 rfl) ?_
                        refine lv_iload_n hx hb dL_law_639 rfl (lv_at hl 3 rfl) ?_
                        refine lv_iconst (v := 1) hx hb dL_law_640 (by decide) ?_
                        refine lv_iadd hx hb dL_law_641 ?_
                        refine ej_topi (show nI i + 1 = nI (i + 1) from nI_add i 1) ?_
                        refine va_sld hx hb hX hbl hbA hS (vp_in_nI (n := i + 1) (N := L) (by omega) (by omega)) dL_law_642 ?_
                        refine ej_topi (show xs (nI (i + 1)).toNatClampNeg = xs (i + 1) from congrArg xs (nI_clamp (by omega))) ?_
                        refine ej_topi (show xs (i + 1) = 10 from k_11) ?_
                        refine ej_VR (wa := MW cI bm n q sp sk be fo op ha st t u ga ps tM uM f z3 m7 g8) (wa' := MW cI bm n q sp sk be fo op ha st t u ga ps tM uM f z3 m7 g8) (wb := CW cI cT o aT aB aS g y z ad sk s0 s1 s2 t u tb ub ts us n ro hp q f f1 f2) (As := [.int 10]) (rest := [.int r1C_1]) S hK hN hA hP hD hS (c_X7_count_10 l D tys cI ht0 bm n q sp sk be fo op ha st t u) (cwV 1 hts gL_law_X7_count rfl rfl rfl hdv_X7_count ⟨Nat.le_of_ble_eq_true rfl, Nat.le_of_ble_eq_true rfl⟩) [0, 1] [some 0, some 1] [(bm 0), (bm 1)] rfl (by decide +kernel) ⟨rfl, rfl⟩ rfl (by decide +kernel) (Nat.le_of_ble_eq_true rfl) 0 7 rfl rfl rfl rfl hl.1 (Nat.le_of_ble_eq_true rfl) dL_law_643 ⟨Nat.le_of_ble_eq_true rfl, Nat.le_of_ble_eq_true rfl⟩ (fun H locs hP hD hS => ?_)
                        show W p9 l e9 room_1 s9 m9 a9 b9 t9 c9 H locs 146 3194 Q (F0 m9 646 ls (.int (T_sh u) :: [.int r1C_1]))
                        have hP : va_P D vwCl (CW cI cT o aT aB aS g y z ad sk s0 s1 s2 t u tb ub ts us n ro hp q f f1 f2 ++ MW cI bm n q sp sk be fo op ha st t u ga ps tM uM f z3 m7 g8) H := hP
                        have hD : va_D A (CW cI cT o aT aB aS g y z ad sk s0 s1 s2 t u tb ub ts us n ro hp q f f1 f2 ++ MW cI bm n q sp sk be fo op ha st t u ga ps tM uM f z3 m7 g8) := hD
                        refine lv_icmp_eq (tgt := 862) hx hb dL_law_646 (by decide) (fun _ => ?_) (fun h9 => absurd (by rw [e_r1C_1, k_11]; rfl) h9)
                        exact hLK sk s0 s1 s2 t u tb ub ts us n ro hp q f f1 f2 sp be fo op ha st ga ps tM uM z3 m7 g8 H locs ls (LI_up hI (by omega)) hP hD hS hl
                      · rcases Decidable.em ((xs (i + 1)) = 11) with k_12 | k_12
                        · refine lv_aload_n hx hb dL_law_637 rfl (lv_at hl 2 rfl) ?_
                          refine lv_aload_n hx hb dL_law_638 rfl (lv_at hl 0 rfl) ?_
                          refine lv_iload_n hx hb dL_law_639 rfl (lv_at hl 3 rfl) ?_
                          refine lv_iconst (v := 1) hx hb dL_law_640 (by decide) ?_
                          refine lv_iadd hx hb dL_law_641 ?_
                          refine ej_topi (show nI i + 1 = nI (i + 1) from nI_add i 1) ?_
                          refine va_sld hx hb hX hbl hbA hS (vp_in_nI (n := i + 1) (N := L) (by omega) (by omega)) dL_law_642 ?_
                          refine ej_topi (show xs (nI (i + 1)).toNatClampNeg = xs (i + 1) from congrArg xs (nI_clamp (by omega))) ?_
                          refine ej_topi (show xs (i + 1) = 11 from k_12) ?_
                          refine ej_VR (wa := MW cI bm n q sp sk be fo op ha st t u ga ps tM uM f z3 m7 g8) (wa' := MW cI bm n q sp sk be fo op ha st t u ga ps tM uM f z3 m7 g8) (wb := CW cI cT o aT aB aS g y z ad sk s0 s1 s2 t u tb ub ts us n ro hp q f f1 f2) (As := [.int 11]) (rest := [.int r1C_1]) S hK hN hA hP hD hS (c_X7_count_11 l D tys cI ht0 bm n q sp sk be fo op ha st t u) (cwV 1 hts gL_law_X7_count rfl rfl rfl hdv_X7_count ⟨Nat.le_of_ble_eq_true rfl, Nat.le_of_ble_eq_true rfl⟩) [0, 1] [some 0, some 1] [(bm 0), (bm 1)] rfl (by decide +kernel) ⟨rfl, rfl⟩ rfl (by decide +kernel) (Nat.le_of_ble_eq_true rfl) 0 7 rfl rfl rfl rfl hl.1 (Nat.le_of_ble_eq_true rfl) dL_law_643 ⟨Nat.le_of_ble_eq_true rfl, Nat.le_of_ble_eq_true rfl⟩ (fun H locs hP hD hS => ?_)
                          show W p9 l e9 room_1 s9 m9 a9 b9 t9 c9 H locs 146 3194 Q (F0 m9 646 ls (.int (T_ha u) :: [.int r1C_1]))
                          have hP : va_P D vwCl (CW cI cT o aT aB aS g y z ad sk s0 s1 s2 t u tb ub ts us n ro hp q f f1 f2 ++ MW cI bm n q sp sk be fo op ha st t u ga ps tM uM f z3 m7 g8) H := hP
                          have hD : va_D A (CW cI cT o aT aB aS g y z ad sk s0 s1 s2 t u tb ub ts us n ro hp q f f1 f2 ++ MW cI bm n q sp sk be fo op ha st t u ga ps tM uM f z3 m7 g8) := hD
                          refine lv_icmp_eq (tgt := 862) hx hb dL_law_646 (by decide) (fun _ => ?_) (fun h9 => absurd (by rw [e_r1C_1, k_12]; rfl) h9)
                          exact hLK sk s0 s1 s2 t u tb ub ts us n ro hp q f f1 f2 sp be fo op ha st ga ps tM uM z3 m7 g8 H locs ls (LI_up hI (by omega)) hP hD hS hl
                        · rcases Decidable.em ((xs (i + 1)) = 12) with k_13 | k_13
                          · refine lv_aload_n hx hb dL_law_637 rfl (lv_at hl 2 rfl) ?_
                            refine lv_aload_n hx hb dL_law_638 rfl (lv_at hl 0 rfl) ?_
                            refine lv_iload_n hx hb dL_law_639 rfl (lv_at hl 3 rfl) ?_
                            refine lv_iconst (v := 1) hx hb dL_law_640 (by decide) ?_
                            refine lv_iadd hx hb dL_law_641 ?_
                            refine ej_topi (show nI i + 1 = nI (i + 1) from nI_add i 1) ?_
                            refine va_sld hx hb hX hbl hbA hS (vp_in_nI (n := i + 1) (N := L) (by omega) (by omega)) dL_law_642 ?_
                            refine ej_topi (show xs (nI (i + 1)).toNatClampNeg = xs (i + 1) from congrArg xs (nI_clamp (by omega))) ?_
                            refine ej_topi (show xs (i + 1) = 12 from k_13) ?_
                            refine ej_VR (wa := MW cI bm n q sp sk be fo op ha st t u ga ps tM uM f z3 m7 g8) (wa' := MW cI bm n q sp sk be fo op ha st t u ga ps tM uM f z3 m7 g8) (wb := CW cI cT o aT aB aS g y z ad sk s0 s1 s2 t u tb ub ts us n ro hp q f f1 f2) (As := [.int 12]) (rest := [.int r1C_1]) S hK hN hA hP hD hS (c_X7_count_12 l D tys cI ht0 bm n q sp sk be fo op ha st t u) (cwV 1 hts gL_law_X7_count rfl rfl rfl hdv_X7_count ⟨Nat.le_of_ble_eq_true rfl, Nat.le_of_ble_eq_true rfl⟩) [0, 1] [some 0, some 1] [(bm 0), (bm 1)] rfl (by decide +kernel) ⟨rfl, rfl⟩ rfl (by decide +kernel) (Nat.le_of_ble_eq_true rfl) 0 7 rfl rfl rfl rfl hl.1 (Nat.le_of_ble_eq_true rfl) dL_law_643 ⟨Nat.le_of_ble_eq_true rfl, Nat.le_of_ble_eq_true rfl⟩ (fun H locs hP hD hS => ?_)
                            show W p9 l e9 room_1 s9 m9 a9 b9 t9 c9 H locs 146 3194 Q (F0 m9 646 ls (.int (P_ri t) :: [.int r1C_1]))
                            have hP : va_P D vwCl (CW cI cT o aT aB aS g y z ad sk s0 s1 s2 t u tb ub ts us n ro hp q f f1 f2 ++ MW cI bm n q sp sk be fo op ha st t u ga ps tM uM f z3 m7 g8) H := hP
                            have hD : va_D A (CW cI cT o aT aB aS g y z ad sk s0 s1 s2 t u tb ub ts us n ro hp q f f1 f2 ++ MW cI bm n q sp sk be fo op ha st t u ga ps tM uM f z3 m7 g8) := hD
                            refine lv_icmp_eq (tgt := 862) hx hb dL_law_646 (by decide) (fun _ => ?_) (fun h9 => absurd (by rw [e_r1C_1, k_13]; rfl) h9)
                            exact hLK sk s0 s1 s2 t u tb ub ts us n ro hp q f f1 f2 sp be fo op ha st ga ps tM uM z3 m7 g8 H locs ls (LI_up hI (by omega)) hP hD hS hl
                          · rcases Decidable.em ((xs (i + 1)) = 13) with k_14 | k_14
                            · refine lv_aload_n hx hb dL_law_637 rfl (lv_at hl 2 rfl) ?_
                              refine lv_aload_n hx hb dL_law_638 rfl (lv_at hl 0 rfl) ?_
                              refine lv_iload_n hx hb dL_law_639 rfl (lv_at hl 3 rfl) ?_
                              refine lv_iconst (v := 1) hx hb dL_law_640 (by decide) ?_
                              refine lv_iadd hx hb dL_law_641 ?_
                              refine ej_topi (show nI i + 1 = nI (i + 1) from nI_add i 1) ?_
                              refine va_sld hx hb hX hbl hbA hS (vp_in_nI (n := i + 1) (N := L) (by omega) (by omega)) dL_law_642 ?_
                              refine ej_topi (show xs (nI (i + 1)).toNatClampNeg = xs (i + 1) from congrArg xs (nI_clamp (by omega))) ?_
                              refine ej_topi (show xs (i + 1) = 13 from k_14) ?_
                              refine ej_VR (wa := MW cI bm n q sp sk be fo op ha st t u ga ps tM uM f z3 m7 g8) (wa' := MW cI bm n q sp sk be fo op ha st t u ga ps tM uM f z3 m7 g8) (wb := CW cI cT o aT aB aS g y z ad sk s0 s1 s2 t u tb ub ts us n ro hp q f f1 f2) (As := [.int 13]) (rest := [.int r1C_1]) S hK hN hA hP hD hS (c_X7_count_13 l D tys cI ht0 bm n q sp sk be fo op ha st t u) (cwV 1 hts gL_law_X7_count rfl rfl rfl hdv_X7_count ⟨Nat.le_of_ble_eq_true rfl, Nat.le_of_ble_eq_true rfl⟩) [0, 1] [some 0, some 1] [(bm 0), (bm 1)] rfl (by decide +kernel) ⟨rfl, rfl⟩ rfl (by decide +kernel) (Nat.le_of_ble_eq_true rfl) 0 7 rfl rfl rfl rfl hl.1 (Nat.le_of_ble_eq_true rfl) dL_law_643 ⟨Nat.le_of_ble_eq_true rfl, Nat.le_of_ble_eq_true rfl⟩ (fun H locs hP hD hS => ?_)
                              show W p9 l e9 room_1 s9 m9 a9 b9 t9 c9 H locs 146 3194 Q (F0 m9 646 ls (.int (P_bb t) :: [.int r1C_1]))
                              have hP : va_P D vwCl (CW cI cT o aT aB aS g y z ad sk s0 s1 s2 t u tb ub ts us n ro hp q f f1 f2 ++ MW cI bm n q sp sk be fo op ha st t u ga ps tM uM f z3 m7 g8) H := hP
                              have hD : va_D A (CW cI cT o aT aB aS g y z ad sk s0 s1 s2 t u tb ub ts us n ro hp q f f1 f2 ++ MW cI bm n q sp sk be fo op ha st t u ga ps tM uM f z3 m7 g8) := hD
                              refine lv_icmp_eq (tgt := 862) hx hb dL_law_646 (by decide) (fun _ => ?_) (fun h9 => absurd (by rw [e_r1C_1, k_14]; rfl) h9)
                              exact hLK sk s0 s1 s2 t u tb ub ts us n ro hp q f f1 f2 sp be fo op ha st ga ps tM uM z3 m7 g8 H locs ls (LI_up hI (by omega)) hP hD hS hl
                            · rcases Decidable.em ((xs (i + 1)) = 14) with k_15 | k_15
                              · refine lv_aload_n hx hb dL_law_637 rfl (lv_at hl 2 rfl) ?_
                                refine lv_aload_n hx hb dL_law_638 rfl (lv_at hl 0 rfl) ?_
                                refine lv_iload_n hx hb dL_law_639 rfl (lv_at hl 3 rfl) ?_
                                refine lv_iconst (v := 1) hx hb dL_law_640 (by decide) ?_
                                refine lv_iadd hx hb dL_law_641 ?_
                                refine ej_topi (show nI i + 1 = nI (i + 1) from nI_add i 1) ?_
                                refine va_sld hx hb hX hbl hbA hS (vp_in_nI (n := i + 1) (N := L) (by omega) (by omega)) dL_law_642 ?_
                                refine ej_topi (show xs (nI (i + 1)).toNatClampNeg = xs (i + 1) from congrArg xs (nI_clamp (by omega))) ?_
                                refine ej_topi (show xs (i + 1) = 14 from k_15) ?_
                                refine ej_VR (wa := MW cI bm n q sp sk be fo op ha st t u ga ps tM uM f z3 m7 g8) (wa' := MW cI bm n q sp sk be fo op ha st t u ga ps tM uM f z3 m7 g8) (wb := CW cI cT o aT aB aS g y z ad sk s0 s1 s2 t u tb ub ts us n ro hp q f f1 f2) (As := [.int 14]) (rest := [.int r1C_1]) S hK hN hA hP hD hS (c_X7_count_14 l D tys cI ht0 bm n q sp sk be fo op ha st t u) (cwV 1 hts gL_law_X7_count rfl rfl rfl hdv_X7_count ⟨Nat.le_of_ble_eq_true rfl, Nat.le_of_ble_eq_true rfl⟩) [0, 1] [some 0, some 1] [(bm 0), (bm 1)] rfl (by decide +kernel) ⟨rfl, rfl⟩ rfl (by decide +kernel) (Nat.le_of_ble_eq_true rfl) 0 7 rfl rfl rfl rfl hl.1 (Nat.le_of_ble_eq_true rfl) dL_law_643 ⟨Nat.le_of_ble_eq_true rfl, Nat.le_of_ble_eq_true rfl⟩ (fun H locs hP hD hS => ?_)
                                show W p9 l e9 room_1 s9 m9 a9 b9 t9 c9 H locs 146 3194 Q (F0 m9 646 ls (.int (T_re u) :: [.int r1C_1]))
                                have hP : va_P D vwCl (CW cI cT o aT aB aS g y z ad sk s0 s1 s2 t u tb ub ts us n ro hp q f f1 f2 ++ MW cI bm n q sp sk be fo op ha st t u ga ps tM uM f z3 m7 g8) H := hP
                                have hD : va_D A (CW cI cT o aT aB aS g y z ad sk s0 s1 s2 t u tb ub ts us n ro hp q f f1 f2 ++ MW cI bm n q sp sk be fo op ha st t u ga ps tM uM f z3 m7 g8) := hD
                                refine lv_icmp_eq (tgt := 862) hx hb dL_law_646 (by decide) (fun _ => ?_) (fun h9 => absurd (by rw [e_r1C_1, k_15]; rfl) h9)
                                exact hLK sk s0 s1 s2 t u tb ub ts us n ro hp q f f1 f2 sp be fo op ha st ga ps tM uM z3 m7 g8 H locs ls (LI_up hI (by omega)) hP hD hS hl
                              · rcases Decidable.em ((xs (i + 1)) = 15) with k_16 | k_16
                                · refine lv_aload_n hx hb dL_law_637 rfl (lv_at hl 2 rfl) ?_
                                  refine lv_aload_n hx hb dL_law_638 rfl (lv_at hl 0 rfl) ?_
                                  refine lv_iload_n hx hb dL_law_639 rfl (lv_at hl 3 rfl) ?_
                                  refine lv_iconst (v := 1) hx hb dL_law_640 (by decide) ?_
                                  refine lv_iadd hx hb dL_law_641 ?_
                                  refine ej_topi (show nI i + 1 = nI (i + 1) from nI_add i 1) ?_
                                  refine va_sld hx hb hX hbl hbA hS (vp_in_nI (n := i + 1) (N := L) (by omega) (by omega)) dL_law_642 ?_
                                  refine ej_topi (show xs (nI (i + 1)).toNatClampNeg = xs (i + 1) from congrArg xs (nI_clamp (by omega))) ?_
                                  refine ej_topi (show xs (i + 1) = 15 from k_16) ?_
                                  refine ej_VR (wa := MW cI bm n q sp sk be fo op ha st t u ga ps tM uM f z3 m7 g8) (wa' := MW cI bm n q sp sk be fo op ha st t u ga ps tM uM f z3 m7 g8) (wb := CW cI cT o aT aB aS g y z ad sk s0 s1 s2 t u tb ub ts us n ro hp q f f1 f2) (As := [.int 15]) (rest := [.int r1C_1]) S hK hN hA hP hD hS (c_X7_count_15 l D tys cI ht0 bm n q sp sk be fo op ha st t u) (cwV 1 hts gL_law_X7_count rfl rfl rfl hdv_X7_count ⟨Nat.le_of_ble_eq_true rfl, Nat.le_of_ble_eq_true rfl⟩) [0, 1] [some 0, some 1] [(bm 0), (bm 1)] rfl (by decide +kernel) ⟨rfl, rfl⟩ rfl (by decide +kernel) (Nat.le_of_ble_eq_true rfl) 0 7 rfl rfl rfl rfl hl.1 (Nat.le_of_ble_eq_true rfl) dL_law_643 ⟨Nat.le_of_ble_eq_true rfl, Nat.le_of_ble_eq_true rfl⟩ (fun H locs hP hD hS => ?_)
                                  show W p9 l e9 room_1 s9 m9 a9 b9 t9 c9 H locs 146 3194 Q (F0 m9 646 ls (.int (P_ti t) :: [.int r1C_1]))
                                  have hP : va_P D vwCl (CW cI cT o aT aB aS g y z ad sk s0 s1 s2 t u tb ub ts us n ro hp q f f1 f2 ++ MW cI bm n q sp sk be fo op ha st t u ga ps tM uM f z3 m7 g8) H := hP
                                  have hD : va_D A (CW cI cT o aT aB aS g y z ad sk s0 s1 s2 t u tb ub ts us n ro hp q f f1 f2 ++ MW cI bm n q sp sk be fo op ha st t u ga ps tM uM f z3 m7 g8) := hD
                                  refine lv_icmp_eq (tgt := 862) hx hb dL_law_646 (by decide) (fun _ => ?_) (fun h9 => absurd (by rw [e_r1C_1, k_16]; rfl) h9)
                                  exact hLK sk s0 s1 s2 t u tb ub ts us n ro hp q f f1 f2 sp be fo op ha st ga ps tM uM z3 m7 g8 H locs ls (LI_up hI (by omega)) hP hD hS hl
                                · rcases Decidable.em ((xs (i + 1)) = 16) with k_17 | k_17
                                  · refine lv_aload_n hx hb dL_law_637 rfl (lv_at hl 2 rfl) ?_
                                    refine lv_aload_n hx hb dL_law_638 rfl (lv_at hl 0 rfl) ?_
                                    refine lv_iload_n hx hb dL_law_639 rfl (lv_at hl 3 rfl) ?_
                                    refine lv_iconst (v := 1) hx hb dL_law_640 (by decide) ?_
                                    refine lv_iadd hx hb dL_law_641 ?_
                                    refine ej_topi (show nI i + 1 = nI (i + 1) from nI_add i 1) ?_
                                    refine va_sld hx hb hX hbl hbA hS (vp_in_nI (n := i + 1) (N := L) (by omega) (by omega)) dL_law_642 ?_
                                    refine ej_topi (show xs (nI (i + 1)).toNatClampNeg = xs (i + 1) from congrArg xs (nI_clamp (by omega))) ?_
                                    refine ej_topi (show xs (i + 1) = 16 from k_17) ?_
                                    refine ej_VR (wa := MW cI bm n q sp sk be fo op ha st t u ga ps tM uM f z3 m7 g8) (wa' := MW cI bm n q sp sk be fo op ha st t u ga ps tM uM f z3 m7 g8) (wb := CW cI cT o aT aB aS g y z ad sk s0 s1 s2 t u tb ub ts us n ro hp q f f1 f2) (As := [.int 16]) (rest := [.int r1C_1]) S hK hN hA hP hD hS (c_X7_count_16 l D tys cI ht0 bm n q sp sk be fo op ha st t u) (cwV 1 hts gL_law_X7_count rfl rfl rfl hdv_X7_count ⟨Nat.le_of_ble_eq_true rfl, Nat.le_of_ble_eq_true rfl⟩) [0, 1] [some 0, some 1] [(bm 0), (bm 1)] rfl (by decide +kernel) ⟨rfl, rfl⟩ rfl (by decide +kernel) (Nat.le_of_ble_eq_true rfl) 0 7 rfl rfl rfl rfl hl.1 (Nat.le_of_ble_eq_true rfl) dL_law_643 ⟨Nat.le_of_ble_eq_true rfl, Nat.le_of_ble_eq_true rfl⟩ (fun H locs hP hD hS => ?_)
                                    show W p9 l e9 room_1 s9 m9 a9 b9 t9 c9 H locs 146 3194 Q (F0 m9 646 ls (.int (T_fu u) :: [.int r1C_1]))
                                    have hP : va_P D vwCl (CW cI cT o aT aB aS g y z ad sk s0 s1 s2 t u tb ub ts us n ro hp q f f1 f2 ++ MW cI bm n q sp sk be fo op ha st t u ga ps tM uM f z3 m7 g8) H := hP
                                    have hD : va_D A (CW cI cT o aT aB aS g y z ad sk s0 s1 s2 t u tb ub ts us n ro hp q f f1 f2 ++ MW cI bm n q sp sk be fo op ha st t u ga ps tM uM f z3 m7 g8) := hD
                                    refine lv_icmp_eq (tgt := 862) hx hb dL_law_646 (by decide) (fun _ => ?_) (fun h9 => absurd (by rw [e_r1C_1, k_17]; rfl) h9)
                                    exact hLK sk s0 s1 s2 t u tb ub ts us n ro hp q f f1 f2 sp be fo op ha st ga ps tM uM z3 m7 g8 H locs ls (LI_up hI (by omega)) hP hD hS hl
                                  · rcases Decidable.em ((xs (i + 1)) = 17) with k_18 | k_18
                                    · refine lv_aload_n hx hb dL_law_637 rfl (lv_at hl 2 rfl) ?_
                                      refine lv_aload_n hx hb dL_law_638 rfl (lv_at hl 0 rfl) ?_
                                      refine lv_iload_n hx hb dL_law_639 rfl (lv_at hl 3 rfl) ?_
                                      refine lv_iconst (v := 1) hx hb dL_law_640 (by decide) ?_
                                      refine lv_iadd hx hb dL_law_641 ?_
                                      refine ej_topi (show nI i + 1 = nI (i + 1) from nI_add i 1) ?_
                                      refine va_sld hx hb hX hbl hbA hS (vp_in_nI (n := i + 1) (N := L) (by omega) (by omega)) dL_law_642 ?_
                                      refine ej_topi (show xs (nI (i + 1)).toNatClampNeg = xs (i + 1) from congrArg xs (nI_clamp (by omega))) ?_
                                      refine ej_topi (show xs (i + 1) = 17 from k_18) ?_
                                      refine ej_VR (wa := MW cI bm n q sp sk be fo op ha st t u ga ps tM uM f z3 m7 g8) (wa' := MW cI bm n q sp sk be fo op ha st t u ga ps tM uM f z3 m7 g8) (wb := CW cI cT o aT aB aS g y z ad sk s0 s1 s2 t u tb ub ts us n ro hp q f f1 f2) (As := [.int 17]) (rest := [.int r1C_1]) S hK hN hA hP hD hS (c_X7_count_17 l D tys cI ht0 bm n q sp sk be fo op ha st t u) (cwV 1 hts gL_law_X7_count rfl rfl rfl hdv_X7_count ⟨Nat.le_of_ble_eq_true rfl, Nat.le_of_ble_eq_true rfl⟩) [0, 1] [some 0, some 1] [(bm 0), (bm 1)] rfl (by decide +kernel) ⟨rfl, rfl⟩ rfl (by decide +kernel) (Nat.le_of_ble_eq_true rfl) 0 7 rfl rfl rfl rfl hl.1 (Nat.le_of_ble_eq_true rfl) dL_law_643 ⟨Nat.le_of_ble_eq_true rfl, Nat.le_of_ble_eq_true rfl⟩ (fun H locs hP hD hS => ?_)
                                      show W p9 l e9 room_1 s9 m9 a9 b9 t9 c9 H locs 146 3194 Q (F0 m9 646 ls (.int (nI q) :: [.int r1C_1]))
                                      have hP : va_P D vwCl (CW cI cT o aT aB aS g y z ad sk s0 s1 s2 t u tb ub ts us n ro hp q f f1 f2 ++ MW cI bm n q sp sk be fo op ha st t u ga ps tM uM f z3 m7 g8) H := hP
                                      have hD : va_D A (CW cI cT o aT aB aS g y z ad sk s0 s1 s2 t u tb ub ts us n ro hp q f f1 f2 ++ MW cI bm n q sp sk be fo op ha st t u ga ps tM uM f z3 m7 g8) := hD
                                      refine lv_icmp_eq (tgt := 862) hx hb dL_law_646 (by decide) (fun _ => ?_) (fun h9 => absurd (by rw [e_r1C_1, k_18]; rfl) h9)
                                      exact hLK sk s0 s1 s2 t u tb ub ts us n ro hp q f f1 f2 sp be fo op ha st ga ps tM uM z3 m7 g8 H locs ls (LI_up hI (by omega)) hP hD hS hl
                                    · rcases Decidable.em ((xs (i + 1)) = 18) with k_19 | k_19
                                      · refine lv_aload_n hx hb dL_law_637 rfl (lv_at hl 2 rfl) ?_
                                        refine lv_aload_n hx hb dL_law_638 rfl (lv_at hl 0 rfl) ?_
                                        refine lv_iload_n hx hb dL_law_639 rfl (lv_at hl 3 rfl) ?_
                                        refine lv_iconst (v := 1) hx hb dL_law_640 (by decide) ?_
                                        refine lv_iadd hx hb dL_law_641 ?_
                                        refine ej_topi (show nI i + 1 = nI (i + 1) from nI_add i 1) ?_
                                        refine va_sld hx hb hX hbl hbA hS (vp_in_nI (n := i + 1) (N := L) (by omega) (by omega)) dL_law_642 ?_
                                        refine ej_topi (show xs (nI (i + 1)).toNatClampNeg = xs (i + 1) from congrArg xs (nI_clamp (by omega))) ?_
                                        refine ej_topi (show xs (i + 1) = 18 from k_19) ?_
                                        refine ej_VR (wa := MW cI bm n q sp sk be fo op ha st t u ga ps tM uM f z3 m7 g8) (wa' := MW cI bm n q sp sk be fo op ha st t u ga ps tM uM f z3 m7 g8) (wb := CW cI cT o aT aB aS g y z ad sk s0 s1 s2 t u tb ub ts us n ro hp q f f1 f2) (As := [.int 18]) (rest := [.int r1C_1]) S hK hN hA hP hD hS (c_X7_count_18 l D tys cI ht0 bm n q sp sk be fo op ha st t u) (cwV 1 hts gL_law_X7_count rfl rfl rfl hdv_X7_count ⟨Nat.le_of_ble_eq_true rfl, Nat.le_of_ble_eq_true rfl⟩) [0, 1] [some 0, some 1] [(bm 0), (bm 1)] rfl (by decide +kernel) ⟨rfl, rfl⟩ rfl (by decide +kernel) (Nat.le_of_ble_eq_true rfl) 0 7 rfl rfl rfl rfl hl.1 (Nat.le_of_ble_eq_true rfl) dL_law_643 ⟨Nat.le_of_ble_eq_true rfl, Nat.le_of_ble_eq_true rfl⟩ (fun H locs hP hD hS => ?_)
                                        show W p9 l e9 room_1 s9 m9 a9 b9 t9 c9 H locs 146 3194 Q (F0 m9 646 ls (.int (nI n) :: [.int r1C_1]))
                                        have hP : va_P D vwCl (CW cI cT o aT aB aS g y z ad sk s0 s1 s2 t u tb ub ts us n ro hp q f f1 f2 ++ MW cI bm n q sp sk be fo op ha st t u ga ps tM uM f z3 m7 g8) H := hP
                                        have hD : va_D A (CW cI cT o aT aB aS g y z ad sk s0 s1 s2 t u tb ub ts us n ro hp q f f1 f2 ++ MW cI bm n q sp sk be fo op ha st t u ga ps tM uM f z3 m7 g8) := hD
                                        refine lv_icmp_eq (tgt := 862) hx hb dL_law_646 (by decide) (fun _ => ?_) (fun h9 => absurd (by rw [e_r1C_1, k_19]; rfl) h9)
                                        exact hLK sk s0 s1 s2 t u tb ub ts us n ro hp q f f1 f2 sp be fo op ha st ga ps tM uM z3 m7 g8 H locs ls (LI_up hI (by omega)) hP hD hS hl
                                      · refine lv_aload_n hx hb dL_law_637 rfl (lv_at hl 2 rfl) ?_
                                        refine lv_aload_n hx hb dL_law_638 rfl (lv_at hl 0 rfl) ?_
                                        refine lv_iload_n hx hb dL_law_639 rfl (lv_at hl 3 rfl) ?_
                                        refine lv_iconst (v := 1) hx hb dL_law_640 (by decide) ?_
                                        refine lv_iadd hx hb dL_law_641 ?_
                                        refine ej_topi (show nI i + 1 = nI (i + 1) from nI_add i 1) ?_
                                        refine va_sld hx hb hX hbl hbA hS (vp_in_nI (n := i + 1) (N := L) (by omega) (by omega)) dL_law_642 ?_
                                        refine ej_topi (show xs (nI (i + 1)).toNatClampNeg = xs (i + 1) from congrArg xs (nI_clamp (by omega))) ?_
                                        refine ej_VR (wa := MW cI bm n q sp sk be fo op ha st t u ga ps tM uM f z3 m7 g8) (wa' := MW cI bm n q sp sk be fo op ha st t u ga ps tM uM f z3 m7 g8) (wb := CW cI cT o aT aB aS g y z ad sk s0 s1 s2 t u tb ub ts us n ro hp q f f1 f2) (As := [.int (xs (i + 1))]) (rest := [.int r1C_1]) S hK hN hA hP hD hS (c_X7_count_n l D tys cI ht0 bm n q sp sk be fo op ha st t u (xs (i + 1)) (by intro z9; obtain ⟨k9, hk9, e9⟩ := ej_in 18 18 (by decide) z9; rcases (show k9 = 0 ∨ k9 = 1 ∨ k9 = 2 ∨ k9 = 3 ∨ k9 = 4 ∨ k9 = 5 ∨ k9 = 6 ∨ k9 = 7 ∨ k9 = 8 ∨ k9 = 9 ∨ k9 = 10 ∨ k9 = 11 ∨ k9 = 12 ∨ k9 = 13 ∨ k9 = 14 ∨ k9 = 15 ∨ k9 = 16 ∨ k9 = 17 ∨ k9 = 18 by omega) with h9 | h9 | h9 | h9 | h9 | h9 | h9 | h9 | h9 | h9 | h9 | h9 | h9 | h9 | h9 | h9 | h9 | h9 | h9 <;> subst h9; exact k_1 e9; exact k_2 e9; exact k_3 e9; exact k_4 e9; exact k_5 e9; exact k_6 e9; exact k_7 e9; exact k_8 e9; exact k_9 e9; exact k_10 e9; exact k_11 e9; exact k_12 e9; exact k_13 e9; exact k_14 e9; exact k_15 e9; exact k_16 e9; exact k_17 e9; exact k_18 e9; exact k_19 e9)) (cwV 1 hts gL_law_X7_count rfl rfl rfl hdv_X7_count ⟨Nat.le_of_ble_eq_true rfl, Nat.le_of_ble_eq_true rfl⟩) [0, 1] [some 0, some 1] [(bm 0), (bm 1)] rfl (by decide +kernel) ⟨rfl, rfl⟩ rfl (by decide +kernel) (Nat.le_of_ble_eq_true rfl) 0 7 rfl rfl rfl rfl hl.1 (Nat.le_of_ble_eq_true rfl) dL_law_643 ⟨Nat.le_of_ble_eq_true rfl, Nat.le_of_ble_eq_true rfl⟩ (fun H locs hP hD hS => ?_)
                                        show W p9 l e9 room_1 s9 m9 a9 b9 t9 c9 H locs 146 3194 Q (F0 m9 646 ls (.int (-1) :: [.int r1C_1]))
                                        have hP : va_P D vwCl (CW cI cT o aT aB aS g y z ad sk s0 s1 s2 t u tb ub ts us n ro hp q f f1 f2 ++ MW cI bm n q sp sk be fo op ha st t u ga ps tM uM f z3 m7 g8) H := hP
                                        have hD : va_D A (CW cI cT o aT aB aS g y z ad sk s0 s1 s2 t u tb ub ts us n ro hp q f f1 f2 ++ MW cI bm n q sp sk be fo op ha st t u ga ps tM uM f z3 m7 g8) := hD
                                        refine lv_icmp_eq (tgt := 862) hx hb dL_law_646 (by decide) (fun _ => ?_) (fun h9 => absurd (by rw [e_r1C_1]; unfold couA couB; rw [if_neg k_1, if_neg k_2, if_neg k_3, if_neg k_4, if_neg k_5, if_neg k_6, if_neg k_7, if_neg k_8, if_neg k_9, if_neg k_10, if_neg k_11, if_neg k_12, if_neg k_13, if_neg k_14, if_neg k_15, if_neg k_16, if_neg k_17, if_neg k_18, if_neg k_19]) h9)
                                        exact hLK sk s0 s1 s2 t u tb ub ts us n ro hp q f f1 f2 sp be fo op ha st ga ps tM uM z3 m7 g8 H locs ls (LI_up hI (by omega)) hP hD hS hl
