set_option maxHeartbeats 4000000 in
set_option maxRecDepth 100000 in
theorem law_c12 (l : Launch) (D : va_G) (tys : eT) (cI : ClassId) (ht0 : tys[0]? = some (cI, .int)) (cT : ClassId) (ht1 : tys[1]? = some (cT, .object RX5)) {p9 : Program} {e9 : Env} {s9 : State} {m9 : MethodId} {a9 : Array Value} {b9 : List Frame} {t9 : Method} {c9 : Code} {A : Nat → Prop} {H0 : Heap} {Q : State → Prop} {o aT aB aS g y z : Nat → Nat} {ad : Nat → Nat → Nat} {bm : Nat → Nat} {bs i L : Nat} {xs : Nat → Int32} (S : CallFix p9 m9 c9 cL_law 8 s9 a9 wsL_law RL) (hK : va_K D vwCl tys s9) (hN : eN s9) (hA : ∀ q : Nat, H0.size ≤ q → A q) (hX : va_X bs L xs s9 H0) (hbl : bs < H0.size) (hbA : ¬ A bs) (hL : L ≤ 2560) (hi : i + 5 ≤ L)
    (hLK : LK p9 l e9 s9 m9 a9 b9 t9 c9 D A H0 Q cI cT o aT aB aS g y z ad bm bs i) {sk s0 s1 s2 : Int32} {t : Pn} {u : Tr} {tb : Pn} {ub : Tr} {ts : Pn} {us : Tr} {n ro : Nat} {hp : Nat → Pn × Tr} {q : Nat} {f f1 f2 : Nat → Int32} {sp : Nat} {be fo op ha st : Int32} {ga : Nat → Int32} {ps : Nat → Pn × Tr} {tM : Pn} {uM : Tr} {z3 m7 g8 : Nat → Int32} (hI : LI (12 * i) n ro hp ps t u sk ts us tM uM q s0 s1 s2 st z3) {H : Heap} {locs : List Loc} {ls : Array Slot} (hP : va_P D vwCl (CW cI cT o aT aB aS g y z ad sk s0 s1 s2 t u tb ub ts us n ro hp q f f1 f2 ++ MW cI bm n q sp sk be fo op ha st t u ga ps tM uM f z3 m7 g8) H) (hD : va_D A (CW cI cT o aT aB aS g y z ad sk s0 s1 s2 t u tb ub ts us n ro hp q f f1 f2 ++ MW cI bm n q sp sk be fo op ha st t u ga ps tM uM f z3 m7 g8)) (hS : va_S A H0 H locs) (hl : lv_has ls 8 [(0, .ref bs), (1, .ref (o 0)), (2, .ref (bm 0)), (3, .int (nI i))]) : W p9 l e9 room_1 s9 m9 a9 b9 t9 c9 H locs 146 3194 Q (F0 m9 460 ls []) := by
  obtain ⟨hx, hb, hml, hown, hts⟩ := id S
  obtain ⟨⟨hok, hwk, hsn⟩, ⟨hn4, hr4, hq60⟩, hhis, hsav, hstp⟩ := id hI
  refine lv_aload_n hx hb dL_law_460 rfl (lv_at hl 1 rfl) ?_
  refine lv_aload_n hx hb dL_law_461 rfl (lv_at hl 0 rfl) ?_
  refine lv_iload_n hx hb dL_law_462 rfl (lv_at hl 3 rfl) ?_
  refine lv_iconst (v := 1) hx hb dL_law_463 (by decide) ?_
  refine lv_iadd hx hb dL_law_464 ?_
  refine ej_topi (show nI i + 1 = nI (i + 1) from nI_add i 1) ?_
  refine va_sld hx hb hX hbl hbA hS (vp_in_nI (n := i + 1) (N := L) (by omega) (by omega)) dL_law_465 ?_
  refine ej_topi (show xs (nI (i + 1)).toNatClampNeg = xs (i + 1) from congrArg xs (nI_clamp (by omega))) ?_
  obtain ⟨r1C_1, e_r1C_1⟩ : ∃ z9 : Int32, z9 = if inP (xs (i + 1)) 2 then if s0 = 0 then -4 else if (xs (i + 1)) = 0 then s0 else if (xs (i + 1)) = 1 then s1 else s2 else -1 := ⟨_, rfl⟩
  refine ej_VL (wa := CW cI cT o aT aB aS g y z ad sk s0 s1 s2 t u tb ub ts us n ro hp q f f1 f2) (wa' := CW cI cT o aT aB aS g y z ad sk s0 s1 s2 t u tb ub ts us n ro hp q f f1 f2) (wb := MW cI bm n q sp sk be fo op ha st t u ga ps tM uM f z3 m7 g8) (As := [.int (xs (i + 1))]) (rest := []) S hK hN hA hP hD hS (c_X6_why l D tys cI ht0 o aT aB aS g y z sk s0 s1 s2 (xs (i + 1)) r1C_1 e_r1C_1) (cwV 1 hts gL_law_X6_why rfl rfl rfl hdv_X6_why ⟨Nat.le_of_ble_eq_true rfl, Nat.le_of_ble_eq_true rfl⟩) [0] [some 0] [(o 0)] rfl (by decide +kernel) ⟨rfl, rfl⟩ rfl (by decide +kernel) (Nat.le_of_ble_eq_true rfl) 0 6 rfl rfl rfl rfl hl.1 (Nat.le_of_ble_eq_true rfl) dL_law_466 ⟨Nat.le_of_ble_eq_true rfl, Nat.le_of_ble_eq_true rfl⟩ (fun H locs hP hD hS => ?_)
  show W p9 l e9 room_1 s9 m9 a9 b9 t9 c9 H locs 146 3194 Q (F0 m9 469 ls (.int r1C_1 :: []))
  have hP : va_P D vwCl (CW cI cT o aT aB aS g y z ad sk s0 s1 s2 t u tb ub ts us n ro hp q f f1 f2 ++ MW cI bm n q sp sk be fo op ha st t u ga ps tM uM f z3 m7 g8) H := hP
  have hD : va_D A (CW cI cT o aT aB aS g y z ad sk s0 s1 s2 t u tb ub ts us n ro hp q f f1 f2 ++ MW cI bm n q sp sk be fo op ha st t u ga ps tM uM f z3 m7 g8) := hD
  refine lv_aload_n hx hb dL_law_469 rfl (lv_at hl 2 rfl) ?_
  refine lv_aload_n hx hb dL_law_470 rfl (lv_at hl 0 rfl) ?_
  refine lv_iload_n hx hb dL_law_471 rfl (lv_at hl 3 rfl) ?_
  refine lv_iconst (v := 1) hx hb dL_law_472 (by decide) ?_
  refine lv_iadd hx hb dL_law_473 ?_
  refine ej_topi (show nI i + 1 = nI (i + 1) from nI_add i 1) ?_
  refine va_sld hx hb hX hbl hbA hS (vp_in_nI (n := i + 1) (N := L) (by omega) (by omega)) dL_law_474 ?_
  refine ej_topi (show xs (nI (i + 1)).toNatClampNeg = xs (i + 1) from congrArg xs (nI_clamp (by omega))) ?_
  obtain ⟨r1M_2, e_r1M_2⟩ : ∃ z9 : Int32, z9 = if inP (xs (i + 1)) 2 then if st = 0 then -4 else z3 (xs (i + 1)).toNatClampNeg else -1 := ⟨_, rfl⟩
  refine ej_VR (wa := MW cI bm n q sp sk be fo op ha st t u ga ps tM uM f z3 m7 g8) (wa' := MW cI bm n q sp sk be fo op ha st t u ga ps tM uM f z3 m7 g8) (wb := CW cI cT o aT aB aS g y z ad sk s0 s1 s2 t u tb ub ts us n ro hp q f f1 f2) (As := [.int (xs (i + 1))]) (rest := [.int r1C_1]) S hK hN hA hP hD hS (c_X7_why l D tys cI ht0 bm n q sp sk be fo op ha st z3 (xs (i + 1)) r1M_2 e_r1M_2) (cwV 1 hts gL_law_X7_why rfl rfl rfl hdv_X7_why ⟨Nat.le_of_ble_eq_true rfl, Nat.le_of_ble_eq_true rfl⟩) [0, 6] [some 0, none, none, none, none, none, some 1] [(bm 0), (bm 6)] rfl (by decide +kernel) ⟨rfl, rfl⟩ rfl (by decide +kernel) (Nat.le_of_ble_eq_true rfl) 0 7 rfl rfl rfl rfl hl.1 (Nat.le_of_ble_eq_true rfl) dL_law_475 ⟨Nat.le_of_ble_eq_true rfl, Nat.le_of_ble_eq_true rfl⟩ (fun H locs hP hD hS => ?_)
  show W p9 l e9 room_1 s9 m9 a9 b9 t9 c9 H locs 146 3194 Q (F0 m9 478 ls (.int r1M_2 :: [.int r1C_1]))
  have hP : va_P D vwCl (CW cI cT o aT aB aS g y z ad sk s0 s1 s2 t u tb ub ts us n ro hp q f f1 f2 ++ MW cI bm n q sp sk be fo op ha st t u ga ps tM uM f z3 m7 g8) H := hP
  have hD : va_D A (CW cI cT o aT aB aS g y z ad sk s0 s1 s2 t u tb ub ts us n ro hp q f f1 f2 ++ MW cI bm n q sp sk be fo op ha st t u ga ps tM uM f z3 m7 g8) := hD
  refine lv_icmp_eq (tgt := 862) hx hb dL_law_478 (by decide) (fun _ => ?_) (fun h9 => absurd (by rw [e_r1C_1, e_r1M_2]; exact why_eq hstp) h9)
  exact hLK sk s0 s1 s2 t u tb ub ts us n ro hp q f f1 f2 sp be fo op ha st ga ps tM uM z3 m7 g8 H locs ls (LI_up hI (by omega)) hP hD hS hl
