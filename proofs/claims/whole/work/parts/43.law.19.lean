set_option maxHeartbeats 4000000 in
set_option maxRecDepth 100000 in
theorem law_c19 (l : Launch) (D : va_G) (tys : eT) (cI : ClassId) (ht0 : tys[0]? = some (cI, .int)) (cT : ClassId) (ht1 : tys[1]? = some (cT, .object RX5)) {p9 : Program} {e9 : Env} {s9 : State} {m9 : MethodId} {a9 : Array Value} {b9 : List Frame} {t9 : Method} {c9 : Code} {A : Nat → Prop} {H0 : Heap} {Q : State → Prop} {o aT aB aS g y z : Nat → Nat} {ad : Nat → Nat → Nat} {bm : Nat → Nat} {bs i L : Nat} {xs : Nat → Int32} (S : CallFix p9 m9 c9 cL_law 8 s9 a9 wsL_law RL) (hK : va_K D vwCl tys s9) (hN : eN s9) (hA : ∀ q : Nat, H0.size ≤ q → A q) (hX : va_X bs L xs s9 H0) (hbl : bs < H0.size) (hbA : ¬ A bs) (hL : L ≤ 2560) (hi : i + 5 ≤ L)
    (hLK : LK p9 l e9 s9 m9 a9 b9 t9 c9 D A H0 Q cI cT o aT aB aS g y z ad bm bs i) {sk s0 s1 s2 : Int32} {t : Pn} {u : Tr} {tb : Pn} {ub : Tr} {ts : Pn} {us : Tr} {n ro : Nat} {hp : Nat → Pn × Tr} {q : Nat} {f f1 f2 : Nat → Int32} {sp : Nat} {be fo op ha st : Int32} {ga : Nat → Int32} {ps : Nat → Pn × Tr} {tM : Pn} {uM : Tr} {z3 m7 g8 : Nat → Int32} (hI : LI (12 * i) n ro hp ps t u sk ts us tM uM q s0 s1 s2 st z3) {H : Heap} {locs : List Loc} {ls : Array Slot} (hP : va_P D vwCl (CW cI cT o aT aB aS g y z ad sk s0 s1 s2 t u tb ub ts us n ro hp q f f1 f2 ++ MW cI bm n q sp sk be fo op ha st t u ga ps tM uM f z3 m7 g8) H) (hD : va_D A (CW cI cT o aT aB aS g y z ad sk s0 s1 s2 t u tb ub ts us n ro hp q f f1 f2 ++ MW cI bm n q sp sk be fo op ha st t u ga ps tM uM f z3 m7 g8)) (hS : va_S A H0 H locs) (hl : lv_has ls 8 [(0, .ref bs), (1, .ref (o 0)), (2, .ref (bm 0)), (3, .int (nI i))]) : W p9 l e9 room_1 s9 m9 a9 b9 t9 c9 H locs 146 3194 Q (F0 m9 651 ls []) := by
  obtain ⟨hx, hb, hml, hown, hts⟩ := id S
  obtain ⟨⟨hok, hwk, hsn⟩, ⟨hn4, hr4, hq60⟩, hhis, hsav, hstp⟩ := id hI
  refine lv_aload_n hx hb dL_law_651 rfl (lv_at hl 1 rfl) ?_
  obtain ⟨r1C_1, e_r1C_1⟩ : ∃ z9 : UInt64, z9 = if 0 < T_sh u then FP.ddiv (FP.i2d (T_po u)) (FP.i2d (T_sh u)) else 0 := ⟨_, rfl⟩
  refine ej_VL (wa := CW cI cT o aT aB aS g y z ad sk s0 s1 s2 t u tb ub ts us n ro hp q f f1 f2) (wa' := CW cI cT o aT aB aS g y z ad sk s0 s1 s2 t u tb ub ts us n ro hp q f f1 f2) (wb := MW cI bm n q sp sk be fo op ha st t u ga ps tM uM f z3 m7 g8) (As := []) (rest := []) S hK hN hA hP hD hS (c_X6_mean l D tys cI ht0 o aT aB aS g y z sk s0 s1 s2 t u r1C_1 e_r1C_1) (cwV 0 hts gL_law_X6_mean rfl rfl rfl hdv_X6_mean ⟨Nat.le_of_ble_eq_true rfl, Nat.le_of_ble_eq_true rfl⟩) [0, 1, 2, 3, 4, 5, 6, 7, 8, 9, 10, 11, 12, 13, 14, 15, 16, 17, 18] [some 0, some 1, some 2, some 3, some 4, some 5, some 6, some 7, some 8, some 9, some 10, some 11, some 12, some 13, some 14, some 15, some 16, some 17, some 18] [(o 0), (aT 0), (aT 1), (aT 2), (aT 3), (aT 4), (aT 5), (aT 6), (aT 7), (aT 8), (aT 9), (aT 10), (aT 11), (aT 12), (aT 13), (aT 14), (aT 15), (aT 16), (aT 17)] rfl (by decide +kernel) ⟨rfl, rfl⟩ rfl (by decide +kernel) (Nat.le_of_ble_eq_true rfl) 0 6 rfl rfl rfl rfl hl.1 (Nat.le_of_ble_eq_true rfl) dL_law_652 ⟨Nat.le_of_ble_eq_true rfl, Nat.le_of_ble_eq_true rfl⟩ (fun H locs hP hD hS => ?_)
  show W p9 l e9 room_1 s9 m9 a9 b9 t9 c9 H locs 146 3194 Q (F0 m9 655 ls (.double r1C_1 :: []))
  have hP : va_P D vwCl (CW cI cT o aT aB aS g y z ad sk s0 s1 s2 t u tb ub ts us n ro hp q f f1 f2 ++ MW cI bm n q sp sk be fo op ha st t u ga ps tM uM f z3 m7 g8) H := hP
  have hD : va_D A (CW cI cT o aT aB aS g y z ad sk s0 s1 s2 t u tb ub ts us n ro hp q f f1 f2 ++ MW cI bm n q sp sk be fo op ha st t u ga ps tM uM f z3 m7 g8) := hD
  refine lv_dstore (lv' := [(4, .double r1C_1), (0, .ref bs), (1, .ref (o 0)), (2, .ref (bm 0)), (3, .int (nI i))]) hx hb dL_law_655 hl (by decide) rfl (fun ls hl => ?_)
  refine lv_aload_n hx hb dL_law_657 rfl (lv_at hl 3 rfl) ?_
  obtain ⟨r1M_2, e_r1M_2⟩ : ∃ z9 : UInt64, z9 = if ¬ T_sh u = 0 then FP.ddiv (FP.i2d (T_po u)) (FP.i2d (T_sh u)) else 0 := ⟨_, rfl⟩
  refine ej_VR (wa := MW cI bm n q sp sk be fo op ha st t u ga ps tM uM f z3 m7 g8) (wa' := MW cI bm n q sp sk be fo op ha st t u ga ps tM uM f z3 m7 g8) (wb := CW cI cT o aT aB aS g y z ad sk s0 s1 s2 t u tb ub ts us n ro hp q f f1 f2) (As := []) (rest := []) S hK hN hA hP hD hS (c_X7_mean l D tys cI ht0 bm n q sp sk be fo op ha st t u r1M_2 e_r1M_2) (cwV 0 hts gL_law_X7_mean rfl rfl rfl hdv_X7_mean ⟨Nat.le_of_ble_eq_true rfl, Nat.le_of_ble_eq_true rfl⟩) [0, 1] [some 0, some 1] [(bm 0), (bm 1)] rfl (by decide +kernel) ⟨rfl, rfl⟩ rfl (by decide +kernel) (Nat.le_of_ble_eq_true rfl) 0 7 rfl rfl rfl rfl hl.1 (Nat.le_of_ble_eq_true rfl) dL_law_658 ⟨Nat.le_of_ble_eq_true rfl, Nat.le_of_ble_eq_true rfl⟩ (fun H locs hP hD hS => ?_)
  show W p9 l e9 room_1 s9 m9 a9 b9 t9 c9 H locs 146 3194 Q (F0 m9 661 ls (.double r1M_2 :: []))
  have hP : va_P D vwCl (CW cI cT o aT aB aS g y z ad sk s0 s1 s2 t u tb ub ts us n ro hp q f f1 f2 ++ MW cI bm n q sp sk be fo op ha st t u ga ps tM uM f z3 m7 g8) H := hP
  have hD : va_D A (CW cI cT o aT aB aS g y z ad sk s0 s1 s2 t u tb ub ts us n ro hp q f f1 f2 ++ MW cI bm n q sp sk be fo op ha st t u ga ps tM uM f z3 m7 g8) := hD
  have q9 : r1C_1 = r1M_2 := by rw [e_r1C_1, e_r1M_2]; exact mean_fin hsn (by omega) _
  subst q9
  refine lv_dstore (lv' := [(6, .double r1C_1), (4, .double r1C_1), (0, .ref bs), (1, .ref (o 0)), (2, .ref (bm 0)), (3, .int (nI i))]) hx hb dL_law_661 hl (by decide) rfl (fun ls hl => ?_)
  refine lv_dload hx hb dL_law_663 (lv_at hl 1 rfl) ?_
  refine lv_dload hx hb dL_law_665 (lv_at hl 0 rfl) ?_
  refine lv_dcmp hx hb dL_law_667 ?_
  have hl4 : lv_has ls 8 [(0, .ref bs), (1, .ref (o 0)), (2, .ref (bm 0)), (3, .int (nI i))] := lv_sub hl [2, 3, 4, 5] rfl
  refine lv_if_eq (tgt := 689) hx hb dL_law_668 (by decide) (fun k_1 => ?_) (fun k_1 => ?_)
  · refine lv_goto (tgt := 862) hx hb dL_law_689 (by decide) ?_
    exact hLK sk s0 s1 s2 t u tb ub ts us n ro hp q f f1 f2 sp be fo op ha st ga ps tM uM z3 m7 g8 H locs ls (LI_up hI (by omega)) hP hD hS hl4
  · refine lv_dload hx hb dL_law_671 (lv_at hl 1 rfl) ?_
    refine lv_dload hx hb dL_law_673 (lv_at hl 1 rfl) ?_
    refine lv_dcmp hx hb dL_law_675 ?_
    refine lv_if_eq (tgt := 687) hx hb dL_law_676 (by decide) (fun h9 => absurd h9 k_1) (fun _ => ?_)
    refine lv_dload hx hb dL_law_679 (lv_at hl 0 rfl) ?_
    refine lv_dload hx hb dL_law_681 (lv_at hl 0 rfl) ?_
    refine lv_dcmp hx hb dL_law_683 ?_
    refine lv_if_ne (tgt := 689) hx hb dL_law_684 (by decide) (fun _ => ?_) (fun h9 => absurd h9 k_1)
    refine lv_goto (tgt := 862) hx hb dL_law_689 (by decide) ?_
    exact hLK sk s0 s1 s2 t u tb ub ts us n ro hp q f f1 f2 sp be fo op ha st ga ps tM uM z3 m7 g8 H locs ls (LI_up hI (by omega)) hP hD hS hl4
