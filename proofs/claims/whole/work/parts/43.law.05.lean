set_option maxHeartbeats 4000000 in
set_option maxRecDepth 100000 in
theorem law_c5 (l : Launch) (D : va_G) (tys : eT) (cI : ClassId) (ht0 : tys[0]? = some (cI, .int)) (cT : ClassId) (ht1 : tys[1]? = some (cT, .object RX5)) {p9 : Program} {e9 : Env} {s9 : State} {m9 : MethodId} {a9 : Array Value} {b9 : List Frame} {t9 : Method} {c9 : Code} {A : Nat → Prop} {H0 : Heap} {Q : State → Prop} {o aT aB aS g y z : Nat → Nat} {ad : Nat → Nat → Nat} {bm : Nat → Nat} {bs i L : Nat} {xs : Nat → Int32} (S : CallFix p9 m9 c9 cL_law 8 s9 a9 wsL_law RL) (hK : va_K D vwCl tys s9) (hN : eN s9) (hA : ∀ q : Nat, H0.size ≤ q → A q) (hX : va_X bs L xs s9 H0) (hbl : bs < H0.size) (hbA : ¬ A bs) (hL : L ≤ 2560) (hi : i + 5 ≤ L)
    (hLK : LK p9 l e9 s9 m9 a9 b9 t9 c9 D A H0 Q cI cT o aT aB aS g y z ad bm bs i) {sk s0 s1 s2 : Int32} {t : Pn} {u : Tr} {tb : Pn} {ub : Tr} {ts : Pn} {us : Tr} {n ro : Nat} {hp : Nat → Pn × Tr} {q : Nat} {f f1 f2 : Nat → Int32} {sp : Nat} {be fo op ha st : Int32} {ga : Nat → Int32} {ps : Nat → Pn × Tr} {tM : Pn} {uM : Tr} {z3 m7 g8 : Nat → Int32} (hI : LI (12 * i) n ro hp ps t u sk ts us tM uM q s0 s1 s2 st z3) {H : Heap} {locs : List Loc} {ls : Array Slot} (hP : va_P D vwCl (CW cI cT o aT aB aS g y z ad sk s0 s1 s2 t u tb ub ts us n ro hp q f f1 f2 ++ MW cI bm n q sp sk be fo op ha st t u ga ps tM uM f z3 m7 g8) H) (hD : va_D A (CW cI cT o aT aB aS g y z ad sk s0 s1 s2 t u tb ub ts us n ro hp q f f1 f2 ++ MW cI bm n q sp sk be fo op ha st t u ga ps tM uM f z3 m7 g8)) (hS : va_S A H0 H locs) (hl : lv_has ls 8 [(0, .ref bs), (1, .ref (o 0)), (2, .ref (bm 0)), (3, .int (nI i))]) : W p9 l e9 room_1 s9 m9 a9 b9 t9 c9 H locs 146 3194 Q (F0 m9 329 ls []) := by
  obtain ⟨hx, hb, hml, hown, hts⟩ := id S
  obtain ⟨⟨hok, hwk, hsn⟩, ⟨hn4, hr4, hq60⟩, hhis, hsav, hstp⟩ := id hI
  refine lv_aload_n hx hb dL_law_329 rfl (lv_at hl 1 rfl) ?_
  refine lv_aload_n hx hb dL_law_330 rfl (lv_at hl 0 rfl) ?_
  refine lv_iload_n hx hb dL_law_331 rfl (lv_at hl 3 rfl) ?_
  refine lv_iconst (v := 1) hx hb dL_law_332 (by decide) ?_
  refine lv_iadd hx hb dL_law_333 ?_
  refine ej_topi (show nI i + 1 = nI (i + 1) from nI_add i 1) ?_
  refine va_sld hx hb hX hbl hbA hS (vp_in_nI (n := i + 1) (N := L) (by omega) (by omega)) dL_law_334 ?_
  refine ej_topi (show xs (nI (i + 1)).toNatClampNeg = xs (i + 1) from congrArg xs (nI_clamp (by omega))) ?_
  refine lv_aload_n hx hb dL_law_335 rfl (lv_at hl 0 rfl) ?_
  refine lv_iload_n hx hb dL_law_336 rfl (lv_at hl 3 rfl) ?_
  refine lv_iconst (v := 2) hx hb dL_law_337 (by decide) ?_
  refine lv_iadd hx hb dL_law_338 ?_
  refine ej_topi (show nI i + 2 = nI (i + 2) from nI_add i 2) ?_
  refine va_sld hx hb hX hbl hbA hS (vp_in_nI (n := i + 2) (N := L) (by omega) (by omega)) dL_law_339 ?_
  refine ej_topi (show xs (nI (i + 2)).toNatClampNeg = xs (i + 2) from congrArg xs (nI_clamp (by omega))) ?_
  obtain ⟨ro1C_1, e_ro1C_1⟩ : ∃ z9 : Nat, z9 = if (xs (i + 1)) = 0 then (if inP (xs (i + 2)) 2 then recR ro n else ro) else if (xs (i + 1)) = 1 then (if ¬ (xs (i + 2)) < 1 ∧ ¬ 9 < (xs (i + 2)) then recR ro n else ro) else ro := ⟨_, rfl⟩
  obtain ⟨n1C_2, e_n1C_2⟩ : ∃ z9 : Nat, z9 = if (xs (i + 1)) = 0 then (if inP (xs (i + 2)) 2 then recN n else n) else if (xs (i + 1)) = 1 then (if ¬ (xs (i + 2)) < 1 ∧ ¬ 9 < (xs (i + 2)) then recN n else n) else n := ⟨_, rfl⟩
  obtain ⟨hp1C_3, e_hp1C_3⟩ : ∃ z9 : Nat → Pn × Tr, z9 = if (xs (i + 1)) = 0 then (if inP (xs (i + 2)) 2 then updH hp (recI ro n) (t, u) else hp) else if (xs (i + 1)) = 1 then (if ¬ (xs (i + 2)) < 1 ∧ ¬ 9 < (xs (i + 2)) then updH hp (recI ro n) (t, u) else hp) else hp := ⟨_, rfl⟩
  obtain ⟨t1C_4, e_t1C_4⟩ : ∃ z9 : Pn, z9 = if (xs (i + 1)) = 0 then (if inP (xs (i + 2)) 2 then tiT t (xs (i + 2)) else t) else if (xs (i + 1)) = 1 then (if ¬ (xs (i + 2)) < 1 ∧ ¬ 9 < (xs (i + 2)) then t else t) else t := ⟨_, rfl⟩
  obtain ⟨u1C_5, e_u1C_5⟩ : ∃ z9 : Tr, z9 = if (xs (i + 1)) = 0 then (if inP (xs (i + 2)) 2 then u else u) else if (xs (i + 1)) = 1 then (if ¬ (xs (i + 2)) < 1 ∧ ¬ 9 < (xs (i + 2)) then fuU u (xs (i + 2)) else u) else u := ⟨_, rfl⟩
  obtain ⟨r1C_6, e_r1C_6⟩ : ∃ z9 : Int32, z9 = if (xs (i + 1)) = 0 then (if inP (xs (i + 2)) 2 then P_ti t else -1) else if (xs (i + 1)) = 1 then (if ¬ (xs (i + 2)) < 1 ∧ ¬ 9 < (xs (i + 2)) then T_fu u else -1) else -1 := ⟨_, rfl⟩
  refine ej_VL (wa := CW cI cT o aT aB aS g y z ad sk s0 s1 s2 t u tb ub ts us n ro hp q f f1 f2) (wa' := CW cI cT o aT aB aS g y z ad sk s0 s1 s2 t1C_4 u1C_5 tb ub ts us n1C_2 ro1C_1 hp1C_3 q f f1 f2) (wb := MW cI bm n q sp sk be fo op ha st t u ga ps tM uM f z3 m7 g8) (As := [.int (xs (i + 1)), .int (xs (i + 2))]) (rest := []) S hK hN hA hP hD hS (c_X6_set l D tys cI ht0 cT ht1 o aT aB aS g y z sk s0 s1 s2 t u ad n ro hp (xs (i + 1)) (xs (i + 2)) ro1C_1 e_ro1C_1 n1C_2 e_n1C_2 hp1C_3 e_hp1C_3 t1C_4 e_t1C_4 u1C_5 e_u1C_5 r1C_6 e_r1C_6 hok.1 hn4 hr4) (cwV 2 hts gL_law_X6_set rfl rfl rfl hdv_X6_set ⟨Nat.le_of_ble_eq_true rfl, Nat.le_of_ble_eq_true rfl⟩) [0, 1, 2, 3, 4, 5, 6, 7, 8, 9, 10, 11, 12, 13, 14, 15, 16, 17, 18, 55, 56, 57, 58, 59, 60, 61, 62, 63, 64, 65, 66, 67, 68, 69, 70, 71, 72, 73, 74, 75, 76, 77, 78, 79, 80, 81, 82, 83, 84, 85, 86, 87, 88, 89, 90, 91, 92, 93, 94, 95, 96, 97, 98, 99, 100, 101, 102, 103, 104, 105, 106, 107, 108, 109, 110, 111, 112, 113, 114, 115, 116, 117, 118, 119, 120, 121, 122, 123, 124, 125, 126, 127, 128] [some 0, some 1, some 2, some 3, some 4, some 5, some 6, some 7, some 8, some 9, some 10, some 11, some 12, some 13, some 14, some 15, some 16, some 17, some 18, none, none, none, none, none, none, none, none, none, none, none, none, none, none, none, none, none, none, none, none, none, none, none, none, none, none, none, none, none, none, none, none, none, none, none, none, some 19, some 20, some 21, some 22, some 23, some 24, some 25, some 26, some 27, some 28, some 29, some 30, some 31, some 32, some 33, some 34, some 35, some 36, some 37, some 38, some 39, some 40, some 41, some 42, some 43, some 44, some 45, some 46, some 47, some 48, some 49, some 50, some 51, some 52, some 53, some 54, some 55, some 56, some 57, some 58, some 59, some 60, some 61, some 62, some 63, some 64, some 65, some 66, some 67, some 68, some 69, some 70, some 71, some 72, some 73, some 74, some 75, some 76, some 77, some 78, some 79, some 80, some 81, some 82, some 83, some 84, some 85, some 86, some 87, some 88, some 89, some 90, some 91, some 92] [(o 0), (aT 0), (aT 1), (aT 2), (aT 3), (aT 4), (aT 5), (aT 6), (aT 7), (aT 8), (aT 9), (aT 10), (aT 11), (aT 12), (aT 13), (aT 14), (aT 15), (aT 16), (aT 17), (g 0), (g 1), ((ad 0) 0), ((ad 0) 1), ((ad 0) 2), ((ad 0) 3), ((ad 0) 4), ((ad 0) 5), ((ad 0) 6), ((ad 0) 7), ((ad 0) 8), ((ad 0) 9), ((ad 0) 10), ((ad 0) 11), ((ad 0) 12), ((ad 0) 13), ((ad 0) 14), ((ad 0) 15), ((ad 0) 16), ((ad 0) 17), ((ad 1) 0), ((ad 1) 1), ((ad 1) 2), ((ad 1) 3), ((ad 1) 4), ((ad 1) 5), ((ad 1) 6), ((ad 1) 7), ((ad 1) 8), ((ad 1) 9), ((ad 1) 10), ((ad 1) 11), ((ad 1) 12), ((ad 1) 13), ((ad 1) 14), ((ad 1) 15), ((ad 1) 16), ((ad 1) 17), ((ad 2) 0), ((ad 2) 1), ((ad 2) 2), ((ad 2) 3), ((ad 2) 4), ((ad 2) 5), ((ad 2) 6), ((ad 2) 7), ((ad 2) 8), ((ad 2) 9), ((ad 2) 10), ((ad 2) 11), ((ad 2) 12), ((ad 2) 13), ((ad 2) 14), ((ad 2) 15), ((ad 2) 16), ((ad 2) 17), ((ad 3) 0), ((ad 3) 1), ((ad 3) 2), ((ad 3) 3), ((ad 3) 4), ((ad 3) 5), ((ad 3) 6), ((ad 3) 7), ((ad 3) 8), ((ad 3) 9), ((ad 3) 10), ((ad 3) 11), ((ad 3) 12), ((ad 3) 13), ((ad 3) 14), ((ad 3) 15), ((ad 3) 16), ((ad 3) 17)] rfl (by decide +kernel) ⟨rfl, rfl⟩ rfl (by decide +kernel) (Nat.le_of_ble_eq_true rfl) 0 6 rfl rfl rfl rfl hl.1 (Nat.le_of_ble_eq_true rfl) dL_law_340 ⟨Nat.le_of_ble_eq_true rfl, Nat.le_of_ble_eq_true rfl⟩ (fun H locs hP hD hS => ?_)
  show W p9 l e9 room_1 s9 m9 a9 b9 t9 c9 H locs 146 3194 Q (F0 m9 343 ls (.int r1C_6 :: []))
  have hP : va_P D vwCl (CW cI cT o aT aB aS g y z ad sk s0 s1 s2 t1C_4 u1C_5 tb ub ts us n1C_2 ro1C_1 hp1C_3 q f f1 f2 ++ MW cI bm n q sp sk be fo op ha st t u ga ps tM uM f z3 m7 g8) H := hP
  have hD : va_D A (CW cI cT o aT aB aS g y z ad sk s0 s1 s2 t1C_4 u1C_5 tb ub ts us n1C_2 ro1C_1 hp1C_3 q f f1 f2 ++ MW cI bm n q sp sk be fo op ha st t u ga ps tM uM f z3 m7 g8) := hD
  rcases Decidable.em ((xs (i + 1)) = 0) with k_1 | k_1
  · refine lv_aload_n hx hb dL_law_343 rfl (lv_at hl 2 rfl) ?_
    refine lv_aload_n hx hb dL_law_344 rfl (lv_at hl 0 rfl) ?_
    refine lv_iload_n hx hb dL_law_345 rfl (lv_at hl 3 rfl) ?_
    refine lv_iconst (v := 1) hx hb dL_law_346 (by decide) ?_
    refine lv_iadd hx hb dL_law_347 ?_
    refine ej_topi (show nI i + 1 = nI (i + 1) from nI_add i 1) ?_
    refine va_sld hx hb hX hbl hbA hS (vp_in_nI (n := i + 1) (N := L) (by omega) (by omega)) dL_law_348 ?_
    refine ej_topi (show xs (nI (i + 1)).toNatClampNeg = xs (i + 1) from congrArg xs (nI_clamp (by omega))) ?_
    refine ej_topi (show xs (i + 1) = 0 from k_1) ?_
    refine lv_aload_n hx hb dL_law_349 rfl (lv_at hl 0 rfl) ?_
    refine lv_iload_n hx hb dL_law_350 rfl (lv_at hl 3 rfl) ?_
    refine lv_iconst (v := 2) hx hb dL_law_351 (by decide) ?_
    refine lv_iadd hx hb dL_law_352 ?_
    refine ej_topi (show nI i + 2 = nI (i + 2) from nI_add i 2) ?_
    refine va_sld hx hb hX hbl hbA hS (vp_in_nI (n := i + 2) (N := L) (by omega) (by omega)) dL_law_353 ?_
    refine ej_topi (show xs (nI (i + 2)).toNatClampNeg = xs (i + 2) from congrArg xs (nI_clamp (by omega))) ?_
    obtain ⟨k1M_7, e_k1M_7⟩ : ∃ z9 : Nat, z9 = if inP (xs (i + 2)) 2 then recN n else n := ⟨_, rfl⟩
    obtain ⟨ps1M_8, e_ps1M_8⟩ : ∃ z9 : Nat → Pn × Tr, z9 = if inP (xs (i + 2)) 2 then recS ps n (t, u) else ps := ⟨_, rfl⟩
    obtain ⟨t1M_9, e_t1M_9⟩ : ∃ z9 : Pn, z9 = if inP (xs (i + 2)) 2 then tiT t (xs (i + 2)) else t := ⟨_, rfl⟩
    obtain ⟨r1M_10, e_r1M_10⟩ : ∃ z9 : Int32, z9 = if inP (xs (i + 2)) 2 then P_ti t else -1 := ⟨_, rfl⟩
    refine ej_VR (wa := MW cI bm n q sp sk be fo op ha st t u ga ps tM uM f z3 m7 g8) (wa' := MW cI bm k1M_7 q sp sk be fo op ha st t1M_9 u ga ps1M_8 tM uM f z3 m7 g8) (wb := CW cI cT o aT aB aS g y z ad sk s0 s1 s2 t1C_4 u1C_5 tb ub ts us n1C_2 ro1C_1 hp1C_3 q f f1 f2) (As := [.int 0, .int (xs (i + 2))]) (rest := [.int r1C_6]) S hK hN hA hP hD hS (c_X7_set_0 l D tys cI ht0 bm n q sp sk be fo op ha st t u ps (xs (i + 2)) k1M_7 e_k1M_7 ps1M_8 e_ps1M_8 t1M_9 e_t1M_9 r1M_10 e_r1M_10 hn4) (cwV 2 hts gL_law_X7_set rfl rfl rfl hdv_X7_set ⟨Nat.le_of_ble_eq_true rfl, Nat.le_of_ble_eq_true rfl⟩) [0, 1, 3] [some 0, some 1, none, some 2] [(bm 0), (bm 1), (bm 3)] rfl (by decide +kernel) ⟨rfl, rfl⟩ rfl (by decide +kernel) (Nat.le_of_ble_eq_true rfl) 0 7 rfl rfl rfl rfl hl.1 (Nat.le_of_ble_eq_true rfl) dL_law_354 ⟨Nat.le_of_ble_eq_true rfl, Nat.le_of_ble_eq_true rfl⟩ (fun H locs hP hD hS => ?_)
    show W p9 l e9 room_1 s9 m9 a9 b9 t9 c9 H locs 146 3194 Q (F0 m9 357 ls (.int r1M_10 :: [.int r1C_6]))
    have hP : va_P D vwCl (CW cI cT o aT aB aS g y z ad sk s0 s1 s2 t1C_4 u1C_5 tb ub ts us n1C_2 ro1C_1 hp1C_3 q f f1 f2 ++ MW cI bm k1M_7 q sp sk be fo op ha st t1M_9 u ga ps1M_8 tM uM f z3 m7 g8) H := hP
    have hD : va_D A (CW cI cT o aT aB aS g y z ad sk s0 s1 s2 t1C_4 u1C_5 tb ub ts us n1C_2 ro1C_1 hp1C_3 q f f1 f2 ++ MW cI bm k1M_7 q sp sk be fo op ha st t1M_9 u ga ps1M_8 tM uM f z3 m7 g8) := hD
    refine lv_icmp_eq (tgt := 862) hx hb dL_law_357 (by decide) (fun _ => ?_) (fun h9 => absurd (by rw [e_r1C_6, if_pos k_1, e_r1M_10]) h9)
    have q9 : t1C_4 = t1M_9 := by rw [e_t1C_4, if_pos k_1, e_t1M_9]; first | done | exact ite_self _
    subst q9
    have q8 : u1C_5 = u := by rw [e_u1C_5, if_pos k_1]; first | done | exact ite_self _
    have q9 : u = u1C_5 := q8.symm
    clear q8
    subst q9
    have q9 : n1C_2 = k1M_7 := by rw [e_n1C_2, if_pos k_1, e_k1M_7]; first | done | exact ite_self _
    subst q9
    have hI2 : LI (12 * (i + 5)) n1C_2 ro1C_1 hp1C_3 ps1M_8 t1C_4 u sk ts us tM uM q s0 s1 s2 st z3 := by
      by_cases hc : inP (xs (i + 2)) 2
      · rw [e_ro1C_1, if_pos k_1, if_pos hc, e_n1C_2, if_pos k_1, if_pos hc, e_hp1C_3, if_pos k_1, if_pos hc, e_t1C_4, if_pos k_1, if_pos hc, e_ps1M_8, if_pos hc]; exact LI_rec hI (by omega) (okT_ti hok hc) hwk (shN_up hsn (by omega))
      · rw [e_ro1C_1, if_pos k_1, if_neg hc, e_n1C_2, if_pos k_1, if_neg hc, e_hp1C_3, if_pos k_1, if_neg hc, e_t1C_4, if_pos k_1, if_neg hc, e_ps1M_8, if_neg hc]; exact LI_up hI (by omega)
    exact hLK sk s0 s1 s2 t1C_4 u tb ub ts us n1C_2 ro1C_1 hp1C_3 q f f1 f2 sp be fo op ha st ga ps1M_8 tM uM z3 m7 g8 H locs ls hI2 hP hD hS hl
  · rcases Decidable.em ((xs (i + 1)) = 1) with k_2 | k_2
    · refine lv_aload_n hx hb dL_law_343 rfl (lv_at hl 2 rfl) ?_
      refine lv_aload_n hx hb dL_law_344 rfl (lv_at hl 0 rfl) ?_
      refine lv_iload_n hx hb dL_law_345 rfl (lv_at hl 3 rfl) ?_
      refine lv_iconst (v := 1) hx hb dL_law_346 (by decide) ?_
      refine lv_iadd hx hb dL_law_347 ?_
      refine ej_topi (show nI i + 1 = nI (i + 1) from nI_add i 1) ?_
      refine va_sld hx hb hX hbl hbA hS (vp_in_nI (n := i + 1) (N := L) (by omega) (by omega)) dL_law_348 ?_
      refine ej_topi (show xs (nI (i + 1)).toNatClampNeg = xs (i + 1) from congrArg xs (nI_clamp (by omega))) ?_
      refine ej_topi (show xs (i + 1) = 1 from k_2) ?_
      refine lv_aload_n hx hb dL_law_349 rfl (lv_at hl 0 rfl) ?_
      refine lv_iload_n hx hb dL_law_350 rfl (lv_at hl 3 rfl) ?_
      refine lv_iconst (v := 2) hx hb dL_law_351 (by decide) ?_
      refine lv_iadd hx hb dL_law_352 ?_
      refine ej_topi (show nI i + 2 = nI (i + 2) from nI_add i 2) ?_
      refine va_sld hx hb hX hbl hbA hS (vp_in_nI (n := i + 2) (N := L) (by omega) (by omega)) dL_law_353 ?_
      refine ej_topi (show xs (nI (i + 2)).toNatClampNeg = xs (i + 2) from congrArg xs (nI_clamp (by omega))) ?_
      obtain ⟨k1M_11, e_k1M_11⟩ : ∃ z9 : Nat, z9 = if ¬ (xs (i + 2)) < 1 ∧ ¬ 9 < (xs (i + 2)) then recN n else n := ⟨_, rfl⟩
      obtain ⟨ps1M_12, e_ps1M_12⟩ : ∃ z9 : Nat → Pn × Tr, z9 = if ¬ (xs (i + 2)) < 1 ∧ ¬ 9 < (xs (i + 2)) then recS ps n (t, u) else ps := ⟨_, rfl⟩
      obtain ⟨u1M_13, e_u1M_13⟩ : ∃ z9 : Tr, z9 = if ¬ (xs (i + 2)) < 1 ∧ ¬ 9 < (xs (i + 2)) then fuU u (xs (i + 2)) else u := ⟨_, rfl⟩
      obtain ⟨r1M_14, e_r1M_14⟩ : ∃ z9 : Int32, z9 = if ¬ (xs (i + 2)) < 1 ∧ ¬ 9 < (xs (i + 2)) then T_fu u else -1 := ⟨_, rfl⟩
      refine ej_VR (wa := MW cI bm n q sp sk be fo op ha st t u ga ps tM uM f z3 m7 g8) (wa' := MW cI bm k1M_11 q sp sk be fo op ha st t u1M_13 ga ps1M_12 tM uM f z3 m7 g8) (wb := CW cI cT o aT aB aS g y z ad sk s0 s1 s2 t1C_4 u1C_5 tb ub ts us n1C_2 ro1C_1 hp1C_3 q f f1 f2) (As := [.int 1, .int (xs (i + 2))]) (rest := [.int r1C_6]) S hK hN hA hP hD hS (c_X7_set_1 l D tys cI ht0 bm n q sp sk be fo op ha st t u ps (xs (i + 2)) k1M_11 e_k1M_11 ps1M_12 e_ps1M_12 u1M_13 e_u1M_13 r1M_14 e_r1M_14 hn4) (cwV 2 hts gL_law_X7_set rfl rfl rfl hdv_X7_set ⟨Nat.le_of_ble_eq_true rfl, Nat.le_of_ble_eq_true rfl⟩) [0, 1, 3] [some 0, some 1, none, some 2] [(bm 0), (bm 1), (bm 3)] rfl (by decide +kernel) ⟨rfl, rfl⟩ rfl (by decide +kernel) (Nat.le_of_ble_eq_true rfl) 0 7 rfl rfl rfl rfl hl.1 (Nat.le_of_ble_eq_true rfl) dL_law_354 ⟨Nat.le_of_ble_eq_true rfl, Nat.le_of_ble_eq_true rfl⟩ (fun H locs hP hD hS => ?_)
      show W p9 l e9 room_1 s9 m9 a9 b9 t9 c9 H locs 146 3194 Q (F0 m9 357 ls (.int r1M_14 :: [.int r1C_6]))
      have hP : va_P D vwCl (CW cI cT o aT aB aS g y z ad sk s0 s1 s2 t1C_4 u1C_5 tb ub ts us n1C_2 ro1C_1 hp1C_3 q f f1 f2 ++ MW cI bm k1M_11 q sp sk be fo op ha st t u1M_13 ga ps1M_12 tM uM f z3 m7 g8) H := hP
      have hD : va_D A (CW cI cT o aT aB aS g y z ad sk s0 s1 s2 t1C_4 u1C_5 tb ub ts us n1C_2 ro1C_1 hp1C_3 q f f1 f2 ++ MW cI bm k1M_11 q sp sk be fo op ha st t u1M_13 ga ps1M_12 tM uM f z3 m7 g8) := hD
      refine lv_icmp_eq (tgt := 862) hx hb dL_law_357 (by decide) (fun _ => ?_) (fun h9 => absurd (by rw [e_r1C_6, if_neg k_1, if_pos k_2, e_r1M_14]) h9)
      have q8 : t1C_4 = t := by rw [e_t1C_4, if_neg k_1, if_pos k_2]; first | done | exact ite_self _
      have q9 : t = t1C_4 := q8.symm
      clear q8
      subst q9
      have q9 : u1C_5 = u1M_13 := by rw [e_u1C_5, if_neg k_1, if_pos k_2, e_u1M_13]; first | done | exact ite_self _
      subst q9
      have q9 : n1C_2 = k1M_11 := by rw [e_n1C_2, if_neg k_1, if_pos k_2, e_k1M_11]; first | done | exact ite_self _
      subst q9
      have hI2 : LI (12 * (i + 5)) n1C_2 ro1C_1 hp1C_3 ps1M_12 t u1C_5 sk ts us tM uM q s0 s1 s2 st z3 := by
        by_cases hc : ¬ (xs (i + 2)) < 1 ∧ ¬ 9 < (xs (i + 2))
        · rw [e_ro1C_1, if_neg k_1, if_pos k_2, if_pos hc, e_n1C_2, if_neg k_1, if_pos k_2, if_pos hc, e_hp1C_3, if_neg k_1, if_pos k_2, if_pos hc, e_u1C_5, if_neg k_1, if_pos k_2, if_pos hc, e_ps1M_12, if_pos hc]; exact LI_rec hI (by omega) hok (okW_fu _ hwk) (shN_up (show shN (fuU u _) _ from hsn) (by omega))
        · rw [e_ro1C_1, if_neg k_1, if_pos k_2, if_neg hc, e_n1C_2, if_neg k_1, if_pos k_2, if_neg hc, e_hp1C_3, if_neg k_1, if_pos k_2, if_neg hc, e_u1C_5, if_neg k_1, if_pos k_2, if_neg hc, e_ps1M_12, if_neg hc]; exact LI_up hI (by omega)
      exact hLK sk s0 s1 s2 t u1C_5 tb ub ts us n1C_2 ro1C_1 hp1C_3 q f f1 f2 sp be fo op ha st ga ps1M_12 tM uM z3 m7 g8 H locs ls hI2 hP hD hS hl
    · refine lv_aload_n hx hb dL_law_343 rfl (lv_at hl 2 rfl) ?_
      refine lv_aload_n hx hb dL_law_344 rfl (lv_at hl 0 rfl) ?_
      refine lv_iload_n hx hb dL_law_345 rfl (lv_at hl 3 rfl) ?_
      refine lv_iconst (v := 1) hx hb dL_law_346 (by decide) ?_
      refine lv_iadd hx hb dL_law_347 ?_
      refine ej_topi (show nI i + 1 = nI (i + 1) from nI_add i 1) ?_
      refine va_sld hx hb hX hbl hbA hS (vp_in_nI (n := i + 1) (N := L) (by omega) (by omega)) dL_law_348 ?_
      refine ej_topi (show xs (nI (i + 1)).toNatClampNeg = xs (i + 1) from congrArg xs (nI_clamp (by omega))) ?_
      refine lv_aload_n hx hb dL_law_349 rfl (lv_at hl 0 rfl) ?_
      refine lv_iload_n hx hb dL_law_350 rfl (lv_at hl 3 rfl) ?_
      refine lv_iconst (v := 2) hx hb dL_law_351 (by decide) ?_
      refine lv_iadd hx hb dL_law_352 ?_
      refine ej_topi (show nI i + 2 = nI (i + 2) from nI_add i 2) ?_
      refine va_sld hx hb hX hbl hbA hS (vp_in_nI (n := i + 2) (N := L) (by omega) (by omega)) dL_law_353 ?_
      refine ej_topi (show xs (nI (i + 2)).toNatClampNeg = xs (i + 2) from congrArg xs (nI_clamp (by omega))) ?_
      refine ej_VR (wa := MW cI bm n q sp sk be fo op ha st t u ga ps tM uM f z3 m7 g8) (wa' := MW cI bm n q sp sk be fo op ha st t u ga ps tM uM f z3 m7 g8) (wb := CW cI cT o aT aB aS g y z ad sk s0 s1 s2 t1C_4 u1C_5 tb ub ts us n1C_2 ro1C_1 hp1C_3 q f f1 f2) (As := [.int (xs (i + 1)), .int (xs (i + 2))]) (rest := [.int r1C_6]) S hK hN hA hP hD hS (c_X7_set_n l D tys cI ht0 bm n q sp sk be fo op ha st t u ps (xs (i + 1)) (xs (i + 2)) (fun z9 => (in01 z9).elim k_1 k_2)) (cwV 2 hts gL_law_X7_set rfl rfl rfl hdv_X7_set ⟨Nat.le_of_ble_eq_true rfl, Nat.le_of_ble_eq_true rfl⟩) [0, 1, 3] [some 0, some 1, none, some 2] [(bm 0), (bm 1), (bm 3)] rfl (by decide +kernel) ⟨rfl, rfl⟩ rfl (by decide +kernel) (Nat.le_of_ble_eq_true rfl) 0 7 rfl rfl rfl rfl hl.1 (Nat.le_of_ble_eq_true rfl) dL_law_354 ⟨Nat.le_of_ble_eq_true rfl, Nat.le_of_ble_eq_true rfl⟩ (fun H locs hP hD hS => ?_)
      show W p9 l e9 room_1 s9 m9 a9 b9 t9 c9 H locs 146 3194 Q (F0 m9 357 ls (.int (-1) :: [.int r1C_6]))
      have hP : va_P D vwCl (CW cI cT o aT aB aS g y z ad sk s0 s1 s2 t1C_4 u1C_5 tb ub ts us n1C_2 ro1C_1 hp1C_3 q f f1 f2 ++ MW cI bm n q sp sk be fo op ha st t u ga ps tM uM f z3 m7 g8) H := hP
      have hD : va_D A (CW cI cT o aT aB aS g y z ad sk s0 s1 s2 t1C_4 u1C_5 tb ub ts us n1C_2 ro1C_1 hp1C_3 q f f1 f2 ++ MW cI bm n q sp sk be fo op ha st t u ga ps tM uM f z3 m7 g8) := hD
      refine lv_icmp_eq (tgt := 862) hx hb dL_law_357 (by decide) (fun _ => ?_) (fun h9 => absurd (by rw [e_r1C_6, if_neg k_1, if_neg k_2]) h9)
      have q8 : t1C_4 = t := by rw [e_t1C_4, if_neg k_1, if_neg k_2]; first | done | exact ite_self _
      have q9 : t = t1C_4 := q8.symm
      clear q8
      subst q9
      have q8 : u1C_5 = u := by rw [e_u1C_5, if_neg k_1, if_neg k_2]; first | done | exact ite_self _
      have q9 : u = u1C_5 := q8.symm
      clear q8
      subst q9
      have q8 : n1C_2 = n := by rw [e_n1C_2, if_neg k_1, if_neg k_2]; first | done | exact ite_self _
      have q9 : n = n1C_2 := q8.symm
      clear q8
      subst q9
      have hI2 : LI (12 * (i + 5)) n ro1C_1 hp1C_3 ps t u sk ts us tM uM q s0 s1 s2 st z3 := by
        rw [e_ro1C_1, if_neg k_1, if_neg k_2, e_hp1C_3, if_neg k_1, if_neg k_2]; exact LI_up hI (by omega)
      exact hLK sk s0 s1 s2 t u tb ub ts us n ro1C_1 hp1C_3 q f f1 f2 sp be fo op ha st ga ps tM uM z3 m7 g8 H locs ls hI2 hP hD hS hl
