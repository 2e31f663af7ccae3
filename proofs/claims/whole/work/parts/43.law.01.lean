set_option maxHeartbeats 4000000 in
set_option maxRecDepth 100000 in
theorem law_c1 (l : Launch) (D : va_G) (tys : eT) (cI : ClassId) (ht0 : tys[0]? = some (cI, .int)) (cT : ClassId) (ht1 : tys[1]? = some (cT, .object RX5)) {p9 : Program} {e9 : Env} {s9 : State} {m9 : MethodId} {a9 : Array Value} {b9 : List Frame} {t9 : Method} {c9 : Code} {A : Nat → Prop} {H0 : Heap} {Q : State → Prop} {o aT aB aS g y z : Nat → Nat} {ad : Nat → Nat → Nat} {bm : Nat → Nat} {bs i L : Nat} {xs : Nat → Int32} (S : CallFix p9 m9 c9 cL_law 8 s9 a9 wsL_law RL) (hK : va_K D vwCl tys s9) (hN : eN s9) (hA : ∀ q : Nat, H0.size ≤ q → A q) (hX : va_X bs L xs s9 H0) (hbl : bs < H0.size) (hbA : ¬ A bs) (hL : L ≤ 2560) (hi : i + 5 ≤ L)
    (hLK : LK p9 l e9 s9 m9 a9 b9 t9 c9 D A H0 Q cI cT o aT aB aS g y z ad bm bs i) {sk s0 s1 s2 : Int32} {t : Pn} {u : Tr} {tb : Pn} {ub : Tr} {ts : Pn} {us : Tr} {n ro : Nat} {hp : Nat → Pn × Tr} {q : Nat} {f f1 f2 : Nat → Int32} {sp : Nat} {be fo op ha st : Int32} {ga : Nat → Int32} {ps : Nat → Pn × Tr} {tM : Pn} {uM : Tr} {z3 m7 g8 : Nat → Int32} (hI : LI (12 * i) n ro hp ps t u sk ts us tM uM q s0 s1 s2 st z3) {H : Heap} {locs : List Loc} {ls : Array Slot} (hP : va_P D vwCl (CW cI cT o aT aB aS g y z ad sk s0 s1 s2 t u tb ub ts us n ro hp q f f1 f2 ++ MW cI bm n q sp sk be fo op ha st t u ga ps tM uM f z3 m7 g8) H) (hD : va_D A (CW cI cT o aT aB aS g y z ad sk s0 s1 s2 t u tb ub ts us n ro hp q f f1 f2 ++ MW cI bm n q sp sk be fo op ha st t u ga ps tM uM f z3 m7 g8)) (hS : va_S A H0 H locs) (hl : lv_has ls 8 [(0, .ref bs), (1, .ref (o 0)), (2, .ref (bm 0)), (3, .int (nI i))]) : W p9 l e9 room_1 s9 m9 a9 b9 t9 c9 H locs 146 3194 Q (F0 m9 201 ls []) := by
  obtain ⟨hx, hb, hml, hown, hts⟩ := id S
  obtain ⟨⟨hok, hwk, hsn⟩, ⟨hn4, hr4, hq60⟩, hhis, hsav, hstp⟩ := id hI
  refine lv_aload_n hx hb dL_law_201 rfl (lv_at hl 1 rfl) ?_
  refine lv_aload_n hx hb dL_law_202 rfl (lv_at hl 0 rfl) ?_
  refine lv_iload_n hx hb dL_law_203 rfl (lv_at hl 3 rfl) ?_
  refine lv_iconst (v := 1) hx hb dL_law_204 (by decide) ?_
  refine lv_iadd hx hb dL_law_205 ?_
  refine ej_topi (show nI i + 1 = nI (i + 1) from nI_add i 1) ?_
  refine va_sld hx hb hX hbl hbA hS (vp_in_nI (n := i + 1) (N := L) (by omega) (by omega)) dL_law_206 ?_
  refine ej_topi (show xs (nI (i + 1)).toNatClampNeg = xs (i + 1) from congrArg xs (nI_clamp (by omega))) ?_
  refine lv_aload_n hx hb dL_law_207 rfl (lv_at hl 0 rfl) ?_
  refine lv_iload_n hx hb dL_law_208 rfl (lv_at hl 3 rfl) ?_
  refine lv_iconst (v := 2) hx hb dL_law_209 (by decide) ?_
  refine lv_iadd hx hb dL_law_210 ?_
  refine ej_topi (show nI i + 2 = nI (i + 2) from nI_add i 2) ?_
  refine va_sld hx hb hX hbl hbA hS (vp_in_nI (n := i + 2) (N := L) (by omega) (by omega)) dL_law_211 ?_
  refine ej_topi (show xs (nI (i + 2)).toNatClampNeg = xs (i + 2) from congrArg xs (nI_clamp (by omega))) ?_
  refine lv_if_eq (tgt := 219) hx hb dL_law_212 (by decide) (fun b_1 => ?_) (fun b_1 => ?_)
  · refine lv_iconst (v := 0) hx hb dL_law_219 (by decide) ?_
    obtain ⟨ro1C_2, e_ro1C_2⟩ : ∃ z9 : Nat, z9 = if inP (xs (i + 1)) 34 then recR ro n else ro := ⟨_, rfl⟩
    obtain ⟨n1C_3, e_n1C_3⟩ : ∃ z9 : Nat, z9 = if inP (xs (i + 1)) 34 then recN n else n := ⟨_, rfl⟩
    obtain ⟨hp1C_4, e_hp1C_4⟩ : ∃ z9 : Nat → Pn × Tr, z9 = if inP (xs (i + 1)) 34 then updH hp (recI ro n) (t, u) else hp := ⟨_, rfl⟩
    obtain ⟨t1C_5, e_t1C_5⟩ : ∃ z9 : Pn, z9 = if inP (xs (i + 1)) 34 then bhP t (xs (i + 1)).toNatClampNeg (if 0 = 0 then -1 else 1) else t := ⟨_, rfl⟩
    obtain ⟨u1C_6, e_u1C_6⟩ : ∃ z9 : Tr, z9 = if inP (xs (i + 1)) 34 then bhU t u (xs (i + 1)).toNatClampNeg (if 0 = 0 then -1 else 1) else u := ⟨_, rfl⟩
    obtain ⟨r1C_7, e_r1C_7⟩ : ∃ z9 : Int32, z9 = if inP (xs (i + 1)) 34 then bhR t (xs (i + 1)).toNatClampNeg (if 0 = 0 then -1 else 1) else -1 := ⟨_, rfl⟩
    refine ej_VL (wa := CW cI cT o aT aB aS g y z ad sk s0 s1 s2 t u tb ub ts us n ro hp q f f1 f2) (wa' := CW cI cT o aT aB aS g y z ad sk s0 s1 s2 t1C_5 u1C_6 tb ub ts us n1C_3 ro1C_2 hp1C_4 q f f1 f2) (wb := MW cI bm n q sp sk be fo op ha st t u ga ps tM uM f z3 m7 g8) (As := [.int (xs (i + 1)), .int 0]) (rest := []) S hK hN hA hP hD hS (c_X6_bend l D tys cI ht0 cT ht1 o aT aB aS g y z sk s0 s1 s2 t u ad n ro hp (xs (i + 1)) 0 ro1C_2 e_ro1C_2 n1C_3 e_n1C_3 hp1C_4 e_hp1C_4 t1C_5 e_t1C_5 u1C_6 e_u1C_6 r1C_7 e_r1C_7 hok.1 hn4 hr4) (cwV 2 hts gL_law_X6_bend rfl rfl rfl hdv_X6_bend ⟨Nat.le_of_ble_eq_true rfl, Nat.le_of_ble_eq_true rfl⟩) [0, 1, 2, 3, 4, 5, 6, 7, 8, 9, 10, 11, 12, 13, 14, 15, 16, 17, 18, 55, 56, 57, 58, 59, 60, 61, 62, 63, 64, 65, 66, 67, 68, 69, 70, 71, 72, 73, 74, 75, 76, 77, 78, 79, 80, 81, 82, 83, 84, 85, 86, 87, 88, 89, 90, 91, 92, 93, 94, 95, 96, 97, 98, 99, 100, 101, 102, 103, 104, 105, 106, 107, 108, 109, 110, 111, 112, 113, 114, 115, 116, 117, 118, 119, 120, 121, 122, 123, 124, 125, 126, 127, 128] [some 0, some 1, some 2, some 3, some 4, some 5, some 6, some 7, some 8, some 9, some 10, some 11, some 12, some 13, some 14, some 15, some 16, some 17, some 18, none, none, none, none, none, none, none, none, none, none, none, none, none, none, none, none, none, none, none, none, none, none, none, none, none, none, none, none, none, none, none, none, none, none, none, none, some 19, some 20, some 21, some 22, some 23, some 24, some 25, some 26, some 27, some 28, some 29, some 30, some 31, some 32, some 33, some 34, some 35, some 36, some 37, some 38, some 39, some 40, some 41, some 42, some 43, some 44, some 45, some 46, some 47, some 48, some 49, some 50, some 51, some 52, some 53, some 54, some 55, some 56, some 57, some 58, some 59, some 60, some 61, some 62, some 63, some 64, some 65, some 66, some 67, some 68, some 69, some 70, some 71, some 72, some 73, some 74, some 75, some 76, some 77, some 78, some 79, some 80, some 81, some 82, some 83, some 84, some 85, some 86, some 87, some 88, some 89, some 90, some 91, some 92] [(o 0), (aT 0), (aT 1), (aT 2), (aT 3), (aT 4), (aT 5), (aT 6), (aT 7), (aT 8), (aT 9), (aT 10), (aT 11), (aT 12), (aT 13), (aT 14), (aT 15), (aT 16), (aT 17), (g 0), (g 1), ((ad 0) 0), ((ad 0) 1), ((ad 0) 2), ((ad 0) 3), ((ad 0) 4), ((ad 0) 5), ((ad 0) 6), ((ad 0) 7), ((ad 0) 8), ((ad 0) 9), ((ad 0) 10), ((ad 0) 11), ((ad 0) 12), ((ad 0) 13), ((ad 0) 14), ((ad 0) 15), ((ad 0) 16), ((ad 0) 17), ((ad 1) 0), ((ad 1) 1), ((ad 1) 2), ((ad 1) 3), ((ad 1) 4), ((ad 1) 5), ((ad 1) 6), ((ad 1) 7), ((ad 1) 8), ((ad 1) 9), ((ad 1) 10), ((ad 1) 11), ((ad 1) 12), ((ad 1) 13), ((ad 1) 14), ((ad 1) 15), ((ad 1) 16), ((ad 1) 17), ((ad 2) 0), ((ad 2) 1), ((ad 2) 2), ((ad 2) 3), ((ad 2) 4), ((ad 2) 5), ((ad 2) 6), ((ad 2) 7), ((ad 2) 8), ((ad 2) 9), ((ad 2) 10), ((ad 2) 11), ((ad 2) 12), ((ad 2) 13), ((ad 2) 14), ((ad 2) 15), ((ad 2) 16), ((ad 2) 17), ((ad 3) 0), ((ad 3) 1), ((ad 3) 2), ((ad 3) 3), ((ad 3) 4), ((ad 3) 5), ((ad 3) 6), ((ad 3) 7), ((ad 3) 8), ((ad 3) 9), ((ad 3) 10), ((ad 3) 11), ((ad 3) 12), ((ad 3) 13), ((ad 3) 14), ((ad 3) 15), ((ad 3) 16), ((ad 3) 17)] rfl (by decide +kernel) ⟨rfl, rfl⟩ rfl (by decide +kernel) (Nat.le_of_ble_eq_true rfl) 0 6 rfl rfl rfl rfl hl.1 (Nat.le_of_ble_eq_true rfl) dL_law_220 ⟨Nat.le_of_ble_eq_true rfl, Nat.le_of_ble_eq_true rfl⟩ (fun H locs hP hD hS => ?_)
    show W p9 l e9 room_1 s9 m9 a9 b9 t9 c9 H locs 146 3194 Q (F0 m9 223 ls (.int r1C_7 :: []))
    have hP : va_P D vwCl (CW cI cT o aT aB aS g y z ad sk s0 s1 s2 t1C_5 u1C_6 tb ub ts us n1C_3 ro1C_2 hp1C_4 q f f1 f2 ++ MW cI bm n q sp sk be fo op ha st t u ga ps tM uM f z3 m7 g8) H := hP
    have hD : va_D A (CW cI cT o aT aB aS g y z ad sk s0 s1 s2 t1C_5 u1C_6 tb ub ts us n1C_3 ro1C_2 hp1C_4 q f f1 f2 ++ MW cI bm n q sp sk be fo op ha st t u ga ps tM uM f z3 m7 g8) := hD
    refine lv_aload_n hx hb dL_law_223 rfl (lv_at hl 2 rfl) ?_
    refine lv_aload_n hx hb dL_law_224 rfl (lv_at hl 0 rfl) ?_
    refine lv_iload_n hx hb dL_law_225 rfl (lv_at hl 3 rfl) ?_
    refine lv_iconst (v := 1) hx hb dL_law_226 (by decide) ?_
    refine lv_iadd hx hb dL_law_227 ?_
    refine ej_topi (show nI i + 1 = nI (i + 1) from nI_add i 1) ?_
    refine va_sld hx hb hX hbl hbA hS (vp_in_nI (n := i + 1) (N := L) (by omega) (by omega)) dL_law_228 ?_
    refine ej_topi (show xs (nI (i + 1)).toNatClampNeg = xs (i + 1) from congrArg xs (nI_clamp (by omega))) ?_
    refine lv_aload_n hx hb dL_law_229 rfl (lv_at hl 0 rfl) ?_
    refine lv_iload_n hx hb dL_law_230 rfl (lv_at hl 3 rfl) ?_
    refine lv_iconst (v := 2) hx hb dL_law_231 (by decide) ?_
    refine lv_iadd hx hb dL_law_232 ?_
    refine ej_topi (show nI i + 2 = nI (i + 2) from nI_add i 2) ?_
    refine va_sld hx hb hX hbl hbA hS (vp_in_nI (n := i + 2) (N := L) (by omega) (by omega)) dL_law_233 ?_
    refine ej_topi (show xs (nI (i + 2)).toNatClampNeg = xs (i + 2) from congrArg xs (nI_clamp (by omega))) ?_
    refine lv_if_eq (tgt := 241) hx hb dL_law_234 (by decide) (fun _ => ?_) (fun h9 => absurd b_1 h9)
    refine lv_iconst (v := 0) hx hb dL_law_241 (by decide) ?_
    obtain ⟨k1M_8, e_k1M_8⟩ : ∃ z9 : Nat, z9 = if inP (xs (i + 1)) 34 then recN n else n := ⟨_, rfl⟩
    obtain ⟨ps1M_9, e_ps1M_9⟩ : ∃ z9 : Nat → Pn × Tr, z9 = if inP (xs (i + 1)) 34 then recS ps n (t, u) else ps := ⟨_, rfl⟩
    obtain ⟨t1M_10, e_t1M_10⟩ : ∃ z9 : Pn, z9 = if inP (xs (i + 1)) 34 then bhP t (xs (i + 1)).toNatClampNeg (if 0 = 0 then -1 else 1) else t := ⟨_, rfl⟩
    obtain ⟨u1M_11, e_u1M_11⟩ : ∃ z9 : Tr, z9 = if inP (xs (i + 1)) 34 then bhU t u (xs (i + 1)).toNatClampNeg (if 0 = 0 then -1 else 1) else u := ⟨_, rfl⟩
    obtain ⟨r1M_12, e_r1M_12⟩ : ∃ z9 : Int32, z9 = if inP (xs (i + 1)) 34 then bhR t (xs (i + 1)).toNatClampNeg (if 0 = 0 then -1 else 1) else -1 := ⟨_, rfl⟩
    refine ej_VR (wa := MW cI bm n q sp sk be fo op ha st t u ga ps tM uM f z3 m7 g8) (wa' := MW cI bm k1M_8 q sp sk be fo op ha st t1M_10 u1M_11 ga ps1M_9 tM uM f z3 m7 g8) (wb := CW cI cT o aT aB aS g y z ad sk s0 s1 s2 t1C_5 u1C_6 tb ub ts us n1C_3 ro1C_2 hp1C_4 q f f1 f2) (As := [.int (xs (i + 1)), .int 0]) (rest := [.int r1C_7]) S hK hN hA hP hD hS (c_X7_bend l D tys cI ht0 bm n q sp sk be fo op ha st t u ps (xs (i + 1)) 0 k1M_8 e_k1M_8 ps1M_9 e_ps1M_9 t1M_10 e_t1M_10 u1M_11 e_u1M_11 r1M_12 e_r1M_12 hok.1 hok.2.1 hn4) (cwV 2 hts gL_law_X7_bend rfl rfl rfl hdv_X7_bend ⟨Nat.le_of_ble_eq_true rfl, Nat.le_of_ble_eq_true rfl⟩) [0, 1, 3] [some 0, some 1, none, some 2] [(bm 0), (bm 1), (bm 3)] rfl (by decide +kernel) ⟨rfl, rfl⟩ rfl (by decide +kernel) (Nat.le_of_ble_eq_true rfl) 0 7 rfl rfl rfl rfl hl.1 (Nat.le_of_ble_eq_true rfl) dL_law_242 ⟨Nat.le_of_ble_eq_true rfl, Nat.le_of_ble_eq_true rfl⟩ (fun H locs hP hD hS => ?_)
    show W p9 l e9 room_1 s9 m9 a9 b9 t9 c9 H locs 146 3194 Q (F0 m9 245 ls (.int r1M_12 :: [.int r1C_7]))
    have hP : va_P D vwCl (CW cI cT o aT aB aS g y z ad sk s0 s1 s2 t1C_5 u1C_6 tb ub ts us n1C_3 ro1C_2 hp1C_4 q f f1 f2 ++ MW cI bm k1M_8 q sp sk be fo op ha st t1M_10 u1M_11 ga ps1M_9 tM uM f z3 m7 g8) H := hP
    have hD : va_D A (CW cI cT o aT aB aS g y z ad sk s0 s1 s2 t1C_5 u1C_6 tb ub ts us n1C_3 ro1C_2 hp1C_4 q f f1 f2 ++ MW cI bm k1M_8 q sp sk be fo op ha st t1M_10 u1M_11 ga ps1M_9 tM uM f z3 m7 g8) := hD
    refine lv_icmp_eq (tgt := 862) hx hb dL_law_245 (by decide) (fun _ => ?_) (fun h9 => absurd (by rw [e_r1C_7, e_r1M_12]) h9)
    have q9 : t1C_5 = t1M_10 := by rw [e_t1C_5, e_t1M_10]
    subst q9
    have q9 : u1C_6 = u1M_11 := by rw [e_u1C_6, e_u1M_11]
    subst q9
    have q9 : n1C_3 = k1M_8 := by rw [e_n1C_3, e_k1M_8]
    subst q9
    have hI2 : LI (12 * (i + 5)) n1C_3 ro1C_2 hp1C_4 ps1M_9 t1C_5 u1C_6 sk ts us tM uM q s0 s1 s2 st z3 := by
      by_cases hc : inP (xs (i + 1)) 34
      · rw [e_ro1C_2, if_pos hc, e_n1C_3, if_pos hc, e_hp1C_4, if_pos hc, e_t1C_5, if_pos hc, e_u1C_6, if_pos hc, e_ps1M_9, if_pos hc]; exact LI_rec hI (by omega) (okT_bh _ _ hok) (okW_bh _ _ hwk) (shN_up (shN_bh hsn) (by omega))
      · rw [e_ro1C_2, if_neg hc, e_n1C_3, if_neg hc, e_hp1C_4, if_neg hc, e_t1C_5, if_neg hc, e_u1C_6, if_neg hc, e_ps1M_9, if_neg hc]; exact LI_up hI (by omega)
    exact hLK sk s0 s1 s2 t1C_5 u1C_6 tb ub ts us n1C_3 ro1C_2 hp1C_4 q f f1 f2 sp be fo op ha st ga ps1M_9 tM uM z3 m7 g8 H locs ls hI2 hP hD hS hl
  · refine lv_iconst (v := 1) hx hb dL_law_215 (by decide) ?_
    refine lv_goto (tgt := 220) hx hb dL_law_216 (by decide) ?_
    obtain ⟨ro1C_13, e_ro1C_13⟩ : ∃ z9 : Nat, z9 = if inP (xs (i + 1)) 34 then recR ro n else ro := ⟨_, rfl⟩
    obtain ⟨n1C_14, e_n1C_14⟩ : ∃ z9 : Nat, z9 = if inP (xs (i + 1)) 34 then recN n else n := ⟨_, rfl⟩
    obtain ⟨hp1C_15, e_hp1C_15⟩ : ∃ z9 : Nat → Pn × Tr, z9 = if inP (xs (i + 1)) 34 then updH hp (recI ro n) (t, u) else hp := ⟨_, rfl⟩
    obtain ⟨t1C_16, e_t1C_16⟩ : ∃ z9 : Pn, z9 = if inP (xs (i + 1)) 34 then bhP t (xs (i + 1)).toNatClampNeg (if 1 = 0 then -1 else 1) else t := ⟨_, rfl⟩
    obtain ⟨u1C_17, e_u1C_17⟩ : ∃ z9 : Tr, z9 = if inP (xs (i + 1)) 34 then bhU t u (xs (i + 1)).toNatClampNeg (if 1 = 0 then -1 else 1) else u := ⟨_, rfl⟩
    obtain ⟨r1C_18, e_r1C_18⟩ : ∃ z9 : Int32, z9 = if inP (xs (i + 1)) 34 then bhR t (xs (i + 1)).toNatClampNeg (if 1 = 0 then -1 else 1) else -1 := ⟨_, rfl⟩
    refine ej_VL (wa := CW cI cT o aT aB aS g y z ad sk s0 s1 s2 t u tb ub ts us n ro hp q f f1 f2) (wa' := CW cI cT o aT aB aS g y z ad sk s0 s1 s2 t1C_16 u1C_17 tb ub ts us n1C_14 ro1C_13 hp1C_15 q f f1 f2) (wb := MW cI bm n q sp sk be fo op ha st t u ga ps tM uM f z3 m7 g8) (As := [.int (xs (i + 1)), .int 1]) (rest := []) S hK hN hA hP hD hS (c_X6_bend l D tys cI ht0 cT ht1 o aT aB aS g y z sk s0 s1 s2 t u ad n ro hp (xs (i + 1)) 1 ro1C_13 e_ro1C_13 n1C_14 e_n1C_14 hp1C_15 e_hp1C_15 t1C_16 e_t1C_16 u1C_17 e_u1C_17 r1C_18 e_r1C_18 hok.1 hn4 hr4) (cwV 2 hts gL_law_X6_bend rfl rfl rfl hdv_X6_bend ⟨Nat.le_of_ble_eq_true rfl, Nat.le_of_ble_eq_true rfl⟩) [0, 1, 2, 3, 4, 5, 6, 7, 8, 9, 10, 11, 12, 13, 14, 15, 16, 17, 18, 55, 56, 57, 58, 59, 60, 61, 62, 63, 64, 65, 66, 67, 68, 69, 70, 71, 72, 73, 74, 75, 76, 77, 78, 79, 80, 81, 82, 83, 84, 85, 86, 87, 88, 89, 90, 91, 92, 93, 94, 95, 96, 97, 98, 99, 100, 101, 102, 103, 104, 105, 106, 107, 108, 109, 110, 111, 112, 113, 114, 115, 116, 117, 118, 119, 120, 121, 122, 123, 124, 125, 126, 127, 128] [some 0, some 1, some 2, some 3, some 4, some 5, some 6, some 7, some 8, some 9, some 10, some 11, some 12, some 13, some 14, some 15, some 16, some 17, some 18, none, none, none, none, none, none, none, none, none, none, none, none, none, none, none, none, none, none, none, none, none, none, none, none, none, none, none, none, none, none, none, none, none, none, none, none, some 19, some 20, some 21, some 22, some 23, some 24, some 25, some 26, some 27, some 28, some 29, some 30, some 31, some 32, some 33, some 34, some 35, some 36, some 37, some 38, some 39, some 40, some 41, some 42, some 43, some 44, some 45, some 46, some 47, some 48, some 49, some 50, some 51, some 52, some 53, some 54, some 55, some 56, some 57, some 58, some 59, some 60, some 61, some 62, some 63, some 64, some 65, some 66, some 67, some 68, some 69, some 70, some 71, some 72, some 73, some 74, some 75, some 76, some 77, some 78, some 79, some 80, some 81, some 82, some 83, some 84, some 85, some 86, some 87, some 88, some 89, some 90, some 91, some 92] [(o 0), (aT 0), (aT 1), (aT 2), (aT 3), (aT 4), (aT 5), (aT 6), (aT 7), (aT 8), (aT 9), (aT 10), (aT 11), (aT 12), (aT 13), (aT 14), (aT 15), (aT 16), (aT 17), (g 0), (g 1), ((ad 0) 0), ((ad 0) 1), ((ad 0) 2), ((ad 0) 3), ((ad 0) 4), ((ad 0) 5), ((ad 0) 6), ((ad 0) 7), ((ad 0) 8), ((ad 0) 9), ((ad 0) 10), ((ad 0) 11), ((ad 0) 12), ((ad 0) 13), ((ad 0) 14), ((ad 0) 15), ((ad 0) 16), ((ad 0) 17), ((ad 1) 0), ((ad 1) 1), ((ad 1) 2), ((ad 1) 3), ((ad 1) 4), ((ad 1) 5), ((ad 1) 6), ((ad 1) 7), ((ad 1) 8), ((ad 1) 9), ((ad 1) 10), ((ad 1) 11), ((ad 1) 12), ((ad 1) 13), ((ad 1) 14), ((ad 1) 15), ((ad 1) 16), ((ad 1) 17), ((ad 2) 0), ((ad 2) 1), ((ad 2) 2), ((ad 2) 3), ((ad 2) 4), ((ad 2) 5), ((ad 2) 6), ((ad 2) 7), ((ad 2) 8), ((ad 2) 9), ((ad 2) 10), ((ad 2) 11), ((ad 2) 12), ((ad 2) 13), ((ad 2) 14), ((ad 2) 15), ((ad 2) 16), ((ad 2) 17), ((ad 3) 0), ((ad 3) 1), ((ad 3) 2), ((ad 3) 3), ((ad 3) 4), ((ad 3) 5), ((ad 3) 6), ((ad 3) 7), ((ad 3) 8), ((ad 3) 9), ((ad 3) 10), ((ad 3) 11), ((ad 3) 12), ((ad 3) 13), ((ad 3) 14), ((ad 3) 15), ((ad 3) 16), ((ad 3) 17)] rfl (by decide +kernel) ⟨rfl, rfl⟩ rfl (by decide +kernel) (Nat.le_of_ble_eq_true rfl) 0 6 rfl rfl rfl rfl hl.1 (Nat.le_of_ble_eq_true rfl) dL_law_220 ⟨Nat.le_of_ble_eq_true rfl, Nat.le_of_ble_eq_true rfl⟩ (fun H locs hP hD hS => ?_)
    show W p9 l e9 room_1 s9 m9 a9 b9 t9 c9 H locs 146 3194 Q (F0 m9 223 ls (.int r1C_18 :: []))
    have hP : va_P D vwCl (CW cI cT o aT aB aS g y z ad sk s0 s1 s2 t1C_16 u1C_17 tb ub ts us n1C_14 ro1C_13 hp1C_15 q f f1 f2 ++ MW cI bm n q sp sk be fo op ha st t u ga ps tM uM f z3 m7 g8) H := hP
    have hD : va_D A (CW cI cT o aT aB aS g y z ad sk s0 s1 s2 t1C_16 u1C_17 tb ub ts us n1C_14 ro1C_13 hp1C_15 q f f1 f2 ++ MW cI bm n q sp sk be fo op ha st t u ga ps tM uM f z3 m7 g8) := hD
    refine lv_aload_n hx hb dL_law_223 rfl (lv_at hl 2 rfl) ?_
    refine lv_aload_n hx hb dL_law_224 rfl (lv_at hl 0 rfl) ?_
    refine lv_iload_n hx hb dL_law_225 rfl (lv_at hl 3 rfl) ?_
    refine lv_iconst (v := 1) hx hb dL_law_226 (by decide) ?_
    refine lv_iadd hx hb dL_law_227 ?_
    refine ej_topi (show nI i + 1 = nI (i + 1) from nI_add i 1) ?_
    refine va_sld hx hb hX hbl hbA hS (vp_in_nI (n := i + 1) (N := L) (by omega) (by omega)) dL_law_228 ?_
    refine ej_topi (show xs (nI (i + 1)).toNatClampNeg = xs (i + 1) from congrArg xs (nI_clamp (by omega))) ?_
    refine lv_aload_n hx hb dL_law_229 rfl (lv_at hl 0 rfl) ?_
    refine lv_iload_n hx hb dL_law_230 rfl (lv_at hl 3 rfl) ?_
    refine lv_iconst (v := 2) hx hb dL_law_231 (by decide) ?_
    refine lv_iadd hx hb dL_law_232 ?_
    refine ej_topi (show nI i + 2 = nI (i + 2) from nI_add i 2) ?_
    refine va_sld hx hb hX hbl hbA hS (vp_in_nI (n := i + 2) (N := L) (by omega) (by omega)) dL_law_233 ?_
    refine ej_topi (show xs (nI (i + 2)).toNatClampNeg = xs (i + 2) from congrArg xs (nI_clamp (by omega))) ?_
    refine lv_if_eq (tgt := 241) hx hb dL_law_234 (by decide) (fun h9 => absurd h9 b_1) (fun _ => ?_)
    refine lv_iconst (v := 1) hx hb dL_law_237 (by decide) ?_
    refine lv_goto (tgt := 242) hx hb dL_law_238 (by decide) ?_
    obtain ⟨k1M_19, e_k1M_19⟩ : ∃ z9 : Nat, z9 = if inP (xs (i + 1)) 34 then recN n else n := ⟨_, rfl⟩
    obtain ⟨ps1M_20, e_ps1M_20⟩ : ∃ z9 : Nat → Pn × Tr, z9 = if inP (xs (i + 1)) 34 then recS ps n (t, u) else ps := ⟨_, rfl⟩
    obtain ⟨t1M_21, e_t1M_21⟩ : ∃ z9 : Pn, z9 = if inP (xs (i + 1)) 34 then bhP t (xs (i + 1)).toNatClampNeg (if 1 = 0 then -1 else 1) else t := ⟨_, rfl⟩
    obtain ⟨u1M_22, e_u1M_22⟩ : ∃ z9 : Tr, z9 = if inP (xs (i + 1)) 34 then bhU t u (xs (i + 1)).toNatClampNeg (if 1 = 0 then -1 else 1) else u := ⟨_, rfl⟩
    obtain ⟨r1M_23, e_r1M_23⟩ : ∃ z9 : Int32, z9 = if inP (xs (i + 1)) 34 then bhR t (xs (i + 1)).toNatClampNeg (if 1 = 0 then -1 else 1) else -1 := ⟨_, rfl⟩
    refine ej_VR (wa := MW cI bm n q sp sk be fo op ha st t u ga ps tM uM f z3 m7 g8) (wa' := MW cI bm k1M_19 q sp sk be fo op ha st t1M_21 u1M_22 ga ps1M_20 tM uM f z3 m7 g8) (wb := CW cI cT o aT aB aS g y z ad sk s0 s1 s2 t1C_16 u1C_17 tb ub ts us n1C_14 ro1C_13 hp1C_15 q f f1 f2) (As := [.int (xs (i + 1)), .int 1]) (rest := [.int r1C_18]) S hK hN hA hP hD hS (c_X7_bend l D tys cI ht0 bm n q sp sk be fo op ha st t u ps (xs (i + 1)) 1 k1M_19 e_k1M_19 ps1M_20 e_ps1M_20 t1M_21 e_t1M_21 u1M_22 e_u1M_22 r1M_23 e_r1M_23 hok.1 hok.2.1 hn4) (cwV 2 hts gL_law_X7_bend rfl rfl rfl hdv_X7_bend ⟨Nat.le_of_ble_eq_true rfl, Nat.le_of_ble_eq_true rfl⟩) [0, 1, 3] [some 0, some 1, none, some 2] [(bm 0), (bm 1), (bm 3)] rfl (by decide +kernel) ⟨rfl, rfl⟩ rfl (by decide +kernel) (Nat.le_of_ble_eq_true rfl) 0 7 rfl rfl rfl rfl hl.1 (Nat.le_of_ble_eq_true rfl) dL_law_242 ⟨Nat.le_of_ble_eq_true rfl, Nat.le_of_ble_eq_true rfl⟩ (fun H locs hP hD hS => ?_)
    show W p9 l e9 room_1 s9 m9 a9 b9 t9 c9 H locs 146 3194 Q (F0 m9 245 ls (.int r1M_23 :: [.int r1C_18]))
    have hP : va_P D vwCl (CW cI cT o aT aB aS g y z ad sk s0 s1 s2 t1C_16 u1C_17 tb ub ts us n1C_14 ro1C_13 hp1C_15 q f f1 f2 ++ MW cI bm k1M_19 q sp sk be fo op ha st t1M_21 u1M_22 ga ps1M_20 tM uM f z3 m7 g8) H := hP
    have hD : va_D A (CW cI cT o aT aB aS g y z ad sk s0 s1 s2 t1C_16 u1C_17 tb ub ts us n1C_14 ro1C_13 hp1C_15 q f f1 f2 ++ MW cI bm k1M_19 q sp sk be fo op ha st t1M_21 u1M_22 ga ps1M_20 tM uM f z3 m7 g8) := hD
    refine lv_icmp_eq (tgt := 862) hx hb dL_law_245 (by decide) (fun _ => ?_) (fun h9 => absurd (by rw [e_r1C_18, e_r1M_23]) h9)
    have q9 : t1C_16 = t1M_21 := by rw [e_t1C_16, e_t1M_21]
    subst q9
    have q9 : u1C_17 = u1M_22 := by rw [e_u1C_17, e_u1M_22]
    subst q9
    have q9 : n1C_14 = k1M_19 := by rw [e_n1C_14, e_k1M_19]
    subst q9
    have hI2 : LI (12 * (i + 5)) n1C_14 ro1C_13 hp1C_15 ps1M_20 t1C_16 u1C_17 sk ts us tM uM q s0 s1 s2 st z3 := by
      by_cases hc : inP (xs (i + 1)) 34
      · rw [e_ro1C_13, if_pos hc, e_n1C_14, if_pos hc, e_hp1C_15, if_pos hc, e_t1C_16, if_pos hc, e_u1C_17, if_pos hc, e_ps1M_20, if_pos hc]; exact LI_rec hI (by omega) (okT_bh _ _ hok) (okW_bh _ _ hwk) (shN_up (shN_bh hsn) (by omega))
      · rw [e_ro1C_13, if_neg hc, e_n1C_14, if_neg hc, e_hp1C_15, if_neg hc, e_t1C_16, if_neg hc, e_u1C_17, if_neg hc, e_ps1M_20, if_neg hc]; exact LI_up hI (by omega)
    exact hLK sk s0 s1 s2 t1C_16 u1C_17 tb ub ts us n1C_14 ro1C_13 hp1C_15 q f f1 f2 sp be fo op ha st ga ps1M_20 tM uM z3 m7 g8 H locs ls hI2 hP hD hS hl
