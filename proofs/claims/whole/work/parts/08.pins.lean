set_option maxHeartbeats 4000000 in
set_option maxRecDepth 100000 in
theorem c_X2_isOut (l : Launch) (D : va_G) (tys : eT) (cI : ClassId) (ht0 : tys[0]? = some (cI, .int)) (a : Nat → Nat) (t : Pn) (k : Nat) (hk : k < 35) : fc l D tys yX2_isOut wsX2_isOut (eR 1 21) [.ref (a 1), .int (nI k)] (pinW cI a t) (some (.int (if ¬ P_ou t k = 0 then 1 else 0))) (pinW cI a t) := by
  refine fc_int cX2_isOut 2 (by decide +kernel) rfl (ej_narB _) (Nat.le_of_ble_eq_true rfl) ?_
  intro p9 e9 s9 m9 a9 b9 t9 c9 H0 A Q ls S hK hN hA hP hD hS hl hQ
  have S : CallFix p9 m9 c9 cX2_isOut 2 s9 a9 wsX2_isOut RX2 := S
  obtain ⟨hx, hb, hml, hown, hts⟩ := id S
  have iX2 : ∀ w ∈ wsX20, w ∈ wsX2_isOut := fun w h => List.mem_cons_of_mem _ (List.mem_append_left _ (List.mem_append_right _ (h)))
  have hP : va_P D vwCl (pinW cI a t) H0 := hP
  have hl : lv_has ls 2 [(0, .ref (a 1)), (1, .int (nI k))] := hl
  refine lv_aload_n hx hb dX2_isOut_0 rfl (lv_at hl 0 rfl) ?_
  refine va_get (D := D) (ci := 2) (v := .ref (a 4)) (C := RX2) (T := TX2) (N := 8) hx hb hts iX2 hown hK hP 0 rfl rfl 1 (Nat.le_of_ble_eq_true rfl) (hts (.fieldLink RX2 20 "BentPins$Pins" "outs" "LBentPins$Row;") (List.mem_of_getElem? (i := 1) rfl)) (fun _ h9 => h9) rfl dX2_isOut_1 ?_
  refine lv_iload_n hx hb dX2_isOut_4 rfl (lv_at hl 1 rfl) ?_
  refine ej_V (As := [.int (nI k)]) (rest := []) (w' := pinW cI a t) S hK hN hA hP hD hS (c_X4_at l D tys cI ht0 (a 4) (a 5) 35 (P_ou t) k (by omega) (by omega)) (cwV 1 hts gX2_isOut_X4_at rfl rfl rfl hdv_X4_at ⟨Nat.le_of_ble_eq_true rfl, Nat.le_of_ble_eq_true rfl⟩) [3, 4] rfl rfl rfl rfl 3 4 rfl rfl rfl rfl hl.1 (Nat.le_of_ble_eq_true rfl) dX2_isOut_5 ⟨Nat.zero_le _, Nat.zero_le _⟩ (fun H locs hP hD hS => ?_)
  show W p9 l e9 (eR 1 21) s9 m9 a9 b9 t9 c9 H locs 0 0 Q (F0 m9 8 ls (.int ((P_ou t) k) :: []))
  refine lv_if_eq (tgt := 15) hx hb dX2_isOut_8 (by decide) (fun c_1 => ?_) (fun c_1 => ?_)
  · refine lv_iconst (v := 0) hx hb dX2_isOut_15 (by decide) ?_
    exact hQ _ _ _ _ 0 (pinW cI a t) dX2_isOut_16 (by first | rfl | (simp only [c_1, if_true, if_false, ite_true, ite_false, not_true_eq_false, not_false_eq_true, and_true, true_and, and_false, false_and, and_self, true_or, or_true, or_false, false_or, reduceIte]; done) | simp [c_1]) rfl hP hS
  · refine lv_iconst (v := 1) hx hb dX2_isOut_11 (by decide) ?_
    refine lv_goto (tgt := 16) hx hb dX2_isOut_12 (by decide) ?_
    exact hQ _ _ _ _ 1 (pinW cI a t) dX2_isOut_16 (by first | rfl | (simp only [c_1, if_true, if_false, ite_true, ite_false, not_true_eq_false, not_false_eq_true, and_true, true_and, and_false, false_and, and_self, true_or, or_true, or_false, false_or, reduceIte]; done) | simp [c_1]) rfl hP hS
set_option maxHeartbeats 4000000 in
set_option maxRecDepth 100000 in
theorem c_X2_pulledOut (l : Launch) (D : va_G) (tys : eT) (cI : ClassId) (ht0 : tys[0]? = some (cI, .int)) (a : Nat → Nat) (t : Pn)  : fc l D tys yX2_pulledOut wsX2_pulledOut (eR 1 25) [.ref (a 1)] (pinW cI a t) (some (.int (sumI (P_ou t) 35))) (pinW cI a t) := by
  refine fc_int cX2_pulledOut 1 (by decide +kernel) rfl (rfl) (Nat.le_of_ble_eq_true rfl) ?_
  intro p9 e9 s9 m9 a9 b9 t9 c9 H0 A Q ls S hK hN hA hP hD hS hl hQ
  have S : CallFix p9 m9 c9 cX2_pulledOut 1 s9 a9 wsX2_pulledOut RX2 := S
  obtain ⟨hx, hb, hml, hown, hts⟩ := id S
  have iX2 : ∀ w ∈ wsX20, w ∈ wsX2_pulledOut := fun w h => List.mem_cons_of_mem _ (List.mem_append_left _ (List.mem_append_right _ (h)))
  have hP : va_P D vwCl (pinW cI a t) H0 := hP
  have hl : lv_has ls 1 [(0, .ref (a 1))] := hl
  refine lv_aload_n hx hb dX2_pulledOut_0 rfl (lv_at hl 0 rfl) ?_
  refine va_get (D := D) (ci := 2) (v := .ref (a 4)) (C := RX2) (T := TX2) (N := 8) hx hb hts iX2 hown hK hP 0 rfl rfl 1 (Nat.le_of_ble_eq_true rfl) (hts (.fieldLink RX2 20 "BentPins$Pins" "outs" "LBentPins$Row;") (List.mem_of_getElem? (i := 1) rfl)) (fun _ h9 => h9) rfl dX2_pulledOut_1 ?_
  refine ej_V (As := []) (rest := []) (w' := pinW cI a t) S hK hN hA hP hD hS (c_X4_total l D tys cI ht0 (a 4) (a 5) 35 (P_ou t) (by omega)) (cwV 0 hts gX2_pulledOut_X4_total rfl rfl rfl hdv_X4_total ⟨Nat.le_of_ble_eq_true rfl, Nat.le_of_ble_eq_true rfl⟩) [3, 4] rfl rfl rfl rfl 3 4 rfl rfl rfl rfl hl.1 (Nat.le_of_ble_eq_true rfl) dX2_pulledOut_4 ⟨Nat.zero_le _, Nat.zero_le _⟩ (fun H locs hP hD hS => ?_)
  show W p9 l e9 (eR 1 25) s9 m9 a9 b9 t9 c9 H locs 0 0 Q (F0 m9 7 ls (.int (sumI (P_ou t) 35) :: []))
  exact hQ _ _ _ _ (sumI (P_ou t) 35) (pinW cI a t) dX2_pulledOut_7 rfl rfl hP hS
set_option maxHeartbeats 4000000 in
set_option maxRecDepth 100000 in
theorem c_X2_allPins (l : Launch) (D : va_G) (tys : eT) (cI : ClassId) (ht0 : tys[0]? = some (cI, .int)) (a : Nat → Nat) (t : Pn)  : fc l D tys yX2_allPins wsX2_allPins (eR 2 45) [.ref (a 1)] (pinW cI a t) (some (.int (35 - sumI (P_ou t) 35))) (pinW cI a t) := by
  refine fc_int cX2_allPins 1 (by decide +kernel) rfl (rfl) (Nat.le_of_ble_eq_true rfl) ?_
  intro p9 e9 s9 m9 a9 b9 t9 c9 H0 A Q ls S hK hN hA hP hD hS hl hQ
  have S : CallFix p9 m9 c9 cX2_allPins 1 s9 a9 wsX2_allPins RX2 := S
  obtain ⟨hx, hb, hml, hown, hts⟩ := id S
  have hP : va_P D vwCl (pinW cI a t) H0 := hP
  have hl : lv_has ls 1 [(0, .ref (a 1))] := hl
  refine lv_bipush (v := 35) hx hb dX2_allPins_0 (by decide) ?_
  refine lv_aload_n hx hb dX2_allPins_2 rfl (lv_at hl 0 rfl) ?_
  refine ej_V (As := []) (rest := [.int 35]) (w' := pinW cI a t) S hK hN hA hP hD hS (c_X2_pulledOut l D tys cI ht0 a t) (cwV 0 hts gX2_allPins_X2_pulledOut rfl rfl rfl hdv_X2_pulledOut ⟨Nat.le_of_ble_eq_true rfl, Nat.le_of_ble_eq_true rfl⟩) [0, 1, 2, 3, 4, 5, 6, 7, 8, 9, 10] rfl rfl rfl rfl 0 2 rfl rfl rfl rfl hl.1 (Nat.le_of_ble_eq_true rfl) dX2_allPins_3 ⟨Nat.zero_le _, Nat.zero_le _⟩ (fun H locs hP hD hS => ?_)
  show W p9 l e9 (eR 2 45) s9 m9 a9 b9 t9 c9 H locs 0 0 Q (F0 m9 6 ls (.int (sumI (P_ou t) 35) :: [.int 35]))
  refine lv_isub hx hb dX2_allPins_6 ?_
  exact hQ _ _ _ _ (35 - (sumI (P_ou t) 35)) (pinW cI a t) dX2_allPins_7 rfl rfl hP hS
set_option maxHeartbeats 4000000 in
set_option maxRecDepth 100000 in
theorem c_X2_allBells (l : Launch) (D : va_G) (tys : eT) (cI : ClassId) (ht0 : tys[0]? = some (cI, .int)) (a : Nat → Nat) (t : Pn)  : fc l D tys yX2_allBells wsX2_allBells (eR 1 25) [.ref (a 1)] (pinW cI a t) (some (.int (sumI (P_bl t) 35))) (pinW cI a t) := by
  refine fc_int cX2_allBells 1 (by decide +kernel) rfl (rfl) (Nat.le_of_ble_eq_true rfl) ?_
  intro p9 e9 s9 m9 a9 b9 t9 c9 H0 A Q ls S hK hN hA hP hD hS hl hQ
  have S : CallFix p9 m9 c9 cX2_allBells 1 s9 a9 wsX2_allBells RX2 := S
  obtain ⟨hx, hb, hml, hown, hts⟩ := id S
  have iX2 : ∀ w ∈ wsX20, w ∈ wsX2_allBells := fun w h => List.mem_cons_of_mem _ (List.mem_append_left _ (List.mem_append_right _ (h)))
  have hP : va_P D vwCl (pinW cI a t) H0 := hP
  have hl : lv_has ls 1 [(0, .ref (a 1))] := hl
  refine lv_aload_n hx hb dX2_allBells_0 rfl (lv_at hl 0 rfl) ?_
  refine va_get (D := D) (ci := 2) (v := .ref (a 6)) (C := RX2) (T := TX2) (N := 8) hx hb hts iX2 hown hK hP 0 rfl rfl 2 (Nat.le_of_ble_eq_true rfl) (hts (.fieldLink RX2 23 "BentPins$Pins" "bells" "LBentPins$Row;") (List.mem_of_getElem? (i := 1) rfl)) (fun _ h9 => h9) rfl dX2_allBells_1 ?_
  refine ej_V (As := []) (rest := []) (w' := pinW cI a t) S hK hN hA hP hD hS (c_X4_total l D tys cI ht0 (a 6) (a 7) 35 (P_bl t) (by omega)) (cwV 0 hts gX2_allBells_X4_total rfl rfl rfl hdv_X4_total ⟨Nat.le_of_ble_eq_true rfl, Nat.le_of_ble_eq_true rfl⟩) [5, 6] rfl rfl rfl rfl 5 4 rfl rfl rfl rfl hl.1 (Nat.le_of_ble_eq_true rfl) dX2_allBells_4 ⟨Nat.zero_le _, Nat.zero_le _⟩ (fun H locs hP hD hS => ?_)
  show W p9 l e9 (eR 1 25) s9 m9 a9 b9 t9 c9 H locs 0 0 Q (F0 m9 7 ls (.int (sumI (P_bl t) 35) :: []))
  exact hQ _ _ _ _ (sumI (P_bl t) 35) (pinW cI a t) dX2_allBells_7 rfl rfl hP hS
set_option maxHeartbeats 4000000 in
set_option maxRecDepth 100000 in
theorem c_X2_leanOf (l : Launch) (D : va_G) (tys : eT) (cI : ClassId) (ht0 : tys[0]? = some (cI, .int)) (a : Nat → Nat) (t : Pn) (k : Nat) (hk : k < 35) : fc l D tys yX2_leanOf wsX2_leanOf (eR 1 21) [.ref (a 1), .int (nI k)] (pinW cI a t) (some (.int (leanT t k))) (pinW cI a t) := by
  refine fc_int cX2_leanOf 3 (by decide +kernel) rfl (rfl) (Nat.le_of_ble_eq_true rfl) ?_
  intro p9 e9 s9 m9 a9 b9 t9 c9 H0 A Q ls S hK hN hA hP hD hS hl hQ
  have S : CallFix p9 m9 c9 cX2_leanOf 3 s9 a9 wsX2_leanOf RX2 := S
  obtain ⟨hx, hb, hml, hown, hts⟩ := id S
  have iX2 : ∀ w ∈ wsX20, w ∈ wsX2_leanOf := fun w h => List.mem_cons_of_mem _ (List.mem_append_left _ (List.mem_append_right _ (h)))
  have hP : va_P D vwCl (pinW cI a t) H0 := hP
  have hl : lv_has ls 3 [(0, .ref (a 1)), (1, .int (nI k))] := hl
  refine lv_aload_n hx hb dX2_leanOf_0 rfl (lv_at hl 0 rfl) ?_
  refine va_get (D := D) (ci := 2) (v := .ref (a 2)) (C := RX2) (T := TX2) (N := 8) hx hb hts iX2 hown hK hP 0 rfl rfl 0 (Nat.le_of_ble_eq_true rfl) (hts (.fieldLink RX2 14 "BentPins$Pins" "bends" "LBentPins$Row;") (List.mem_of_getElem? (i := 1) rfl)) (fun _ h9 => h9) rfl dX2_leanOf_1 ?_
  refine lv_iload_n hx hb dX2_leanOf_4 rfl (lv_at hl 1 rfl) ?_
  refine ej_V (As := [.int (nI k)]) (rest := []) (w' := pinW cI a t) S hK hN hA hP hD hS (c_X4_at l D tys cI ht0 (a 2) (a 3) 35 (P_be t) k (by omega) (by omega)) (cwV 1 hts gX2_leanOf_X4_at rfl rfl rfl hdv_X4_at ⟨Nat.le_of_ble_eq_true rfl, Nat.le_of_ble_eq_true rfl⟩) [1, 2] rfl rfl rfl rfl 1 4 rfl rfl rfl rfl hl.1 (Nat.le_of_ble_eq_true rfl) dX2_leanOf_5 ⟨Nat.zero_le _, Nat.zero_le _⟩ (fun H locs hP hD hS => ?_)
  show W p9 l e9 (eR 1 21) s9 m9 a9 b9 t9 c9 H locs 0 0 Q (F0 m9 8 ls (.int ((P_be t) k) :: []))
  refine lv_istore_n (lv' := [(2, .int ((P_be t) k)), (0, .ref (a 1)), (1, .int (nI k))]) hx hb dX2_leanOf_8 rfl hl (by decide) rfl (fun ls hl => ?_)
  refine lv_iload_n hx hb dX2_leanOf_9 rfl (lv_at hl 0 rfl) ?_
  refine lv_if_ge (tgt := 17) hx hb dX2_leanOf_10 (by decide) (fun c_1 => ?_) (fun c_1 => ?_)
  · have d_1 := ej_xa c_1
    refine lv_iload_n hx hb dX2_leanOf_17 rfl (lv_at hl 0 rfl) ?_
    refine lv_if_le (tgt := 25) hx hb dX2_leanOf_18 (by decide) (fun c_2 => ?_) (fun c_2 => ?_)
    · have d_2 := ej_xa c_2
      refine lv_aload_n hx hb dX2_leanOf_25 rfl (lv_at hl 1 rfl) ?_
      refine va_get (D := D) (ci := 2) (v := .int (P_ti t)) (C := RX2) (T := TX2) (N := 8) hx hb hts iX2 hown hK hP 0 rfl rfl 5 (Nat.le_of_ble_eq_true rfl) (hts (.fieldLink RX2 32 "BentPins$Pins" "tilt" "I") (List.mem_of_getElem? (i := 2) rfl)) (fun _ h9 => h9) rfl dX2_leanOf_26 ?_
      refine lv_iconst (v := 1) hx hb dX2_leanOf_29 (by decide) ?_
      refine lv_isub hx hb dX2_leanOf_30 ?_
      exact hQ _ _ _ _ ((P_ti t) - 1) (pinW cI a t) dX2_leanOf_31 (by first | rfl | (simp only [leanT, c_1, d_1, c_2, d_2, if_true, if_false, ite_true, ite_false, not_true_eq_false, not_false_eq_true, and_true, true_and, and_false, false_and, and_self, true_or, or_true, or_false, false_or, reduceIte]; done) | simp [leanT, c_1, d_1, c_2, d_2]) rfl hP hS
    · have d_2 := ej_xd c_2
      refine lv_iconst (v := 1) hx hb dX2_leanOf_21 (by decide) ?_
      refine lv_goto (tgt := 31) hx hb dX2_leanOf_22 (by decide) ?_
      exact hQ _ _ _ _ 1 (pinW cI a t) dX2_leanOf_31 (by first | rfl | (simp only [leanT, c_1, d_1, c_2, d_2, if_true, if_false, ite_true, ite_false, not_true_eq_false, not_false_eq_true, and_true, true_and, and_false, false_and, and_self, true_or, or_true, or_false, false_or, reduceIte]; done) | simp [leanT, c_1, d_1, c_2, d_2]) rfl hP hS
  · have d_1 := ej_xd c_1
    refine lv_iconst (v := (-1)) hx hb dX2_leanOf_13 (by decide) ?_
    refine lv_goto (tgt := 31) hx hb dX2_leanOf_14 (by decide) ?_
    exact hQ _ _ _ _ (-1) (pinW cI a t) dX2_leanOf_31 (by first | rfl | (simp only [leanT, c_1, d_1, if_true, if_false, ite_true, ite_false, not_true_eq_false, not_false_eq_true, and_true, true_and, and_false, false_and, and_self, true_or, or_true, or_false, false_or, reduceIte]; done) | simp [leanT, c_1, d_1]) rfl hP hS
set_option maxHeartbeats 4000000 in
set_option maxRecDepth 100000 in
theorem c_X2_nextPlaces (l : Launch) (D : va_G) (tys : eT) (cI : ClassId) (ht0 : tys[0]? = some (cI, .int)) (a : Nat → Nat) (t : Pn) (k : Nat) (hk : k < 35) (htl : tilOK t) : fc l D tys yX2_nextPlaces wsX2_nextPlaces (eR 2 45) [.ref (a 1), .int (nI k)] (pinW cI a t) (some (.int (nI (nextM t k)))) (pinW cI a t) := by
  refine fc_int cX2_nextPlaces 4 (by decide +kernel) rfl (rfl) (Nat.le_of_ble_eq_true rfl) ?_
  intro p9 e9 s9 m9 a9 b9 t9 c9 H0 A Q ls S hK hN hA hP hD hS hl hQ
  have S : CallFix p9 m9 c9 cX2_nextPlaces 4 s9 a9 wsX2_nextPlaces RX2 := S
  obtain ⟨hx, hb, hml, hown, hts⟩ := id S
  have hP : va_P D vwCl (pinW cI a t) H0 := hP
  have hl : lv_has ls 4 [(0, .ref (a 1)), (1, .int (nI k))] := hl
  refine lv_iload_n hx hb dX2_nextPlaces_0 rfl (lv_at hl 1 rfl) ?_
  refine lv_bipush (v := 7) hx hb dX2_nextPlaces_1 (by decide) ?_
  refine lv_irem hx hb dX2_nextPlaces_3 (by decide) ?_
  refine ej_topi (show ((nI k) - (nI k) / 7 * 7) = nI (k % 7) from pk_rem (a := k) (d := 7) (by omega) (by decide) (by decide)) ?_
  refine lv_istore_n (lv' := [(2, .int (nI (k % 7))), (0, .ref (a 1)), (1, .int (nI k))]) hx hb dX2_nextPlaces_4 rfl hl (by decide) rfl (fun ls hl => ?_)
  refine lv_aload_n hx hb dX2_nextPlaces_5 rfl (lv_at hl 1 rfl) ?_
  refine lv_iload_n hx hb dX2_nextPlaces_6 rfl (lv_at hl 2 rfl) ?_
  refine ej_V (As := [.int (nI k)]) (rest := []) (w' := pinW cI a t) S hK hN hA hP hD hS (c_X2_isOut l D tys cI ht0 a t k (by omega)) (cwV 1 hts gX2_nextPlaces_X2_isOut rfl rfl rfl hdv_X2_isOut ⟨Nat.le_of_ble_eq_true rfl, Nat.le_of_ble_eq_true rfl⟩) [0, 1, 2, 3, 4, 5, 6, 7, 8, 9, 10] rfl rfl rfl rfl 0 2 rfl rfl rfl rfl hl.1 (Nat.le_of_ble_eq_true rfl) dX2_nextPlaces_7 ⟨Nat.zero_le _, Nat.zero_le _⟩ (fun H locs hP hD hS => ?_)
  show W p9 l e9 (eR 2 45) s9 m9 a9 b9 t9 c9 H locs 0 0 Q (F0 m9 10 ls (.int (if ¬ P_ou t k = 0 then 1 else 0) :: []))
  refine lv_if_eq (tgt := 18) hx hb dX2_nextPlaces_10 (by decide) (fun c_1 => ?_) (fun c_1 => ?_)
  · have b_1 : P_ou t k = 0 := Decidable.not_not.mp (ej_b0 c_1)
    refine lv_aload_n hx hb dX2_nextPlaces_18 rfl (lv_at hl 1 rfl) ?_
    refine lv_iload_n hx hb dX2_nextPlaces_19 rfl (lv_at hl 2 rfl) ?_
    refine ej_V (As := [.int (nI k)]) (rest := []) (w' := pinW cI a t) S hK hN hA hP hD hS (c_X2_leanOf l D tys cI ht0 a t k (by omega)) (cwV 1 hts gX2_nextPlaces_X2_leanOf rfl rfl rfl hdv_X2_leanOf ⟨Nat.le_of_ble_eq_true rfl, Nat.le_of_ble_eq_true rfl⟩) [0, 1, 2, 3, 4, 5, 6, 7, 8, 9, 10] rfl rfl rfl rfl 0 2 rfl rfl rfl rfl hl.1 (Nat.le_of_ble_eq_true rfl) dX2_nextPlaces_20 ⟨Nat.zero_le _, Nat.zero_le _⟩ (fun H locs hP hD hS => ?_)
    show W p9 l e9 (eR 2 45) s9 m9 a9 b9 t9 c9 H locs 0 0 Q (F0 m9 23 ls (.int (leanT t k) :: []))
    refine lv_istore_n (lv' := [(3, .int (leanT t k)), (2, .int (nI (k % 7))), (0, .ref (a 1)), (1, .int (nI k))]) hx hb dX2_nextPlaces_23 rfl hl (by decide) rfl (fun ls hl => ?_)
    refine lv_iload_n hx hb dX2_nextPlaces_24 rfl (lv_at hl 0 rfl) ?_
    refine lv_if_eq (tgt := 37) hx hb dX2_nextPlaces_25 (by decide) (fun c_2 => ?_) (fun c_2 => ?_)
    · refine lv_iload_n hx hb dX2_nextPlaces_37 rfl (lv_at hl 1 rfl) ?_
      refine lv_iconst (v := (-1)) hx hb dX2_nextPlaces_38 (by decide) ?_
      refine ej_SN (As := [.int (nI (k % 7)), .int (-1)]) (rest := []) (w' := pinW cI a t) S hK hN hA hP hD hS (c_X6_placeBeside l D tys cI ht0 (k % 7) (-1) (by omega) dOK_m) ⟨va_cnB 2 hts gX2_nextPlaces_X6_placeBeside_n83 rfl rfl rfl (eN_6 hN) (hts (.initialized RX6) (List.mem_of_getElem? (i := 14) rfl)) hds_X6_placeBeside ⟨Nat.le_of_ble_eq_true rfl, Nat.le_of_ble_eq_true rfl⟩, (hts (.static yX6_placeBeside) (List.mem_of_getElem? (i := 22) rfl)), trivial⟩ [] rfl rfl rfl rfl rfl rfl hl.1 (Nat.le_of_ble_eq_true rfl) dX2_nextPlaces_39 ⟨Nat.zero_le _, Nat.zero_le _⟩ (fun H locs hP hD hS => ?_)
      show W p9 l e9 (eR 2 45) s9 m9 a9 b9 t9 c9 H locs 0 0 Q (F0 m9 42 ls (.int (nI (bes (k % 7) (-1))) :: []))
      refine ej_SN (As := [.int (nI (bes (k % 7) (-1)))]) (rest := []) (w' := pinW cI a t) S hK hN hA hP hD hS (c_X6_bit l D tys cI ht0 (bes (k % 7) (-1)) (bes_31 _ (by omega))) ⟨va_cnB 1 hts gX2_nextPlaces_X6_bit_n77 rfl rfl rfl (eN_10 hN) (hts (.initialized RX6) (List.mem_of_getElem? (i := 14) rfl)) hds_X6_bit ⟨Nat.le_of_ble_eq_true rfl, Nat.le_of_ble_eq_true rfl⟩, (hts (.static yX6_bit) (List.mem_of_getElem? (i := 13) rfl)), trivial⟩ [] rfl rfl rfl rfl rfl rfl hl.1 (Nat.le_of_ble_eq_true rfl) dX2_nextPlaces_42 ⟨Nat.zero_le _, Nat.zero_le _⟩ (fun H locs hP hD hS => ?_)
      show W p9 l e9 (eR 2 45) s9 m9 a9 b9 t9 c9 H locs 0 0 Q (F0 m9 45 ls (.int (nI (2 ^ (bes (k % 7) (-1)))) :: []))
      refine lv_iload_n hx hb dX2_nextPlaces_45 rfl (lv_at hl 1 rfl) ?_
      refine lv_iconst (v := 1) hx hb dX2_nextPlaces_46 (by decide) ?_
      refine ej_SN (As := [.int (nI (k % 7)), .int 1]) (rest := [.int (nI (2 ^ (bes (k % 7) (-1))))]) (w' := pinW cI a t) S hK hN hA hP hD hS (c_X6_placeBeside l D tys cI ht0 (k % 7) 1 (by omega) dOK_p) ⟨va_cnB 2 hts gX2_nextPlaces_X6_placeBeside_n83 rfl rfl rfl (eN_6 hN) (hts (.initialized RX6) (List.mem_of_getElem? (i := 14) rfl)) hds_X6_placeBeside ⟨Nat.le_of_ble_eq_true rfl, Nat.le_of_ble_eq_true rfl⟩, (hts (.static yX6_placeBeside) (List.mem_of_getElem? (i := 22) rfl)), trivial⟩ [] rfl rfl rfl rfl rfl rfl hl.1 (Nat.le_of_ble_eq_true rfl) dX2_nextPlaces_47 ⟨Nat.zero_le _, Nat.zero_le _⟩ (fun H locs hP hD hS => ?_)
      show W p9 l e9 (eR 2 45) s9 m9 a9 b9 t9 c9 H locs 0 0 Q (F0 m9 50 ls (.int (nI (bes (k % 7) 1)) :: [.int (nI (2 ^ (bes (k % 7) (-1))))]))
      refine ej_SN (As := [.int (nI (bes (k % 7) 1))]) (rest := [.int (nI (2 ^ (bes (k % 7) (-1))))]) (w' := pinW cI a t) S hK hN hA hP hD hS (c_X6_bit l D tys cI ht0 (bes (k % 7) 1) (bes_31 _ (by omega))) ⟨va_cnB 1 hts gX2_nextPlaces_X6_bit_n77 rfl rfl rfl (eN_10 hN) (hts (.initialized RX6) (List.mem_of_getElem? (i := 14) rfl)) hds_X6_bit ⟨Nat.le_of_ble_eq_true rfl, Nat.le_of_ble_eq_true rfl⟩, (hts (.static yX6_bit) (List.mem_of_getElem? (i := 13) rfl)), trivial⟩ [] rfl rfl rfl rfl rfl rfl hl.1 (Nat.le_of_ble_eq_true rfl) dX2_nextPlaces_50 ⟨Nat.zero_le _, Nat.zero_le _⟩ (fun H locs hP hD hS => ?_)
      show W p9 l e9 (eR 2 45) s9 m9 a9 b9 t9 c9 H locs 0 0 Q (F0 m9 53 ls (.int (nI (2 ^ (bes (k % 7) 1))) :: [.int (nI (2 ^ (bes (k % 7) (-1))))]))
      refine lv_ior hx hb dX2_nextPlaces_53 ?_
      refine ej_topi (show (nI (2 ^ (bes (k % 7) (-1)))) ||| (nI (2 ^ (bes (k % 7) 1))) = nI ((2 ^ (bes (k % 7) (-1))) ||| (2 ^ (bes (k % 7) 1))) from fa_or (2 ^ (bes (k % 7) (-1))) (2 ^ (bes (k % 7) 1))) ?_
      exact hQ _ _ _ _ (nI ((2 ^ (bes (k % 7) (-1))) ||| (2 ^ (bes (k % 7) 1)))) (pinW cI a t) dX2_nextPlaces_54 (by first | rfl | (simp only [nextM, b_1, c_2, if_true, if_false, ite_true, ite_false, not_true_eq_false, not_false_eq_true, and_true, true_and, and_false, false_and, and_self, true_or, or_true, or_false, false_or, reduceIte]; done) | simp [nextM, b_1, c_2]) rfl hP hS
    · refine lv_iload_n hx hb dX2_nextPlaces_28 rfl (lv_at hl 1 rfl) ?_
      refine lv_iload_n hx hb dX2_nextPlaces_29 rfl (lv_at hl 0 rfl) ?_
      refine ej_SN (As := [.int (nI (k % 7)), .int (leanT t k)]) (rest := []) (w' := pinW cI a t) S hK hN hA hP hD hS (c_X6_placeBeside l D tys cI ht0 (k % 7) (leanT t k) (by omega) (leanT_ok htl k)) ⟨va_cnB 2 hts gX2_nextPlaces_X6_placeBeside_n83 rfl rfl rfl (eN_6 hN) (hts (.initialized RX6) (List.mem_of_getElem? (i := 14) rfl)) hds_X6_placeBeside ⟨Nat.le_of_ble_eq_true rfl, Nat.le_of_ble_eq_true rfl⟩, (hts (.static yX6_placeBeside) (List.mem_of_getElem? (i := 22) rfl)), trivial⟩ [] rfl rfl rfl rfl rfl rfl hl.1 (Nat.le_of_ble_eq_true rfl) dX2_nextPlaces_30 ⟨Nat.zero_le _, Nat.zero_le _⟩ (fun H locs hP hD hS => ?_)
      show W p9 l e9 (eR 2 45) s9 m9 a9 b9 t9 c9 H locs 0 0 Q (F0 m9 33 ls (.int (nI (bes (k % 7) (leanT t k))) :: []))
      refine ej_SN (As := [.int (nI (bes (k % 7) (leanT t k)))]) (rest := []) (w' := pinW cI a t) S hK hN hA hP hD hS (c_X6_bit l D tys cI ht0 (bes (k % 7) (leanT t k)) (bes_31 _ (by omega))) ⟨va_cnB 1 hts gX2_nextPlaces_X6_bit_n77 rfl rfl rfl (eN_10 hN) (hts (.initialized RX6) (List.mem_of_getElem? (i := 14) rfl)) hds_X6_bit ⟨Nat.le_of_ble_eq_true rfl, Nat.le_of_ble_eq_true rfl⟩, (hts (.static yX6_bit) (List.mem_of_getElem? (i := 13) rfl)), trivial⟩ [] rfl rfl rfl rfl rfl rfl hl.1 (Nat.le_of_ble_eq_true rfl) dX2_nextPlaces_33 ⟨Nat.zero_le _, Nat.zero_le _⟩ (fun H locs hP hD hS => ?_)
      show W p9 l e9 (eR 2 45) s9 m9 a9 b9 t9 c9 H locs 0 0 Q (F0 m9 36 ls (.int (nI (2 ^ (bes (k % 7) (leanT t k)))) :: []))
      exact hQ _ _ _ _ (nI (2 ^ (bes (k % 7) (leanT t k)))) (pinW cI a t) dX2_nextPlaces_36 (by first | rfl | (simp only [nextM, b_1, c_2, if_true, if_false, ite_true, ite_false, not_true_eq_false, not_false_eq_true, and_true, true_and, and_false, false_and, and_self, true_or, or_true, or_false, false_or, reduceIte]; done) | simp [nextM, b_1, c_2]) rfl hP hS
  · have b_1 : ¬ P_ou t k = 0 := ej_b1 c_1
    refine lv_iload_n hx hb dX2_nextPlaces_13 rfl (lv_at hl 0 rfl) ?_
    refine ej_SN (As := [.int (nI (k % 7))]) (rest := []) (w' := pinW cI a t) S hK hN hA hP hD hS (c_X6_bit l D tys cI ht0 (k % 7) (by omega)) ⟨va_cnB 1 hts gX2_nextPlaces_X6_bit_n77 rfl rfl rfl (eN_10 hN) (hts (.initialized RX6) (List.mem_of_getElem? (i := 14) rfl)) hds_X6_bit ⟨Nat.le_of_ble_eq_true rfl, Nat.le_of_ble_eq_true rfl⟩, (hts (.static yX6_bit) (List.mem_of_getElem? (i := 13) rfl)), trivial⟩ [] rfl rfl rfl rfl rfl rfl hl.1 (Nat.le_of_ble_eq_true rfl) dX2_nextPlaces_14 ⟨Nat.zero_le _, Nat.zero_le _⟩ (fun H locs hP hD hS => ?_)
    show W p9 l e9 (eR 2 45) s9 m9 a9 b9 t9 c9 H locs 0 0 Q (F0 m9 17 ls (.int (nI (2 ^ (k % 7))) :: []))
    exact hQ _ _ _ _ (nI (2 ^ (k % 7))) (pinW cI a t) dX2_nextPlaces_17 (by first | rfl | (simp only [nextM, b_1, if_true, if_false, ite_true, ite_false, not_true_eq_false, not_false_eq_true, and_true, true_and, and_false, false_and, and_self, true_or, or_true, or_false, false_or, reduceIte]; done) | simp [nextM, b_1]) rfl hP hS
set_option maxHeartbeats 4000000 in
set_option maxRecDepth 100000 in
theorem c_X2_nextDirection (l : Launch) (D : va_G) (tys : eT) (cI : ClassId) (ht0 : tys[0]? = some (cI, .int)) (a : Nat → Nat) (t : Pn) (k : Nat) (hk : k < 35) : fc l D tys yX2_nextDirection wsX2_nextDirection (eR 2 43) [.ref (a 1), .int (nI k)] (pinW cI a t) (some (.int (dirT t k))) (pinW cI a t) := by
  refine fc_int cX2_nextDirection 3 (by decide +kernel) rfl (rfl) (Nat.le_of_ble_eq_true rfl) ?_
  intro p9 e9 s9 m9 a9 b9 t9 c9 H0 A Q ls S hK hN hA hP hD hS hl hQ
  have S : CallFix p9 m9 c9 cX2_nextDirection 3 s9 a9 wsX2_nextDirection RX2 := S
  obtain ⟨hx, hb, hml, hown, hts⟩ := id S
  have iX2 : ∀ w ∈ wsX20, w ∈ wsX2_nextDirection := fun w h => List.mem_cons_of_mem _ (List.mem_append_left _ (List.mem_append_right _ (h)))
  have hP : va_P D vwCl (pinW cI a t) H0 := hP
  have hl : lv_has ls 3 [(0, .ref (a 1)), (1, .int (nI k))] := hl
  refine lv_aload_n hx hb dX2_nextDirection_0 rfl (lv_at hl 0 rfl) ?_
  refine lv_iload_n hx hb dX2_nextDirection_1 rfl (lv_at hl 1 rfl) ?_
  refine ej_V (As := [.int (nI k)]) (rest := []) (w' := pinW cI a t) S hK hN hA hP hD hS (c_X2_isOut l D tys cI ht0 a t k (by omega)) (cwV 1 hts gX2_nextDirection_X2_isOut rfl rfl rfl hdv_X2_isOut ⟨Nat.le_of_ble_eq_true rfl, Nat.le_of_ble_eq_true rfl⟩) [0, 1, 2, 3, 4, 5, 6, 7, 8, 9, 10] rfl rfl rfl rfl 0 2 rfl rfl rfl rfl hl.1 (Nat.le_of_ble_eq_true rfl) dX2_nextDirection_2 ⟨Nat.zero_le _, Nat.zero_le _⟩ (fun H locs hP hD hS => ?_)
  show W p9 l e9 (eR 2 43) s9 m9 a9 b9 t9 c9 H locs 0 0 Q (F0 m9 5 ls (.int (if ¬ P_ou t k = 0 then 1 else 0) :: []))
  refine lv_if_eq (tgt := 10) hx hb dX2_nextDirection_5 (by decide) (fun c_1 => ?_) (fun c_1 => ?_)
  · have b_1 : P_ou t k = 0 := Decidable.not_not.mp (ej_b0 c_1)
    refine lv_aload_n hx hb dX2_nextDirection_10 rfl (lv_at hl 0 rfl) ?_
    refine lv_iload_n hx hb dX2_nextDirection_11 rfl (lv_at hl 1 rfl) ?_
    refine ej_V (As := [.int (nI k)]) (rest := []) (w' := pinW cI a t) S hK hN hA hP hD hS (c_X2_leanOf l D tys cI ht0 a t k (by omega)) (cwV 1 hts gX2_nextDirection_X2_leanOf rfl rfl rfl hdv_X2_leanOf ⟨Nat.le_of_ble_eq_true rfl, Nat.le_of_ble_eq_true rfl⟩) [0, 1, 2, 3, 4, 5, 6, 7, 8, 9, 10] rfl rfl rfl rfl 0 2 rfl rfl rfl rfl hl.1 (Nat.le_of_ble_eq_true rfl) dX2_nextDirection_12 ⟨Nat.zero_le _, Nat.zero_le _⟩ (fun H locs hP hD hS => ?_)
    show W p9 l e9 (eR 2 43) s9 m9 a9 b9 t9 c9 H locs 0 0 Q (F0 m9 15 ls (.int (leanT t k) :: []))
    refine lv_istore_n (lv' := [(2, .int (leanT t k)), (0, .ref (a 1)), (1, .int (nI k))]) hx hb dX2_nextDirection_15 rfl hl (by decide) rfl (fun ls hl => ?_)
    refine lv_iload_n hx hb dX2_nextDirection_16 rfl (lv_at hl 0 rfl) ?_
    refine lv_if_eq (tgt := 22) hx hb dX2_nextDirection_17 (by decide) (fun c_2 => ?_) (fun c_2 => ?_)
    · refine lv_aload_n hx hb dX2_nextDirection_22 rfl (lv_at hl 1 rfl) ?_
      refine va_get (D := D) (ci := 2) (v := .ref (a 8)) (C := RX2) (T := TX2) (N := 8) hx hb hts iX2 hown hK hP 0 rfl rfl 3 (Nat.le_of_ble_eq_true rfl) (hts (.fieldLink RX2 26 "BentPins$Pins" "sides" "LBentPins$Row;") (List.mem_of_getElem? (i := 1) rfl)) (fun _ h9 => h9) rfl dX2_nextDirection_23 ?_
      refine lv_iload_n hx hb dX2_nextDirection_26 rfl (lv_at hl 2 rfl) ?_
      refine ej_V (As := [.int (nI k)]) (rest := []) (w' := pinW cI a t) S hK hN hA hP hD hS (c_X4_at l D tys cI ht0 (a 8) (a 9) 35 (P_si t) k (by omega) (by omega)) (cwV 1 hts gX2_nextDirection_X4_at rfl rfl rfl hdv_X4_at ⟨Nat.le_of_ble_eq_true rfl, Nat.le_of_ble_eq_true rfl⟩) [7, 8] rfl rfl rfl rfl 7 4 rfl rfl rfl rfl hl.1 (Nat.le_of_ble_eq_true rfl) dX2_nextDirection_27 ⟨Nat.zero_le _, Nat.zero_le _⟩ (fun H locs hP hD hS => ?_)
      show W p9 l e9 (eR 2 43) s9 m9 a9 b9 t9 c9 H locs 0 0 Q (F0 m9 30 ls (.int ((P_si t) k) :: []))
      refine lv_if_ne (tgt := 37) hx hb dX2_nextDirection_30 (by decide) (fun c_3 => ?_) (fun c_3 => ?_)
      · refine lv_iconst (v := 1) hx hb dX2_nextDirection_37 (by decide) ?_
        exact hQ _ _ _ _ 1 (pinW cI a t) dX2_nextDirection_38 (by first | rfl | (simp only [dirT, b_1, c_2, c_3, if_true, if_false, ite_true, ite_false, not_true_eq_false, not_false_eq_true, and_true, true_and, and_false, false_and, and_self, true_or, or_true, or_false, false_or, reduceIte]; done) | simp [dirT, b_1, c_2, c_3]) rfl hP hS
      · refine lv_iconst (v := (-1)) hx hb dX2_nextDirection_33 (by decide) ?_
        refine lv_goto (tgt := 38) hx hb dX2_nextDirection_34 (by decide) ?_
        exact hQ _ _ _ _ (-1) (pinW cI a t) dX2_nextDirection_38 (by first | rfl | (simp only [dirT, b_1, c_2, c_3, if_true, if_false, ite_true, ite_false, not_true_eq_false, not_false_eq_true, and_true, true_and, and_false, false_and, and_self, true_or, or_true, or_false, false_or, reduceIte]; done) | simp [dirT, b_1, c_2, c_3]) rfl hP hS
    · refine lv_iload_n hx hb dX2_nextDirection_20 rfl (lv_at hl 0 rfl) ?_
      exact hQ _ _ _ _ (leanT t k) (pinW cI a t) dX2_nextDirection_21 (by first | rfl | (simp only [dirT, b_1, c_2, if_true, if_false, ite_true, ite_false, not_true_eq_false, not_false_eq_true, and_true, true_and, and_false, false_and, and_self, true_or, or_true, or_false, false_or, reduceIte]; done) | simp [dirT, b_1, c_2]) rfl hP hS
  · have b_1 : ¬ P_ou t k = 0 := ej_b1 c_1
    refine lv_iconst (v := 0) hx hb dX2_nextDirection_8 (by decide) ?_
    exact hQ _ _ _ _ 0 (pinW cI a t) dX2_nextDirection_9 (by first | rfl | (simp only [dirT, b_1, if_true, if_false, ite_true, ite_false, not_true_eq_false, not_false_eq_true, and_true, true_and, and_false, false_and, and_self, true_or, or_true, or_false, false_or, reduceIte]; done) | simp [dirT, b_1]) rfl hP hS
set_option maxHeartbeats 4000000 in
set_option maxRecDepth 100000 in
theorem c_X2_endFrom (l : Launch) (D : va_G) (tys : eT) (cI : ClassId) (ht0 : tys[0]? = some (cI, .int)) (a : Nat → Nat) (t : Pn) (c : Nat) (hc : c < 7) (htl : tilOK t) : fc l D tys yX2_endFrom wsX2_endFrom (eR 3 65) [.ref (a 1), .int (nI c)] (pinW cI a t) (some (.int (nI (posT t c 5)))) (pinW cI a t) := by
  refine fc_int cX2_endFrom 4 (by decide +kernel) rfl (rfl) (Nat.le_of_ble_eq_true rfl) ?_
  intro p9 e9 s9 m9 a9 b9 t9 c9 H0 A Q ls S hK hN hA hP hD hS hl hQ
  have S : CallFix p9 m9 c9 cX2_endFrom 4 s9 a9 wsX2_endFrom RX2 := S
  obtain ⟨hx, hb, hml, hown, hts⟩ := id S
  have hP : va_P D vwCl (pinW cI a t) H0 := hP
  have hl : lv_has ls 4 [(0, .ref (a 1)), (1, .int (nI c))] := hl
  refine lv_iload_n hx hb dX2_endFrom_0 rfl (lv_at hl 1 rfl) ?_
  refine lv_istore_n (lv' := [(2, .int (nI c)), (0, .ref (a 1)), (1, .int (nI c))]) hx hb dX2_endFrom_1 rfl hl (by decide) rfl (fun ls hl => ?_)
  refine lv_iconst (v := 0) hx hb dX2_endFrom_2 (by decide) ?_
  refine lv_istore_n (lv' := [(3, .int 0), (2, .int (nI c)), (0, .ref (a 1)), (1, .int (nI c))]) hx hb dX2_endFrom_3 rfl hl (by decide) rfl (fun ls hl => ?_)
  have lp4 : ∀ (n4 : Nat) (r : Nat), 5 - r < n4 → (r ≤ 5) → ∀ (H : Heap) (locs : List Loc) (ls : Array Slot), va_P D vwCl (pinW cI a t) H → va_D A (pinW cI a t) → va_S A H0 H locs → lv_has ls 4 [(0, .ref (a 1)), (2, .int (nI (posT t c r))), (3, .int (nI r))] → W p9 l e9 (eR 3 65) s9 m9 a9 b9 t9 c9 H locs 0 0 Q (F0 m9 4 ls []) := by
    intro n4
    induction n4 with
    | zero => intro r hm9; exact absurd hm9 (Nat.not_lt_zero _)
    | succ n4 ih4 =>
      intro r hm4 hr H locs ls hP hD hS hl
      have hp := posT_lt t hc r
      refine lv_iload_n hx hb dX2_endFrom_4 rfl (lv_at hl 2 rfl) ?_
      refine lv_iconst (v := 5) hx hb dX2_endFrom_5 (by decide) ?_
      refine lv_icmp_ge (tgt := 29) hx hb dX2_endFrom_6 (by decide) (fun c_1 => ?_) (fun c_1 => ?_)
      · have n_1 : 5 ≤ r := ej_tle (a := 5) (b := r) (by omega) (by omega) c_1
        refine lv_iload_n hx hb dX2_endFrom_29 rfl (lv_at hl 1 rfl) ?_
        exact hQ _ _ _ _ (nI (posT t c r)) (pinW cI a t) dX2_endFrom_30 (by rw [show r = 5 by omega]) rfl hP hS
      · have n_1 : r < 5 := ej_tnle (a := 5) (b := r) (by omega) (by omega) c_1
        refine lv_iload_n hx hb dX2_endFrom_9 rfl (lv_at hl 1 rfl) ?_
        refine lv_aload_n hx hb dX2_endFrom_10 rfl (lv_at hl 0 rfl) ?_
        refine lv_iload_n hx hb dX2_endFrom_11 rfl (lv_at hl 2 rfl) ?_
        refine lv_iload_n hx hb dX2_endFrom_12 rfl (lv_at hl 1 rfl) ?_
        refine ej_SN (As := [.int (nI r), .int (nI (posT t c r))]) (rest := [.ref (a 1), .int (nI (posT t c r))]) (w' := pinW cI a t) S hK hN hA hP hD hS (c_X6_pinAt l D tys cI ht0 r (posT t c r)) ⟨va_cnB 2 hts gX2_endFrom_X6_pinAt_n87 rfl rfl rfl (eN_4 hN) (hts (.initialized RX6) (List.mem_of_getElem? (i := 2) rfl)) hds_X6_pinAt ⟨Nat.le_of_ble_eq_true rfl, Nat.le_of_ble_eq_true rfl⟩, (hts (.static yX6_pinAt) (List.mem_of_getElem? (i := 1) rfl)), trivial⟩ [] rfl rfl rfl rfl rfl rfl hl.1 (Nat.le_of_ble_eq_true rfl) dX2_endFrom_13 ⟨Nat.zero_le _, Nat.zero_le _⟩ (fun H locs hP hD hS => ?_)
        show W p9 l e9 (eR 3 65) s9 m9 a9 b9 t9 c9 H locs 0 0 Q (F0 m9 16 ls (.int (nI (7 * r + (posT t c r))) :: [.ref (a 1), .int (nI (posT t c r))]))
        refine ej_V (As := [.int (nI (7 * r + (posT t c r)))]) (rest := [.int (nI (posT t c r))]) (w' := pinW cI a t) S hK hN hA hP hD hS (c_X2_nextDirection l D tys cI ht0 a t (7 * r + (posT t c r)) (by omega)) (cwV 1 hts gX2_endFrom_X2_nextDirection rfl rfl rfl hdv_X2_nextDirection ⟨Nat.le_of_ble_eq_true rfl, Nat.le_of_ble_eq_true rfl⟩) [0, 1, 2, 3, 4, 5, 6, 7, 8, 9, 10] rfl rfl rfl rfl 0 2 rfl rfl rfl rfl hl.1 (Nat.le_of_ble_eq_true rfl) dX2_endFrom_16 ⟨Nat.zero_le _, Nat.zero_le _⟩ (fun H locs hP hD hS => ?_)
        show W p9 l e9 (eR 3 65) s9 m9 a9 b9 t9 c9 H locs 0 0 Q (F0 m9 19 ls (.int (dirT t (7 * r + (posT t c r))) :: [.int (nI (posT t c r))]))
        refine ej_SN (As := [.int (nI (posT t c r)), .int (dirT t (7 * r + (posT t c r)))]) (rest := []) (w' := pinW cI a t) S hK hN hA hP hD hS (c_X6_placeBeside l D tys cI ht0 (posT t c r) (dirT t (7 * r + (posT t c r))) (by omega) (dirT_ok htl _)) ⟨va_cnB 2 hts gX2_endFrom_X6_placeBeside_n83 rfl rfl rfl (eN_6 hN) (hts (.initialized RX6) (List.mem_of_getElem? (i := 2) rfl)) hds_X6_placeBeside ⟨Nat.le_of_ble_eq_true rfl, Nat.le_of_ble_eq_true rfl⟩, (hts (.static yX6_placeBeside) (List.mem_of_getElem? (i := 27) rfl)), trivial⟩ [] rfl rfl rfl rfl rfl rfl hl.1 (Nat.le_of_ble_eq_true rfl) dX2_endFrom_19 ⟨Nat.zero_le _, Nat.zero_le _⟩ (fun H locs hP hD hS => ?_)
        show W p9 l e9 (eR 3 65) s9 m9 a9 b9 t9 c9 H locs 0 0 Q (F0 m9 22 ls (.int (nI (bes (posT t c r) (dirT t (7 * r + (posT t c r))))) :: []))
        refine lv_istore_n (lv' := [(2, .int (nI (bes (posT t c r) (dirT t (7 * r + (posT t c r)))))), (0, .ref (a 1)), (3, .int (nI r))]) hx hb dX2_endFrom_22 rfl hl (by decide) rfl (fun ls hl => ?_)
        refine lv_iinc (v := nI (r + 1)) (lv' := [(3, .int (nI (r + 1))), (2, .int (nI (bes (posT t c r) (dirT t (7 * r + (posT t c r)))))), (0, .ref (a 1))]) hx hb dX2_endFrom_23 hl (k := 2) rfl (nI_add r 1) (by decide) rfl (fun ls hl => ?_)
        refine lv_goto (tgt := 4) hx hb dX2_endFrom_26 (by decide) ?_
        exact ih4  (r + 1) (by omega) (by omega) _ _ _ hP hD hS (lv_sub hl [2, 1, 0] rfl)
  exact lp4 ((5 - 0) + 1) 0 (by omega) (by omega) _ _ _ hP hD hS (lv_sub hl [2, 1, 0] rfl)
set_option maxHeartbeats 4000000 in
set_option maxRecDepth 100000 in
theorem c_X2_canBend (l : Launch) (D : va_G) (tys : eT) (cI : ClassId) (ht0 : tys[0]? = some (cI, .int)) (a : Nat → Nat) (t : Pn) (k : Nat) (d : Int32) (hk : k < 35) : fc l D tys yX2_canBend wsX2_canBend (eR 1 22) [.ref (a 1), .int (nI k), .int d] (pinW cI a t) (some (.int (if ¬ P_be t k + d < -3 ∧ ¬ 3 < P_be t k + d then 1 else 0))) (pinW cI a t) := by
  refine fc_int cX2_canBend 3 (by decide +kernel) rfl (ej_narB _) (Nat.le_of_ble_eq_true rfl) ?_
  intro p9 e9 s9 m9 a9 b9 t9 c9 H0 A Q ls S hK hN hA hP hD hS hl hQ
  have S : CallFix p9 m9 c9 cX2_canBend 3 s9 a9 wsX2_canBend RX2 := S
  obtain ⟨hx, hb, hml, hown, hts⟩ := id S
  have iX2 : ∀ w ∈ wsX20, w ∈ wsX2_canBend := fun w h => List.mem_cons_of_mem _ (List.mem_append_left _ (List.mem_append_right _ (h)))
  have hP : va_P D vwCl (pinW cI a t) H0 := hP
  have hl : lv_has ls 3 [(0, .ref (a 1)), (1, .int (nI k)), (2, .int d)] := hl
  refine lv_aload_n hx hb dX2_canBend_0 rfl (lv_at hl 0 rfl) ?_
  refine va_get (D := D) (ci := 2) (v := .ref (a 2)) (C := RX2) (T := TX2) (N := 8) hx hb hts iX2 hown hK hP 0 rfl rfl 0 (Nat.le_of_ble_eq_true rfl) (hts (.fieldLink RX2 14 "BentPins$Pins" "bends" "LBentPins$Row;") (List.mem_of_getElem? (i := 1) rfl)) (fun _ h9 => h9) rfl dX2_canBend_1 ?_
  refine lv_iload_n hx hb dX2_canBend_4 rfl (lv_at hl 1 rfl) ?_
  refine ej_V (As := [.int (nI k)]) (rest := []) (w' := pinW cI a t) S hK hN hA hP hD hS (c_X4_at l D tys cI ht0 (a 2) (a 3) 35 (P_be t) k (by omega) (by omega)) (cwV 1 hts gX2_canBend_X4_at rfl rfl rfl hdv_X4_at ⟨Nat.le_of_ble_eq_true rfl, Nat.le_of_ble_eq_true rfl⟩) [1, 2] rfl rfl rfl rfl 1 4 rfl rfl rfl rfl hl.1 (Nat.le_of_ble_eq_true rfl) dX2_canBend_5 ⟨Nat.zero_le _, Nat.zero_le _⟩ (fun H locs hP hD hS => ?_)
  show W p9 l e9 (eR 1 22) s9 m9 a9 b9 t9 c9 H locs 0 0 Q (F0 m9 8 ls (.int ((P_be t) k) :: []))
  refine lv_iload_n hx hb dX2_canBend_8 rfl (lv_at hl 2 rfl) ?_
  refine lv_iadd hx hb dX2_canBend_9 ?_
  refine lv_bipush (v := (-3)) hx hb dX2_canBend_10 (by decide) ?_
  refine lv_iconst (v := 3) hx hb dX2_canBend_12 (by decide) ?_
  refine ej_SN (As := [.int (((P_be t) k) + d), .int (-3), .int 3]) (rest := []) (w' := pinW cI a t) S hK hN hA hP hD hS (c_X6_isWithin l D tys cI ht0 (((P_be t) k) + d) (-3) 3) ⟨va_cnB 3 hts gX2_canBend_X6_isWithin_n70 rfl rfl rfl (eN_5 hN) (hts (.initialized RX6) (List.mem_of_getElem? (i := 9) rfl)) hds_X6_isWithin ⟨Nat.le_of_ble_eq_true rfl, Nat.le_of_ble_eq_true rfl⟩, (hts (.static yX6_isWithin) (List.mem_of_getElem? (i := 8) rfl)), trivial⟩ [] rfl rfl rfl rfl rfl rfl hl.1 (Nat.le_of_ble_eq_true rfl) dX2_canBend_13 ⟨Nat.zero_le _, Nat.zero_le _⟩ (fun H locs hP hD hS => ?_)
  show W p9 l e9 (eR 1 22) s9 m9 a9 b9 t9 c9 H locs 0 0 Q (F0 m9 16 ls (.int (if ¬ (((P_be t) k) + d) < (-3) ∧ ¬ 3 < (((P_be t) k) + d) then 1 else 0) :: []))
  exact hQ _ _ _ _ (if ¬ (((P_be t) k) + d) < (-3) ∧ ¬ 3 < (((P_be t) k) + d) then 1 else 0) (pinW cI a t) dX2_canBend_16 rfl rfl hP hS
set_option maxHeartbeats 4000000 in
set_option maxRecDepth 100000 in
theorem c_X2_bendBy (l : Launch) (D : va_G) (tys : eT) (cI : ClassId) (ht0 : tys[0]? = some (cI, .int)) (a : Nat → Nat) (t : Pn) (k : Nat) (d : Int32) (hk : k < 35) : fc l D tys yX2_bendBy wsX2_bendBy (eR 1 22) [.ref (a 1), .int (nI k), .int d] (pinW cI a t) none (pinW cI a (upd (P_be t) k (P_be t k + d), P_ou t, P_bl t, P_si t, P_vi t, P_ti t, P_ri t, P_bb t)) := by
  refine fc_void cX2_bendBy 3 (by decide +kernel) rfl (Nat.le_of_ble_eq_true rfl) ?_
  intro p9 e9 s9 m9 a9 b9 t9 c9 H0 A Q ls S hK hN hA hP hD hS hl hQ
  have S : CallFix p9 m9 c9 cX2_bendBy 3 s9 a9 wsX2_bendBy RX2 := S
  obtain ⟨hx, hb, hml, hown, hts⟩ := id S
  have iX2 : ∀ w ∈ wsX20, w ∈ wsX2_bendBy := fun w h => List.mem_cons_of_mem _ (List.mem_append_left _ (List.mem_append_right _ (h)))
  have hP : va_P D vwCl (pinW cI a t) H0 := hP
  have hl : lv_has ls 3 [(0, .ref (a 1)), (1, .int (nI k)), (2, .int d)] := hl
  refine lv_aload_n hx hb dX2_bendBy_0 rfl (lv_at hl 0 rfl) ?_
  refine va_get (D := D) (ci := 2) (v := .ref (a 2)) (C := RX2) (T := TX2) (N := 8) hx hb hts iX2 hown hK hP 0 rfl rfl 0 (Nat.le_of_ble_eq_true rfl) (hts (.fieldLink RX2 14 "BentPins$Pins" "bends" "LBentPins$Row;") (List.mem_of_getElem? (i := 1) rfl)) (fun _ h9 => h9) rfl dX2_bendBy_1 ?_
  refine lv_iload_n hx hb dX2_bendBy_4 rfl (lv_at hl 1 rfl) ?_
  refine lv_iload_n hx hb dX2_bendBy_5 rfl (lv_at hl 2 rfl) ?_
  refine ej_V (As := [.int (nI k), .int d]) (rest := []) (w' := pinW cI a (upd (P_be t) k ((P_be t) k + d), P_ou t, P_bl t, P_si t, P_vi t, P_ti t, P_ri t, P_bb t)) S hK hN hA hP hD hS (c_X4_raise l D tys cI ht0 (a 2) (a 3) 35 (P_be t) k d (by omega) (by omega)) (cwV 2 hts gX2_bendBy_X4_raise rfl rfl rfl hdv_X4_raise ⟨Nat.le_of_ble_eq_true rfl, Nat.le_of_ble_eq_true rfl⟩) [1, 2] rfl rfl rfl rfl 1 4 rfl rfl rfl rfl hl.1 (Nat.le_of_ble_eq_true rfl) dX2_bendBy_6 ⟨Nat.zero_le _, Nat.zero_le _⟩ (fun H locs hP hD hS => ?_)
  show W p9 l e9 (eR 1 22) s9 m9 a9 b9 t9 c9 H locs 0 0 Q (F0 m9 9 ls [])
  exact hQ _ _ _ _ (pinW cI a (upd (P_be t) k ((P_be t) k + d), P_ou t, P_bl t, P_si t, P_vi t, P_ti t, P_ri t, P_bb t)) dX2_bendBy_9 rfl hP hS
set_option maxHeartbeats 4000000 in
set_option maxRecDepth 100000 in
theorem c_X2_meetBall (l : Launch) (D : va_G) (tys : eT) (cI : ClassId) (ht0 : tys[0]? = some (cI, .int)) (a : Nat → Nat) (t : Pn) (k : Nat) (d h : Int32) (hk : k < 35) : fc l D tys yX2_meetBall wsX2_meetBall (eR 2 44) [.ref (a 1), .int (nI k), .int d, .int h] (pinW cI a t) none (pinW cI a (meetT t k d h)) := by
  refine fc_void cX2_meetBall 4 (by decide +kernel) rfl (Nat.le_of_ble_eq_true rfl) ?_
  intro p9 e9 s9 m9 a9 b9 t9 c9 H0 A Q ls S hK hN hA hP hD hS hl hQ
  have S : CallFix p9 m9 c9 cX2_meetBall 4 s9 a9 wsX2_meetBall RX2 := S
  obtain ⟨hx, hb, hml, hown, hts⟩ := id S
  have iX2 : ∀ w ∈ wsX20, w ∈ wsX2_meetBall := fun w h => List.mem_cons_of_mem _ (List.mem_append_left _ (List.mem_append_right _ (h)))
  have hP : va_P D vwCl (pinW cI a t) H0 := hP
  have hl : lv_has ls 4 [(0, .ref (a 1)), (1, .int (nI k)), (2, .int d), (3, .int h)] := hl
  refine lv_aload_n hx hb dX2_meetBall_0 rfl (lv_at hl 0 rfl) ?_
  refine va_get (D := D) (ci := 2) (v := .ref (a 10)) (C := RX2) (T := TX2) (N := 8) hx hb hts iX2 hown hK hP 0 rfl rfl 4 (Nat.le_of_ble_eq_true rfl) (hts (.fieldLink RX2 29 "BentPins$Pins" "visits" "LBentPins$Row;") (List.mem_of_getElem? (i := 1) rfl)) (fun _ h9 => h9) rfl dX2_meetBall_1 ?_
  refine lv_iload_n hx hb dX2_meetBall_4 rfl (lv_at hl 1 rfl) ?_
  refine lv_iconst (v := 1) hx hb dX2_meetBall_5 (by decide) ?_
  refine ej_V (As := [.int (nI k), .int 1]) (rest := []) (w' := pinW cI a (P_be t, P_ou t, P_bl t, P_si t, upd (P_vi t) k ((P_vi t) k + 1), P_ti t, P_ri t, P_bb t)) S hK hN hA hP hD hS (c_X4_raise l D tys cI ht0 (a 10) (a 11) 35 (P_vi t) k 1 (by omega) (by omega)) (cwV 2 hts gX2_meetBall_X4_raise rfl rfl rfl hdv_X4_raise ⟨Nat.le_of_ble_eq_true rfl, Nat.le_of_ble_eq_true rfl⟩) [9, 10] rfl rfl rfl rfl 9 4 rfl rfl rfl rfl hl.1 (Nat.le_of_ble_eq_true rfl) dX2_meetBall_6 ⟨Nat.zero_le _, Nat.zero_le _⟩ (fun H locs hP hD hS => ?_)
  show W p9 l e9 (eR 2 44) s9 m9 a9 b9 t9 c9 H locs 0 0 Q (F0 m9 9 ls [])
  refine lv_aload_n hx hb dX2_meetBall_9 rfl (lv_at hl 0 rfl) ?_
  refine lv_iload_n hx hb dX2_meetBall_10 rfl (lv_at hl 1 rfl) ?_
  refine ej_V (As := [.int (nI k)]) (rest := []) (w' := pinW cI a (P_be t, P_ou t, P_bl t, P_si t, upd (P_vi t) k ((P_vi t) k + 1), P_ti t, P_ri t, P_bb t)) S hK hN hA hP hD hS (c_X2_isOut l D tys cI ht0 a (P_be t, P_ou t, P_bl t, P_si t, upd (P_vi t) k ((P_vi t) k + 1), P_ti t, P_ri t, P_bb t) k (by omega)) (cwV 1 hts gX2_meetBall_X2_isOut rfl rfl rfl hdv_X2_isOut ⟨Nat.le_of_ble_eq_true rfl, Nat.le_of_ble_eq_true rfl⟩) [0, 1, 2, 3, 4, 5, 6, 7, 8, 9, 10] rfl rfl rfl rfl 0 2 rfl rfl rfl rfl hl.1 (Nat.le_of_ble_eq_true rfl) dX2_meetBall_11 ⟨Nat.zero_le _, Nat.zero_le _⟩ (fun H locs hP hD hS => ?_)
  show W p9 l e9 (eR 2 44) s9 m9 a9 b9 t9 c9 H locs 0 0 Q (F0 m9 14 ls (.int (if ¬ (P_ou t) k = 0 then 1 else 0) :: []))
  refine lv_if_eq (tgt := 18) hx hb dX2_meetBall_14 (by decide) (fun c_1 => ?_) (fun c_1 => ?_)
  · have b_1 : (P_ou t) k = 0 := Decidable.not_not.mp (ej_b0 c_1)
    refine lv_aload_n hx hb dX2_meetBall_18 rfl (lv_at hl 0 rfl) ?_
    refine lv_dup hx hb dX2_meetBall_19 rfl ?_
    refine va_get (D := D) (ci := 2) (v := .int (P_ri t)) (C := RX2) (T := TX2) (N := 8) hx hb hts iX2 hown hK hP 0 rfl rfl 6 (Nat.le_of_ble_eq_true rfl) (hts (.fieldLink RX2 36 "BentPins$Pins" "rings" "I") (List.mem_of_getElem? (i := 2) rfl)) (fun _ h9 => h9) rfl dX2_meetBall_20 ?_
    refine lv_aload_n hx hb dX2_meetBall_23 rfl (lv_at hl 0 rfl) ?_
    refine va_get (D := D) (ci := 2) (v := .ref (a 6)) (C := RX2) (T := TX2) (N := 8) hx hb hts iX2 hown hK hP 0 rfl rfl 2 (Nat.le_of_ble_eq_true rfl) (hts (.fieldLink RX2 23 "BentPins$Pins" "bells" "LBentPins$Row;") (List.mem_of_getElem? (i := 3) rfl)) (fun _ h9 => h9) rfl dX2_meetBall_24 ?_
    refine lv_iload_n hx hb dX2_meetBall_27 rfl (lv_at hl 1 rfl) ?_
    refine ej_V (As := [.int (nI k)]) (rest := [.int (P_ri t), .ref (a 1)]) (w' := pinW cI a (P_be t, P_ou t, P_bl t, P_si t, upd (P_vi t) k ((P_vi t) k + 1), P_ti t, P_ri t, P_bb t)) S hK hN hA hP hD hS (c_X4_at l D tys cI ht0 (a 6) (a 7) 35 (P_bl t) k (by omega) (by omega)) (cwV 1 hts gX2_meetBall_X4_at rfl rfl rfl hdv_X4_at ⟨Nat.le_of_ble_eq_true rfl, Nat.le_of_ble_eq_true rfl⟩) [5, 6] rfl rfl rfl rfl 5 4 rfl rfl rfl rfl hl.1 (Nat.le_of_ble_eq_true rfl) dX2_meetBall_28 ⟨Nat.zero_le _, Nat.zero_le _⟩ (fun H locs hP hD hS => ?_)
    show W p9 l e9 (eR 2 44) s9 m9 a9 b9 t9 c9 H locs 0 0 Q (F0 m9 31 ls (.int ((P_bl t) k) :: [.int (P_ri t), .ref (a 1)]))
    refine lv_iadd hx hb dX2_meetBall_31 ?_
    refine va_put (D := D) (ci := 2) (v := .int ((P_ri t) + ((P_bl t) k))) (ty := .int) (C := RX2) (T := TX2) (N := 8) hx hb hts iX2 tyX2 tyX2_ok nmX2 hown hK hP hD hS 0 rfl rfl 6 (Nat.le_of_ble_eq_true rfl) (hts (.fieldLink RX2 36 "BentPins$Pins" "rings" "I") (List.mem_of_getElem? (i := 2) rfl)) (fun _ h9 => h9) rfl (by decide +kernel) rfl rfl (Nat.le_of_ble_eq_true rfl) dX2_meetBall_32 (fun H locs hP hD hS => ?_)
    have hP : va_P D vwCl (pinW cI a (P_be t, P_ou t, P_bl t, P_si t, upd (P_vi t) k ((P_vi t) k + 1), P_ti t, (P_ri t) + ((P_bl t) k), P_bb t)) H := hP
    have hD : va_D A (pinW cI a (P_be t, P_ou t, P_bl t, P_si t, upd (P_vi t) k ((P_vi t) k + 1), P_ti t, (P_ri t) + ((P_bl t) k), P_bb t)) := hD
    refine lv_aload_n hx hb dX2_meetBall_35 rfl (lv_at hl 0 rfl) ?_
    refine lv_iload_n hx hb dX2_meetBall_36 rfl (lv_at hl 1 rfl) ?_
    refine ej_V (As := [.int (nI k)]) (rest := []) (w' := pinW cI a (P_be t, P_ou t, P_bl t, P_si t, upd (P_vi t) k ((P_vi t) k + 1), P_ti t, (P_ri t) + ((P_bl t) k), P_bb t)) S hK hN hA hP hD hS (c_X2_leanOf l D tys cI ht0 a (P_be t, P_ou t, P_bl t, P_si t, upd (P_vi t) k ((P_vi t) k + 1), P_ti t, (P_ri t) + ((P_bl t) k), P_bb t) k (by omega)) (cwV 1 hts gX2_meetBall_X2_leanOf rfl rfl rfl hdv_X2_leanOf ⟨Nat.le_of_ble_eq_true rfl, Nat.le_of_ble_eq_true rfl⟩) [0, 1, 2, 3, 4, 5, 6, 7, 8, 9, 10] rfl rfl rfl rfl 0 2 rfl rfl rfl rfl hl.1 (Nat.le_of_ble_eq_true rfl) dX2_meetBall_37 ⟨Nat.zero_le _, Nat.zero_le _⟩ (fun H locs hP hD hS => ?_)
    show W p9 l e9 (eR 2 44) s9 m9 a9 b9 t9 c9 H locs 0 0 Q (F0 m9 40 ls (.int (leanT (P_be t, P_ou t, P_bl t, P_si t, upd (P_vi t) k ((P_vi t) k + 1), P_ti t, (P_ri t) + ((P_bl t) k), P_bb t) k) :: []))
    refine ej_topi (show (leanT (P_be t, P_ou t, P_bl t, P_si t, upd (P_vi t) k ((P_vi t) k + 1), P_ti t, (P_ri t) + ((P_bl t) k), P_bb t) k) = leanT t k from rfl) ?_
    refine lv_if_ne (tgt := 61) hx hb dX2_meetBall_40 (by decide) (fun c_2 => ?_) (fun c_2 => ?_)
    · refine lv_iload_n hx hb dX2_meetBall_61 rfl (lv_at hl 3 rfl) ?_
      refine lv_if_eq (tgt := 90) hx hb dX2_meetBall_62 (by decide) (fun c_3 => ?_) (fun c_3 => ?_)
      · exact hQ _ _ _ _ (pinW cI a (P_be t, P_ou t, P_bl t, P_si t, upd (P_vi t) k ((P_vi t) k + 1), P_ti t, (P_ri t) + ((P_bl t) k), P_bb t)) dX2_meetBall_90 (by first | rfl | exact congrArg (pinW cI a) (by first | rfl | (simp only [meetT, b_1, c_2, c_3, if_true, if_false, ite_true, ite_false, not_true_eq_false, not_false_eq_true, and_true, true_and, and_false, false_and, and_self, true_or, or_true, or_false, false_or, reduceIte]; done) | simp [meetT, b_1, c_2, c_3])) hP hS
      · refine lv_aload_n hx hb dX2_meetBall_65 rfl (lv_at hl 0 rfl) ?_
        refine lv_iload_n hx hb dX2_meetBall_66 rfl (lv_at hl 1 rfl) ?_
        refine lv_iload_n hx hb dX2_meetBall_67 rfl (lv_at hl 2 rfl) ?_
        refine ej_V (As := [.int (nI k), .int d]) (rest := []) (w' := pinW cI a (P_be t, P_ou t, P_bl t, P_si t, upd (P_vi t) k ((P_vi t) k + 1), P_ti t, (P_ri t) + ((P_bl t) k), P_bb t)) S hK hN hA hP hD hS (c_X2_canBend l D tys cI ht0 a (P_be t, P_ou t, P_bl t, P_si t, upd (P_vi t) k ((P_vi t) k + 1), P_ti t, (P_ri t) + ((P_bl t) k), P_bb t) k d (by omega)) (cwV 2 hts gX2_meetBall_X2_canBend rfl rfl rfl hdv_X2_canBend ⟨Nat.le_of_ble_eq_true rfl, Nat.le_of_ble_eq_true rfl⟩) [0, 1, 2, 3, 4, 5, 6, 7, 8, 9, 10] rfl rfl rfl rfl 0 2 rfl rfl rfl rfl hl.1 (Nat.le_of_ble_eq_true rfl) dX2_meetBall_68 ⟨Nat.zero_le _, Nat.zero_le _⟩ (fun H locs hP hD hS => ?_)
        show W p9 l e9 (eR 2 44) s9 m9 a9 b9 t9 c9 H locs 0 0 Q (F0 m9 71 ls (.int (if ¬ (P_be t) k + d < -3 ∧ ¬ 3 < (P_be t) k + d then 1 else 0) :: []))
        refine lv_if_eq (tgt := 90) hx hb dX2_meetBall_71 (by decide) (fun c_4 => ?_) (fun c_4 => ?_)
        · have b_4 : ¬ (¬ (P_be t) k + d < -3 ∧ ¬ 3 < (P_be t) k + d) := ej_b0 c_4
          exact hQ _ _ _ _ (pinW cI a (P_be t, P_ou t, P_bl t, P_si t, upd (P_vi t) k ((P_vi t) k + 1), P_ti t, (P_ri t) + ((P_bl t) k), P_bb t)) dX2_meetBall_90 (by first | rfl | exact congrArg (pinW cI a) (by first | rfl | (simp only [meetT, b_1, c_2, c_3, b_4, if_true, if_false, ite_true, ite_false, not_true_eq_false, not_false_eq_true, and_true, true_and, and_false, false_and, and_self, true_or, or_true, or_false, false_or, reduceIte]; done) | simp [meetT, b_1, c_2, c_3, b_4])) hP hS
        · have b_4 : ¬ (P_be t) k + d < -3 ∧ ¬ 3 < (P_be t) k + d := ej_b1 c_4
          refine lv_aload_n hx hb dX2_meetBall_74 rfl (lv_at hl 0 rfl) ?_
          refine lv_iload_n hx hb dX2_meetBall_75 rfl (lv_at hl 1 rfl) ?_
          refine lv_iload_n hx hb dX2_meetBall_76 rfl (lv_at hl 2 rfl) ?_
          refine ej_V (As := [.int (nI k), .int d]) (rest := []) (w' := pinW cI a (upd ((P_be t)) k ((P_be t) k + d), (P_ou t), (P_bl t), (P_si t), (upd (P_vi t) k ((P_vi t) k + 1)), (P_ti t), ((P_ri t) + ((P_bl t) k)), (P_bb t))) S hK hN hA hP hD hS (c_X2_bendBy l D tys cI ht0 a (P_be t, P_ou t, P_bl t, P_si t, upd (P_vi t) k ((P_vi t) k + 1), P_ti t, (P_ri t) + ((P_bl t) k), P_bb t) k d (by omega)) (cwV 2 hts gX2_meetBall_X2_bendBy rfl rfl rfl hdv_X2_bendBy ⟨Nat.le_of_ble_eq_true rfl, Nat.le_of_ble_eq_true rfl⟩) [0, 1, 2, 3, 4, 5, 6, 7, 8, 9, 10] rfl rfl rfl rfl 0 2 rfl rfl rfl rfl hl.1 (Nat.le_of_ble_eq_true rfl) dX2_meetBall_77 ⟨Nat.zero_le _, Nat.zero_le _⟩ (fun H locs hP hD hS => ?_)
          show W p9 l e9 (eR 2 44) s9 m9 a9 b9 t9 c9 H locs 0 0 Q (F0 m9 80 ls [])
          refine lv_aload_n hx hb dX2_meetBall_80 rfl (lv_at hl 0 rfl) ?_
          refine lv_dup hx hb dX2_meetBall_81 rfl ?_
          refine va_get (D := D) (ci := 2) (v := .int (P_bb t)) (C := RX2) (T := TX2) (N := 8) hx hb hts iX2 hown hK hP 0 rfl rfl 7 (Nat.le_of_ble_eq_true rfl) (hts (.fieldLink RX2 39 "BentPins$Pins" "bendsByBalls" "I") (List.mem_of_getElem? (i := 5) rfl)) (fun _ h9 => h9) rfl dX2_meetBall_82 ?_
          refine lv_iconst (v := 1) hx hb dX2_meetBall_85 (by decide) ?_
          refine lv_iadd hx hb dX2_meetBall_86 ?_
          refine va_put (D := D) (ci := 2) (v := .int ((P_bb t) + 1)) (ty := .int) (C := RX2) (T := TX2) (N := 8) hx hb hts iX2 tyX2 tyX2_ok nmX2 hown hK hP hD hS 0 rfl rfl 7 (Nat.le_of_ble_eq_true rfl) (hts (.fieldLink RX2 39 "BentPins$Pins" "bendsByBalls" "I") (List.mem_of_getElem? (i := 5) rfl)) (fun _ h9 => h9) rfl (by decide +kernel) rfl rfl (Nat.le_of_ble_eq_true rfl) dX2_meetBall_87 (fun H locs hP hD hS => ?_)
          have hP : va_P D vwCl (pinW cI a (upd ((P_be t)) k ((P_be t) k + d), (P_ou t), (P_bl t), (P_si t), (upd (P_vi t) k ((P_vi t) k + 1)), (P_ti t), ((P_ri t) + ((P_bl t) k)), (P_bb t) + 1)) H := hP
          have hD : va_D A (pinW cI a (upd ((P_be t)) k ((P_be t) k + d), (P_ou t), (P_bl t), (P_si t), (upd (P_vi t) k ((P_vi t) k + 1)), (P_ti t), ((P_ri t) + ((P_bl t) k)), (P_bb t) + 1)) := hD
          exact hQ _ _ _ _ (pinW cI a (upd ((P_be t)) k ((P_be t) k + d), (P_ou t), (P_bl t), (P_si t), (upd (P_vi t) k ((P_vi t) k + 1)), (P_ti t), ((P_ri t) + ((P_bl t) k)), (P_bb t) + 1)) dX2_meetBall_90 (by first | rfl | exact congrArg (pinW cI a) (by first | rfl | (simp only [meetT, b_1, c_2, c_3, b_4, if_true, if_false, ite_true, ite_false, not_true_eq_false, not_false_eq_true, and_true, true_and, and_false, false_and, and_self, true_or, or_true, or_false, false_or, reduceIte]; done) | simp [meetT, b_1, c_2, c_3, b_4])) hP hS
    · refine lv_aload_n hx hb dX2_meetBall_43 rfl (lv_at hl 0 rfl) ?_
      refine va_get (D := D) (ci := 2) (v := .ref (a 8)) (C := RX2) (T := TX2) (N := 8) hx hb hts iX2 hown hK hP 0 rfl rfl 3 (Nat.le_of_ble_eq_true rfl) (hts (.fieldLink RX2 26 "BentPins$Pins" "sides" "LBentPins$Row;") (List.mem_of_getElem? (i := 4) rfl)) (fun _ h9 => h9) rfl dX2_meetBall_44 ?_
      refine lv_iload_n hx hb dX2_meetBall_47 rfl (lv_at hl 1 rfl) ?_
      refine lv_iconst (v := 1) hx hb dX2_meetBall_48 (by decide) ?_
      refine lv_aload_n hx hb dX2_meetBall_49 rfl (lv_at hl 0 rfl) ?_
      refine va_get (D := D) (ci := 2) (v := .ref (a 8)) (C := RX2) (T := TX2) (N := 8) hx hb hts iX2 hown hK hP 0 rfl rfl 3 (Nat.le_of_ble_eq_true rfl) (hts (.fieldLink RX2 26 "BentPins$Pins" "sides" "LBentPins$Row;") (List.mem_of_getElem? (i := 4) rfl)) (fun _ h9 => h9) rfl dX2_meetBall_50 ?_
      refine lv_iload_n hx hb dX2_meetBall_53 rfl (lv_at hl 1 rfl) ?_
      refine ej_V (As := [.int (nI k)]) (rest := [.int 1, .int (nI k), .ref (a 8)]) (w' := pinW cI a (P_be t, P_ou t, P_bl t, P_si t, upd (P_vi t) k ((P_vi t) k + 1), P_ti t, (P_ri t) + ((P_bl t) k), P_bb t)) S hK hN hA hP hD hS (c_X4_at l D tys cI ht0 (a 8) (a 9) 35 (P_si t) k (by omega) (by omega)) (cwV 1 hts gX2_meetBall_X4_at rfl rfl rfl hdv_X4_at ⟨Nat.le_of_ble_eq_true rfl, Nat.le_of_ble_eq_true rfl⟩) [7, 8] rfl rfl rfl rfl 7 4 rfl rfl rfl rfl hl.1 (Nat.le_of_ble_eq_true rfl) dX2_meetBall_54 ⟨Nat.zero_le _, Nat.zero_le _⟩ (fun H locs hP hD hS => ?_)
      show W p9 l e9 (eR 2 44) s9 m9 a9 b9 t9 c9 H locs 0 0 Q (F0 m9 57 ls (.int ((P_si t) k) :: [.int 1, .int (nI k), .ref (a 8)]))
      refine lv_isub hx hb dX2_meetBall_57 ?_
      refine ej_V (As := [.int (nI k), .int (1 - ((P_si t) k))]) (rest := []) (w' := pinW cI a (P_be t, P_ou t, P_bl t, upd (P_si t) k (1 - ((P_si t) k)), upd (P_vi t) k ((P_vi t) k + 1), P_ti t, (P_ri t) + ((P_bl t) k), P_bb t)) S hK hN hA hP hD hS (c_X4_put l D tys cI ht0 (a 8) (a 9) 35 (P_si t) k (1 - ((P_si t) k)) (by omega) (by omega)) (cwV 2 hts gX2_meetBall_X4_put rfl rfl rfl hdv_X4_put ⟨Nat.le_of_ble_eq_true rfl, Nat.le_of_ble_eq_true rfl⟩) [7, 8] rfl rfl rfl rfl 7 4 rfl rfl rfl rfl hl.1 (Nat.le_of_ble_eq_true rfl) dX2_meetBall_58 ⟨Nat.zero_le _, Nat.zero_le _⟩ (fun H locs hP hD hS => ?_)
      show W p9 l e9 (eR 2 44) s9 m9 a9 b9 t9 c9 H locs 0 0 Q (F0 m9 61 ls [])
      refine lv_iload_n hx hb dX2_meetBall_61 rfl (lv_at hl 3 rfl) ?_
      refine lv_if_eq (tgt := 90) hx hb dX2_meetBall_62 (by decide) (fun c_5 => ?_) (fun c_5 => ?_)
      · exact hQ _ _ _ _ (pinW cI a (P_be t, P_ou t, P_bl t, upd (P_si t) k (1 - ((P_si t) k)), upd (P_vi t) k ((P_vi t) k + 1), P_ti t, (P_ri t) + ((P_bl t) k), P_bb t)) dX2_meetBall_90 (by first | rfl | exact congrArg (pinW cI a) (by first | rfl | (simp only [meetT, b_1, c_2, c_5, if_true, if_false, ite_true, ite_false, not_true_eq_false, not_false_eq_true, and_true, true_and, and_false, false_and, and_self, true_or, or_true, or_false, false_or, reduceIte]; done) | simp [meetT, b_1, c_2, c_5])) hP hS
      · refine lv_aload_n hx hb dX2_meetBall_65 rfl (lv_at hl 0 rfl) ?_
        refine lv_iload_n hx hb dX2_meetBall_66 rfl (lv_at hl 1 rfl) ?_
        refine lv_iload_n hx hb dX2_meetBall_67 rfl (lv_at hl 2 rfl) ?_
        refine ej_V (As := [.int (nI k), .int d]) (rest := []) (w' := pinW cI a (P_be t, P_ou t, P_bl t, upd (P_si t) k (1 - ((P_si t) k)), upd (P_vi t) k ((P_vi t) k + 1), P_ti t, (P_ri t) + ((P_bl t) k), P_bb t)) S hK hN hA hP hD hS (c_X2_canBend l D tys cI ht0 a (P_be t, P_ou t, P_bl t, upd (P_si t) k (1 - ((P_si t) k)), upd (P_vi t) k ((P_vi t) k + 1), P_ti t, (P_ri t) + ((P_bl t) k), P_bb t) k d (by omega)) (cwV 2 hts gX2_meetBall_X2_canBend rfl rfl rfl hdv_X2_canBend ⟨Nat.le_of_ble_eq_true rfl, Nat.le_of_ble_eq_true rfl⟩) [0, 1, 2, 3, 4, 5, 6, 7, 8, 9, 10] rfl rfl rfl rfl 0 2 rfl rfl rfl rfl hl.1 (Nat.le_of_ble_eq_true rfl) dX2_meetBall_68 ⟨Nat.zero_le _, Nat.zero_le _⟩ (fun H locs hP hD hS => ?_)
        show W p9 l e9 (eR 2 44) s9 m9 a9 b9 t9 c9 H locs 0 0 Q (F0 m9 71 ls (.int (if ¬ (P_be t) k + d < -3 ∧ ¬ 3 < (P_be t) k + d then 1 else 0) :: []))
        refine lv_if_eq (tgt := 90) hx hb dX2_meetBall_71 (by decide) (fun c_6 => ?_) (fun c_6 => ?_)
        · have b_6 : ¬ (¬ (P_be t) k + d < -3 ∧ ¬ 3 < (P_be t) k + d) := ej_b0 c_6
          exact hQ _ _ _ _ (pinW cI a (P_be t, P_ou t, P_bl t, upd (P_si t) k (1 - ((P_si t) k)), upd (P_vi t) k ((P_vi t) k + 1), P_ti t, (P_ri t) + ((P_bl t) k), P_bb t)) dX2_meetBall_90 (by first | rfl | exact congrArg (pinW cI a) (by first | rfl | (simp only [meetT, b_1, c_2, c_5, b_6, if_true, if_false, ite_true, ite_false, not_true_eq_false, not_false_eq_true, and_true, true_and, and_false, false_and, and_self, true_or, or_true, or_false, false_or, reduceIte]; done) | simp [meetT, b_1, c_2, c_5, b_6])) hP hS
        · have b_6 : ¬ (P_be t) k + d < -3 ∧ ¬ 3 < (P_be t) k + d := ej_b1 c_6
          refine lv_aload_n hx hb dX2_meetBall_74 rfl (lv_at hl 0 rfl) ?_
          refine lv_iload_n hx hb dX2_meetBall_75 rfl (lv_at hl 1 rfl) ?_
          refine lv_iload_n hx hb dX2_meetBall_76 rfl (lv_at hl 2 rfl) ?_
          refine ej_V (As := [.int (nI k), .int d]) (rest := []) (w' := pinW cI a (upd ((P_be t)) k ((P_be t) k + d), (P_ou t), (P_bl t), (upd (P_si t) k (1 - ((P_si t) k))), (upd (P_vi t) k ((P_vi t) k + 1)), (P_ti t), ((P_ri t) + ((P_bl t) k)), (P_bb t))) S hK hN hA hP hD hS (c_X2_bendBy l D tys cI ht0 a (P_be t, P_ou t, P_bl t, upd (P_si t) k (1 - ((P_si t) k)), upd (P_vi t) k ((P_vi t) k + 1), P_ti t, (P_ri t) + ((P_bl t) k), P_bb t) k d (by omega)) (cwV 2 hts gX2_meetBall_X2_bendBy rfl rfl rfl hdv_X2_bendBy ⟨Nat.le_of_ble_eq_true rfl, Nat.le_of_ble_eq_true rfl⟩) [0, 1, 2, 3, 4, 5, 6, 7, 8, 9, 10] rfl rfl rfl rfl 0 2 rfl rfl rfl rfl hl.1 (Nat.le_of_ble_eq_true rfl) dX2_meetBall_77 ⟨Nat.zero_le _, Nat.zero_le _⟩ (fun H locs hP hD hS => ?_)
          show W p9 l e9 (eR 2 44) s9 m9 a9 b9 t9 c9 H locs 0 0 Q (F0 m9 80 ls [])
          refine lv_aload_n hx hb dX2_meetBall_80 rfl (lv_at hl 0 rfl) ?_
          refine lv_dup hx hb dX2_meetBall_81 rfl ?_
          refine va_get (D := D) (ci := 2) (v := .int (P_bb t)) (C := RX2) (T := TX2) (N := 8) hx hb hts iX2 hown hK hP 0 rfl rfl 7 (Nat.le_of_ble_eq_true rfl) (hts (.fieldLink RX2 39 "BentPins$Pins" "bendsByBalls" "I") (List.mem_of_getElem? (i := 5) rfl)) (fun _ h9 => h9) rfl dX2_meetBall_82 ?_
          refine lv_iconst (v := 1) hx hb dX2_meetBall_85 (by decide) ?_
          refine lv_iadd hx hb dX2_meetBall_86 ?_
          refine va_put (D := D) (ci := 2) (v := .int ((P_bb t) + 1)) (ty := .int) (C := RX2) (T := TX2) (N := 8) hx hb hts iX2 tyX2 tyX2_ok nmX2 hown hK hP hD hS 0 rfl rfl 7 (Nat.le_of_ble_eq_true rfl) (hts (.fieldLink RX2 39 "BentPins$Pins" "bendsByBalls" "I") (List.mem_of_getElem? (i := 5) rfl)) (fun _ h9 => h9) rfl (by decide +kernel) rfl rfl (Nat.le_of_ble_eq_true rfl) dX2_meetBall_87 (fun H locs hP hD hS => ?_)
          have hP : va_P D vwCl (pinW cI a (upd ((P_be t)) k ((P_be t) k + d), (P_ou t), (P_bl t), (upd (P_si t) k (1 - ((P_si t) k))), (upd (P_vi t) k ((P_vi t) k + 1)), (P_ti t), ((P_ri t) + ((P_bl t) k)), (P_bb t) + 1)) H := hP
          have hD : va_D A (pinW cI a (upd ((P_be t)) k ((P_be t) k + d), (P_ou t), (P_bl t), (upd (P_si t) k (1 - ((P_si t) k))), (upd (P_vi t) k ((P_vi t) k + 1)), (P_ti t), ((P_ri t) + ((P_bl t) k)), (P_bb t) + 1)) := hD
          exact hQ _ _ _ _ (pinW cI a (upd ((P_be t)) k ((P_be t) k + d), (P_ou t), (P_bl t), (upd (P_si t) k (1 - ((P_si t) k))), (upd (P_vi t) k ((P_vi t) k + 1)), (P_ti t), ((P_ri t) + ((P_bl t) k)), (P_bb t) + 1)) dX2_meetBall_90 (by first | rfl | exact congrArg (pinW cI a) (by first | rfl | (simp only [meetT, b_1, c_2, c_5, b_6, if_true, if_false, ite_true, ite_false, not_true_eq_false, not_false_eq_true, and_true, true_and, and_false, false_and, and_self, true_or, or_true, or_false, false_or, reduceIte]; done) | simp [meetT, b_1, c_2, c_5, b_6])) hP hS
  · have b_1 : ¬ (P_ou t) k = 0 := ej_b1 c_1
    exact hQ _ _ _ _ (pinW cI a (P_be t, P_ou t, P_bl t, P_si t, upd (P_vi t) k ((P_vi t) k + 1), P_ti t, P_ri t, P_bb t)) dX2_meetBall_17 (by first | rfl | exact congrArg (pinW cI a) (by first | rfl | (simp only [meetT, b_1, if_true, if_false, ite_true, ite_false, not_true_eq_false, not_false_eq_true, and_true, true_and, and_false, false_and, and_self, true_or, or_true, or_false, false_or, reduceIte]; done) | simp [meetT, b_1])) hP hS
set_option maxHeartbeats 4000000 in
set_option maxRecDepth 100000 in
theorem c_X2_rollBall (l : Launch) (D : va_G) (tys : eT) (cI : ClassId) (ht0 : tys[0]? = some (cI, .int)) (a : Nat → Nat) (t : Pn) (c : Nat) (h : Int32) (hc : c < 7) (htl : tilOK t) : fc l D tys yX2_rollBall wsX2_rollBall (eR 3 67) [.ref (a 1), .int (nI c), .int h] (pinW cI a t) (some (.int (nI ((rollT t c h 5).2)))) (pinW cI a ((rollT t c h 5).1)) := by
  refine fc_int cX2_rollBall 7 (by decide +kernel) rfl (rfl) (Nat.le_of_ble_eq_true rfl) ?_
  intro p9 e9 s9 m9 a9 b9 t9 c9 H0 A Q ls S hK hN hA hP hD hS hl hQ
  have S : CallFix p9 m9 c9 cX2_rollBall 7 s9 a9 wsX2_rollBall RX2 := S
  obtain ⟨hx, hb, hml, hown, hts⟩ := id S
  have hP : va_P D vwCl (pinW cI a t) H0 := hP
  have hl : lv_has ls 7 [(0, .ref (a 1)), (1, .int (nI c)), (2, .int h)] := hl
  refine lv_iload_n hx hb dX2_rollBall_0 rfl (lv_at hl 1 rfl) ?_
  refine lv_istore_n (lv' := [(3, .int (nI c)), (0, .ref (a 1)), (1, .int (nI c)), (2, .int h)]) hx hb dX2_rollBall_1 rfl hl (by decide) rfl (fun ls hl => ?_)
  refine lv_iconst (v := 0) hx hb dX2_rollBall_2 (by decide) ?_
  refine lv_istore (lv' := [(4, .int 0), (3, .int (nI c)), (0, .ref (a 1)), (1, .int (nI c)), (2, .int h)]) hx hb dX2_rollBall_3 hl (by decide) rfl (fun ls hl => ?_)
  have lp5 : ∀ (n5 : Nat) (r : Nat), 5 - r < n5 → (r ≤ 5) → ∀ (H : Heap) (locs : List Loc) (ls : Array Slot), va_P D vwCl (pinW cI a ((rollT t c h r).1)) H → va_D A (pinW cI a ((rollT t c h r).1)) → va_S A H0 H locs → lv_has ls 7 [(0, .ref (a 1)), (2, .int h), (3, .int (nI (rollT t c h r).2)), (4, .int (nI r))] → W p9 l e9 (eR 3 67) s9 m9 a9 b9 t9 c9 H locs 0 0 Q (F0 m9 5 ls []) := by
    intro n5
    induction n5 with
    | zero => intro r hm9; exact absurd hm9 (Nat.not_lt_zero _)
    | succ n5 ih5 =>
      intro r hm5 hr H locs ls hP hD hS hl
      have hp := rollT_lt t h hc r
      refine lv_iload hx hb dX2_rollBall_5 (lv_at hl 3 rfl) ?_
      refine lv_iconst (v := 5) hx hb dX2_rollBall_7 (by decide) ?_
      refine lv_icmp_ge (tgt := 49) hx hb dX2_rollBall_8 (by decide) (fun c_1 => ?_) (fun c_1 => ?_)
      · have n_1 : 5 ≤ r := ej_tle (a := 5) (b := r) (by omega) (by omega) c_1
        refine lv_iload_n hx hb dX2_rollBall_49 rfl (lv_at hl 2 rfl) ?_
        exact hQ _ _ _ _ (nI (rollT t c h r).2) (pinW cI a ((rollT t c h r).1)) dX2_rollBall_50 (by rw [show r = 5 by omega]) (by rw [show r = 5 by omega]) hP hS
      · have n_1 : r < 5 := ej_tnle (a := 5) (b := r) (by omega) (by omega) c_1
        refine lv_iload hx hb dX2_rollBall_11 (lv_at hl 3 rfl) ?_
        refine lv_iload_n hx hb dX2_rollBall_13 rfl (lv_at hl 2 rfl) ?_
        refine ej_SN (As := [.int (nI r), .int (nI (rollT t c h r).2)]) (rest := []) (w' := pinW cI a ((rollT t c h r).1)) S hK hN hA hP hD hS (c_X6_pinAt l D tys cI ht0 r ((rollT t c h r).2)) ⟨va_cnB 2 hts gX2_rollBall_X6_pinAt_n87 rfl rfl rfl (eN_4 hN) (hts (.initialized RX6) (List.mem_of_getElem? (i := 2) rfl)) hds_X6_pinAt ⟨Nat.le_of_ble_eq_true rfl, Nat.le_of_ble_eq_true rfl⟩, (hts (.static yX6_pinAt) (List.mem_of_getElem? (i := 1) rfl)), trivial⟩ [] rfl rfl rfl rfl rfl rfl hl.1 (Nat.le_of_ble_eq_true rfl) dX2_rollBall_14 ⟨Nat.zero_le _, Nat.zero_le _⟩ (fun H locs hP hD hS => ?_)
        show W p9 l e9 (eR 3 67) s9 m9 a9 b9 t9 c9 H locs 0 0 Q (F0 m9 17 ls (.int (nI (7 * r + ((rollT t c h r).2))) :: []))
        refine lv_istore (lv' := [(5, .int (nI (7 * r + ((rollT t c h r).2)))), (0, .ref (a 1)), (2, .int h), (3, .int (nI (rollT t c h r).2)), (4, .int (nI r))]) hx hb dX2_rollBall_17 hl (by decide) rfl (fun ls hl => ?_)
        refine lv_aload_n hx hb dX2_rollBall_19 rfl (lv_at hl 1 rfl) ?_
        refine lv_iload hx hb dX2_rollBall_20 (lv_at hl 0 rfl) ?_
        refine ej_V (As := [.int (nI (7 * r + ((rollT t c h r).2)))]) (rest := []) (w' := pinW cI a ((rollT t c h r).1)) S hK hN hA hP hD hS (c_X2_nextDirection l D tys cI ht0 a ((rollT t c h r).1) (7 * r + ((rollT t c h r).2)) (by omega)) (cwV 1 hts gX2_rollBall_X2_nextDirection rfl rfl rfl hdv_X2_nextDirection ⟨Nat.le_of_ble_eq_true rfl, Nat.le_of_ble_eq_true rfl⟩) [0, 1, 2, 3, 4, 5, 6, 7, 8, 9, 10] rfl rfl rfl rfl 0 2 rfl rfl rfl rfl hl.1 (Nat.le_of_ble_eq_true rfl) dX2_rollBall_22 ⟨Nat.zero_le _, Nat.zero_le _⟩ (fun H locs hP hD hS => ?_)
        show W p9 l e9 (eR 3 67) s9 m9 a9 b9 t9 c9 H locs 0 0 Q (F0 m9 25 ls (.int (dirT ((rollT t c h r).1) (7 * r + ((rollT t c h r).2))) :: []))
        refine lv_istore (lv' := [(6, .int (dirT ((rollT t c h r).1) (7 * r + ((rollT t c h r).2)))), (5, .int (nI (7 * r + ((rollT t c h r).2)))), (0, .ref (a 1)), (2, .int h), (3, .int (nI (rollT t c h r).2)), (4, .int (nI r))]) hx hb dX2_rollBall_25 hl (by decide) rfl (fun ls hl => ?_)
        refine lv_aload_n hx hb dX2_rollBall_27 rfl (lv_at hl 2 rfl) ?_
        refine lv_iload hx hb dX2_rollBall_28 (lv_at hl 1 rfl) ?_
        refine lv_iload hx hb dX2_rollBall_30 (lv_at hl 0 rfl) ?_
        refine lv_iload_n hx hb dX2_rollBall_32 rfl (lv_at hl 3 rfl) ?_
        refine ej_V (As := [.int (nI (7 * r + ((rollT t c h r).2))), .int (dirT ((rollT t c h r).1) (7 * r + ((rollT t c h r).2))), .int h]) (rest := []) (w' := pinW cI a (meetT ((rollT t c h r).1) (7 * r + ((rollT t c h r).2)) (dirT ((rollT t c h r).1) (7 * r + ((rollT t c h r).2))) h)) S hK hN hA hP hD hS (c_X2_meetBall l D tys cI ht0 a ((rollT t c h r).1) (7 * r + ((rollT t c h r).2)) (dirT ((rollT t c h r).1) (7 * r + ((rollT t c h r).2))) h (by omega)) (cwV 3 hts gX2_rollBall_X2_meetBall rfl rfl rfl hdv_X2_meetBall ⟨Nat.le_of_ble_eq_true rfl, Nat.le_of_ble_eq_true rfl⟩) [0, 1, 2, 3, 4, 5, 6, 7, 8, 9, 10] rfl rfl rfl rfl 0 2 rfl rfl rfl rfl hl.1 (Nat.le_of_ble_eq_true rfl) dX2_rollBall_33 ⟨Nat.zero_le _, Nat.zero_le _⟩ (fun H locs hP hD hS => ?_)
        show W p9 l e9 (eR 3 67) s9 m9 a9 b9 t9 c9 H locs 0 0 Q (F0 m9 36 ls [])
        refine lv_iload_n hx hb dX2_rollBall_36 rfl (lv_at hl 4 rfl) ?_
        refine lv_iload hx hb dX2_rollBall_37 (lv_at hl 0 rfl) ?_
        refine ej_SN (As := [.int (nI (rollT t c h r).2), .int (dirT ((rollT t c h r).1) (7 * r + ((rollT t c h r).2)))]) (rest := []) (w' := pinW cI a (meetT ((rollT t c h r).1) (7 * r + ((rollT t c h r).2)) (dirT ((rollT t c h r).1) (7 * r + ((rollT t c h r).2))) h)) S hK hN hA hP hD hS (c_X6_placeBeside l D tys cI ht0 ((rollT t c h r).2) (dirT ((rollT t c h r).1) (7 * r + ((rollT t c h r).2))) (by omega) (dirT_ok (rollT_til c h r htl) _)) ⟨va_cnB 2 hts gX2_rollBall_X6_placeBeside_n83 rfl rfl rfl (eN_6 hN) (hts (.initialized RX6) (List.mem_of_getElem? (i := 2) rfl)) hds_X6_placeBeside ⟨Nat.le_of_ble_eq_true rfl, Nat.le_of_ble_eq_true rfl⟩, (hts (.static yX6_placeBeside) (List.mem_of_getElem? (i := 53) rfl)), trivial⟩ [] rfl rfl rfl rfl rfl rfl hl.1 (Nat.le_of_ble_eq_true rfl) dX2_rollBall_39 ⟨Nat.zero_le _, Nat.zero_le _⟩ (fun H locs hP hD hS => ?_)
        show W p9 l e9 (eR 3 67) s9 m9 a9 b9 t9 c9 H locs 0 0 Q (F0 m9 42 ls (.int (nI (bes ((rollT t c h r).2) (dirT ((rollT t c h r).1) (7 * r + ((rollT t c h r).2))))) :: []))
        refine lv_istore_n (lv' := [(3, .int (nI (bes ((rollT t c h r).2) (dirT ((rollT t c h r).1) (7 * r + ((rollT t c h r).2)))))), (6, .int (dirT ((rollT t c h r).1) (7 * r + ((rollT t c h r).2)))), (5, .int (nI (7 * r + ((rollT t c h r).2)))), (0, .ref (a 1)), (2, .int h), (4, .int (nI r))]) hx hb dX2_rollBall_42 rfl hl (by decide) rfl (fun ls hl => ?_)
        refine lv_iinc (v := nI (r + 1)) (lv' := [(4, .int (nI (r + 1))), (3, .int (nI (bes ((rollT t c h r).2) (dirT ((rollT t c h r).1) (7 * r + ((rollT t c h r).2)))))), (6, .int (dirT ((rollT t c h r).1) (7 * r + ((rollT t c h r).2)))), (5, .int (nI (7 * r + ((rollT t c h r).2)))), (0, .ref (a 1)), (2, .int h)]) hx hb dX2_rollBall_43 hl (k := 5) rfl (nI_add r 1) (by decide) rfl (fun ls hl => ?_)
        refine lv_goto (tgt := 5) hx hb dX2_rollBall_46 (by decide) ?_
        exact ih5  (r + 1) (by omega) (by omega) _ _ _ hP hD hS (lv_sub hl [4, 5, 1, 0] rfl)
  exact lp5 ((5 - 0) + 1) 0 (by omega) (by omega) _ _ _ hP hD hS (lv_sub hl [2, 4, 1, 0] rfl)
set_option maxHeartbeats 4000000 in
set_option maxRecDepth 100000 in
theorem c_X2_straightOnes (l : Launch) (D : va_G) (tys : eT) (cI : ClassId) (ht0 : tys[0]? = some (cI, .int)) (a : Nat → Nat) (t : Pn)  : fc l D tys yX2_straightOnes wsX2_straightOnes (eR 2 42) [.ref (a 1)] (pinW cI a t) (some (.int (sumI (fun p => if P_ou t p = 0 ∧ P_be t p = 0 then 1 else 0) 35))) (pinW cI a t) := by
  refine fc_int cX2_straightOnes 3 (by decide +kernel) rfl (rfl) (Nat.le_of_ble_eq_true rfl) ?_
  intro p9 e9 s9 m9 a9 b9 t9 c9 H0 A Q ls S hK hN hA hP hD hS hl hQ
  have S : CallFix p9 m9 c9 cX2_straightOnes 3 s9 a9 wsX2_straightOnes RX2 := S
  obtain ⟨hx, hb, hml, hown, hts⟩ := id S
  have iX2 : ∀ w ∈ wsX20, w ∈ wsX2_straightOnes := fun w h => List.mem_cons_of_mem _ (List.mem_append_left _ (List.mem_append_right _ (h)))
  have hP : va_P D vwCl (pinW cI a t) H0 := hP
  have hl : lv_has ls 3 [(0, .ref (a 1))] := hl
  refine lv_iconst (v := 0) hx hb dX2_straightOnes_0 (by decide) ?_
  refine lv_istore_n (lv' := [(1, .int 0), (0, .ref (a 1))]) hx hb dX2_straightOnes_1 rfl hl (by decide) rfl (fun ls hl => ?_)
  refine lv_iconst (v := 0) hx hb dX2_straightOnes_2 (by decide) ?_
  refine lv_istore_n (lv' := [(2, .int 0), (1, .int 0), (0, .ref (a 1))]) hx hb dX2_straightOnes_3 rfl hl (by decide) rfl (fun ls hl => ?_)
  have lp4 : ∀ (n4 : Nat) (i : Nat) (x : Int32), 35 - i < n4 → (i ≤ 35) → (x = sumI (fun p => if P_ou t p = 0 ∧ P_be t p = 0 then 1 else 0) i) → ∀ (H : Heap) (locs : List Loc) (ls : Array Slot), va_P D vwCl (pinW cI a t) H → va_D A (pinW cI a t) → va_S A H0 H locs → lv_has ls 3 [(0, .ref (a 1)), (1, .int x), (2, .int (nI i))] → W p9 l e9 (eR 2 42) s9 m9 a9 b9 t9 c9 H locs 0 0 Q (F0 m9 4 ls []) := by
    intro n4
    induction n4 with
    | zero => intro i x hm9; exact absurd hm9 (Nat.not_lt_zero _)
    | succ n4 ih4 =>
      intro i x hm4 hi ex H locs ls hP hD hS hl
      refine lv_iload_n hx hb dX2_straightOnes_4 rfl (lv_at hl 2 rfl) ?_
      refine lv_bipush (v := 35) hx hb dX2_straightOnes_5 (by decide) ?_
      refine lv_icmp_ge (tgt := 38) hx hb dX2_straightOnes_7 (by decide) (fun c_1 => ?_) (fun c_1 => ?_)
      · have n_1 : 35 ≤ i := ej_tle (a := 35) (b := i) (by omega) (by omega) c_1
        refine lv_iload_n hx hb dX2_straightOnes_38 rfl (lv_at hl 1 rfl) ?_
        exact hQ _ _ _ _ x (pinW cI a t) dX2_straightOnes_39 (by rw [ex, show i = 35 by omega]) rfl hP hS
      · have n_1 : i < 35 := ej_tnle (a := 35) (b := i) (by omega) (by omega) c_1
        refine lv_aload_n hx hb dX2_straightOnes_10 rfl (lv_at hl 0 rfl) ?_
        refine lv_iload_n hx hb dX2_straightOnes_11 rfl (lv_at hl 2 rfl) ?_
        refine ej_V (As := [.int (nI i)]) (rest := []) (w' := pinW cI a t) S hK hN hA hP hD hS (c_X2_isOut l D tys cI ht0 a t i (by omega)) (cwV 1 hts gX2_straightOnes_X2_isOut rfl rfl rfl hdv_X2_isOut ⟨Nat.le_of_ble_eq_true rfl, Nat.le_of_ble_eq_true rfl⟩) [0, 1, 2, 3, 4, 5, 6, 7, 8, 9, 10] rfl rfl rfl rfl 0 2 rfl rfl rfl rfl hl.1 (Nat.le_of_ble_eq_true rfl) dX2_straightOnes_12 ⟨Nat.zero_le _, Nat.zero_le _⟩ (fun H locs hP hD hS => ?_)
        show W p9 l e9 (eR 2 42) s9 m9 a9 b9 t9 c9 H locs 0 0 Q (F0 m9 15 ls (.int (if ¬ P_ou t i = 0 then 1 else 0) :: []))
        refine lv_if_ne (tgt := 32) hx hb dX2_straightOnes_15 (by decide) (fun c_2 => ?_) (fun c_2 => ?_)
        · have b_2 : ¬ P_ou t i = 0 := ej_b1 c_2
          refine lv_iinc (v := nI (i + 1)) (lv' := [(2, .int (nI (i + 1))), (0, .ref (a 1)), (1, .int x)]) hx hb dX2_straightOnes_32 hl (k := 2) rfl (nI_add i 1) (by decide) rfl (fun ls hl => ?_)
          refine lv_goto (tgt := 4) hx hb dX2_straightOnes_35 (by decide) ?_
          exact ih4  (i + 1) x (by omega) (by omega) (by rw [sumI, ← ex]; simp [b_2]) _ _ _ hP hD hS (lv_sub hl [1, 2, 0] rfl)
        · have b_2 : P_ou t i = 0 := Decidable.not_not.mp (ej_b0 c_2)
          refine lv_aload_n hx hb dX2_straightOnes_18 rfl (lv_at hl 0 rfl) ?_
          refine va_get (D := D) (ci := 2) (v := .ref (a 2)) (C := RX2) (T := TX2) (N := 8) hx hb hts iX2 hown hK hP 0 rfl rfl 0 (Nat.le_of_ble_eq_true rfl) (hts (.fieldLink RX2 14 "BentPins$Pins" "bends" "LBentPins$Row;") (List.mem_of_getElem? (i := 1) rfl)) (fun _ h9 => h9) rfl dX2_straightOnes_19 ?_
          refine lv_iload_n hx hb dX2_straightOnes_22 rfl (lv_at hl 2 rfl) ?_
          refine ej_V (As := [.int (nI i)]) (rest := []) (w' := pinW cI a t) S hK hN hA hP hD hS (c_X4_at l D tys cI ht0 (a 2) (a 3) 35 (P_be t) i (by omega) (by omega)) (cwV 1 hts gX2_straightOnes_X4_at rfl rfl rfl hdv_X4_at ⟨Nat.le_of_ble_eq_true rfl, Nat.le_of_ble_eq_true rfl⟩) [1, 2] rfl rfl rfl rfl 1 4 rfl rfl rfl rfl hl.1 (Nat.le_of_ble_eq_true rfl) dX2_straightOnes_23 ⟨Nat.zero_le _, Nat.zero_le _⟩ (fun H locs hP hD hS => ?_)
          show W p9 l e9 (eR 2 42) s9 m9 a9 b9 t9 c9 H locs 0 0 Q (F0 m9 26 ls (.int ((P_be t) i) :: []))
          refine lv_if_ne (tgt := 32) hx hb dX2_straightOnes_26 (by decide) (fun c_3 => ?_) (fun c_3 => ?_)
          · refine lv_iinc (v := nI (i + 1)) (lv' := [(2, .int (nI (i + 1))), (0, .ref (a 1)), (1, .int x)]) hx hb dX2_straightOnes_32 hl (k := 2) rfl (nI_add i 1) (by decide) rfl (fun ls hl => ?_)
            refine lv_goto (tgt := 4) hx hb dX2_straightOnes_35 (by decide) ?_
            exact ih4  (i + 1) x (by omega) (by omega) (by rw [sumI, ← ex]; simp [b_2, c_3]) _ _ _ hP hD hS (lv_sub hl [1, 2, 0] rfl)
          · refine lv_iinc (v := x + 1) (lv' := [(1, .int (x + 1)), (0, .ref (a 1)), (2, .int (nI i))]) hx hb dX2_straightOnes_29 hl (k := 1) rfl (rfl) (by decide) rfl (fun ls hl => ?_)
            refine lv_iinc (v := nI (i + 1)) (lv' := [(2, .int (nI (i + 1))), (1, .int (x + 1)), (0, .ref (a 1))]) hx hb dX2_straightOnes_32 hl (k := 2) rfl (nI_add i 1) (by decide) rfl (fun ls hl => ?_)
            refine lv_goto (tgt := 4) hx hb dX2_straightOnes_35 (by decide) ?_
            exact ih4  (i + 1) (x + 1) (by omega) (by omega) (by rw [sumI, ← ex]; simp [b_2, c_3]) _ _ _ hP hD hS (lv_sub hl [2, 1, 0] rfl)
  exact lp4 ((35 - 0) + 1) 0 0 (by omega) (by omega) rfl _ _ _ hP hD hS (lv_sub hl [2, 1, 0] rfl)
set_option maxHeartbeats 4000000 in
set_option maxRecDepth 100000 in
theorem c_X2_bendsTogether (l : Launch) (D : va_G) (tys : eT) (cI : ClassId) (ht0 : tys[0]? = some (cI, .int)) (a : Nat → Nat) (t : Pn)  : fc l D tys yX2_bendsTogether wsX2_bendsTogether (eR 1 24) [.ref (a 1)] (pinW cI a t) (some (.int (sumI (fun p => if 0 ≤ P_be t p then P_be t p else 0 - P_be t p) 35))) (pinW cI a t) := by
  refine fc_int cX2_bendsTogether 3 (by decide +kernel) rfl (rfl) (Nat.le_of_ble_eq_true rfl) ?_
  intro p9 e9 s9 m9 a9 b9 t9 c9 H0 A Q ls S hK hN hA hP hD hS hl hQ
  have S : CallFix p9 m9 c9 cX2_bendsTogether 3 s9 a9 wsX2_bendsTogether RX2 := S
  obtain ⟨hx, hb, hml, hown, hts⟩ := id S
  have iX2 : ∀ w ∈ wsX20, w ∈ wsX2_bendsTogether := fun w h => List.mem_cons_of_mem _ (List.mem_append_left _ (List.mem_append_right _ (h)))
  have hP : va_P D vwCl (pinW cI a t) H0 := hP
  have hl : lv_has ls 3 [(0, .ref (a 1))] := hl
  refine lv_iconst (v := 0) hx hb dX2_bendsTogether_0 (by decide) ?_
  refine lv_istore_n (lv' := [(1, .int 0), (0, .ref (a 1))]) hx hb dX2_bendsTogether_1 rfl hl (by decide) rfl (fun ls hl => ?_)
  refine lv_iconst (v := 0) hx hb dX2_bendsTogether_2 (by decide) ?_
  refine lv_istore_n (lv' := [(2, .int 0), (1, .int 0), (0, .ref (a 1))]) hx hb dX2_bendsTogether_3 rfl hl (by decide) rfl (fun ls hl => ?_)
  have lp4 : ∀ (n4 : Nat) (i : Nat), 35 - i < n4 → (i ≤ 35) → ∀ (H : Heap) (locs : List Loc) (ls : Array Slot), va_P D vwCl (pinW cI a t) H → va_D A (pinW cI a t) → va_S A H0 H locs → lv_has ls 3 [(0, .ref (a 1)), (1, .int (sumI (fun p => if 0 ≤ P_be t p then P_be t p else 0 - P_be t p) i)), (2, .int (nI i))] → W p9 l e9 (eR 1 24) s9 m9 a9 b9 t9 c9 H locs 0 0 Q (F0 m9 4 ls []) := by
    intro n4
    induction n4 with
    | zero => intro i hm9; exact absurd hm9 (Nat.not_lt_zero _)
    | succ n4 ih4 =>
      intro i hm4 hi H locs ls hP hD hS hl
      refine lv_iload_n hx hb dX2_bendsTogether_4 rfl (lv_at hl 2 rfl) ?_
      refine lv_bipush (v := 35) hx hb dX2_bendsTogether_5 (by decide) ?_
      refine lv_icmp_ge (tgt := 30) hx hb dX2_bendsTogether_7 (by decide) (fun c_1 => ?_) (fun c_1 => ?_)
      · have n_1 : 35 ≤ i := ej_tle (a := 35) (b := i) (by omega) (by omega) c_1
        refine lv_iload_n hx hb dX2_bendsTogether_30 rfl (lv_at hl 1 rfl) ?_
        exact hQ _ _ _ _ (sumI (fun p => if 0 ≤ P_be t p then P_be t p else 0 - P_be t p) i) (pinW cI a t) dX2_bendsTogether_31 (by rw [show i = 35 by omega]) rfl hP hS
      · have n_1 : i < 35 := ej_tnle (a := 35) (b := i) (by omega) (by omega) c_1
        refine lv_iload_n hx hb dX2_bendsTogether_10 rfl (lv_at hl 1 rfl) ?_
        refine lv_aload_n hx hb dX2_bendsTogether_11 rfl (lv_at hl 0 rfl) ?_
        refine va_get (D := D) (ci := 2) (v := .ref (a 2)) (C := RX2) (T := TX2) (N := 8) hx hb hts iX2 hown hK hP 0 rfl rfl 0 (Nat.le_of_ble_eq_true rfl) (hts (.fieldLink RX2 14 "BentPins$Pins" "bends" "LBentPins$Row;") (List.mem_of_getElem? (i := 1) rfl)) (fun _ h9 => h9) rfl dX2_bendsTogether_12 ?_
        refine lv_iload_n hx hb dX2_bendsTogether_15 rfl (lv_at hl 2 rfl) ?_
        refine ej_V (As := [.int (nI i)]) (rest := [.int (sumI (fun p => if 0 ≤ P_be t p then P_be t p else 0 - P_be t p) i)]) (w' := pinW cI a t) S hK hN hA hP hD hS (c_X4_at l D tys cI ht0 (a 2) (a 3) 35 (P_be t) i (by omega) (by omega)) (cwV 1 hts gX2_bendsTogether_X4_at rfl rfl rfl hdv_X4_at ⟨Nat.le_of_ble_eq_true rfl, Nat.le_of_ble_eq_true rfl⟩) [1, 2] rfl rfl rfl rfl 1 4 rfl rfl rfl rfl hl.1 (Nat.le_of_ble_eq_true rfl) dX2_bendsTogether_16 ⟨Nat.zero_le _, Nat.zero_le _⟩ (fun H locs hP hD hS => ?_)
        show W p9 l e9 (eR 1 24) s9 m9 a9 b9 t9 c9 H locs 0 0 Q (F0 m9 19 ls (.int ((P_be t) i) :: [.int (sumI (fun p => if 0 ≤ P_be t p then P_be t p else 0 - P_be t p) i)]))
        refine va_mabs hx hb (hml.trans hl.1.symm) hown (hts (.methodLink RX2 61 Lib.Math.abs.name) (List.mem_of_getElem? (i := 2) rfl)) (hts (.static Lib.Math.abs.name) (List.mem_of_getElem? (i := 3) rfl)) (hts (.initialized "java/lang/Math") (List.mem_of_getElem? (i := 4) rfl)) (hts (.code Lib.Math.abs.name Lib.Math.abs.code 1 (some .int)) (List.mem_of_getElem? (i := 5) rfl)) (Nat.le_of_ble_eq_true rfl) (Nat.le_of_ble_eq_true rfl) (Nat.zero_le _) (Nat.zero_le _) dX2_bendsTogether_19 ?_
        refine lv_iadd hx hb dX2_bendsTogether_22 ?_
        refine lv_istore_n (lv' := [(1, .int ((sumI (fun p => if 0 ≤ P_be t p then P_be t p else 0 - P_be t p) i) + (if 0 ≤ ((P_be t) i) then ((P_be t) i) else 0 - ((P_be t) i)))), (0, .ref (a 1)), (2, .int (nI i))]) hx hb dX2_bendsTogether_23 rfl hl (by decide) rfl (fun ls hl => ?_)
        refine lv_iinc (v := nI (i + 1)) (lv' := [(2, .int (nI (i + 1))), (1, .int ((sumI (fun p => if 0 ≤ P_be t p then P_be t p else 0 - P_be t p) i) + (if 0 ≤ ((P_be t) i) then ((P_be t) i) else 0 - ((P_be t) i)))), (0, .ref (a 1))]) hx hb dX2_bendsTogether_24 hl (k := 2) rfl (nI_add i 1) (by decide) rfl (fun ls hl => ?_)
        refine lv_goto (tgt := 4) hx hb dX2_bendsTogether_27 (by decide) ?_
        exact ih4  (i + 1) (by omega) (by omega) _ _ _ hP hD hS (lv_sub hl [2, 1, 0] rfl)
  exact lp4 ((35 - 0) + 1) 0 (by omega) (by omega) _ _ _ hP hD hS (lv_sub hl [2, 1, 0] rfl)
set_option maxHeartbeats 4000000 in
set_option maxRecDepth 100000 in
theorem c_X2_pullOrSet (l : Launch) (D : va_G) (tys : eT) (cI : ClassId) (ht0 : tys[0]? = some (cI, .int)) (a : Nat → Nat) (t : Pn) (k : Nat) (hk : k < 35) : fc l D tys yX2_pullOrSet wsX2_pullOrSet (eR 1 22) [.ref (a 1), .int (nI k)] (pinW cI a t) none (pinW cI a (upd (P_be t) k 0, upd (P_ou t) k (1 - P_ou t k), P_bl t, upd (P_si t) k 0, P_vi t, P_ti t, P_ri t, P_bb t)) := by
  refine fc_void cX2_pullOrSet 2 (by decide +kernel) rfl (Nat.le_of_ble_eq_true rfl) ?_
  intro p9 e9 s9 m9 a9 b9 t9 c9 H0 A Q ls S hK hN hA hP hD hS hl hQ
  have S : CallFix p9 m9 c9 cX2_pullOrSet 2 s9 a9 wsX2_pullOrSet RX2 := S
  obtain ⟨hx, hb, hml, hown, hts⟩ := id S
  have iX2 : ∀ w ∈ wsX20, w ∈ wsX2_pullOrSet := fun w h => List.mem_cons_of_mem _ (List.mem_append_left _ (List.mem_append_right _ (h)))
  have hP : va_P D vwCl (pinW cI a t) H0 := hP
  have hl : lv_has ls 2 [(0, .ref (a 1)), (1, .int (nI k))] := hl
  refine lv_aload_n hx hb dX2_pullOrSet_0 rfl (lv_at hl 0 rfl) ?_
  refine va_get (D := D) (ci := 2) (v := .ref (a 4)) (C := RX2) (T := TX2) (N := 8) hx hb hts iX2 hown hK hP 0 rfl rfl 1 (Nat.le_of_ble_eq_true rfl) (hts (.fieldLink RX2 20 "BentPins$Pins" "outs" "LBentPins$Row;") (List.mem_of_getElem? (i := 1) rfl)) (fun _ h9 => h9) rfl dX2_pullOrSet_1 ?_
  refine lv_iload_n hx hb dX2_pullOrSet_4 rfl (lv_at hl 1 rfl) ?_
  refine lv_iconst (v := 1) hx hb dX2_pullOrSet_5 (by decide) ?_
  refine lv_aload_n hx hb dX2_pullOrSet_6 rfl (lv_at hl 0 rfl) ?_
  refine va_get (D := D) (ci := 2) (v := .ref (a 4)) (C := RX2) (T := TX2) (N := 8) hx hb hts iX2 hown hK hP 0 rfl rfl 1 (Nat.le_of_ble_eq_true rfl) (hts (.fieldLink RX2 20 "BentPins$Pins" "outs" "LBentPins$Row;") (List.mem_of_getElem? (i := 1) rfl)) (fun _ h9 => h9) rfl dX2_pullOrSet_7 ?_
  refine lv_iload_n hx hb dX2_pullOrSet_10 rfl (lv_at hl 1 rfl) ?_
  refine ej_V (As := [.int (nI k)]) (rest := [.int 1, .int (nI k), .ref (a 4)]) (w' := pinW cI a t) S hK hN hA hP hD hS (c_X4_at l D tys cI ht0 (a 4) (a 5) 35 (P_ou t) k (by omega) (by omega)) (cwV 1 hts gX2_pullOrSet_X4_at rfl rfl rfl hdv_X4_at ⟨Nat.le_of_ble_eq_true rfl, Nat.le_of_ble_eq_true rfl⟩) [3, 4] rfl rfl rfl rfl 3 4 rfl rfl rfl rfl hl.1 (Nat.le_of_ble_eq_true rfl) dX2_pullOrSet_11 ⟨Nat.zero_le _, Nat.zero_le _⟩ (fun H locs hP hD hS => ?_)
  show W p9 l e9 (eR 1 22) s9 m9 a9 b9 t9 c9 H locs 0 0 Q (F0 m9 14 ls (.int ((P_ou t) k) :: [.int 1, .int (nI k), .ref (a 4)]))
  refine lv_isub hx hb dX2_pullOrSet_14 ?_
  refine ej_V (As := [.int (nI k), .int (1 - ((P_ou t) k))]) (rest := []) (w' := pinW cI a (P_be t, upd (P_ou t) k (1 - ((P_ou t) k)), P_bl t, P_si t, P_vi t, P_ti t, P_ri t, P_bb t)) S hK hN hA hP hD hS (c_X4_put l D tys cI ht0 (a 4) (a 5) 35 (P_ou t) k (1 - ((P_ou t) k)) (by omega) (by omega)) (cwV 2 hts gX2_pullOrSet_X4_put rfl rfl rfl hdv_X4_put ⟨Nat.le_of_ble_eq_true rfl, Nat.le_of_ble_eq_true rfl⟩) [3, 4] rfl rfl rfl rfl 3 4 rfl rfl rfl rfl hl.1 (Nat.le_of_ble_eq_true rfl) dX2_pullOrSet_15 ⟨Nat.zero_le _, Nat.zero_le _⟩ (fun H locs hP hD hS => ?_)
  show W p9 l e9 (eR 1 22) s9 m9 a9 b9 t9 c9 H locs 0 0 Q (F0 m9 18 ls [])
  refine lv_aload_n hx hb dX2_pullOrSet_18 rfl (lv_at hl 0 rfl) ?_
  refine va_get (D := D) (ci := 2) (v := .ref (a 2)) (C := RX2) (T := TX2) (N := 8) hx hb hts iX2 hown hK hP 0 rfl rfl 0 (Nat.le_of_ble_eq_true rfl) (hts (.fieldLink RX2 14 "BentPins$Pins" "bends" "LBentPins$Row;") (List.mem_of_getElem? (i := 2) rfl)) (fun _ h9 => h9) rfl dX2_pullOrSet_19 ?_
  refine lv_iload_n hx hb dX2_pullOrSet_22 rfl (lv_at hl 1 rfl) ?_
  refine lv_iconst (v := 0) hx hb dX2_pullOrSet_23 (by decide) ?_
  refine ej_V (As := [.int (nI k), .int 0]) (rest := []) (w' := pinW cI a (upd (P_be t) k 0, upd (P_ou t) k (1 - ((P_ou t) k)), P_bl t, P_si t, P_vi t, P_ti t, P_ri t, P_bb t)) S hK hN hA hP hD hS (c_X4_put l D tys cI ht0 (a 2) (a 3) 35 (P_be t) k 0 (by omega) (by omega)) (cwV 2 hts gX2_pullOrSet_X4_put rfl rfl rfl hdv_X4_put ⟨Nat.le_of_ble_eq_true rfl, Nat.le_of_ble_eq_true rfl⟩) [1, 2] rfl rfl rfl rfl 1 4 rfl rfl rfl rfl hl.1 (Nat.le_of_ble_eq_true rfl) dX2_pullOrSet_24 ⟨Nat.zero_le _, Nat.zero_le _⟩ (fun H locs hP hD hS => ?_)
  show W p9 l e9 (eR 1 22) s9 m9 a9 b9 t9 c9 H locs 0 0 Q (F0 m9 27 ls [])
  refine lv_aload_n hx hb dX2_pullOrSet_27 rfl (lv_at hl 0 rfl) ?_
  refine va_get (D := D) (ci := 2) (v := .ref (a 8)) (C := RX2) (T := TX2) (N := 8) hx hb hts iX2 hown hK hP 0 rfl rfl 3 (Nat.le_of_ble_eq_true rfl) (hts (.fieldLink RX2 26 "BentPins$Pins" "sides" "LBentPins$Row;") (List.mem_of_getElem? (i := 3) rfl)) (fun _ h9 => h9) rfl dX2_pullOrSet_28 ?_
  refine lv_iload_n hx hb dX2_pullOrSet_31 rfl (lv_at hl 1 rfl) ?_
  refine lv_iconst (v := 0) hx hb dX2_pullOrSet_32 (by decide) ?_
  refine ej_V (As := [.int (nI k), .int 0]) (rest := []) (w' := pinW cI a (upd (P_be t) k 0, upd (P_ou t) k (1 - ((P_ou t) k)), P_bl t, upd (P_si t) k 0, P_vi t, P_ti t, P_ri t, P_bb t)) S hK hN hA hP hD hS (c_X4_put l D tys cI ht0 (a 8) (a 9) 35 (P_si t) k 0 (by omega) (by omega)) (cwV 2 hts gX2_pullOrSet_X4_put rfl rfl rfl hdv_X4_put ⟨Nat.le_of_ble_eq_true rfl, Nat.le_of_ble_eq_true rfl⟩) [7, 8] rfl rfl rfl rfl 7 4 rfl rfl rfl rfl hl.1 (Nat.le_of_ble_eq_true rfl) dX2_pullOrSet_33 ⟨Nat.zero_le _, Nat.zero_le _⟩ (fun H locs hP hD hS => ?_)
  show W p9 l e9 (eR 1 22) s9 m9 a9 b9 t9 c9 H locs 0 0 Q (F0 m9 36 ls [])
  exact hQ _ _ _ _ (pinW cI a (upd (P_be t) k 0, upd (P_ou t) k (1 - ((P_ou t) k)), P_bl t, upd (P_si t) k 0, P_vi t, P_ti t, P_ri t, P_bb t)) dX2_pullOrSet_36 rfl hP hS
set_option maxHeartbeats 4000000 in
set_option maxRecDepth 100000 in
theorem c_X2_hangOrTakeBell (l : Launch) (D : va_G) (tys : eT) (cI : ClassId) (ht0 : tys[0]? = some (cI, .int)) (a : Nat → Nat) (t : Pn) (k : Nat) (hk : k < 35) : fc l D tys yX2_hangOrTakeBell wsX2_hangOrTakeBell (eR 1 22) [.ref (a 1), .int (nI k)] (pinW cI a t) none (pinW cI a (P_be t, P_ou t, upd (P_bl t) k (1 - P_bl t k), P_si t, P_vi t, P_ti t, P_ri t, P_bb t)) := by
  refine fc_void cX2_hangOrTakeBell 2 (by decide +kernel) rfl (Nat.le_of_ble_eq_true rfl) ?_
  intro p9 e9 s9 m9 a9 b9 t9 c9 H0 A Q ls S hK hN hA hP hD hS hl hQ
  have S : CallFix p9 m9 c9 cX2_hangOrTakeBell 2 s9 a9 wsX2_hangOrTakeBell RX2 := S
  obtain ⟨hx, hb, hml, hown, hts⟩ := id S
  have iX2 : ∀ w ∈ wsX20, w ∈ wsX2_hangOrTakeBell := fun w h => List.mem_cons_of_mem _ (List.mem_append_left _ (List.mem_append_right _ (h)))
  have hP : va_P D vwCl (pinW cI a t) H0 := hP
  have hl : lv_has ls 2 [(0, .ref (a 1)), (1, .int (nI k))] := hl
  refine lv_aload_n hx hb dX2_hangOrTakeBell_0 rfl (lv_at hl 0 rfl) ?_
  refine va_get (D := D) (ci := 2) (v := .ref (a 6)) (C := RX2) (T := TX2) (N := 8) hx hb hts iX2 hown hK hP 0 rfl rfl 2 (Nat.le_of_ble_eq_true rfl) (hts (.fieldLink RX2 23 "BentPins$Pins" "bells" "LBentPins$Row;") (List.mem_of_getElem? (i := 1) rfl)) (fun _ h9 => h9) rfl dX2_hangOrTakeBell_1 ?_
  refine lv_iload_n hx hb dX2_hangOrTakeBell_4 rfl (lv_at hl 1 rfl) ?_
  refine lv_iconst (v := 1) hx hb dX2_hangOrTakeBell_5 (by decide) ?_
  refine lv_aload_n hx hb dX2_hangOrTakeBell_6 rfl (lv_at hl 0 rfl) ?_
  refine va_get (D := D) (ci := 2) (v := .ref (a 6)) (C := RX2) (T := TX2) (N := 8) hx hb hts iX2 hown hK hP 0 rfl rfl 2 (Nat.le_of_ble_eq_true rfl) (hts (.fieldLink RX2 23 "BentPins$Pins" "bells" "LBentPins$Row;") (List.mem_of_getElem? (i := 1) rfl)) (fun _ h9 => h9) rfl dX2_hangOrTakeBell_7 ?_
  refine lv_iload_n hx hb dX2_hangOrTakeBell_10 rfl (lv_at hl 1 rfl) ?_
  refine ej_V (As := [.int (nI k)]) (rest := [.int 1, .int (nI k), .ref (a 6)]) (w' := pinW cI a t) S hK hN hA hP hD hS (c_X4_at l D tys cI ht0 (a 6) (a 7) 35 (P_bl t) k (by omega) (by omega)) (cwV 1 hts gX2_hangOrTakeBell_X4_at rfl rfl rfl hdv_X4_at ⟨Nat.le_of_ble_eq_true rfl, Nat.le_of_ble_eq_true rfl⟩) [5, 6] rfl rfl rfl rfl 5 4 rfl rfl rfl rfl hl.1 (Nat.le_of_ble_eq_true rfl) dX2_hangOrTakeBell_11 ⟨Nat.zero_le _, Nat.zero_le _⟩ (fun H locs hP hD hS => ?_)
  show W p9 l e9 (eR 1 22) s9 m9 a9 b9 t9 c9 H locs 0 0 Q (F0 m9 14 ls (.int ((P_bl t) k) :: [.int 1, .int (nI k), .ref (a 6)]))
  refine lv_isub hx hb dX2_hangOrTakeBell_14 ?_
  refine ej_V (As := [.int (nI k), .int (1 - ((P_bl t) k))]) (rest := []) (w' := pinW cI a (P_be t, P_ou t, upd (P_bl t) k (1 - ((P_bl t) k)), P_si t, P_vi t, P_ti t, P_ri t, P_bb t)) S hK hN hA hP hD hS (c_X4_put l D tys cI ht0 (a 6) (a 7) 35 (P_bl t) k (1 - ((P_bl t) k)) (by omega) (by omega)) (cwV 2 hts gX2_hangOrTakeBell_X4_put rfl rfl rfl hdv_X4_put ⟨Nat.le_of_ble_eq_true rfl, Nat.le_of_ble_eq_true rfl⟩) [5, 6] rfl rfl rfl rfl 5 4 rfl rfl rfl rfl hl.1 (Nat.le_of_ble_eq_true rfl) dX2_hangOrTakeBell_15 ⟨Nat.zero_le _, Nat.zero_le _⟩ (fun H locs hP hD hS => ?_)
  show W p9 l e9 (eR 1 22) s9 m9 a9 b9 t9 c9 H locs 0 0 Q (F0 m9 18 ls [])
  exact hQ _ _ _ _ (pinW cI a (P_be t, P_ou t, upd (P_bl t) k (1 - ((P_bl t) k)), P_si t, P_vi t, P_ti t, P_ri t, P_bb t)) dX2_hangOrTakeBell_18 rfl hP hS
set_option maxHeartbeats 4000000 in
set_option maxRecDepth 100000 in
theorem c_X2_readSign (l : Launch) (D : va_G) (tys : eT) (cI : ClassId) (ht0 : tys[0]? = some (cI, .int)) (a : Nat → Nat) (t : Pn) (k : Nat) (c : Int32) (hk : k < 35) : fc l D tys yX2_readSign wsX2_readSign (eR 1 22) [.ref (a 1), .int (nI k), .int c] (pinW cI a t) none (pinW cI a (readT t k c)) := by
  refine fc_void cX2_readSign 3 (by decide +kernel) rfl (Nat.le_of_ble_eq_true rfl) ?_
  intro p9 e9 s9 m9 a9 b9 t9 c9 H0 A Q ls S hK hN hA hP hD hS hl hQ
  have S : CallFix p9 m9 c9 cX2_readSign 3 s9 a9 wsX2_readSign RX2 := S
  obtain ⟨hx, hb, hml, hown, hts⟩ := id S
  have iX2 : ∀ w ∈ wsX20, w ∈ wsX2_readSign := fun w h => List.mem_cons_of_mem _ (List.mem_append_left _ (List.mem_append_right _ (h)))
  have hP : va_P D vwCl (pinW cI a t) H0 := hP
  have hl : lv_has ls 3 [(0, .ref (a 1)), (1, .int (nI k)), (2, .int c)] := hl
  refine lv_aload_n hx hb dX2_readSign_0 rfl (lv_at hl 0 rfl) ?_
  refine va_get (D := D) (ci := 2) (v := .ref (a 2)) (C := RX2) (T := TX2) (N := 8) hx hb hts iX2 hown hK hP 0 rfl rfl 0 (Nat.le_of_ble_eq_true rfl) (hts (.fieldLink RX2 14 "BentPins$Pins" "bends" "LBentPins$Row;") (List.mem_of_getElem? (i := 1) rfl)) (fun _ h9 => h9) rfl dX2_readSign_1 ?_
  refine lv_iload_n hx hb dX2_readSign_4 rfl (lv_at hl 1 rfl) ?_
  refine lv_iload_n hx hb dX2_readSign_5 rfl (lv_at hl 2 rfl) ?_
  refine lv_bipush (v := 60) hx hb dX2_readSign_6 (by decide) ?_
  refine lv_icmp_ne (tgt := 15) hx hb dX2_readSign_8 (by decide) (fun c_1 => ?_) (fun c_1 => ?_)
  · refine lv_iload_n hx hb dX2_readSign_15 rfl (lv_at hl 2 rfl) ?_
    refine lv_bipush (v := 62) hx hb dX2_readSign_16 (by decide) ?_
    refine lv_icmp_ne (tgt := 25) hx hb dX2_readSign_18 (by decide) (fun c_2 => ?_) (fun c_2 => ?_)
    · refine lv_iconst (v := 0) hx hb dX2_readSign_25 (by decide) ?_
      refine ej_V (As := [.int (nI k), .int 0]) (rest := []) (w' := pinW cI a (upd (P_be t) k 0, P_ou t, P_bl t, P_si t, P_vi t, P_ti t, P_ri t, P_bb t)) S hK hN hA hP hD hS (c_X4_put l D tys cI ht0 (a 2) (a 3) 35 (P_be t) k 0 (by omega) (by omega)) (cwV 2 hts gX2_readSign_X4_put rfl rfl rfl hdv_X4_put ⟨Nat.le_of_ble_eq_true rfl, Nat.le_of_ble_eq_true rfl⟩) [1, 2] rfl rfl rfl rfl 1 4 rfl rfl rfl rfl hl.1 (Nat.le_of_ble_eq_true rfl) dX2_readSign_26 ⟨Nat.zero_le _, Nat.zero_le _⟩ (fun H locs hP hD hS => ?_)
      show W p9 l e9 (eR 1 22) s9 m9 a9 b9 t9 c9 H locs 0 0 Q (F0 m9 29 ls [])
      refine lv_aload_n hx hb dX2_readSign_29 rfl (lv_at hl 0 rfl) ?_
      refine va_get (D := D) (ci := 2) (v := .ref (a 4)) (C := RX2) (T := TX2) (N := 8) hx hb hts iX2 hown hK hP 0 rfl rfl 1 (Nat.le_of_ble_eq_true rfl) (hts (.fieldLink RX2 20 "BentPins$Pins" "outs" "LBentPins$Row;") (List.mem_of_getElem? (i := 2) rfl)) (fun _ h9 => h9) rfl dX2_readSign_30 ?_
      refine lv_iload_n hx hb dX2_readSign_33 rfl (lv_at hl 1 rfl) ?_
      refine lv_iload_n hx hb dX2_readSign_34 rfl (lv_at hl 2 rfl) ?_
      refine lv_bipush (v := 46) hx hb dX2_readSign_35 (by decide) ?_
      refine lv_icmp_ne (tgt := 44) hx hb dX2_readSign_37 (by decide) (fun c_3 => ?_) (fun c_3 => ?_)
      · refine lv_iconst (v := 0) hx hb dX2_readSign_44 (by decide) ?_
        refine ej_V (As := [.int (nI k), .int 0]) (rest := []) (w' := pinW cI a (upd (P_be t) k 0, upd (P_ou t) k 0, P_bl t, P_si t, P_vi t, P_ti t, P_ri t, P_bb t)) S hK hN hA hP hD hS (c_X4_put l D tys cI ht0 (a 4) (a 5) 35 (P_ou t) k 0 (by omega) (by omega)) (cwV 2 hts gX2_readSign_X4_put rfl rfl rfl hdv_X4_put ⟨Nat.le_of_ble_eq_true rfl, Nat.le_of_ble_eq_true rfl⟩) [3, 4] rfl rfl rfl rfl 3 4 rfl rfl rfl rfl hl.1 (Nat.le_of_ble_eq_true rfl) dX2_readSign_45 ⟨Nat.zero_le _, Nat.zero_le _⟩ (fun H locs hP hD hS => ?_)
        show W p9 l e9 (eR 1 22) s9 m9 a9 b9 t9 c9 H locs 0 0 Q (F0 m9 48 ls [])
        refine lv_aload_n hx hb dX2_readSign_48 rfl (lv_at hl 0 rfl) ?_
        refine va_get (D := D) (ci := 2) (v := .ref (a 6)) (C := RX2) (T := TX2) (N := 8) hx hb hts iX2 hown hK hP 0 rfl rfl 2 (Nat.le_of_ble_eq_true rfl) (hts (.fieldLink RX2 23 "BentPins$Pins" "bells" "LBentPins$Row;") (List.mem_of_getElem? (i := 3) rfl)) (fun _ h9 => h9) rfl dX2_readSign_49 ?_
        refine lv_iload_n hx hb dX2_readSign_52 rfl (lv_at hl 1 rfl) ?_
        refine lv_iload_n hx hb dX2_readSign_53 rfl (lv_at hl 2 rfl) ?_
        refine lv_bipush (v := 111) hx hb dX2_readSign_54 (by decide) ?_
        refine lv_icmp_ne (tgt := 63) hx hb dX2_readSign_56 (by decide) (fun c_4 => ?_) (fun c_4 => ?_)
        · refine lv_iconst (v := 0) hx hb dX2_readSign_63 (by decide) ?_
          refine ej_V (As := [.int (nI k), .int 0]) (rest := []) (w' := pinW cI a (upd (P_be t) k 0, upd (P_ou t) k 0, upd (P_bl t) k 0, P_si t, P_vi t, P_ti t, P_ri t, P_bb t)) S hK hN hA hP hD hS (c_X4_put l D tys cI ht0 (a 6) (a 7) 35 (P_bl t) k 0 (by omega) (by omega)) (cwV 2 hts gX2_readSign_X4_put rfl rfl rfl hdv_X4_put ⟨Nat.le_of_ble_eq_true rfl, Nat.le_of_ble_eq_true rfl⟩) [5, 6] rfl rfl rfl rfl 5 4 rfl rfl rfl rfl hl.1 (Nat.le_of_ble_eq_true rfl) dX2_readSign_64 ⟨Nat.zero_le _, Nat.zero_le _⟩ (fun H locs hP hD hS => ?_)
          show W p9 l e9 (eR 1 22) s9 m9 a9 b9 t9 c9 H locs 0 0 Q (F0 m9 67 ls [])
          refine lv_aload_n hx hb dX2_readSign_67 rfl (lv_at hl 0 rfl) ?_
          refine va_get (D := D) (ci := 2) (v := .ref (a 8)) (C := RX2) (T := TX2) (N := 8) hx hb hts iX2 hown hK hP 0 rfl rfl 3 (Nat.le_of_ble_eq_true rfl) (hts (.fieldLink RX2 26 "BentPins$Pins" "sides" "LBentPins$Row;") (List.mem_of_getElem? (i := 4) rfl)) (fun _ h9 => h9) rfl dX2_readSign_68 ?_
          refine lv_iload_n hx hb dX2_readSign_71 rfl (lv_at hl 1 rfl) ?_
          refine lv_iconst (v := 0) hx hb dX2_readSign_72 (by decide) ?_
          refine ej_V (As := [.int (nI k), .int 0]) (rest := []) (w' := pinW cI a (upd (P_be t) k 0, upd (P_ou t) k 0, upd (P_bl t) k 0, upd (P_si t) k 0, P_vi t, P_ti t, P_ri t, P_bb t)) S hK hN hA hP hD hS (c_X4_put l D tys cI ht0 (a 8) (a 9) 35 (P_si t) k 0 (by omega) (by omega)) (cwV 2 hts gX2_readSign_X4_put rfl rfl rfl hdv_X4_put ⟨Nat.le_of_ble_eq_true rfl, Nat.le_of_ble_eq_true rfl⟩) [7, 8] rfl rfl rfl rfl 7 4 rfl rfl rfl rfl hl.1 (Nat.le_of_ble_eq_true rfl) dX2_readSign_73 ⟨Nat.zero_le _, Nat.zero_le _⟩ (fun H locs hP hD hS => ?_)
          show W p9 l e9 (eR 1 22) s9 m9 a9 b9 t9 c9 H locs 0 0 Q (F0 m9 76 ls [])
          exact hQ _ _ _ _ (pinW cI a (upd (P_be t) k 0, upd (P_ou t) k 0, upd (P_bl t) k 0, upd (P_si t) k 0, P_vi t, P_ti t, P_ri t, P_bb t)) dX2_readSign_76 (by first | rfl | exact congrArg (pinW cI a) (by first | rfl | (simp only [readT, c_1, c_2, c_3, c_4, if_true, if_false, ite_true, ite_false, not_true_eq_false, not_false_eq_true, and_true, true_and, and_false, false_and, and_self, true_or, or_true, or_false, false_or, reduceIte]; done) | simp [readT, c_1, c_2, c_3, c_4])) hP hS
        · refine lv_iconst (v := 1) hx hb dX2_readSign_59 (by decide) ?_
          refine lv_goto (tgt := 64) hx hb dX2_readSign_60 (by decide) ?_
          refine ej_V (As := [.int (nI k), .int 1]) (rest := []) (w' := pinW cI a (upd (P_be t) k 0, upd (P_ou t) k 0, upd (P_bl t) k 1, P_si t, P_vi t, P_ti t, P_ri t, P_bb t)) S hK hN hA hP hD hS (c_X4_put l D tys cI ht0 (a 6) (a 7) 35 (P_bl t) k 1 (by omega) (by omega)) (cwV 2 hts gX2_readSign_X4_put rfl rfl rfl hdv_X4_put ⟨Nat.le_of_ble_eq_true rfl, Nat.le_of_ble_eq_true rfl⟩) [5, 6] rfl rfl rfl rfl 5 4 rfl rfl rfl rfl hl.1 (Nat.le_of_ble_eq_true rfl) dX2_readSign_64 ⟨Nat.zero_le _, Nat.zero_le _⟩ (fun H locs hP hD hS => ?_)
          show W p9 l e9 (eR 1 22) s9 m9 a9 b9 t9 c9 H locs 0 0 Q (F0 m9 67 ls [])
          refine lv_aload_n hx hb dX2_readSign_67 rfl (lv_at hl 0 rfl) ?_
          refine va_get (D := D) (ci := 2) (v := .ref (a 8)) (C := RX2) (T := TX2) (N := 8) hx hb hts iX2 hown hK hP 0 rfl rfl 3 (Nat.le_of_ble_eq_true rfl) (hts (.fieldLink RX2 26 "BentPins$Pins" "sides" "LBentPins$Row;") (List.mem_of_getElem? (i := 4) rfl)) (fun _ h9 => h9) rfl dX2_readSign_68 ?_
          refine lv_iload_n hx hb dX2_readSign_71 rfl (lv_at hl 1 rfl) ?_
          refine lv_iconst (v := 0) hx hb dX2_readSign_72 (by decide) ?_
          refine ej_V (As := [.int (nI k), .int 0]) (rest := []) (w' := pinW cI a (upd (P_be t) k 0, upd (P_ou t) k 0, upd (P_bl t) k 1, upd (P_si t) k 0, P_vi t, P_ti t, P_ri t, P_bb t)) S hK hN hA hP hD hS (c_X4_put l D tys cI ht0 (a 8) (a 9) 35 (P_si t) k 0 (by omega) (by omega)) (cwV 2 hts gX2_readSign_X4_put rfl rfl rfl hdv_X4_put ⟨Nat.le_of_ble_eq_true rfl, Nat.le_of_ble_eq_true rfl⟩) [7, 8] rfl rfl rfl rfl 7 4 rfl rfl rfl rfl hl.1 (Nat.le_of_ble_eq_true rfl) dX2_readSign_73 ⟨Nat.zero_le _, Nat.zero_le _⟩ (fun H locs hP hD hS => ?_)
          show W p9 l e9 (eR 1 22) s9 m9 a9 b9 t9 c9 H locs 0 0 Q (F0 m9 76 ls [])
          exact hQ _ _ _ _ (pinW cI a (upd (P_be t) k 0, upd (P_ou t) k 0, upd (P_bl t) k 1, upd (P_si t) k 0, P_vi t, P_ti t, P_ri t, P_bb t)) dX2_readSign_76 (by first | rfl | exact congrArg (pinW cI a) (by first | rfl | (simp only [readT, c_1, c_2, c_3, c_4, if_true, if_false, ite_true, ite_false, not_true_eq_false, not_false_eq_true, and_true, true_and, and_false, false_and, and_self, true_or, or_true, or_false, false_or, reduceIte]; done) | simp [readT, c_1, c_2, c_3, c_4])) hP hS
      · refine lv_iconst (v := 1) hx hb dX2_readSign_40 (by decide) ?_
        refine lv_goto (tgt := 45) hx hb dX2_readSign_41 (by decide) ?_
        refine ej_V (As := [.int (nI k), .int 1]) (rest := []) (w' := pinW cI a (upd (P_be t) k 0, upd (P_ou t) k 1, P_bl t, P_si t, P_vi t, P_ti t, P_ri t, P_bb t)) S hK hN hA hP hD hS (c_X4_put l D tys cI ht0 (a 4) (a 5) 35 (P_ou t) k 1 (by omega) (by omega)) (cwV 2 hts gX2_readSign_X4_put rfl rfl rfl hdv_X4_put ⟨Nat.le_of_ble_eq_true rfl, Nat.le_of_ble_eq_true rfl⟩) [3, 4] rfl rfl rfl rfl 3 4 rfl rfl rfl rfl hl.1 (Nat.le_of_ble_eq_true rfl) dX2_readSign_45 ⟨Nat.zero_le _, Nat.zero_le _⟩ (fun H locs hP hD hS => ?_)
        show W p9 l e9 (eR 1 22) s9 m9 a9 b9 t9 c9 H locs 0 0 Q (F0 m9 48 ls [])
        refine lv_aload_n hx hb dX2_readSign_48 rfl (lv_at hl 0 rfl) ?_
        refine va_get (D := D) (ci := 2) (v := .ref (a 6)) (C := RX2) (T := TX2) (N := 8) hx hb hts iX2 hown hK hP 0 rfl rfl 2 (Nat.le_of_ble_eq_true rfl) (hts (.fieldLink RX2 23 "BentPins$Pins" "bells" "LBentPins$Row;") (List.mem_of_getElem? (i := 3) rfl)) (fun _ h9 => h9) rfl dX2_readSign_49 ?_
        refine lv_iload_n hx hb dX2_readSign_52 rfl (lv_at hl 1 rfl) ?_
        refine lv_iload_n hx hb dX2_readSign_53 rfl (lv_at hl 2 rfl) ?_
        refine lv_bipush (v := 111) hx hb dX2_readSign_54 (by decide) ?_
        refine lv_icmp_ne (tgt := 63) hx hb dX2_readSign_56 (by decide) (fun _ => ?_) (fun h9 => absurd h9 (show ¬ c = 111 from by rw [c_3]; decide))
        refine lv_iconst (v := 0) hx hb dX2_readSign_63 (by decide) ?_
        refine ej_V (As := [.int (nI k), .int 0]) (rest := []) (w' := pinW cI a (upd (P_be t) k 0, upd (P_ou t) k 1, upd (P_bl t) k 0, P_si t, P_vi t, P_ti t, P_ri t, P_bb t)) S hK hN hA hP hD hS (c_X4_put l D tys cI ht0 (a 6) (a 7) 35 (P_bl t) k 0 (by omega) (by omega)) (cwV 2 hts gX2_readSign_X4_put rfl rfl rfl hdv_X4_put ⟨Nat.le_of_ble_eq_true rfl, Nat.le_of_ble_eq_true rfl⟩) [5, 6] rfl rfl rfl rfl 5 4 rfl rfl rfl rfl hl.1 (Nat.le_of_ble_eq_true rfl) dX2_readSign_64 ⟨Nat.zero_le _, Nat.zero_le _⟩ (fun H locs hP hD hS => ?_)
        show W p9 l e9 (eR 1 22) s9 m9 a9 b9 t9 c9 H locs 0 0 Q (F0 m9 67 ls [])
        refine lv_aload_n hx hb dX2_readSign_67 rfl (lv_at hl 0 rfl) ?_
        refine va_get (D := D) (ci := 2) (v := .ref (a 8)) (C := RX2) (T := TX2) (N := 8) hx hb hts iX2 hown hK hP 0 rfl rfl 3 (Nat.le_of_ble_eq_true rfl) (hts (.fieldLink RX2 26 "BentPins$Pins" "sides" "LBentPins$Row;") (List.mem_of_getElem? (i := 4) rfl)) (fun _ h9 => h9) rfl dX2_readSign_68 ?_
        refine lv_iload_n hx hb dX2_readSign_71 rfl (lv_at hl 1 rfl) ?_
        refine lv_iconst (v := 0) hx hb dX2_readSign_72 (by decide) ?_
        refine ej_V (As := [.int (nI k), .int 0]) (rest := []) (w' := pinW cI a (upd (P_be t) k 0, upd (P_ou t) k 1, upd (P_bl t) k 0, upd (P_si t) k 0, P_vi t, P_ti t, P_ri t, P_bb t)) S hK hN hA hP hD hS (c_X4_put l D tys cI ht0 (a 8) (a 9) 35 (P_si t) k 0 (by omega) (by omega)) (cwV 2 hts gX2_readSign_X4_put rfl rfl rfl hdv_X4_put ⟨Nat.le_of_ble_eq_true rfl, Nat.le_of_ble_eq_true rfl⟩) [7, 8] rfl rfl rfl rfl 7 4 rfl rfl rfl rfl hl.1 (Nat.le_of_ble_eq_true rfl) dX2_readSign_73 ⟨Nat.zero_le _, Nat.zero_le _⟩ (fun H locs hP hD hS => ?_)
        show W p9 l e9 (eR 1 22) s9 m9 a9 b9 t9 c9 H locs 0 0 Q (F0 m9 76 ls [])
        exact hQ _ _ _ _ (pinW cI a (upd (P_be t) k 0, upd (P_ou t) k 1, upd (P_bl t) k 0, upd (P_si t) k 0, P_vi t, P_ti t, P_ri t, P_bb t)) dX2_readSign_76 (by first | rfl | exact congrArg (pinW cI a) (by first | rfl | (simp only [readT, c_1, c_2, c_3, if_true, if_false, ite_true, ite_false, not_true_eq_false, not_false_eq_true, and_true, true_and, and_false, false_and, and_self, true_or, or_true, or_false, false_or, reduceIte]; done) | simp [readT, c_1, c_2, c_3])) hP hS
    · refine lv_iconst (v := 1) hx hb dX2_readSign_21 (by decide) ?_
      refine lv_goto (tgt := 26) hx hb dX2_readSign_22 (by decide) ?_
      refine ej_V (As := [.int (nI k), .int 1]) (rest := []) (w' := pinW cI a (upd (P_be t) k 1, P_ou t, P_bl t, P_si t, P_vi t, P_ti t, P_ri t, P_bb t)) S hK hN hA hP hD hS (c_X4_put l D tys cI ht0 (a 2) (a 3) 35 (P_be t) k 1 (by omega) (by omega)) (cwV 2 hts gX2_readSign_X4_put rfl rfl rfl hdv_X4_put ⟨Nat.le_of_ble_eq_true rfl, Nat.le_of_ble_eq_true rfl⟩) [1, 2] rfl rfl rfl rfl 1 4 rfl rfl rfl rfl hl.1 (Nat.le_of_ble_eq_true rfl) dX2_readSign_26 ⟨Nat.zero_le _, Nat.zero_le _⟩ (fun H locs hP hD hS => ?_)
      show W p9 l e9 (eR 1 22) s9 m9 a9 b9 t9 c9 H locs 0 0 Q (F0 m9 29 ls [])
      refine lv_aload_n hx hb dX2_readSign_29 rfl (lv_at hl 0 rfl) ?_
      refine va_get (D := D) (ci := 2) (v := .ref (a 4)) (C := RX2) (T := TX2) (N := 8) hx hb hts iX2 hown hK hP 0 rfl rfl 1 (Nat.le_of_ble_eq_true rfl) (hts (.fieldLink RX2 20 "BentPins$Pins" "outs" "LBentPins$Row;") (List.mem_of_getElem? (i := 2) rfl)) (fun _ h9 => h9) rfl dX2_readSign_30 ?_
      refine lv_iload_n hx hb dX2_readSign_33 rfl (lv_at hl 1 rfl) ?_
      refine lv_iload_n hx hb dX2_readSign_34 rfl (lv_at hl 2 rfl) ?_
      refine lv_bipush (v := 46) hx hb dX2_readSign_35 (by decide) ?_
      refine lv_icmp_ne (tgt := 44) hx hb dX2_readSign_37 (by decide) (fun _ => ?_) (fun h9 => absurd h9 (show ¬ c = 46 from by rw [c_2]; decide))
      refine lv_iconst (v := 0) hx hb dX2_readSign_44 (by decide) ?_
      refine ej_V (As := [.int (nI k), .int 0]) (rest := []) (w' := pinW cI a (upd (P_be t) k 1, upd (P_ou t) k 0, P_bl t, P_si t, P_vi t, P_ti t, P_ri t, P_bb t)) S hK hN hA hP hD hS (c_X4_put l D tys cI ht0 (a 4) (a 5) 35 (P_ou t) k 0 (by omega) (by omega)) (cwV 2 hts gX2_readSign_X4_put rfl rfl rfl hdv_X4_put ⟨Nat.le_of_ble_eq_true rfl, Nat.le_of_ble_eq_true rfl⟩) [3, 4] rfl rfl rfl rfl 3 4 rfl rfl rfl rfl hl.1 (Nat.le_of_ble_eq_true rfl) dX2_readSign_45 ⟨Nat.zero_le _, Nat.zero_le _⟩ (fun H locs hP hD hS => ?_)
      show W p9 l e9 (eR 1 22) s9 m9 a9 b9 t9 c9 H locs 0 0 Q (F0 m9 48 ls [])
      refine lv_aload_n hx hb dX2_readSign_48 rfl (lv_at hl 0 rfl) ?_
      refine va_get (D := D) (ci := 2) (v := .ref (a 6)) (C := RX2) (T := TX2) (N := 8) hx hb hts iX2 hown hK hP 0 rfl rfl 2 (Nat.le_of_ble_eq_true rfl) (hts (.fieldLink RX2 23 "BentPins$Pins" "bells" "LBentPins$Row;") (List.mem_of_getElem? (i := 3) rfl)) (fun _ h9 => h9) rfl dX2_readSign_49 ?_
      refine lv_iload_n hx hb dX2_readSign_52 rfl (lv_at hl 1 rfl) ?_
      refine lv_iload_n hx hb dX2_readSign_53 rfl (lv_at hl 2 rfl) ?_
      refine lv_bipush (v := 111) hx hb dX2_readSign_54 (by decide) ?_
      refine lv_icmp_ne (tgt := 63) hx hb dX2_readSign_56 (by decide) (fun _ => ?_) (fun h9 => absurd h9 (show ¬ c = 111 from by rw [c_2]; decide))
      refine lv_iconst (v := 0) hx hb dX2_readSign_63 (by decide) ?_
      refine ej_V (As := [.int (nI k), .int 0]) (rest := []) (w' := pinW cI a (upd (P_be t) k 1, upd (P_ou t) k 0, upd (P_bl t) k 0, P_si t, P_vi t, P_ti t, P_ri t, P_bb t)) S hK hN hA hP hD hS (c_X4_put l D tys cI ht0 (a 6) (a 7) 35 (P_bl t) k 0 (by omega) (by omega)) (cwV 2 hts gX2_readSign_X4_put rfl rfl rfl hdv_X4_put ⟨Nat.le_of_ble_eq_true rfl, Nat.le_of_ble_eq_true rfl⟩) [5, 6] rfl rfl rfl rfl 5 4 rfl rfl rfl rfl hl.1 (Nat.le_of_ble_eq_true rfl) dX2_readSign_64 ⟨Nat.zero_le _, Nat.zero_le _⟩ (fun H locs hP hD hS => ?_)
      show W p9 l e9 (eR 1 22) s9 m9 a9 b9 t9 c9 H locs 0 0 Q (F0 m9 67 ls [])
      refine lv_aload_n hx hb dX2_readSign_67 rfl (lv_at hl 0 rfl) ?_
      refine va_get (D := D) (ci := 2) (v := .ref (a 8)) (C := RX2) (T := TX2) (N := 8) hx hb hts iX2 hown hK hP 0 rfl rfl 3 (Nat.le_of_ble_eq_true rfl) (hts (.fieldLink RX2 26 "BentPins$Pins" "sides" "LBentPins$Row;") (List.mem_of_getElem? (i := 4) rfl)) (fun _ h9 => h9) rfl dX2_readSign_68 ?_
      refine lv_iload_n hx hb dX2_readSign_71 rfl (lv_at hl 1 rfl) ?_
      refine lv_iconst (v := 0) hx hb dX2_readSign_72 (by decide) ?_
      refine ej_V (As := [.int (nI k), .int 0]) (rest := []) (w' := pinW cI a (upd (P_be t) k 1, upd (P_ou t) k 0, upd (P_bl t) k 0, upd (P_si t) k 0, P_vi t, P_ti t, P_ri t, P_bb t)) S hK hN hA hP hD hS (c_X4_put l D tys cI ht0 (a 8) (a 9) 35 (P_si t) k 0 (by omega) (by omega)) (cwV 2 hts gX2_readSign_X4_put rfl rfl rfl hdv_X4_put ⟨Nat.le_of_ble_eq_true rfl, Nat.le_of_ble_eq_true rfl⟩) [7, 8] rfl rfl rfl rfl 7 4 rfl rfl rfl rfl hl.1 (Nat.le_of_ble_eq_true rfl) dX2_readSign_73 ⟨Nat.zero_le _, Nat.zero_le _⟩ (fun H locs hP hD hS => ?_)
      show W p9 l e9 (eR 1 22) s9 m9 a9 b9 t9 c9 H locs 0 0 Q (F0 m9 76 ls [])
      exact hQ _ _ _ _ (pinW cI a (upd (P_be t) k 1, upd (P_ou t) k 0, upd (P_bl t) k 0, upd (P_si t) k 0, P_vi t, P_ti t, P_ri t, P_bb t)) dX2_readSign_76 (by first | rfl | exact congrArg (pinW cI a) (by first | rfl | (simp only [readT, c_1, c_2, if_true, if_false, ite_true, ite_false, not_true_eq_false, not_false_eq_true, and_true, true_and, and_false, false_and, and_self, true_or, or_true, or_false, false_or, reduceIte]; done) | simp [readT, c_1, c_2])) hP hS
  · refine lv_iconst (v := (-1)) hx hb dX2_readSign_11 (by decide) ?_
    refine lv_goto (tgt := 26) hx hb dX2_readSign_12 (by decide) ?_
    refine ej_V (As := [.int (nI k), .int (-1)]) (rest := []) (w' := pinW cI a (upd (P_be t) k (-1), P_ou t, P_bl t, P_si t, P_vi t, P_ti t, P_ri t, P_bb t)) S hK hN hA hP hD hS (c_X4_put l D tys cI ht0 (a 2) (a 3) 35 (P_be t) k (-1) (by omega) (by omega)) (cwV 2 hts gX2_readSign_X4_put rfl rfl rfl hdv_X4_put ⟨Nat.le_of_ble_eq_true rfl, Nat.le_of_ble_eq_true rfl⟩) [1, 2] rfl rfl rfl rfl 1 4 rfl rfl rfl rfl hl.1 (Nat.le_of_ble_eq_true rfl) dX2_readSign_26 ⟨Nat.zero_le _, Nat.zero_le _⟩ (fun H locs hP hD hS => ?_)
    show W p9 l e9 (eR 1 22) s9 m9 a9 b9 t9 c9 H locs 0 0 Q (F0 m9 29 ls [])
    refine lv_aload_n hx hb dX2_readSign_29 rfl (lv_at hl 0 rfl) ?_
    refine va_get (D := D) (ci := 2) (v := .ref (a 4)) (C := RX2) (T := TX2) (N := 8) hx hb hts iX2 hown hK hP 0 rfl rfl 1 (Nat.le_of_ble_eq_true rfl) (hts (.fieldLink RX2 20 "BentPins$Pins" "outs" "LBentPins$Row;") (List.mem_of_getElem? (i := 2) rfl)) (fun _ h9 => h9) rfl dX2_readSign_30 ?_
    refine lv_iload_n hx hb dX2_readSign_33 rfl (lv_at hl 1 rfl) ?_
    refine lv_iload_n hx hb dX2_readSign_34 rfl (lv_at hl 2 rfl) ?_
    refine lv_bipush (v := 46) hx hb dX2_readSign_35 (by decide) ?_
    refine lv_icmp_ne (tgt := 44) hx hb dX2_readSign_37 (by decide) (fun _ => ?_) (fun h9 => absurd h9 (show ¬ c = 46 from by rw [c_1]; decide))
    refine lv_iconst (v := 0) hx hb dX2_readSign_44 (by decide) ?_
    refine ej_V (As := [.int (nI k), .int 0]) (rest := []) (w' := pinW cI a (upd (P_be t) k (-1), upd (P_ou t) k 0, P_bl t, P_si t, P_vi t, P_ti t, P_ri t, P_bb t)) S hK hN hA hP hD hS (c_X4_put l D tys cI ht0 (a 4) (a 5) 35 (P_ou t) k 0 (by omega) (by omega)) (cwV 2 hts gX2_readSign_X4_put rfl rfl rfl hdv_X4_put ⟨Nat.le_of_ble_eq_true rfl, Nat.le_of_ble_eq_true rfl⟩) [3, 4] rfl rfl rfl rfl 3 4 rfl rfl rfl rfl hl.1 (Nat.le_of_ble_eq_true rfl) dX2_readSign_45 ⟨Nat.zero_le _, Nat.zero_le _⟩ (fun H locs hP hD hS => ?_)
    show W p9 l e9 (eR 1 22) s9 m9 a9 b9 t9 c9 H locs 0 0 Q (F0 m9 48 ls [])
    refine lv_aload_n hx hb dX2_readSign_48 rfl (lv_at hl 0 rfl) ?_
    refine va_get (D := D) (ci := 2) (v := .ref (a 6)) (C := RX2) (T := TX2) (N := 8) hx hb hts iX2 hown hK hP 0 rfl rfl 2 (Nat.le_of_ble_eq_true rfl) (hts (.fieldLink RX2 23 "BentPins$Pins" "bells" "LBentPins$Row;") (List.mem_of_getElem? (i := 3) rfl)) (fun _ h9 => h9) rfl dX2_readSign_49 ?_
    refine lv_iload_n hx hb dX2_readSign_52 rfl (lv_at hl 1 rfl) ?_
    refine lv_iload_n hx hb dX2_readSign_53 rfl (lv_at hl 2 rfl) ?_
    refine lv_bipush (v := 111) hx hb dX2_readSign_54 (by decide) ?_
    refine lv_icmp_ne (tgt := 63) hx hb dX2_readSign_56 (by decide) (fun _ => ?_) (fun h9 => absurd h9 (show ¬ c = 111 from by rw [c_1]; decide))
    refine lv_iconst (v := 0) hx hb dX2_readSign_63 (by decide) ?_
    refine ej_V (As := [.int (nI k), .int 0]) (rest := []) (w' := pinW cI a (upd (P_be t) k (-1), upd (P_ou t) k 0, upd (P_bl t) k 0, P_si t, P_vi t, P_ti t, P_ri t, P_bb t)) S hK hN hA hP hD hS (c_X4_put l D tys cI ht0 (a 6) (a 7) 35 (P_bl t) k 0 (by omega) (by omega)) (cwV 2 hts gX2_readSign_X4_put rfl rfl rfl hdv_X4_put ⟨Nat.le_of_ble_eq_true rfl, Nat.le_of_ble_eq_true rfl⟩) [5, 6] rfl rfl rfl rfl 5 4 rfl rfl rfl rfl hl.1 (Nat.le_of_ble_eq_true rfl) dX2_readSign_64 ⟨Nat.zero_le _, Nat.zero_le _⟩ (fun H locs hP hD hS => ?_)
    show W p9 l e9 (eR 1 22) s9 m9 a9 b9 t9 c9 H locs 0 0 Q (F0 m9 67 ls [])
    refine lv_aload_n hx hb dX2_readSign_67 rfl (lv_at hl 0 rfl) ?_
    refine va_get (D := D) (ci := 2) (v := .ref (a 8)) (C := RX2) (T := TX2) (N := 8) hx hb hts iX2 hown hK hP 0 rfl rfl 3 (Nat.le_of_ble_eq_true rfl) (hts (.fieldLink RX2 26 "BentPins$Pins" "sides" "LBentPins$Row;") (List.mem_of_getElem? (i := 4) rfl)) (fun _ h9 => h9) rfl dX2_readSign_68 ?_
    refine lv_iload_n hx hb dX2_readSign_71 rfl (lv_at hl 1 rfl) ?_
    refine lv_iconst (v := 0) hx hb dX2_readSign_72 (by decide) ?_
    refine ej_V (As := [.int (nI k), .int 0]) (rest := []) (w' := pinW cI a (upd (P_be t) k (-1), upd (P_ou t) k 0, upd (P_bl t) k 0, upd (P_si t) k 0, P_vi t, P_ti t, P_ri t, P_bb t)) S hK hN hA hP hD hS (c_X4_put l D tys cI ht0 (a 8) (a 9) 35 (P_si t) k 0 (by omega) (by omega)) (cwV 2 hts gX2_readSign_X4_put rfl rfl rfl hdv_X4_put ⟨Nat.le_of_ble_eq_true rfl, Nat.le_of_ble_eq_true rfl⟩) [7, 8] rfl rfl rfl rfl 7 4 rfl rfl rfl rfl hl.1 (Nat.le_of_ble_eq_true rfl) dX2_readSign_73 ⟨Nat.zero_le _, Nat.zero_le _⟩ (fun H locs hP hD hS => ?_)
    show W p9 l e9 (eR 1 22) s9 m9 a9 b9 t9 c9 H locs 0 0 Q (F0 m9 76 ls [])
    exact hQ _ _ _ _ (pinW cI a (upd (P_be t) k (-1), upd (P_ou t) k 0, upd (P_bl t) k 0, upd (P_si t) k 0, P_vi t, P_ti t, P_ri t, P_bb t)) dX2_readSign_76 (by first | rfl | exact congrArg (pinW cI a) (by first | rfl | (simp only [readT, c_1, if_true, if_false, ite_true, ite_false, not_true_eq_false, not_false_eq_true, and_true, true_and, and_false, false_and, and_self, true_or, or_true, or_false, false_or, reduceIte]; done) | simp [readT, c_1])) hP hS
set_option maxHeartbeats 4000000 in
set_option maxRecDepth 100000 in
theorem c_X2_signOf (l : Launch) (D : va_G) (tys : eT) (cI : ClassId) (ht0 : tys[0]? = some (cI, .int)) (a : Nat → Nat) (t : Pn) (k : Nat) (hk : k < 35) : fc l D tys yX2_signOf wsX2_signOf (eR 2 42) [.ref (a 1), .int (nI k)] (pinW cI a t) (some (.int (signI t k))) (pinW cI a t) := by
  refine fc_int cX2_signOf 3 (by decide +kernel) rfl (rfl) (Nat.le_of_ble_eq_true rfl) ?_
  intro p9 e9 s9 m9 a9 b9 t9 c9 H0 A Q ls S hK hN hA hP hD hS hl hQ
  have S : CallFix p9 m9 c9 cX2_signOf 3 s9 a9 wsX2_signOf RX2 := S
  obtain ⟨hx, hb, hml, hown, hts⟩ := id S
  have iX2 : ∀ w ∈ wsX20, w ∈ wsX2_signOf := fun w h => List.mem_cons_of_mem _ (List.mem_append_left _ (List.mem_append_right _ (h)))
  have hP : va_P D vwCl (pinW cI a t) H0 := hP
  have hl : lv_has ls 3 [(0, .ref (a 1)), (1, .int (nI k))] := hl
  refine lv_aload_n hx hb dX2_signOf_0 rfl (lv_at hl 0 rfl) ?_
  refine lv_iload_n hx hb dX2_signOf_1 rfl (lv_at hl 1 rfl) ?_
  refine ej_V (As := [.int (nI k)]) (rest := []) (w' := pinW cI a t) S hK hN hA hP hD hS (c_X2_isOut l D tys cI ht0 a t k (by omega)) (cwV 1 hts gX2_signOf_X2_isOut rfl rfl rfl hdv_X2_isOut ⟨Nat.le_of_ble_eq_true rfl, Nat.le_of_ble_eq_true rfl⟩) [0, 1, 2, 3, 4, 5, 6, 7, 8, 9, 10] rfl rfl rfl rfl 0 2 rfl rfl rfl rfl hl.1 (Nat.le_of_ble_eq_true rfl) dX2_signOf_2 ⟨Nat.zero_le _, Nat.zero_le _⟩ (fun H locs hP hD hS => ?_)
  show W p9 l e9 (eR 2 42) s9 m9 a9 b9 t9 c9 H locs 0 0 Q (F0 m9 5 ls (.int (if ¬ P_ou t k = 0 then 1 else 0) :: []))
  refine lv_if_eq (tgt := 11) hx hb dX2_signOf_5 (by decide) (fun c_1 => ?_) (fun c_1 => ?_)
  · have b_1 : P_ou t k = 0 := Decidable.not_not.mp (ej_b0 c_1)
    refine lv_aload_n hx hb dX2_signOf_11 rfl (lv_at hl 0 rfl) ?_
    refine va_get (D := D) (ci := 2) (v := .ref (a 6)) (C := RX2) (T := TX2) (N := 8) hx hb hts iX2 hown hK hP 0 rfl rfl 2 (Nat.le_of_ble_eq_true rfl) (hts (.fieldLink RX2 23 "BentPins$Pins" "bells" "LBentPins$Row;") (List.mem_of_getElem? (i := 1) rfl)) (fun _ h9 => h9) rfl dX2_signOf_12 ?_
    refine lv_iload_n hx hb dX2_signOf_15 rfl (lv_at hl 1 rfl) ?_
    refine ej_V (As := [.int (nI k)]) (rest := []) (w' := pinW cI a t) S hK hN hA hP hD hS (c_X4_at l D tys cI ht0 (a 6) (a 7) 35 (P_bl t) k (by omega) (by omega)) (cwV 1 hts gX2_signOf_X4_at rfl rfl rfl hdv_X4_at ⟨Nat.le_of_ble_eq_true rfl, Nat.le_of_ble_eq_true rfl⟩) [5, 6] rfl rfl rfl rfl 5 4 rfl rfl rfl rfl hl.1 (Nat.le_of_ble_eq_true rfl) dX2_signOf_16 ⟨Nat.zero_le _, Nat.zero_le _⟩ (fun H locs hP hD hS => ?_)
    show W p9 l e9 (eR 2 42) s9 m9 a9 b9 t9 c9 H locs 0 0 Q (F0 m9 19 ls (.int ((P_bl t) k) :: []))
    refine lv_if_eq (tgt := 25) hx hb dX2_signOf_19 (by decide) (fun c_2 => ?_) (fun c_2 => ?_)
    · refine lv_aload_n hx hb dX2_signOf_25 rfl (lv_at hl 0 rfl) ?_
      refine va_get (D := D) (ci := 2) (v := .ref (a 2)) (C := RX2) (T := TX2) (N := 8) hx hb hts iX2 hown hK hP 0 rfl rfl 0 (Nat.le_of_ble_eq_true rfl) (hts (.fieldLink RX2 14 "BentPins$Pins" "bends" "LBentPins$Row;") (List.mem_of_getElem? (i := 2) rfl)) (fun _ h9 => h9) rfl dX2_signOf_26 ?_
      refine lv_iload_n hx hb dX2_signOf_29 rfl (lv_at hl 1 rfl) ?_
      refine ej_V (As := [.int (nI k)]) (rest := []) (w' := pinW cI a t) S hK hN hA hP hD hS (c_X4_at l D tys cI ht0 (a 2) (a 3) 35 (P_be t) k (by omega) (by omega)) (cwV 1 hts gX2_signOf_X4_at rfl rfl rfl hdv_X4_at ⟨Nat.le_of_ble_eq_true rfl, Nat.le_of_ble_eq_true rfl⟩) [1, 2] rfl rfl rfl rfl 1 4 rfl rfl rfl rfl hl.1 (Nat.le_of_ble_eq_true rfl) dX2_signOf_30 ⟨Nat.zero_le _, Nat.zero_le _⟩ (fun H locs hP hD hS => ?_)
      show W p9 l e9 (eR 2 42) s9 m9 a9 b9 t9 c9 H locs 0 0 Q (F0 m9 33 ls (.int ((P_be t) k) :: []))
      refine lv_istore_n (lv' := [(2, .int ((P_be t) k)), (0, .ref (a 1)), (1, .int (nI k))]) hx hb dX2_signOf_33 rfl hl (by decide) rfl (fun ls hl => ?_)
      refine lv_iload_n hx hb dX2_signOf_34 rfl (lv_at hl 0 rfl) ?_
      refine lv_if_ge (tgt := 43) hx hb dX2_signOf_35 (by decide) (fun c_3 => ?_) (fun c_3 => ?_)
      · have d_3 := ej_xa c_3
        refine lv_iload_n hx hb dX2_signOf_43 rfl (lv_at hl 0 rfl) ?_
        refine lv_if_le (tgt := 52) hx hb dX2_signOf_44 (by decide) (fun c_4 => ?_) (fun c_4 => ?_)
        · have d_4 := ej_xa c_4
          refine lv_bipush (v := 124) hx hb dX2_signOf_52 (by decide) ?_
          exact hQ _ _ _ _ 124 (pinW cI a t) dX2_signOf_54 (by first | rfl | (simp only [signI, b_1, c_2, c_3, d_3, c_4, d_4, if_true, if_false, ite_true, ite_false, not_true_eq_false, not_false_eq_true, and_true, true_and, and_false, false_and, and_self, true_or, or_true, or_false, false_or, reduceIte]; done) | simp [signI, b_1, c_2, c_3, d_3, c_4, d_4]) rfl hP hS
        · have d_4 := ej_xd c_4
          refine lv_bipush (v := 62) hx hb dX2_signOf_47 (by decide) ?_
          refine lv_goto (tgt := 54) hx hb dX2_signOf_49 (by decide) ?_
          exact hQ _ _ _ _ 62 (pinW cI a t) dX2_signOf_54 (by first | rfl | (simp only [signI, b_1, c_2, c_3, d_3, c_4, d_4, if_true, if_false, ite_true, ite_false, not_true_eq_false, not_false_eq_true, and_true, true_and, and_false, false_and, and_self, true_or, or_true, or_false, false_or, reduceIte]; done) | simp [signI, b_1, c_2, c_3, d_3, c_4, d_4]) rfl hP hS
      · have d_3 := ej_xd c_3
        refine lv_bipush (v := 60) hx hb dX2_signOf_38 (by decide) ?_
        refine lv_goto (tgt := 54) hx hb dX2_signOf_40 (by decide) ?_
        exact hQ _ _ _ _ 60 (pinW cI a t) dX2_signOf_54 (by first | rfl | (simp only [signI, b_1, c_2, c_3, d_3, if_true, if_false, ite_true, ite_false, not_true_eq_false, not_false_eq_true, and_true, true_and, and_false, false_and, and_self, true_or, or_true, or_false, false_or, reduceIte]; done) | simp [signI, b_1, c_2, c_3, d_3]) rfl hP hS
    · refine lv_bipush (v := 111) hx hb dX2_signOf_22 (by decide) ?_
      exact hQ _ _ _ _ 111 (pinW cI a t) dX2_signOf_24 (by first | rfl | (simp only [signI, b_1, c_2, if_true, if_false, ite_true, ite_false, not_true_eq_false, not_false_eq_true, and_true, true_and, and_false, false_and, and_self, true_or, or_true, or_false, false_or, reduceIte]; done) | simp [signI, b_1, c_2]) rfl hP hS
  · have b_1 : ¬ P_ou t k = 0 := ej_b1 c_1
    refine lv_bipush (v := 46) hx hb dX2_signOf_8 (by decide) ?_
    exact hQ _ _ _ _ 46 (pinW cI a t) dX2_signOf_10 (by first | rfl | (simp only [signI, b_1, if_true, if_false, ite_true, ite_false, not_true_eq_false, not_false_eq_true, and_true, true_and, and_false, false_and, and_self, true_or, or_true, or_false, false_or, reduceIte]; done) | simp [signI, b_1]) rfl hP hS
set_option maxHeartbeats 4000000 in
set_option maxRecDepth 100000 in
theorem c_X2_copyFrom (l : Launch) (D : va_G) (tys : eT) (cI : ClassId) (ht0 : tys[0]? = some (cI, .int)) (a b : Nat → Nat) (t u : Pn)  : fc l D tys yX2_copyFrom wsX2_copyFrom (eR 2 85) [.ref (a 1), .ref (b 1)] (pinW cI a t ++ (pinW cI b u)) none (pinW cI a u ++ (pinW cI b u)) := by
  refine fc_void cX2_copyFrom 2 (by decide +kernel) rfl (Nat.le_of_ble_eq_true rfl) ?_
  intro p9 e9 s9 m9 a9 b9 t9 c9 H0 A Q ls S hK hN hA hP hD hS hl hQ
  have S : CallFix p9 m9 c9 cX2_copyFrom 2 s9 a9 wsX2_copyFrom RX2 := S
  obtain ⟨hx, hb, hml, hown, hts⟩ := id S
  have iX2 : ∀ w ∈ wsX20, w ∈ wsX2_copyFrom := fun w h => List.mem_cons_of_mem _ (List.mem_append_left _ (List.mem_append_right _ (h)))
  have hP : va_P D vwCl (pinW cI a t ++ (pinW cI b u)) H0 := hP
  have hl : lv_has ls 2 [(0, .ref (a 1)), (1, .ref (b 1))] := hl
  refine lv_aload_n hx hb dX2_copyFrom_0 rfl (lv_at hl 0 rfl) ?_
  refine va_get (D := D) (ci := 2) (v := .ref (a 2)) (C := RX2) (T := TX2) (N := 8) hx hb hts iX2 hown hK hP 0 rfl rfl 0 (Nat.le_of_ble_eq_true rfl) (hts (.fieldLink RX2 14 "BentPins$Pins" "bends" "LBentPins$Row;") (List.mem_of_getElem? (i := 1) rfl)) (fun _ h9 => h9) rfl dX2_copyFrom_1 ?_
  refine lv_aload_n hx hb dX2_copyFrom_4 rfl (lv_at hl 1 rfl) ?_
  refine va_get (D := D) (ci := 2) (v := .ref (b 2)) (C := RX2) (T := TX2) (N := 8) hx hb hts iX2 hown hK hP 11 rfl rfl 0 (Nat.le_of_ble_eq_true rfl) (hts (.fieldLink RX2 14 "BentPins$Pins" "bends" "LBentPins$Row;") (List.mem_of_getElem? (i := 1) rfl)) (fun _ h9 => h9) rfl dX2_copyFrom_5 ?_
  refine ej_V (As := [.ref (b 2)]) (rest := []) (w' := pinW cI a ((P_be u), P_ou t, P_bl t, P_si t, P_vi t, P_ti t, P_ri t, P_bb t) ++ (pinW cI b ((P_be u), P_ou u, P_bl u, P_si u, P_vi u, P_ti u, P_ri u, P_bb u))) S hK hN hA hP hD hS (c_X4_copyFrom l D tys cI ht0 (a 2) (a 3) (b 2) (b 3) 35 (P_be t) (P_be u) (by omega)) (cwV 1 hts gX2_copyFrom_X4_copyFrom rfl rfl rfl hdv_X4_copyFrom ⟨Nat.le_of_ble_eq_true rfl, Nat.le_of_ble_eq_true rfl⟩) [1, 2, 12, 13] rfl rfl rfl rfl 1 4 rfl rfl rfl rfl hl.1 (Nat.le_of_ble_eq_true rfl) dX2_copyFrom_8 ⟨Nat.zero_le _, Nat.zero_le _⟩ (fun H locs hP hD hS => ?_)
  show W p9 l e9 (eR 2 85) s9 m9 a9 b9 t9 c9 H locs 0 0 Q (F0 m9 11 ls [])
  refine lv_aload_n hx hb dX2_copyFrom_11 rfl (lv_at hl 0 rfl) ?_
  refine va_get (D := D) (ci := 2) (v := .ref (a 4)) (C := RX2) (T := TX2) (N := 8) hx hb hts iX2 hown hK hP 0 rfl rfl 1 (Nat.le_of_ble_eq_true rfl) (hts (.fieldLink RX2 20 "BentPins$Pins" "outs" "LBentPins$Row;") (List.mem_of_getElem? (i := 2) rfl)) (fun _ h9 => h9) rfl dX2_copyFrom_12 ?_
  refine lv_aload_n hx hb dX2_copyFrom_15 rfl (lv_at hl 1 rfl) ?_
  refine va_get (D := D) (ci := 2) (v := .ref (b 4)) (C := RX2) (T := TX2) (N := 8) hx hb hts iX2 hown hK hP 11 rfl rfl 1 (Nat.le_of_ble_eq_true rfl) (hts (.fieldLink RX2 20 "BentPins$Pins" "outs" "LBentPins$Row;") (List.mem_of_getElem? (i := 2) rfl)) (fun _ h9 => h9) rfl dX2_copyFrom_16 ?_
  refine ej_V (As := [.ref (b 4)]) (rest := []) (w' := pinW cI a ((P_be u), (P_ou u), P_bl t, P_si t, P_vi t, P_ti t, P_ri t, P_bb t) ++ (pinW cI b ((P_be u), (P_ou u), P_bl u, P_si u, P_vi u, P_ti u, P_ri u, P_bb u))) S hK hN hA hP hD hS (c_X4_copyFrom l D tys cI ht0 (a 4) (a 5) (b 4) (b 5) 35 (P_ou t) (P_ou u) (by omega)) (cwV 1 hts gX2_copyFrom_X4_copyFrom rfl rfl rfl hdv_X4_copyFrom ⟨Nat.le_of_ble_eq_true rfl, Nat.le_of_ble_eq_true rfl⟩) [3, 4, 14, 15] rfl rfl rfl rfl 3 4 rfl rfl rfl rfl hl.1 (Nat.le_of_ble_eq_true rfl) dX2_copyFrom_19 ⟨Nat.zero_le _, Nat.zero_le _⟩ (fun H locs hP hD hS => ?_)
  show W p9 l e9 (eR 2 85) s9 m9 a9 b9 t9 c9 H locs 0 0 Q (F0 m9 22 ls [])
  refine lv_aload_n hx hb dX2_copyFrom_22 rfl (lv_at hl 0 rfl) ?_
  refine va_get (D := D) (ci := 2) (v := .ref (a 6)) (C := RX2) (T := TX2) (N := 8) hx hb hts iX2 hown hK hP 0 rfl rfl 2 (Nat.le_of_ble_eq_true rfl) (hts (.fieldLink RX2 23 "BentPins$Pins" "bells" "LBentPins$Row;") (List.mem_of_getElem? (i := 3) rfl)) (fun _ h9 => h9) rfl dX2_copyFrom_23 ?_
  refine lv_aload_n hx hb dX2_copyFrom_26 rfl (lv_at hl 1 rfl) ?_
  refine va_get (D := D) (ci := 2) (v := .ref (b 6)) (C := RX2) (T := TX2) (N := 8) hx hb hts iX2 hown hK hP 11 rfl rfl 2 (Nat.le_of_ble_eq_true rfl) (hts (.fieldLink RX2 23 "BentPins$Pins" "bells" "LBentPins$Row;") (List.mem_of_getElem? (i := 3) rfl)) (fun _ h9 => h9) rfl dX2_copyFrom_27 ?_
  refine ej_V (As := [.ref (b 6)]) (rest := []) (w' := pinW cI a ((P_be u), (P_ou u), (P_bl u), P_si t, P_vi t, P_ti t, P_ri t, P_bb t) ++ (pinW cI b ((P_be u), (P_ou u), (P_bl u), P_si u, P_vi u, P_ti u, P_ri u, P_bb u))) S hK hN hA hP hD hS (c_X4_copyFrom l D tys cI ht0 (a 6) (a 7) (b 6) (b 7) 35 (P_bl t) (P_bl u) (by omega)) (cwV 1 hts gX2_copyFrom_X4_copyFrom rfl rfl rfl hdv_X4_copyFrom ⟨Nat.le_of_ble_eq_true rfl, Nat.le_of_ble_eq_true rfl⟩) [5, 6, 16, 17] rfl rfl rfl rfl 5 4 rfl rfl rfl rfl hl.1 (Nat.le_of_ble_eq_true rfl) dX2_copyFrom_30 ⟨Nat.zero_le _, Nat.zero_le _⟩ (fun H locs hP hD hS => ?_)
  show W p9 l e9 (eR 2 85) s9 m9 a9 b9 t9 c9 H locs 0 0 Q (F0 m9 33 ls [])
  refine lv_aload_n hx hb dX2_copyFrom_33 rfl (lv_at hl 0 rfl) ?_
  refine va_get (D := D) (ci := 2) (v := .ref (a 8)) (C := RX2) (T := TX2) (N := 8) hx hb hts iX2 hown hK hP 0 rfl rfl 3 (Nat.le_of_ble_eq_true rfl) (hts (.fieldLink RX2 26 "BentPins$Pins" "sides" "LBentPins$Row;") (List.mem_of_getElem? (i := 4) rfl)) (fun _ h9 => h9) rfl dX2_copyFrom_34 ?_
  refine lv_aload_n hx hb dX2_copyFrom_37 rfl (lv_at hl 1 rfl) ?_
  refine va_get (D := D) (ci := 2) (v := .ref (b 8)) (C := RX2) (T := TX2) (N := 8) hx hb hts iX2 hown hK hP 11 rfl rfl 3 (Nat.le_of_ble_eq_true rfl) (hts (.fieldLink RX2 26 "BentPins$Pins" "sides" "LBentPins$Row;") (List.mem_of_getElem? (i := 4) rfl)) (fun _ h9 => h9) rfl dX2_copyFrom_38 ?_
  refine ej_V (As := [.ref (b 8)]) (rest := []) (w' := pinW cI a ((P_be u), (P_ou u), (P_bl u), (P_si u), P_vi t, P_ti t, P_ri t, P_bb t) ++ (pinW cI b ((P_be u), (P_ou u), (P_bl u), (P_si u), P_vi u, P_ti u, P_ri u, P_bb u))) S hK hN hA hP hD hS (c_X4_copyFrom l D tys cI ht0 (a 8) (a 9) (b 8) (b 9) 35 (P_si t) (P_si u) (by omega)) (cwV 1 hts gX2_copyFrom_X4_copyFrom rfl rfl rfl hdv_X4_copyFrom ⟨Nat.le_of_ble_eq_true rfl, Nat.le_of_ble_eq_true rfl⟩) [7, 8, 18, 19] rfl rfl rfl rfl 7 4 rfl rfl rfl rfl hl.1 (Nat.le_of_ble_eq_true rfl) dX2_copyFrom_41 ⟨Nat.zero_le _, Nat.zero_le _⟩ (fun H locs hP hD hS => ?_)
  show W p9 l e9 (eR 2 85) s9 m9 a9 b9 t9 c9 H locs 0 0 Q (F0 m9 44 ls [])
  refine lv_aload_n hx hb dX2_copyFrom_44 rfl (lv_at hl 0 rfl) ?_
  refine va_get (D := D) (ci := 2) (v := .ref (a 10)) (C := RX2) (T := TX2) (N := 8) hx hb hts iX2 hown hK hP 0 rfl rfl 4 (Nat.le_of_ble_eq_true rfl) (hts (.fieldLink RX2 29 "BentPins$Pins" "visits" "LBentPins$Row;") (List.mem_of_getElem? (i := 5) rfl)) (fun _ h9 => h9) rfl dX2_copyFrom_45 ?_
  refine lv_aload_n hx hb dX2_copyFrom_48 rfl (lv_at hl 1 rfl) ?_
  refine va_get (D := D) (ci := 2) (v := .ref (b 10)) (C := RX2) (T := TX2) (N := 8) hx hb hts iX2 hown hK hP 11 rfl rfl 4 (Nat.le_of_ble_eq_true rfl) (hts (.fieldLink RX2 29 "BentPins$Pins" "visits" "LBentPins$Row;") (List.mem_of_getElem? (i := 5) rfl)) (fun _ h9 => h9) rfl dX2_copyFrom_49 ?_
  refine ej_V (As := [.ref (b 10)]) (rest := []) (w' := pinW cI a ((P_be u), (P_ou u), (P_bl u), (P_si u), (P_vi u), P_ti t, P_ri t, P_bb t) ++ (pinW cI b ((P_be u), (P_ou u), (P_bl u), (P_si u), (P_vi u), P_ti u, P_ri u, P_bb u))) S hK hN hA hP hD hS (c_X4_copyFrom l D tys cI ht0 (a 10) (a 11) (b 10) (b 11) 35 (P_vi t) (P_vi u) (by omega)) (cwV 1 hts gX2_copyFrom_X4_copyFrom rfl rfl rfl hdv_X4_copyFrom ⟨Nat.le_of_ble_eq_true rfl, Nat.le_of_ble_eq_true rfl⟩) [9, 10, 20, 21] rfl rfl rfl rfl 9 4 rfl rfl rfl rfl hl.1 (Nat.le_of_ble_eq_true rfl) dX2_copyFrom_52 ⟨Nat.zero_le _, Nat.zero_le _⟩ (fun H locs hP hD hS => ?_)
  show W p9 l e9 (eR 2 85) s9 m9 a9 b9 t9 c9 H locs 0 0 Q (F0 m9 55 ls [])
  refine lv_aload_n hx hb dX2_copyFrom_55 rfl (lv_at hl 0 rfl) ?_
  refine lv_aload_n hx hb dX2_copyFrom_56 rfl (lv_at hl 1 rfl) ?_
  refine va_get (D := D) (ci := 2) (v := .int (P_ti u)) (C := RX2) (T := TX2) (N := 8) hx hb hts iX2 hown hK hP 11 rfl rfl 5 (Nat.le_of_ble_eq_true rfl) (hts (.fieldLink RX2 32 "BentPins$Pins" "tilt" "I") (List.mem_of_getElem? (i := 6) rfl)) (fun _ h9 => h9) rfl dX2_copyFrom_57 ?_
  refine va_put (D := D) (ci := 2) (v := .int (P_ti u)) (ty := .int) (C := RX2) (T := TX2) (N := 8) hx hb hts iX2 tyX2 tyX2_ok nmX2 hown hK hP hD hS 0 rfl rfl 5 (Nat.le_of_ble_eq_true rfl) (hts (.fieldLink RX2 32 "BentPins$Pins" "tilt" "I") (List.mem_of_getElem? (i := 6) rfl)) (fun _ h9 => h9) rfl (by decide +kernel) rfl rfl (Nat.le_of_ble_eq_true rfl) dX2_copyFrom_60 (fun H locs hP hD hS => ?_)
  have hP : va_P D vwCl (pinW cI a ((P_be u), (P_ou u), (P_bl u), (P_si u), (P_vi u), P_ti u, P_ri t, P_bb t) ++ (pinW cI b ((P_be u), (P_ou u), (P_bl u), (P_si u), (P_vi u), P_ti u, P_ri u, P_bb u))) H := hP
  have hD : va_D A (pinW cI a ((P_be u), (P_ou u), (P_bl u), (P_si u), (P_vi u), P_ti u, P_ri t, P_bb t) ++ (pinW cI b ((P_be u), (P_ou u), (P_bl u), (P_si u), (P_vi u), P_ti u, P_ri u, P_bb u))) := hD
  refine lv_aload_n hx hb dX2_copyFrom_63 rfl (lv_at hl 0 rfl) ?_
  refine lv_aload_n hx hb dX2_copyFrom_64 rfl (lv_at hl 1 rfl) ?_
  refine va_get (D := D) (ci := 2) (v := .int (P_ri u)) (C := RX2) (T := TX2) (N := 8) hx hb hts iX2 hown hK hP 11 rfl rfl 6 (Nat.le_of_ble_eq_true rfl) (hts (.fieldLink RX2 36 "BentPins$Pins" "rings" "I") (List.mem_of_getElem? (i := 7) rfl)) (fun _ h9 => h9) rfl dX2_copyFrom_65 ?_
  refine va_put (D := D) (ci := 2) (v := .int (P_ri u)) (ty := .int) (C := RX2) (T := TX2) (N := 8) hx hb hts iX2 tyX2 tyX2_ok nmX2 hown hK hP hD hS 0 rfl rfl 6 (Nat.le_of_ble_eq_true rfl) (hts (.fieldLink RX2 36 "BentPins$Pins" "rings" "I") (List.mem_of_getElem? (i := 7) rfl)) (fun _ h9 => h9) rfl (by decide +kernel) rfl rfl (Nat.le_of_ble_eq_true rfl) dX2_copyFrom_68 (fun H locs hP hD hS => ?_)
  have hP : va_P D vwCl (pinW cI a ((P_be u), (P_ou u), (P_bl u), (P_si u), (P_vi u), P_ti u, P_ri u, P_bb t) ++ (pinW cI b ((P_be u), (P_ou u), (P_bl u), (P_si u), (P_vi u), P_ti u, P_ri u, P_bb u))) H := hP
  have hD : va_D A (pinW cI a ((P_be u), (P_ou u), (P_bl u), (P_si u), (P_vi u), P_ti u, P_ri u, P_bb t) ++ (pinW cI b ((P_be u), (P_ou u), (P_bl u), (P_si u), (P_vi u), P_ti u, P_ri u, P_bb u))) := hD
  refine lv_aload_n hx hb dX2_copyFrom_71 rfl (lv_at hl 0 rfl) ?_
  refine lv_aload_n hx hb dX2_copyFrom_72 rfl (lv_at hl 1 rfl) ?_
  refine va_get (D := D) (ci := 2) (v := .int (P_bb u)) (C := RX2) (T := TX2) (N := 8) hx hb hts iX2 hown hK hP 11 rfl rfl 7 (Nat.le_of_ble_eq_true rfl) (hts (.fieldLink RX2 39 "BentPins$Pins" "bendsByBalls" "I") (List.mem_of_getElem? (i := 8) rfl)) (fun _ h9 => h9) rfl dX2_copyFrom_73 ?_
  refine va_put (D := D) (ci := 2) (v := .int (P_bb u)) (ty := .int) (C := RX2) (T := TX2) (N := 8) hx hb hts iX2 tyX2 tyX2_ok nmX2 hown hK hP hD hS 0 rfl rfl 7 (Nat.le_of_ble_eq_true rfl) (hts (.fieldLink RX2 39 "BentPins$Pins" "bendsByBalls" "I") (List.mem_of_getElem? (i := 8) rfl)) (fun _ h9 => h9) rfl (by decide +kernel) rfl rfl (Nat.le_of_ble_eq_true rfl) dX2_copyFrom_76 (fun H locs hP hD hS => ?_)
  have hP : va_P D vwCl (pinW cI a ((P_be u), (P_ou u), (P_bl u), (P_si u), (P_vi u), P_ti u, P_ri u, P_bb u) ++ (pinW cI b ((P_be u), (P_ou u), (P_bl u), (P_si u), (P_vi u), P_ti u, P_ri u, P_bb u))) H := hP
  have hD : va_D A (pinW cI a ((P_be u), (P_ou u), (P_bl u), (P_si u), (P_vi u), P_ti u, P_ri u, P_bb u) ++ (pinW cI b ((P_be u), (P_ou u), (P_bl u), (P_si u), (P_vi u), P_ti u, P_ri u, P_bb u))) := hD
  exact hQ _ _ _ _ (pinW cI a ((P_be u), (P_ou u), (P_bl u), (P_si u), (P_vi u), P_ti u, P_ri u, P_bb u) ++ (pinW cI b ((P_be u), (P_ou u), (P_bl u), (P_si u), (P_vi u), P_ti u, P_ri u, P_bb u))) dX2_copyFrom_79 rfl hP hS
