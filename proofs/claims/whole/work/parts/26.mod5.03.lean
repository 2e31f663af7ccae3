set_option maxHeartbeats 4000000 in
set_option maxRecDepth 100000 in
theorem c_X7_takes (l : Launch) (D : va_G) (tys : eT) (cI : ClassId) (ht0 : tys[0]? = some (cI, .int)) (b : Nat → Nat) (kn le sp : Nat) (ik be fo op ha st : Int32) (h : Int32) (fo1 : Int32) (e_fo1 : fo1 = if ¬ fo = 0 ∧ ¬ h = (0 : Int32) then 1 else 0) (sp1 : Nat) (e_sp1 : sp1 = if ¬ fo = 0 ∧ ¬ h = (0 : Int32) then sp + 1 else sp) (hsp : sp ≤ 100) : fc l D tys yX7_takes wsX7_takes (eR 0 0) [.ref (b 0), .int h] ([((b 0), .inr (7, [.ref (b 1), .ref (b 2), .ref (b 3), .int (nI kn), .ref (b 4), .int ik, .ref (b 5), .int (nI le), .int be, .int (nI sp), .int fo, .int op, .int ha, .int st, .ref (b 6), .ref (b 7), .ref (b 8)]))]) none ([((b 0), .inr (7, [.ref (b 1), .ref (b 2), .ref (b 3), .int (nI kn), .ref (b 4), .int ik, .ref (b 5), .int (nI le), .int be, .int (nI sp1), .int fo1, .int op, .int ha, .int st, .ref (b 6), .ref (b 7), .ref (b 8)]))]) := by
  refine fc_void cX7_takes 2 (by decide +kernel) rfl (Nat.le_of_ble_eq_true rfl) ?_
  intro p9 e9 s9 m9 a9 b9 t9 c9 H0 A Q ls S hK hN hA hP hD hS hl hQ
  have S : CallFix p9 m9 c9 cX7_takes 2 s9 a9 wsX7_takes RX7 := S
  obtain ⟨hx, hb, hml, hown, hts⟩ := id S
  have iX7 : ∀ w ∈ wsX70, w ∈ wsX7_takes := fun w h => List.mem_cons_of_mem _ (List.mem_append_right _ (h))
  have hP : va_P D vwCl ([((b 0), .inr (7, [.ref (b 1), .ref (b 2), .ref (b 3), .int (nI kn), .ref (b 4), .int ik, .ref (b 5), .int (nI le), .int be, .int (nI sp), .int fo, .int op, .int ha, .int st, .ref (b 6), .ref (b 7), .ref (b 8)]))]) H0 := hP
  have hD : va_D A ([((b 0), .inr (7, [.ref (b 1), .ref (b 2), .ref (b 3), .int (nI kn), .ref (b 4), .int ik, .ref (b 5), .int (nI le), .int be, .int (nI sp), .int fo, .int op, .int ha, .int st, .ref (b 6), .ref (b 7), .ref (b 8)]))]) := hD
  have hl : lv_has ls 2 [(0, .ref (b 0)), (1, .int h)] := hl
  refine lv_aload_n hx hb dX7_takes_0 rfl (lv_at hl 0 rfl) ?_
  refine lv_aload_n hx hb dX7_takes_1 rfl (lv_at hl 0 rfl) ?_
  refine va_get (D := D) (ci := 7) (v := .int fo) (C := RX7) (T := TX7) (N := 17) hx hb hts iX7 hown hK hP 0 rfl rfl 10 (Nat.le_of_ble_eq_true rfl) (hts (.fieldLink RX7 114 "BentPinsModel" "isForm" "Z") (List.mem_of_getElem? (i := 1) rfl)) (fun _ h9 => h9) rfl dX7_takes_2 ?_
  refine lv_if_eq (tgt := 16) hx hb dX7_takes_5 (by decide) (fun c_1 => ?_) (fun c_1 => ?_)
  · refine lv_iconst (v := 0) hx hb dX7_takes_16 (by decide) ?_
    refine va_put (D := D) (ci := 7) (v := .int 0) (ty := .boolean) (C := RX7) (T := TX7) (N := 17) hx hb hts iX7 tyX7 tyX7_ok nmX7 hown hK hP hD hS 0 rfl rfl 10 (Nat.le_of_ble_eq_true rfl) (hts (.fieldLink RX7 114 "BentPinsModel" "isForm" "Z") (List.mem_of_getElem? (i := 1) rfl)) (fun _ h9 => h9) rfl (by decide +kernel) rfl rfl (Nat.le_of_ble_eq_true rfl) dX7_takes_17 (fun H locs hP hD hS => ?_)
    have hP : va_P D vwCl ([((b 0), .inr (7, [.ref (b 1), .ref (b 2), .ref (b 3), .int (nI kn), .ref (b 4), .int ik, .ref (b 5), .int (nI le), .int be, .int (nI sp), .int 0, .int op, .int ha, .int st, .ref (b 6), .ref (b 7), .ref (b 8)]))]) H := hP
    have hD : va_D A ([((b 0), .inr (7, [.ref (b 1), .ref (b 2), .ref (b 3), .int (nI kn), .ref (b 4), .int ik, .ref (b 5), .int (nI le), .int be, .int (nI sp), .int 0, .int op, .int ha, .int st, .ref (b 6), .ref (b 7), .ref (b 8)]))]) := hD
    refine lv_aload_n hx hb dX7_takes_20 rfl (lv_at hl 0 rfl) ?_
    refine lv_dup hx hb dX7_takes_21 rfl ?_
    refine va_get (D := D) (ci := 7) (v := .int (nI sp)) (C := RX7) (T := TX7) (N := 17) hx hb hts iX7 hown hK hP 0 rfl rfl 9 (Nat.le_of_ble_eq_true rfl) (hts (.fieldLink RX7 111 "BentPinsModel" "spot" "I") (List.mem_of_getElem? (i := 2) rfl)) (fun _ h9 => h9) rfl dX7_takes_22 ?_
    refine lv_aload_n hx hb dX7_takes_25 rfl (lv_at hl 0 rfl) ?_
    refine va_get (D := D) (ci := 7) (v := .int 0) (C := RX7) (T := TX7) (N := 17) hx hb hts iX7 hown hK hP 0 rfl rfl 10 (Nat.le_of_ble_eq_true rfl) (hts (.fieldLink RX7 114 "BentPinsModel" "isForm" "Z") (List.mem_of_getElem? (i := 1) rfl)) (fun _ h9 => h9) rfl dX7_takes_26 ?_
    refine lv_if_eq (tgt := 36) hx hb dX7_takes_29 (by decide) (fun _ => ?_) (fun h9 => absurd (show (0 : Int32) = 0 from by decide) h9)
    refine lv_iconst (v := 0) hx hb dX7_takes_36 (by decide) ?_
    refine lv_iadd hx hb dX7_takes_37 ?_
    refine ej_topi (show (nI sp) + 0 = nI (sp + 0) from nI_add sp 0) ?_
    refine va_put (D := D) (ci := 7) (v := .int (nI (sp + 0))) (ty := .int) (C := RX7) (T := TX7) (N := 17) hx hb hts iX7 tyX7 tyX7_ok nmX7 hown hK hP hD hS 0 rfl rfl 9 (Nat.le_of_ble_eq_true rfl) (hts (.fieldLink RX7 111 "BentPinsModel" "spot" "I") (List.mem_of_getElem? (i := 2) rfl)) (fun _ h9 => h9) rfl (by decide +kernel) rfl rfl (Nat.le_of_ble_eq_true rfl) dX7_takes_38 (fun H locs hP hD hS => ?_)
    have hP : va_P D vwCl ([((b 0), .inr (7, [.ref (b 1), .ref (b 2), .ref (b 3), .int (nI kn), .ref (b 4), .int ik, .ref (b 5), .int (nI le), .int be, .int (nI (sp + 0)), .int 0, .int op, .int ha, .int st, .ref (b 6), .ref (b 7), .ref (b 8)]))]) H := hP
    have hD : va_D A ([((b 0), .inr (7, [.ref (b 1), .ref (b 2), .ref (b 3), .int (nI kn), .ref (b 4), .int ik, .ref (b 5), .int (nI le), .int be, .int (nI (sp + 0)), .int 0, .int op, .int ha, .int st, .ref (b 6), .ref (b 7), .ref (b 8)]))]) := hD
    have f_fo1 : 0 = fo1 := by rw [e_fo1]; simp only [eq_true c_1, if_true, if_false, not_true_eq_false, not_false_eq_true, and_true, true_and, and_false, false_and, and_self, reduceIte, Nat.add_zero]
    have f_sp1 : (sp + 0) = sp1 := by rw [e_sp1]; simp only [eq_true c_1, if_true, if_false, not_true_eq_false, not_false_eq_true, and_true, true_and, and_false, false_and, and_self, reduceIte, Nat.add_zero]
    subst f_fo1
    subst f_sp1
    exact hQ _ _ _ _ ([((b 0), .inr (7, [.ref (b 1), .ref (b 2), .ref (b 3), .int (nI kn), .ref (b 4), .int ik, .ref (b 5), .int (nI le), .int be, .int (nI (sp + 0)), .int 0, .int op, .int ha, .int st, .ref (b 6), .ref (b 7), .ref (b 8)]))]) dX7_takes_41 rfl hP hS
  · refine lv_iload_n hx hb dX7_takes_8 rfl (lv_at hl 1 rfl) ?_
    refine lv_if_eq (tgt := 16) hx hb dX7_takes_9 (by decide) (fun c_2 => ?_) (fun c_2 => ?_)
    · refine lv_iconst (v := 0) hx hb dX7_takes_16 (by decide) ?_
      refine va_put (D := D) (ci := 7) (v := .int 0) (ty := .boolean) (C := RX7) (T := TX7) (N := 17) hx hb hts iX7 tyX7 tyX7_ok nmX7 hown hK hP hD hS 0 rfl rfl 10 (Nat.le_of_ble_eq_true rfl) (hts (.fieldLink RX7 114 "BentPinsModel" "isForm" "Z") (List.mem_of_getElem? (i := 1) rfl)) (fun _ h9 => h9) rfl (by decide +kernel) rfl rfl (Nat.le_of_ble_eq_true rfl) dX7_takes_17 (fun H locs hP hD hS => ?_)
      have hP : va_P D vwCl ([((b 0), .inr (7, [.ref (b 1), .ref (b 2), .ref (b 3), .int (nI kn), .ref (b 4), .int ik, .ref (b 5), .int (nI le), .int be, .int (nI sp), .int 0, .int op, .int ha, .int st, .ref (b 6), .ref (b 7), .ref (b 8)]))]) H := hP
      have hD : va_D A ([((b 0), .inr (7, [.ref (b 1), .ref (b 2), .ref (b 3), .int (nI kn), .ref (b 4), .int ik, .ref (b 5), .int (nI le), .int be, .int (nI sp), .int 0, .int op, .int ha, .int st, .ref (b 6), .ref (b 7), .ref (b 8)]))]) := hD
      refine lv_aload_n hx hb dX7_takes_20 rfl (lv_at hl 0 rfl) ?_
      refine lv_dup hx hb dX7_takes_21 rfl ?_
      refine va_get (D := D) (ci := 7) (v := .int (nI sp)) (C := RX7) (T := TX7) (N := 17) hx hb hts iX7 hown hK hP 0 rfl rfl 9 (Nat.le_of_ble_eq_true rfl) (hts (.fieldLink RX7 111 "BentPinsModel" "spot" "I") (List.mem_of_getElem? (i := 2) rfl)) (fun _ h9 => h9) rfl dX7_takes_22 ?_
      refine lv_aload_n hx hb dX7_takes_25 rfl (lv_at hl 0 rfl) ?_
      refine va_get (D := D) (ci := 7) (v := .int 0) (C := RX7) (T := TX7) (N := 17) hx hb hts iX7 hown hK hP 0 rfl rfl 10 (Nat.le_of_ble_eq_true rfl) (hts (.fieldLink RX7 114 "BentPinsModel" "isForm" "Z") (List.mem_of_getElem? (i := 1) rfl)) (fun _ h9 => h9) rfl dX7_takes_26 ?_
      refine lv_if_eq (tgt := 36) hx hb dX7_takes_29 (by decide) (fun _ => ?_) (fun h9 => absurd (show (0 : Int32) = 0 from by decide) h9)
      refine lv_iconst (v := 0) hx hb dX7_takes_36 (by decide) ?_
      refine lv_iadd hx hb dX7_takes_37 ?_
      refine ej_topi (show (nI sp) + 0 = nI (sp + 0) from nI_add sp 0) ?_
      refine va_put (D := D) (ci := 7) (v := .int (nI (sp + 0))) (ty := .int) (C := RX7) (T := TX7) (N := 17) hx hb hts iX7 tyX7 tyX7_ok nmX7 hown hK hP hD hS 0 rfl rfl 9 (Nat.le_of_ble_eq_true rfl) (hts (.fieldLink RX7 111 "BentPinsModel" "spot" "I") (List.mem_of_getElem? (i := 2) rfl)) (fun _ h9 => h9) rfl (by decide +kernel) rfl rfl (Nat.le_of_ble_eq_true rfl) dX7_takes_38 (fun H locs hP hD hS => ?_)
      have hP : va_P D vwCl ([((b 0), .inr (7, [.ref (b 1), .ref (b 2), .ref (b 3), .int (nI kn), .ref (b 4), .int ik, .ref (b 5), .int (nI le), .int be, .int (nI (sp + 0)), .int 0, .int op, .int ha, .int st, .ref (b 6), .ref (b 7), .ref (b 8)]))]) H := hP
      have hD : va_D A ([((b 0), .inr (7, [.ref (b 1), .ref (b 2), .ref (b 3), .int (nI kn), .ref (b 4), .int ik, .ref (b 5), .int (nI le), .int be, .int (nI (sp + 0)), .int 0, .int op, .int ha, .int st, .ref (b 6), .ref (b 7), .ref (b 8)]))]) := hD
      have f_fo1 : 0 = fo1 := by rw [e_fo1]; simp only [c_1, eq_true c_2, if_true, if_false, not_true_eq_false, not_false_eq_true, and_true, true_and, and_false, false_and, and_self, reduceIte, Nat.add_zero]
      have f_sp1 : (sp + 0) = sp1 := by rw [e_sp1]; simp only [c_1, eq_true c_2, if_true, if_false, not_true_eq_false, not_false_eq_true, and_true, true_and, and_false, false_and, and_self, reduceIte, Nat.add_zero]
      subst f_fo1
      subst f_sp1
      exact hQ _ _ _ _ ([((b 0), .inr (7, [.ref (b 1), .ref (b 2), .ref (b 3), .int (nI kn), .ref (b 4), .int ik, .ref (b 5), .int (nI le), .int be, .int (nI (sp + 0)), .int 0, .int op, .int ha, .int st, .ref (b 6), .ref (b 7), .ref (b 8)]))]) dX7_takes_41 rfl hP hS
    · refine lv_iconst (v := 1) hx hb dX7_takes_12 (by decide) ?_
      refine lv_goto (tgt := 17) hx hb dX7_takes_13 (by decide) ?_
      refine va_put (D := D) (ci := 7) (v := .int 1) (ty := .boolean) (C := RX7) (T := TX7) (N := 17) hx hb hts iX7 tyX7 tyX7_ok nmX7 hown hK hP hD hS 0 rfl rfl 10 (Nat.le_of_ble_eq_true rfl) (hts (.fieldLink RX7 114 "BentPinsModel" "isForm" "Z") (List.mem_of_getElem? (i := 1) rfl)) (fun _ h9 => h9) rfl (by decide +kernel) rfl rfl (Nat.le_of_ble_eq_true rfl) dX7_takes_17 (fun H locs hP hD hS => ?_)
      have hP : va_P D vwCl ([((b 0), .inr (7, [.ref (b 1), .ref (b 2), .ref (b 3), .int (nI kn), .ref (b 4), .int ik, .ref (b 5), .int (nI le), .int be, .int (nI sp), .int 1, .int op, .int ha, .int st, .ref (b 6), .ref (b 7), .ref (b 8)]))]) H := hP
      have hD : va_D A ([((b 0), .inr (7, [.ref (b 1), .ref (b 2), .ref (b 3), .int (nI kn), .ref (b 4), .int ik, .ref (b 5), .int (nI le), .int be, .int (nI sp), .int 1, .int op, .int ha, .int st, .ref (b 6), .ref (b 7), .ref (b 8)]))]) := hD
      refine lv_aload_n hx hb dX7_takes_20 rfl (lv_at hl 0 rfl) ?_
      refine lv_dup hx hb dX7_takes_21 rfl ?_
      refine va_get (D := D) (ci := 7) (v := .int (nI sp)) (C := RX7) (T := TX7) (N := 17) hx hb hts iX7 hown hK hP 0 rfl rfl 9 (Nat.le_of_ble_eq_true rfl) (hts (.fieldLink RX7 111 "BentPinsModel" "spot" "I") (List.mem_of_getElem? (i := 2) rfl)) (fun _ h9 => h9) rfl dX7_takes_22 ?_
      refine lv_aload_n hx hb dX7_takes_25 rfl (lv_at hl 0 rfl) ?_
      refine va_get (D := D) (ci := 7) (v := .int 1) (C := RX7) (T := TX7) (N := 17) hx hb hts iX7 hown hK hP 0 rfl rfl 10 (Nat.le_of_ble_eq_true rfl) (hts (.fieldLink RX7 114 "BentPinsModel" "isForm" "Z") (List.mem_of_getElem? (i := 1) rfl)) (fun _ h9 => h9) rfl dX7_takes_26 ?_
      refine lv_if_eq (tgt := 36) hx hb dX7_takes_29 (by decide) (fun h9 => absurd h9 (show ¬ (1 : Int32) = 0 from by decide)) (fun _ => ?_)
      refine lv_iconst (v := 1) hx hb dX7_takes_32 (by decide) ?_
      refine lv_goto (tgt := 37) hx hb dX7_takes_33 (by decide) ?_
      refine lv_iadd hx hb dX7_takes_37 ?_
      refine ej_topi (show (nI sp) + 1 = nI (sp + 1) from nI_add sp 1) ?_
      refine va_put (D := D) (ci := 7) (v := .int (nI (sp + 1))) (ty := .int) (C := RX7) (T := TX7) (N := 17) hx hb hts iX7 tyX7 tyX7_ok nmX7 hown hK hP hD hS 0 rfl rfl 9 (Nat.le_of_ble_eq_true rfl) (hts (.fieldLink RX7 111 "BentPinsModel" "spot" "I") (List.mem_of_getElem? (i := 2) rfl)) (fun _ h9 => h9) rfl (by decide +kernel) rfl rfl (Nat.le_of_ble_eq_true rfl) dX7_takes_38 (fun H locs hP hD hS => ?_)
      have hP : va_P D vwCl ([((b 0), .inr (7, [.ref (b 1), .ref (b 2), .ref (b 3), .int (nI kn), .ref (b 4), .int ik, .ref (b 5), .int (nI le), .int be, .int (nI (sp + 1)), .int 1, .int op, .int ha, .int st, .ref (b 6), .ref (b 7), .ref (b 8)]))]) H := hP
      have hD : va_D A ([((b 0), .inr (7, [.ref (b 1), .ref (b 2), .ref (b 3), .int (nI kn), .ref (b 4), .int ik, .ref (b 5), .int (nI le), .int be, .int (nI (sp + 1)), .int 1, .int op, .int ha, .int st, .ref (b 6), .ref (b 7), .ref (b 8)]))]) := hD
      have f_fo1 : 1 = fo1 := by rw [e_fo1]; simp only [c_1, c_2, if_true, if_false, not_true_eq_false, not_false_eq_true, and_true, true_and, and_false, false_and, and_self, reduceIte, Nat.add_zero]
      have f_sp1 : (sp + 1) = sp1 := by rw [e_sp1]; simp only [c_1, c_2, if_true, if_false, not_true_eq_false, not_false_eq_true, and_true, true_and, and_false, false_and, and_self, reduceIte, Nat.add_zero]
      subst f_fo1
      subst f_sp1
      exact hQ _ _ _ _ ([((b 0), .inr (7, [.ref (b 1), .ref (b 2), .ref (b 3), .int (nI kn), .ref (b 4), .int ik, .ref (b 5), .int (nI le), .int be, .int (nI (sp + 1)), .int 1, .int op, .int ha, .int st, .ref (b 6), .ref (b 7), .ref (b 8)]))]) dX7_takes_41 rfl hP hS
