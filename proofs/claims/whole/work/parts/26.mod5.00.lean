set_option maxHeartbeats 4000000 in
set_option maxRecDepth 100000 in
theorem c_X7_append (l : Launch) (D : va_G) (tys : eT) (cI : ClassId) (ht0 : tys[0]? = some (cI, .int)) (b : Nat → Nat) (kn le sp : Nat) (ik be fo op ha st : Int32) (f : Nat → Int32) (v : Int32) (q1 : Nat) (e_q1 : q1 = if ¬ v < 33 ∧ ¬ 126 < v then if le < 60 then le + 1 else le else le) (f1 : Nat → Int32) (e_f1 : f1 = if ¬ v < 33 ∧ ¬ 126 < v then if le < 60 then upd f le v else f else f) (r1 : Int32) (e_r1 : r1 = if ¬ v < 33 ∧ ¬ 126 < v then if le < 60 then nI (le + 1) else -3 else -1) (hq : le ≤ 60) : fc l D tys yX7_append wsX7_append (eR 1 22) [.ref (b 0), .int v] ([((b 0), .inr (7, [.ref (b 1), .ref (b 2), .ref (b 3), .int (nI kn), .ref (b 4), .int ik, .ref (b 5), .int (nI le), .int be, .int (nI sp), .int fo, .int op, .int ha, .int st, .ref (b 6), .ref (b 7), .ref (b 8)])), ((b 5), .inl (cI, 60, .inl f))]) (some (.int r1)) ([((b 0), .inr (7, [.ref (b 1), .ref (b 2), .ref (b 3), .int (nI kn), .ref (b 4), .int ik, .ref (b 5), .int (nI q1), .int be, .int (nI sp), .int fo, .int op, .int ha, .int st, .ref (b 6), .ref (b 7), .ref (b 8)])), ((b 5), .inl (cI, 60, .inl f1))]) := by
  refine fc_int cX7_append 2 (by decide +kernel) rfl (rfl) (Nat.le_of_ble_eq_true rfl) ?_
  intro p9 e9 s9 m9 a9 b9 t9 c9 H0 A Q ls S hK hN hA hP hD hS hl hQ
  have S : CallFix p9 m9 c9 cX7_append 2 s9 a9 wsX7_append RX7 := S
  obtain ⟨hx, hb, hml, hown, hts⟩ := id S
  have iX7 : ∀ w ∈ wsX70, w ∈ wsX7_append := fun w h => List.mem_cons_of_mem _ (List.mem_append_right _ (h))
  have hP : va_P D vwCl ([((b 0), .inr (7, [.ref (b 1), .ref (b 2), .ref (b 3), .int (nI kn), .ref (b 4), .int ik, .ref (b 5), .int (nI le), .int be, .int (nI sp), .int fo, .int op, .int ha, .int st, .ref (b 6), .ref (b 7), .ref (b 8)])), ((b 5), .inl (cI, 60, .inl f))]) H0 := hP
  have hD : va_D A ([((b 0), .inr (7, [.ref (b 1), .ref (b 2), .ref (b 3), .int (nI kn), .ref (b 4), .int ik, .ref (b 5), .int (nI le), .int be, .int (nI sp), .int fo, .int op, .int ha, .int st, .ref (b 6), .ref (b 7), .ref (b 8)])), ((b 5), .inl (cI, 60, .inl f))]) := hD
  have hl : lv_has ls 2 [(0, .ref (b 0)), (1, .int v)] := hl
  refine lv_iload_n hx hb dX7_append_0 rfl (lv_at hl 1 rfl) ?_
  refine lv_bipush (v := 33) hx hb dX7_append_1 (by decide) ?_
  refine lv_bipush (v := 126) hx hb dX7_append_3 (by decide) ?_
  refine ej_S (As := [.int v, .int 33, .int 126]) (rest := []) (w' := [((b 0), .inr (7, [.ref (b 1), .ref (b 2), .ref (b 3), .int (nI kn), .ref (b 4), .int ik, .ref (b 5), .int (nI le), .int be, .int (nI sp), .int fo, .int op, .int ha, .int st, .ref (b 6), .ref (b 7), .ref (b 8)])), ((b 5), .inl (cI, 60, .inl f))]) S hK hN hA hP hD hS (c_X7_in l D tys cI ht0 v 33 126) (va_cwS 3 hts gX7_append_X7_in rfl rfl rfl hds_X7_in ⟨Nat.le_of_ble_eq_true rfl, Nat.le_of_ble_eq_true rfl⟩) [] [] [] rfl (by decide +kernel) ⟨rfl, rfl⟩ rfl (by decide +kernel) rfl rfl hl.1 (Nat.le_of_ble_eq_true rfl) dX7_append_5 ⟨Nat.zero_le _, Nat.zero_le _⟩ (fun H locs hP hD hS => ?_)
  show W p9 l e9 (eR 1 22) s9 m9 a9 b9 t9 c9 H locs 0 0 Q (F0 m9 8 ls (.int (if ¬ v < 33 ∧ ¬ 126 < v then 1 else 0) :: []))
  refine lv_if_ne (tgt := 13) hx hb dX7_append_8 (by decide) (fun c_1 => ?_) (fun c_1 => ?_)
  · have b_1 : ¬ v < 33 ∧ ¬ 126 < v := ej_b1 c_1
    refine lv_aload_n hx hb dX7_append_13 rfl (lv_at hl 0 rfl) ?_
    refine va_get (D := D) (ci := 7) (v := .int (nI le)) (C := RX7) (T := TX7) (N := 17) hx hb hts iX7 hown hK hP 0 rfl rfl 7 (Nat.le_of_ble_eq_true rfl) (hts (.fieldLink RX7 108 "BentPinsModel" "length" "I") (List.mem_of_getElem? (i := 1) rfl)) (fun _ h9 => h9) rfl dX7_append_14 ?_
    refine lv_bipush (v := 60) hx hb dX7_append_17 (by decide) ?_
    refine lv_icmp_ne (tgt := 25) hx hb dX7_append_19 (by decide) (fun c_2 => ?_) (fun c_2 => ?_)
    · have n_2 : le ≠ 60 := ej_tne (a := le) (b := 60) (by omega) (by omega) c_2
      refine lv_aload_n hx hb dX7_append_25 rfl (lv_at hl 0 rfl) ?_
      refine va_get (D := D) (ci := 7) (v := .ref (b 5)) (C := RX7) (T := TX7) (N := 17) hx hb hts iX7 hown hK hP 0 rfl rfl 6 (Nat.le_of_ble_eq_true rfl) (hts (.fieldLink RX7 22 "BentPinsModel" "pad" "[I") (List.mem_of_getElem? (i := 2) rfl)) (fun _ h9 => h9) rfl dX7_append_26 ?_
      refine lv_aload_n hx hb dX7_append_29 rfl (lv_at hl 0 rfl) ?_
      refine va_get (D := D) (ci := 7) (v := .int (nI le)) (C := RX7) (T := TX7) (N := 17) hx hb hts iX7 hown hK hP 0 rfl rfl 7 (Nat.le_of_ble_eq_true rfl) (hts (.fieldLink RX7 108 "BentPinsModel" "length" "I") (List.mem_of_getElem? (i := 1) rfl)) (fun _ h9 => h9) rfl dX7_append_30 ?_
      refine lv_iload_n hx hb dX7_append_33 rfl (lv_at hl 1 rfl) ?_
      refine va_iast (i := nI le) hx hb hK hP hD hS 1 0 rfl ht0 (vp_in_nI (n := le) (N := 60) (by omega) (by omega)) dX7_append_34 (fun H locs hP hD hS => ?_)
      rw [show (nI le).toNatClampNeg = le from nI_clamp (by omega)] at hP hD
      have hP : va_P D vwCl ([((b 0), .inr (7, [.ref (b 1), .ref (b 2), .ref (b 3), .int (nI kn), .ref (b 4), .int ik, .ref (b 5), .int (nI le), .int be, .int (nI sp), .int fo, .int op, .int ha, .int st, .ref (b 6), .ref (b 7), .ref (b 8)])), ((b 5), .inl (cI, 60, .inl (upd f le v)))]) H := hP
      have hD : va_D A ([((b 0), .inr (7, [.ref (b 1), .ref (b 2), .ref (b 3), .int (nI kn), .ref (b 4), .int ik, .ref (b 5), .int (nI le), .int be, .int (nI sp), .int fo, .int op, .int ha, .int st, .ref (b 6), .ref (b 7), .ref (b 8)])), ((b 5), .inl (cI, 60, .inl (upd f le v)))]) := hD
      refine lv_aload_n hx hb dX7_append_35 rfl (lv_at hl 0 rfl) ?_
      refine lv_dup hx hb dX7_append_36 rfl ?_
      refine va_get (D := D) (ci := 7) (v := .int (nI le)) (C := RX7) (T := TX7) (N := 17) hx hb hts iX7 hown hK hP 0 rfl rfl 7 (Nat.le_of_ble_eq_true rfl) (hts (.fieldLink RX7 108 "BentPinsModel" "length" "I") (List.mem_of_getElem? (i := 1) rfl)) (fun _ h9 => h9) rfl dX7_append_37 ?_
      refine lv_iconst (v := 1) hx hb dX7_append_40 (by decide) ?_
      refine lv_iadd hx hb dX7_append_41 ?_
      refine ej_topi (show (nI le) + 1 = nI (le + 1) from nI_add le 1) ?_
      refine va_put (D := D) (ci := 7) (v := .int (nI (le + 1))) (ty := .int) (C := RX7) (T := TX7) (N := 17) hx hb hts iX7 tyX7 tyX7_ok nmX7 hown hK hP hD hS 0 rfl rfl 7 (Nat.le_of_ble_eq_true rfl) (hts (.fieldLink RX7 108 "BentPinsModel" "length" "I") (List.mem_of_getElem? (i := 1) rfl)) (fun _ h9 => h9) rfl (by decide +kernel) rfl rfl (Nat.le_of_ble_eq_true rfl) dX7_append_42 (fun H locs hP hD hS => ?_)
      have hP : va_P D vwCl ([((b 0), .inr (7, [.ref (b 1), .ref (b 2), .ref (b 3), .int (nI kn), .ref (b 4), .int ik, .ref (b 5), .int (nI (le + 1)), .int be, .int (nI sp), .int fo, .int op, .int ha, .int st, .ref (b 6), .ref (b 7), .ref (b 8)])), ((b 5), .inl (cI, 60, .inl (upd f le v)))]) H := hP
      have hD : va_D A ([((b 0), .inr (7, [.ref (b 1), .ref (b 2), .ref (b 3), .int (nI kn), .ref (b 4), .int ik, .ref (b 5), .int (nI (le + 1)), .int be, .int (nI sp), .int fo, .int op, .int ha, .int st, .ref (b 6), .ref (b 7), .ref (b 8)])), ((b 5), .inl (cI, 60, .inl (upd f le v)))]) := hD
      refine lv_aload_n hx hb dX7_append_45 rfl (lv_at hl 0 rfl) ?_
      refine va_get (D := D) (ci := 7) (v := .int (nI (le + 1))) (C := RX7) (T := TX7) (N := 17) hx hb hts iX7 hown hK hP 0 rfl rfl 7 (Nat.le_of_ble_eq_true rfl) (hts (.fieldLink RX7 108 "BentPinsModel" "length" "I") (List.mem_of_getElem? (i := 1) rfl)) (fun _ h9 => h9) rfl dX7_append_46 ?_
      have f_q1 : (le + 1) = q1 := by rw [e_q1]; first | (rw [if_pos (by assumption)]; first | rw [if_pos (by omega)] | rw [if_neg (by omega)]) | (rw [if_neg (by assumption)])
      have f_f1 : (upd f le v) = f1 := by rw [e_f1]; first | (rw [if_pos (by assumption)]; first | rw [if_pos (by omega)] | rw [if_neg (by omega)]) | (rw [if_neg (by assumption)])
      have f_r1 : (nI (le + 1)) = r1 := by rw [e_r1]; first | (rw [if_pos (by assumption)]; first | rw [if_pos (by omega)] | rw [if_neg (by omega)]) | (rw [if_neg (by assumption)])
      subst f_q1
      subst f_f1
      subst f_r1
      exact hQ _ _ _ _ (nI (le + 1)) ([((b 0), .inr (7, [.ref (b 1), .ref (b 2), .ref (b 3), .int (nI kn), .ref (b 4), .int ik, .ref (b 5), .int (nI (le + 1)), .int be, .int (nI sp), .int fo, .int op, .int ha, .int st, .ref (b 6), .ref (b 7), .ref (b 8)])), ((b 5), .inl (cI, 60, .inl (upd f le v)))]) dX7_append_49 rfl rfl hP hS
    · have n_2 : le = 60 := ej_teq (a := le) (b := 60) (by omega) (by omega) c_2
      refine lv_bipush (v := (-3)) hx hb dX7_append_22 (by decide) ?_
      have f_q1 : le = q1 := by rw [e_q1]; first | (rw [if_pos (by assumption)]; first | rw [if_pos (by omega)] | rw [if_neg (by omega)]) | (rw [if_neg (by assumption)])
      have f_f1 : f = f1 := by rw [e_f1]; first | (rw [if_pos (by assumption)]; first | rw [if_pos (by omega)] | rw [if_neg (by omega)]) | (rw [if_neg (by assumption)])
      have f_r1 : (-3) = r1 := by rw [e_r1]; first | (rw [if_pos (by assumption)]; first | rw [if_pos (by omega)] | rw [if_neg (by omega)]) | (rw [if_neg (by assumption)])
      subst f_q1
      subst f_f1
      subst f_r1
      exact hQ _ _ _ _ (-3) ([((b 0), .inr (7, [.ref (b 1), .ref (b 2), .ref (b 3), .int (nI kn), .ref (b 4), .int ik, .ref (b 5), .int (nI le), .int be, .int (nI sp), .int fo, .int op, .int ha, .int st, .ref (b 6), .ref (b 7), .ref (b 8)])), ((b 5), .inl (cI, 60, .inl f))]) dX7_append_24 rfl rfl hP hS
  · have b_1 : ¬ (¬ v < 33 ∧ ¬ 126 < v) := ej_b0 c_1
    refine lv_iconst (v := (-1)) hx hb dX7_append_11 (by decide) ?_
    have f_q1 : le = q1 := by rw [e_q1]; first | (rw [if_pos (by assumption)]; first | rw [if_pos (by omega)] | rw [if_neg (by omega)]) | (rw [if_neg (by assumption)])
    have f_f1 : f = f1 := by rw [e_f1]; first | (rw [if_pos (by assumption)]; first | rw [if_pos (by omega)] | rw [if_neg (by omega)]) | (rw [if_neg (by assumption)])
    have f_r1 : (-1) = r1 := by rw [e_r1]; first | (rw [if_pos (by assumption)]; first | rw [if_pos (by omega)] | rw [if_neg (by omega)]) | (rw [if_neg (by assumption)])
    subst f_q1
    subst f_f1
    subst f_r1
    exact hQ _ _ _ _ (-1) ([((b 0), .inr (7, [.ref (b 1), .ref (b 2), .ref (b 3), .int (nI kn), .ref (b 4), .int ik, .ref (b 5), .int (nI le), .int be, .int (nI sp), .int fo, .int op, .int ha, .int st, .ref (b 6), .ref (b 7), .ref (b 8)])), ((b 5), .inl (cI, 60, .inl f))]) dX7_append_12 rfl rfl hP hS
