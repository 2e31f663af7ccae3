set_option maxHeartbeats 4000000 in
set_option maxRecDepth 100000 in
theorem c_X7_ends (l : Launch) (D : va_G) (tys : eT) (cI : ClassId) (ht0 : tys[0]? = some (cI, .int)) (b : Nat → Nat) (kn le sp : Nat) (ik be fo op ha st : Int32) (t : Pn) (u : Tr) (g : Nat → Int32) (v : Int32) (g1 : Nat → Int32) (e_g1 : g1 = if inP v 6 then flatS t u else g) (be1 : Int32) (e_be1 : be1 = if inP v 6 then P_ri (rollT t v.toNatClampNeg 0 5).1 - P_ri t else be) (r1 : Int32) (e_r1 : r1 = if inP v 6 then nI (rollT t v.toNatClampNeg 0 5).2 else -1) (htl : tilOK t) (hout : outOK t) : fc l D tys yX7_ends wsX7_ends (eR 4 94) [.ref (b 0), .int v] ([((b 0), .inr (7, [.ref (b 1), .ref (b 2), .ref (b 3), .int (nI kn), .ref (b 4), .int ik, .ref (b 5), .int (nI le), .int be, .int (nI sp), .int fo, .int op, .int ha, .int st, .ref (b 6), .ref (b 7), .ref (b 8)])), ((b 1), .inl (cI, 206, .inl (flatS t u))), ((b 2), .inl (cI, 206, .inl g))]) (some (.int r1)) ([((b 0), .inr (7, [.ref (b 1), .ref (b 2), .ref (b 3), .int (nI kn), .ref (b 4), .int ik, .ref (b 5), .int (nI le), .int be1, .int (nI sp), .int fo, .int op, .int ha, .int st, .ref (b 6), .ref (b 7), .ref (b 8)])), ((b 1), .inl (cI, 206, .inl (flatS t u))), ((b 2), .inl (cI, 206, .inl g1))]) := by
  refine fc_int cX7_ends 3 (by decide +kernel) rfl (rfl) (Nat.le_of_ble_eq_true rfl) ?_
  intro p9 e9 s9 m9 a9 b9 t9 c9 H0 A Q ls S hK hN hA hP hD hS hl hQ
  have S : CallFix p9 m9 c9 cX7_ends 3 s9 a9 wsX7_ends RX7 := S
  obtain ⟨hx, hb, hml, hown, hts⟩ := id S
  have iX7 : ∀ w ∈ wsX70, w ∈ wsX7_ends := fun w h => List.mem_cons_of_mem _ (List.mem_append_right _ (h))
  have hP : va_P D vwCl ([((b 0), .inr (7, [.ref (b 1), .ref (b 2), .ref (b 3), .int (nI kn), .ref (b 4), .int ik, .ref (b 5), .int (nI le), .int be, .int (nI sp), .int fo, .int op, .int ha, .int st, .ref (b 6), .ref (b 7), .ref (b 8)])), ((b 1), .inl (cI, 206, .inl (flatS t u))), ((b 2), .inl (cI, 206, .inl g))]) H0 := hP
  have hD : va_D A ([((b 0), .inr (7, [.ref (b 1), .ref (b 2), .ref (b 3), .int (nI kn), .ref (b 4), .int ik, .ref (b 5), .int (nI le), .int be, .int (nI sp), .int fo, .int op, .int ha, .int st, .ref (b 6), .ref (b 7), .ref (b 8)])), ((b 1), .inl (cI, 206, .inl (flatS t u))), ((b 2), .inl (cI, 206, .inl g))]) := hD
  have hl : lv_has ls 3 [(0, .ref (b 0)), (1, .int v)] := hl
  refine lv_iload_n hx hb dX7_ends_0 rfl (lv_at hl 1 rfl) ?_
  refine ej_S (As := [.int v]) (rest := []) (w' := [((b 0), .inr (7, [.ref (b 1), .ref (b 2), .ref (b 3), .int (nI kn), .ref (b 4), .int ik, .ref (b 5), .int (nI le), .int be, .int (nI sp), .int fo, .int op, .int ha, .int st, .ref (b 6), .ref (b 7), .ref (b 8)])), ((b 1), .inl (cI, 206, .inl (flatS t u))), ((b 2), .inl (cI, 206, .inl g))]) S hK hN hA hP hD hS (c_X7_isPlace l D tys cI ht0 v) (va_cwS 1 hts gX7_ends_X7_isPlace rfl rfl rfl hds_X7_isPlace ⟨Nat.le_of_ble_eq_true rfl, Nat.le_of_ble_eq_true rfl⟩) [] [] [] rfl (by decide +kernel) ⟨rfl, rfl⟩ rfl (by decide +kernel) rfl rfl hl.1 (Nat.le_of_ble_eq_true rfl) dX7_ends_1 ⟨Nat.zero_le _, Nat.zero_le _⟩ (fun H locs hP hD hS => ?_)
  show W p9 l e9 (eR 4 94) s9 m9 a9 b9 t9 c9 H locs 0 0 Q (F0 m9 4 ls (.int (if ¬ v < 0 ∧ ¬ 6 < v then 1 else 0) :: []))
  refine lv_if_ne (tgt := 9) hx hb dX7_ends_4 (by decide) (fun c_1 => ?_) (fun c_1 => ?_)
  · have b_1 : ¬ v < 0 ∧ ¬ 6 < v := ej_b1 c_1
    obtain ⟨k, h_k, rfl⟩ := ej_in6 b_1
    have kk_k : (nI k).toNatClampNeg = k := nI_clamp (by omega)
    refine lv_aload_n hx hb dX7_ends_9 rfl (lv_at hl 0 rfl) ?_
    refine va_get (D := D) (ci := 7) (v := .ref (b 1)) (C := RX7) (T := TX7) (N := 17) hx hb hts iX7 hown hK hP 0 rfl rfl 0 (Nat.le_of_ble_eq_true rfl) (hts (.fieldLink RX7 7 "BentPinsModel" "s" "[I") (List.mem_of_getElem? (i := 1) rfl)) (fun _ h9 => h9) rfl dX7_ends_10 ?_
    refine lv_iconst (v := 0) hx hb dX7_ends_13 (by decide) ?_
    refine lv_aload_n hx hb dX7_ends_14 rfl (lv_at hl 0 rfl) ?_
    refine va_get (D := D) (ci := 7) (v := .ref (b 2)) (C := RX7) (T := TX7) (N := 17) hx hb hts iX7 hown hK hP 0 rfl rfl 1 (Nat.le_of_ble_eq_true rfl) (hts (.fieldLink RX7 13 "BentPinsModel" "aside" "[I") (List.mem_of_getElem? (i := 2) rfl)) (fun _ h9 => h9) rfl dX7_ends_15 ?_
    refine lv_iconst (v := 0) hx hb dX7_ends_18 (by decide) ?_
    refine ej_S (As := [.ref (b 1), .int 0, .ref (b 2), .int 0]) (rest := []) (w' := [((b 0), .inr (7, [.ref (b 1), .ref (b 2), .ref (b 3), .int (nI kn), .ref (b 4), .int ik, .ref (b 5), .int (nI le), .int be, .int (nI sp), .int fo, .int op, .int ha, .int st, .ref (b 6), .ref (b 7), .ref (b 8)])), ((b 1), .inl (cI, 206, .inl (flatS t u))), ((b 2), .inl (cI, 206, .inl (cpyG (flatS t u) g 0 0 206)))]) S hK hN hA hP hD hS (c_X7_copies l D tys cI ht0 (b 1) (b 2) 206 206 (flatS t u) g 0 0 (by omega) (by omega) (by omega) (by omega)) (va_cwS 4 hts gX7_ends_X7_copies rfl rfl rfl hds_X7_copies ⟨Nat.le_of_ble_eq_true rfl, Nat.le_of_ble_eq_true rfl⟩) [1, 2] [none, some 0, some 1] [(b 1), (b 2)] rfl (by decide +kernel) ⟨rfl, rfl⟩ rfl (by decide +kernel) rfl rfl hl.1 (Nat.le_of_ble_eq_true rfl) dX7_ends_19 ⟨Nat.zero_le _, Nat.zero_le _⟩ (fun H locs hP hD hS => ?_)
    show W p9 l e9 (eR 4 94) s9 m9 a9 b9 t9 c9 H locs 0 0 Q (F0 m9 22 ls [])
    have hP := ej_row (q := 2) (a := (b 2)) (cI := cI) (n := 206) (flatS t u) hP rfl (fun j9 hj9 => cpy_all _ _ hj9)
    have hD := ej_rowD (q := 2) (a := (b 2)) (cI := cI) (n := 206) (flatS t u) hD rfl
    have hP : va_P D vwCl ([((b 0), .inr (7, [.ref (b 1), .ref (b 2), .ref (b 3), .int (nI kn), .ref (b 4), .int ik, .ref (b 5), .int (nI le), .int be, .int (nI sp), .int fo, .int op, .int ha, .int st, .ref (b 6), .ref (b 7), .ref (b 8)])), ((b 1), .inl (cI, 206, .inl (flatS t u))), ((b 2), .inl (cI, 206, .inl (flatS t u)))]) _ := hP
    have hD : va_D A ([((b 0), .inr (7, [.ref (b 1), .ref (b 2), .ref (b 3), .int (nI kn), .ref (b 4), .int ik, .ref (b 5), .int (nI le), .int be, .int (nI sp), .int fo, .int op, .int ha, .int st, .ref (b 6), .ref (b 7), .ref (b 8)])), ((b 1), .inl (cI, 206, .inl (flatS t u))), ((b 2), .inl (cI, 206, .inl (flatS t u)))]) := hD
    refine lv_aload_n hx hb dX7_ends_22 rfl (lv_at hl 0 rfl) ?_
    refine lv_iload_n hx hb dX7_ends_23 rfl (lv_at hl 1 rfl) ?_
    refine lv_iconst (v := 0) hx hb dX7_ends_24 (by decide) ?_
    obtain ⟨t1_2, e_t1_2⟩ : ∃ z9 : Pn, z9 = riT (rollT t k 0 5).1 (P_ri t) := ⟨_, rfl⟩
    obtain ⟨be1_3, e_be1_3⟩ : ∃ z9 : Int32, z9 = P_ri (rollT t k 0 5).1 - P_ri t := ⟨_, rfl⟩
    obtain ⟨c1_4, e_c1_4⟩ : ∃ z9 : Nat, z9 = (rollT t k 0 5).2 := ⟨_, rfl⟩
    refine ej_V (As := [.int (nI k), .int 0]) (rest := []) (w' := [((b 0), .inr (7, [.ref (b 1), .ref (b 2), .ref (b 3), .int (nI kn), .ref (b 4), .int ik, .ref (b 5), .int (nI le), .int be1_3, .int (nI sp), .int fo, .int op, .int ha, .int st, .ref (b 6), .ref (b 7), .ref (b 8)])), ((b 1), .inl (cI, 206, .inl (flatS t1_2 u))), ((b 2), .inl (cI, 206, .inl (flatS t u)))]) S hK hN hA hP hD hS (c_X7_fallsAll l D tys cI ht0 b kn le sp ik be fo op ha st t u k 0 t1_2 e_t1_2 be1_3 e_be1_3 c1_4 e_c1_4 (by omega) (by omega) (by omega)) (cwV 2 hts gX7_ends_X7_fallsAll rfl rfl rfl hdv_X7_fallsAll ⟨Nat.le_of_ble_eq_true rfl, Nat.le_of_ble_eq_true rfl⟩) [0, 1] [some 0, some 1] [(b 0), (b 1)] rfl (by decide +kernel) ⟨rfl, rfl⟩ rfl (by decide +kernel) 0 7 rfl rfl rfl rfl hl.1 (Nat.le_of_ble_eq_true rfl) dX7_ends_25 ⟨Nat.zero_le _, Nat.zero_le _⟩ (fun H locs hP hD hS => ?_)
    show W p9 l e9 (eR 4 94) s9 m9 a9 b9 t9 c9 H locs 0 0 Q (F0 m9 28 ls (.int (nI c1_4) :: []))
    refine lv_istore_n (lv' := [(2, .int (nI c1_4)), (0, .ref (b 0)), (1, .int (nI k))]) hx hb dX7_ends_28 rfl hl (by decide) rfl (fun ls hl => ?_)
    refine lv_aload_n hx hb dX7_ends_29 rfl (lv_at hl 1 rfl) ?_
    refine va_get (D := D) (ci := 7) (v := .ref (b 2)) (C := RX7) (T := TX7) (N := 17) hx hb hts iX7 hown hK hP 0 rfl rfl 1 (Nat.le_of_ble_eq_true rfl) (hts (.fieldLink RX7 13 "BentPinsModel" "aside" "[I") (List.mem_of_getElem? (i := 2) rfl)) (fun _ h9 => h9) rfl dX7_ends_30 ?_
    refine lv_iconst (v := 0) hx hb dX7_ends_33 (by decide) ?_
    refine lv_aload_n hx hb dX7_ends_34 rfl (lv_at hl 1 rfl) ?_
    refine va_get (D := D) (ci := 7) (v := .ref (b 1)) (C := RX7) (T := TX7) (N := 17) hx hb hts iX7 hown hK hP 0 rfl rfl 0 (Nat.le_of_ble_eq_true rfl) (hts (.fieldLink RX7 7 "BentPinsModel" "s" "[I") (List.mem_of_getElem? (i := 1) rfl)) (fun _ h9 => h9) rfl dX7_ends_35 ?_
    refine lv_iconst (v := 0) hx hb dX7_ends_38 (by decide) ?_
    refine ej_S (As := [.ref (b 2), .int 0, .ref (b 1), .int 0]) (rest := []) (w' := [((b 0), .inr (7, [.ref (b 1), .ref (b 2), .ref (b 3), .int (nI kn), .ref (b 4), .int ik, .ref (b 5), .int (nI le), .int be1_3, .int (nI sp), .int fo, .int op, .int ha, .int st, .ref (b 6), .ref (b 7), .ref (b 8)])), ((b 1), .inl (cI, 206, .inl (cpyG (flatS t u) (flatS t1_2 u) 0 0 206))), ((b 2), .inl (cI, 206, .inl (flatS t u)))]) S hK hN hA hP hD hS (c_X7_copies l D tys cI ht0 (b 2) (b 1) 206 206 (flatS t u) (flatS t1_2 u) 0 0 (by omega) (by omega) (by omega) (by omega)) (va_cwS 4 hts gX7_ends_X7_copies rfl rfl rfl hds_X7_copies ⟨Nat.le_of_ble_eq_true rfl, Nat.le_of_ble_eq_true rfl⟩) [2, 1] [none, some 1, some 0] [(b 2), (b 1)] rfl (by decide +kernel) ⟨rfl, rfl⟩ rfl (by decide +kernel) rfl rfl hl.1 (Nat.le_of_ble_eq_true rfl) dX7_ends_39 ⟨Nat.zero_le _, Nat.zero_le _⟩ (fun H locs hP hD hS => ?_)
    show W p9 l e9 (eR 4 94) s9 m9 a9 b9 t9 c9 H locs 0 0 Q (F0 m9 42 ls [])
    have hP := ej_row (q := 1) (a := (b 1)) (cI := cI) (n := 206) (flatS t u) hP rfl (fun j9 hj9 => cpy_all _ _ hj9)
    have hD := ej_rowD (q := 1) (a := (b 1)) (cI := cI) (n := 206) (flatS t u) hD rfl
    have hP : va_P D vwCl ([((b 0), .inr (7, [.ref (b 1), .ref (b 2), .ref (b 3), .int (nI kn), .ref (b 4), .int ik, .ref (b 5), .int (nI le), .int be1_3, .int (nI sp), .int fo, .int op, .int ha, .int st, .ref (b 6), .ref (b 7), .ref (b 8)])), ((b 1), .inl (cI, 206, .inl (flatS t u))), ((b 2), .inl (cI, 206, .inl (flatS t u)))]) _ := hP
    have hD : va_D A ([((b 0), .inr (7, [.ref (b 1), .ref (b 2), .ref (b 3), .int (nI kn), .ref (b 4), .int ik, .ref (b 5), .int (nI le), .int be1_3, .int (nI sp), .int fo, .int op, .int ha, .int st, .ref (b 6), .ref (b 7), .ref (b 8)])), ((b 1), .inl (cI, 206, .inl (flatS t u))), ((b 2), .inl (cI, 206, .inl (flatS t u)))]) := hD
    refine lv_iload_n hx hb dX7_ends_42 rfl (lv_at hl 0 rfl) ?_
    have f_g1 : (flatS t u) = g1 := by rw [e_g1]; rw [if_pos b_1]
    have f_be1 : be1_3 = be1 := by rw [e_be1]; rw [if_pos b_1, kk_k]; exact e_be1_3
    have f_r1 : (nI c1_4) = r1 := by rw [e_r1]; rw [if_pos b_1, kk_k, ← e_c1_4]
    subst f_g1
    subst f_be1
    subst f_r1
    exact hQ _ _ _ _ (nI c1_4) ([((b 0), .inr (7, [.ref (b 1), .ref (b 2), .ref (b 3), .int (nI kn), .ref (b 4), .int ik, .ref (b 5), .int (nI le), .int be1_3, .int (nI sp), .int fo, .int op, .int ha, .int st, .ref (b 6), .ref (b 7), .ref (b 8)])), ((b 1), .inl (cI, 206, .inl (flatS t u))), ((b 2), .inl (cI, 206, .inl (flatS t u)))]) dX7_ends_43 rfl rfl hP hS
  · have b_1 : ¬ (¬ v < 0 ∧ ¬ 6 < v) := ej_b0 c_1
    refine lv_iconst (v := (-1)) hx hb dX7_ends_7 (by decide) ?_
    have f_g1 : g = g1 := by rw [e_g1]; rw [if_neg b_1]
    have f_be1 : be = be1 := by rw [e_be1]; rw [if_neg b_1]
    have f_r1 : (-1) = r1 := by rw [e_r1]; rw [if_neg b_1]
    subst f_g1
    subst f_be1
    subst f_r1
    exact hQ _ _ _ _ (-1) ([((b 0), .inr (7, [.ref (b 1), .ref (b 2), .ref (b 3), .int (nI kn), .ref (b 4), .int ik, .ref (b 5), .int (nI le), .int be, .int (nI sp), .int fo, .int op, .int ha, .int st, .ref (b 6), .ref (b 7), .ref (b 8)])), ((b 1), .inl (cI, 206, .inl (flatS t u))), ((b 2), .inl (cI, 206, .inl g))]) dX7_ends_8 rfl rfl hP hS
