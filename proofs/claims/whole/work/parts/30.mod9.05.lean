set_option maxHeartbeats 4000000 in
set_option maxRecDepth 100000 in
theorem c_X7_undo_S (l : Launch) (D : va_G) (tys : eT) (cI : ClassId) (ht0 : tys[0]? = some (cI, .int)) (b : Nat → Nat) (kn le sp : Nat) (ik be fo op ha st : Int32) (t : Pn) (u : Tr) (ps : Nat → Pn × Tr) (k : Nat)  (hk : k < 4) : fc l D tys yX7_undo wsX7_undo (eR 1 24) [.ref (b 0)] ([((b 0), .inr (7, [.ref (b 1), .ref (b 2), .ref (b 3), .int (nI (k + 1)), .ref (b 4), .int ik, .ref (b 5), .int (nI le), .int be, .int (nI sp), .int fo, .int op, .int ha, .int st, .ref (b 6), .ref (b 7), .ref (b 8)])), ((b 1), .inl (cI, 206, .inl (flatS t u))), ((b 3), .inl (cI, 824, .inl (pastF ps)))]) (some (.int (nI k))) ([((b 0), .inr (7, [.ref (b 1), .ref (b 2), .ref (b 3), .int (nI k), .ref (b 4), .int ik, .ref (b 5), .int (nI le), .int be, .int (nI sp), .int fo, .int op, .int ha, .int st, .ref (b 6), .ref (b 7), .ref (b 8)])), ((b 1), .inl (cI, 206, .inl (flatS (ps k).1 (ps k).2))), ((b 3), .inl (cI, 824, .inl (pastF ps)))]) := by
  refine fc_int cX7_undo 1 (by decide +kernel) rfl (rfl) (Nat.le_of_ble_eq_true rfl) ?_
  intro p9 e9 s9 m9 a9 b9 t9 c9 H0 A Q ls S hK hN hA hP hD hS hl hQ
  have S : CallFix p9 m9 c9 cX7_undo 1 s9 a9 wsX7_undo RX7 := S
  obtain ⟨hx, hb, hml, hown, hts⟩ := id S
  have iX7 : ∀ w ∈ wsX70, w ∈ wsX7_undo := fun w h => List.mem_cons_of_mem _ (List.mem_append_right _ (h))
  have hP : va_P D vwCl ([((b 0), .inr (7, [.ref (b 1), .ref (b 2), .ref (b 3), .int (nI (k + 1)), .ref (b 4), .int ik, .ref (b 5), .int (nI le), .int be, .int (nI sp), .int fo, .int op, .int ha, .int st, .ref (b 6), .ref (b 7), .ref (b 8)])), ((b 1), .inl (cI, 206, .inl (flatS t u))), ((b 3), .inl (cI, 824, .inl (pastF ps)))]) H0 := hP
  have hD : va_D A ([((b 0), .inr (7, [.ref (b 1), .ref (b 2), .ref (b 3), .int (nI (k + 1)), .ref (b 4), .int ik, .ref (b 5), .int (nI le), .int be, .int (nI sp), .int fo, .int op, .int ha, .int st, .ref (b 6), .ref (b 7), .ref (b 8)])), ((b 1), .inl (cI, 206, .inl (flatS t u))), ((b 3), .inl (cI, 824, .inl (pastF ps)))]) := hD
  have hl : lv_has ls 1 [(0, .ref (b 0))] := hl
  refine lv_aload_n hx hb dX7_undo_0 rfl (lv_at hl 0 rfl) ?_
  refine va_get (D := D) (ci := 7) (v := .int (nI (k + 1))) (C := RX7) (T := TX7) (N := 17) hx hb hts iX7 hown hK hP 0 rfl rfl 3 (Nat.le_of_ble_eq_true rfl) (hts (.fieldLink RX7 34 "BentPinsModel" "known" "I") (List.mem_of_getElem? (i := 1) rfl)) (fun _ h9 => h9) rfl dX7_undo_1 ?_
  refine lv_if_ne (tgt := 10) hx hb dX7_undo_4 (by decide) (fun _ => ?_) (fun h9 => absurd h9 (ej_ne (a := (k + 1)) (b := 0) (by omega) (by omega) (by omega)))
  refine lv_aload_n hx hb dX7_undo_10 rfl (lv_at hl 0 rfl) ?_
  refine lv_dup hx hb dX7_undo_11 rfl ?_
  refine va_get (D := D) (ci := 7) (v := .int (nI (k + 1))) (C := RX7) (T := TX7) (N := 17) hx hb hts iX7 hown hK hP 0 rfl rfl 3 (Nat.le_of_ble_eq_true rfl) (hts (.fieldLink RX7 34 "BentPinsModel" "known" "I") (List.mem_of_getElem? (i := 1) rfl)) (fun _ h9 => h9) rfl dX7_undo_12 ?_
  refine lv_iconst (v := 1) hx hb dX7_undo_15 (by decide) ?_
  refine lv_isub hx hb dX7_undo_16 ?_
  refine ej_topi (show ((nI (k + 1)) - 1) = nI k from (by rw [show nI (k + 1) = nI k + 1 from (nI_add k 1).symm, Int32.add_sub_cancel])) ?_
  refine va_put (D := D) (ci := 7) (v := .int (nI k)) (ty := .int) (C := RX7) (T := TX7) (N := 17) hx hb hts iX7 tyX7 tyX7_ok nmX7 hown hK hP hD hS 0 rfl rfl 3 (Nat.le_of_ble_eq_true rfl) (hts (.fieldLink RX7 34 "BentPinsModel" "known" "I") (List.mem_of_getElem? (i := 1) rfl)) (fun _ h9 => h9) rfl (by decide +kernel) rfl rfl (Nat.le_of_ble_eq_true rfl) dX7_undo_17 (fun H locs hP hD hS => ?_)
  have hP : va_P D vwCl ([((b 0), .inr (7, [.ref (b 1), .ref (b 2), .ref (b 3), .int (nI k), .ref (b 4), .int ik, .ref (b 5), .int (nI le), .int be, .int (nI sp), .int fo, .int op, .int ha, .int st, .ref (b 6), .ref (b 7), .ref (b 8)])), ((b 1), .inl (cI, 206, .inl (flatS t u))), ((b 3), .inl (cI, 824, .inl (pastF ps)))]) H := hP
  have hD : va_D A ([((b 0), .inr (7, [.ref (b 1), .ref (b 2), .ref (b 3), .int (nI k), .ref (b 4), .int ik, .ref (b 5), .int (nI le), .int be, .int (nI sp), .int fo, .int op, .int ha, .int st, .ref (b 6), .ref (b 7), .ref (b 8)])), ((b 1), .inl (cI, 206, .inl (flatS t u))), ((b 3), .inl (cI, 824, .inl (pastF ps)))]) := hD
  refine lv_aload_n hx hb dX7_undo_20 rfl (lv_at hl 0 rfl) ?_
  refine va_get (D := D) (ci := 7) (v := .ref (b 3)) (C := RX7) (T := TX7) (N := 17) hx hb hts iX7 hown hK hP 0 rfl rfl 2 (Nat.le_of_ble_eq_true rfl) (hts (.fieldLink RX7 16 "BentPinsModel" "past" "[I") (List.mem_of_getElem? (i := 2) rfl)) (fun _ h9 => h9) rfl dX7_undo_21 ?_
  refine lv_sipush (v := 206) hx hb dX7_undo_24 (by decide) ?_
  refine lv_aload_n hx hb dX7_undo_27 rfl (lv_at hl 0 rfl) ?_
  refine va_get (D := D) (ci := 7) (v := .int (nI k)) (C := RX7) (T := TX7) (N := 17) hx hb hts iX7 hown hK hP 0 rfl rfl 3 (Nat.le_of_ble_eq_true rfl) (hts (.fieldLink RX7 34 "BentPinsModel" "known" "I") (List.mem_of_getElem? (i := 1) rfl)) (fun _ h9 => h9) rfl dX7_undo_28 ?_
  refine lv_imul hx hb dX7_undo_31 ?_
  refine ej_topi (show 206 * (nI k) = nI (206 * k) from pk_mul 206 k) ?_
  refine lv_aload_n hx hb dX7_undo_32 rfl (lv_at hl 0 rfl) ?_
  refine va_get (D := D) (ci := 7) (v := .ref (b 1)) (C := RX7) (T := TX7) (N := 17) hx hb hts iX7 hown hK hP 0 rfl rfl 0 (Nat.le_of_ble_eq_true rfl) (hts (.fieldLink RX7 7 "BentPinsModel" "s" "[I") (List.mem_of_getElem? (i := 3) rfl)) (fun _ h9 => h9) rfl dX7_undo_33 ?_
  refine lv_iconst (v := 0) hx hb dX7_undo_36 (by decide) ?_
  refine ej_S (As := [.ref (b 3), .int (nI (206 * k)), .ref (b 1), .int 0]) (rest := []) (w' := [((b 0), .inr (7, [.ref (b 1), .ref (b 2), .ref (b 3), .int (nI k), .ref (b 4), .int ik, .ref (b 5), .int (nI le), .int be, .int (nI sp), .int fo, .int op, .int ha, .int st, .ref (b 6), .ref (b 7), .ref (b 8)])), ((b 1), .inl (cI, 206, .inl (cpyG (pastF ps) (flatS t u) (206 * k) 0 206))), ((b 3), .inl (cI, 824, .inl (pastF ps)))]) S hK hN hA hP hD hS (c_X7_copies l D tys cI ht0 (b 3) (b 1) 824 206 (pastF ps) (flatS t u) (206 * k) 0 (by omega) (by omega) (by omega) (by omega)) (va_cwS 4 hts gX7_undo_X7_copies rfl rfl rfl hds_X7_copies ⟨Nat.le_of_ble_eq_true rfl, Nat.le_of_ble_eq_true rfl⟩) [2, 1] [none, some 1, some 0] [(b 3), (b 1)] rfl (by decide +kernel) ⟨rfl, rfl⟩ rfl (by decide +kernel) rfl rfl hl.1 (Nat.le_of_ble_eq_true rfl) dX7_undo_37 ⟨Nat.zero_le _, Nat.zero_le _⟩ (fun H locs hP hD hS => ?_)
  show W p9 l e9 (eR 1 24) s9 m9 a9 b9 t9 c9 H locs 0 0 Q (F0 m9 40 ls [])
  have hP := ej_row (q := 1) (a := (b 1)) (cI := cI) (n := 206) (flatS (ps k).1 (ps k).2) hP rfl (fun j9 hj9 => cpy_past ps _ k hj9)
  have hD := ej_rowD (q := 1) (a := (b 1)) (cI := cI) (n := 206) (flatS (ps k).1 (ps k).2) hD rfl
  have hP : va_P D vwCl ([((b 0), .inr (7, [.ref (b 1), .ref (b 2), .ref (b 3), .int (nI k), .ref (b 4), .int ik, .ref (b 5), .int (nI le), .int be, .int (nI sp), .int fo, .int op, .int ha, .int st, .ref (b 6), .ref (b 7), .ref (b 8)])), ((b 1), .inl (cI, 206, .inl (flatS (ps k).1 (ps k).2))), ((b 3), .inl (cI, 824, .inl (pastF ps)))]) _ := hP
  have hD : va_D A ([((b 0), .inr (7, [.ref (b 1), .ref (b 2), .ref (b 3), .int (nI k), .ref (b 4), .int ik, .ref (b 5), .int (nI le), .int be, .int (nI sp), .int fo, .int op, .int ha, .int st, .ref (b 6), .ref (b 7), .ref (b 8)])), ((b 1), .inl (cI, 206, .inl (flatS (ps k).1 (ps k).2))), ((b 3), .inl (cI, 824, .inl (pastF ps)))]) := hD
  refine lv_aload_n hx hb dX7_undo_40 rfl (lv_at hl 0 rfl) ?_
  refine va_get (D := D) (ci := 7) (v := .int (nI k)) (C := RX7) (T := TX7) (N := 17) hx hb hts iX7 hown hK hP 0 rfl rfl 3 (Nat.le_of_ble_eq_true rfl) (hts (.fieldLink RX7 34 "BentPinsModel" "known" "I") (List.mem_of_getElem? (i := 1) rfl)) (fun _ h9 => h9) rfl dX7_undo_41 ?_
  exact hQ _ _ _ _ (nI k) ([((b 0), .inr (7, [.ref (b 1), .ref (b 2), .ref (b 3), .int (nI k), .ref (b 4), .int ik, .ref (b 5), .int (nI le), .int be, .int (nI sp), .int fo, .int op, .int ha, .int st, .ref (b 6), .ref (b 7), .ref (b 8)])), ((b 1), .inl (cI, 206, .inl (flatS (ps k).1 (ps k).2))), ((b 3), .inl (cI, 824, .inl (pastF ps)))]) dX7_undo_44 rfl rfl hP hS
