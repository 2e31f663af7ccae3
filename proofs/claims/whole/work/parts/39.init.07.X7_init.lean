set_option maxHeartbeats 4000000 in
set_option maxRecDepth 100000 in
theorem c_X7_init (l : Launch) (D : va_G) (tys : eT) (cI : ClassId) (ht0 : tys[0]? = some (cI, .int)) (cT : ClassId) (ht1 : tys[1]? = some (cT, .object RX5)) (h0 : Nat)  : fcN l D tys yX7_init wsX7_init (eRm 1 24 8 1519) [.ref h0] ([(h0, .inr (7, [.null, .null, .null, .int 0, .null, .int 0, .null, .int 0, .int 0, .int 0, .int 0, .int 0, .int 0, .int 0, .null, .null, .null]))]) 8 1519 (fun a => [(h0, .inr (7, [.ref (a 1), .ref (a 2), .ref (a 3), .int 0, .ref (a 4), .int 0, .ref (a 5), .int 0, .int 0, .int 0, .int 0, .int 0, .int 0, .int 0, .ref (a 6), .ref (a 7), .ref (a 8)])), ((a 1), .inl (cI, 206, .inl (flatS t00 u00))), ((a 2), .inl (cI, 206, .inl (fun _ => 0))), ((a 3), .inl (cI, 824, .inl (pastF (fun _ => (tz0, uz0))))), ((a 4), .inl (cI, 206, .inl (flatS tz0 uz0))), ((a 5), .inl (cI, 60, .inl (fun _ => 0))), ((a 6), .inl (cI, 3, .inl (fun _ => 0))), ((a 7), .inl (cI, 7, .inl (fun _ => 0))), ((a 8), .inl (cI, 7, .inl (fun _ => 0)))]) := by
  refine fcN_void cX7_init 2 (by decide +kernel) rfl (Nat.le_of_ble_eq_true rfl) rfl ?_
  intro p9 e9 s9 m9 a9 b9 t9 c9 H0 A Q ls S hin hK hN hA hP hD hS hl hQ
  have S : CallFix p9 m9 c9 cX7_init 2 s9 a9 wsX7_init RX7 := S
  obtain ⟨hx, hb, hml, hown, hts⟩ := id S
  have iX7 : ∀ w ∈ wsX70, w ∈ wsX7_init := fun w h => List.mem_cons_of_mem _ (List.mem_append_right _ (h))
  have hP : va_P D vwCl ([(h0, .inr (7, [.null, .null, .null, .int 0, .null, .int 0, .null, .int 0, .int 0, .int 0, .int 0, .int 0, .int 0, .int 0, .null, .null, .null]))]) H0 := hP
  have hD : va_D A ([(h0, .inr (7, [.null, .null, .null, .int 0, .null, .int 0, .null, .int 0, .int 0, .int 0, .int 0, .int 0, .int 0, .int 0, .null, .null, .null]))]) := hD
  have hl : lv_has ls 2 [(0, .ref h0)] := hl
  refine lv_aload_n hx hb dX7_init_0 rfl (lv_at hl 0 rfl) ?_
  refine W.objInit hx hb hown (hts (.methodLink RX7 1 objectInit) (List.mem_of_getElem? (i := 1) rfl)) (hts (.instanceMethod objectInit) (List.mem_of_getElem? (i := 2) rfl)) (hts (.code objectInit ⟨#[0xb1]⟩ 1 none) (List.mem_of_getElem? (i := 3) rfl)) rfl (by rw [hml]; exact hl.1) rfl dX7_init_1 (Nat.le_of_ble_eq_true rfl) (Nat.le_of_ble_eq_true rfl) ?_
  refine W.eq (g2 := F0 m9 4 ls []) rfl ?_
  refine lv_aload_n hx hb dX7_init_4 rfl (lv_at hl 0 rfl) ?_
  refine lv_sipush (v := 206) hx hb dX7_init_5 (by decide) ?_
  refine ej_newa (n := 206) (N := 206) hx hb (hts (.arrayClass .int) (List.mem_of_getElem? (i := 4) rfl)) hK ht0 hP hD hS hA (by decide) (by decide) (Nat.le_of_ble_eq_true rfl) (Nat.le_of_ble_eq_true rfl) (Nat.le_of_ble_eq_true rfl) dX7_init_8 (fun q1 H hP hD hS => ?_)
  have hP : va_P D vwCl ([(h0, .inr (7, [.null, .null, .null, .int 0, .null, .int 0, .null, .int 0, .int 0, .int 0, .int 0, .int 0, .int 0, .int 0, .null, .null, .null])), (q1, .inl (cI, 206, .inl (fun _ => 0)))]) H := hP
  have hD : va_D A ([(h0, .inr (7, [.null, .null, .null, .int 0, .null, .int 0, .null, .int 0, .int 0, .int 0, .int 0, .int 0, .int 0, .int 0, .null, .null, .null])), (q1, .inl (cI, 206, .inl (fun _ => 0)))]) := hD
  refine W.widen (k := 1) (n := 206) (by omega) (by omega) ?_
  refine va_putF (D := D) (ci := 7) (v := .ref q1) (ty := .array .int) (C := RX7) (T := TX7) (N := 17) hx hb hts iX7 tyX7 tyX7_ok nmX7 hown hK hP hD hS 0 rfl rfl 0 (Nat.le_of_ble_eq_true rfl) (hts (.fieldLink RX7 7 "BentPinsModel" "s" "[I") (List.mem_of_getElem? (i := 5) rfl)) (fun _ h9 => h9) rfl hin rfl (by decide +kernel) rfl rfl (Nat.le_of_ble_eq_true rfl) dX7_init_10 (fun H locs hP hD hS => ?_)
  have hP : va_P D vwCl ([(h0, .inr (7, [.ref q1, .null, .null, .int 0, .null, .int 0, .null, .int 0, .int 0, .int 0, .int 0, .int 0, .int 0, .int 0, .null, .null, .null])), (q1, .inl (cI, 206, .inl (fun _ => 0)))]) H := hP
  have hD : va_D A ([(h0, .inr (7, [.ref q1, .null, .null, .int 0, .null, .int 0, .null, .int 0, .int 0, .int 0, .int 0, .int 0, .int 0, .int 0, .null, .null, .null])), (q1, .inl (cI, 206, .inl (fun _ => 0)))]) := hD
  refine lv_aload_n hx hb dX7_init_13 rfl (lv_at hl 0 rfl) ?_
  refine lv_sipush (v := 206) hx hb dX7_init_14 (by decide) ?_
  refine ej_newa (n := 206) (N := 206) hx hb (hts (.arrayClass .int) (List.mem_of_getElem? (i := 4) rfl)) hK ht0 hP hD hS hA (by decide) (by decide) (Nat.le_of_ble_eq_true rfl) (Nat.le_of_ble_eq_true rfl) (Nat.le_of_ble_eq_true rfl) dX7_init_17 (fun q2 H hP hD hS => ?_)
  have hP : va_P D vwCl ([(h0, .inr (7, [.ref q1, .null, .null, .int 0, .null, .int 0, .null, .int 0, .int 0, .int 0, .int 0, .int 0, .int 0, .int 0, .null, .null, .null])), (q1, .inl (cI, 206, .inl (fun _ => 0))), (q2, .inl (cI, 206, .inl (fun _ => 0)))]) H := hP
  have hD : va_D A ([(h0, .inr (7, [.ref q1, .null, .null, .int 0, .null, .int 0, .null, .int 0, .int 0, .int 0, .int 0, .int 0, .int 0, .int 0, .null, .null, .null])), (q1, .inl (cI, 206, .inl (fun _ => 0))), (q2, .inl (cI, 206, .inl (fun _ => 0)))]) := hD
  refine W.widen (k := 2) (n := 412) (by omega) (by omega) ?_
  refine va_putF (D := D) (ci := 7) (v := .ref q2) (ty := .array .int) (C := RX7) (T := TX7) (N := 17) hx hb hts iX7 tyX7 tyX7_ok nmX7 hown hK hP hD hS 0 rfl rfl 1 (Nat.le_of_ble_eq_true rfl) (hts (.fieldLink RX7 13 "BentPinsModel" "aside" "[I") (List.mem_of_getElem? (i := 6) rfl)) (fun _ h9 => h9) rfl hin rfl (by decide +kernel) rfl rfl (Nat.le_of_ble_eq_true rfl) dX7_init_19 (fun H locs hP hD hS => ?_)
  have hP : va_P D vwCl ([(h0, .inr (7, [.ref q1, .ref q2, .null, .int 0, .null, .int 0, .null, .int 0, .int 0, .int 0, .int 0, .int 0, .int 0, .int 0, .null, .null, .null])), (q1, .inl (cI, 206, .inl (fun _ => 0))), (q2, .inl (cI, 206, .inl (fun _ => 0)))]) H := hP
  have hD : va_D A ([(h0, .inr (7, [.ref q1, .ref q2, .null, .int 0, .null, .int 0, .null, .int 0, .int 0, .int 0, .int 0, .int 0, .int 0, .int 0, .null, .null, .null])), (q1, .inl (cI, 206, .inl (fun _ => 0))), (q2, .inl (cI, 206, .inl (fun _ => 0)))]) := hD
  refine lv_aload_n hx hb dX7_init_22 rfl (lv_at hl 0 rfl) ?_
  refine lv_sipush (v := 824) hx hb dX7_init_23 (by decide) ?_
  refine ej_newa (n := 824) (N := 824) hx hb (hts (.arrayClass .int) (List.mem_of_getElem? (i := 4) rfl)) hK ht0 hP hD hS hA (by decide) (by decide) (Nat.le_of_ble_eq_true rfl) (Nat.le_of_ble_eq_true rfl) (Nat.le_of_ble_eq_true rfl) dX7_init_26 (fun q3 H hP hD hS => ?_)
  have hP : va_P D vwCl ([(h0, .inr (7, [.ref q1, .ref q2, .null, .int 0, .null, .int 0, .null, .int 0, .int 0, .int 0, .int 0, .int 0, .int 0, .int 0, .null, .null, .null])), (q1, .inl (cI, 206, .inl (fun _ => 0))), (q2, .inl (cI, 206, .inl (fun _ => 0))), (q3, .inl (cI, 824, .inl (fun _ => 0)))]) H := hP
  have hD : va_D A ([(h0, .inr (7, [.ref q1, .ref q2, .null, .int 0, .null, .int 0, .null, .int 0, .int 0, .int 0, .int 0, .int 0, .int 0, .int 0, .null, .null, .null])), (q1, .inl (cI, 206, .inl (fun _ => 0))), (q2, .inl (cI, 206, .inl (fun _ => 0))), (q3, .inl (cI, 824, .inl (fun _ => 0)))]) := hD
  refine W.widen (k := 3) (n := 1236) (by omega) (by omega) ?_
  refine va_putF (D := D) (ci := 7) (v := .ref q3) (ty := .array .int) (C := RX7) (T := TX7) (N := 17) hx hb hts iX7 tyX7 tyX7_ok nmX7 hown hK hP hD hS 0 rfl rfl 2 (Nat.le_of_ble_eq_true rfl) (hts (.fieldLink RX7 16 "BentPinsModel" "past" "[I") (List.mem_of_getElem? (i := 7) rfl)) (fun _ h9 => h9) rfl hin rfl (by decide +kernel) rfl rfl (Nat.le_of_ble_eq_true rfl) dX7_init_28 (fun H locs hP hD hS => ?_)
  have hP : va_P D vwCl ([(h0, .inr (7, [.ref q1, .ref q2, .ref q3, .int 0, .null, .int 0, .null, .int 0, .int 0, .int 0, .int 0, .int 0, .int 0, .int 0, .null, .null, .null])), (q1, .inl (cI, 206, .inl (fun _ => 0))), (q2, .inl (cI, 206, .inl (fun _ => 0))), (q3, .inl (cI, 824, .inl (fun _ => 0)))]) H := hP
  have hD : va_D A ([(h0, .inr (7, [.ref q1, .ref q2, .ref q3, .int 0, .null, .int 0, .null, .int 0, .int 0, .int 0, .int 0, .int 0, .int 0, .int 0, .null, .null, .null])), (q1, .inl (cI, 206, .inl (fun _ => 0))), (q2, .inl (cI, 206, .inl (fun _ => 0))), (q3, .inl (cI, 824, .inl (fun _ => 0)))]) := hD
  refine lv_aload_n hx hb dX7_init_31 rfl (lv_at hl 0 rfl) ?_
  refine lv_sipush (v := 206) hx hb dX7_init_32 (by decide) ?_
  refine ej_newa (n := 206) (N := 206) hx hb (hts (.arrayClass .int) (List.mem_of_getElem? (i := 4) rfl)) hK ht0 hP hD hS hA (by decide) (by decide) (Nat.le_of_ble_eq_true rfl) (Nat.le_of_ble_eq_true rfl) (Nat.le_of_ble_eq_true rfl) dX7_init_35 (fun q4 H hP hD hS => ?_)
  have hP : va_P D vwCl ([(h0, .inr (7, [.ref q1, .ref q2, .ref q3, .int 0, .null, .int 0, .null, .int 0, .int 0, .int 0, .int 0, .int 0, .int 0, .int 0, .null, .null, .null])), (q1, .inl (cI, 206, .inl (fun _ => 0))), (q2, .inl (cI, 206, .inl (fun _ => 0))), (q3, .inl (cI, 824, .inl (fun _ => 0))), (q4, .inl (cI, 206, .inl (fun _ => 0)))]) H := hP
  have hD : va_D A ([(h0, .inr (7, [.ref q1, .ref q2, .ref q3, .int 0, .null, .int 0, .null, .int 0, .int 0, .int 0, .int 0, .int 0, .int 0, .int 0, .null, .null, .null])), (q1, .inl (cI, 206, .inl (fun _ => 0))), (q2, .inl (cI, 206, .inl (fun _ => 0))), (q3, .inl (cI, 824, .inl (fun _ => 0))), (q4, .inl (cI, 206, .inl (fun _ => 0)))]) := hD
  refine W.widen (k := 4) (n := 1442) (by omega) (by omega) ?_
  refine va_putF (D := D) (ci := 7) (v := .ref q4) (ty := .array .int) (C := RX7) (T := TX7) (N := 17) hx hb hts iX7 tyX7 tyX7_ok nmX7 hown hK hP hD hS 0 rfl rfl 4 (Nat.le_of_ble_eq_true rfl) (hts (.fieldLink RX7 19 "BentPinsModel" "kept" "[I") (List.mem_of_getElem? (i := 8) rfl)) (fun _ h9 => h9) rfl hin rfl (by decide +kernel) rfl rfl (Nat.le_of_ble_eq_true rfl) dX7_init_37 (fun H locs hP hD hS => ?_)
  have hP : va_P D vwCl ([(h0, .inr (7, [.ref q1, .ref q2, .ref q3, .int 0, .ref q4, .int 0, .null, .int 0, .int 0, .int 0, .int 0, .int 0, .int 0, .int 0, .null, .null, .null])), (q1, .inl (cI, 206, .inl (fun _ => 0))), (q2, .inl (cI, 206, .inl (fun _ => 0))), (q3, .inl (cI, 824, .inl (fun _ => 0))), (q4, .inl (cI, 206, .inl (fun _ => 0)))]) H := hP
  have hD : va_D A ([(h0, .inr (7, [.ref q1, .ref q2, .ref q3, .int 0, .ref q4, .int 0, .null, .int 0, .int 0, .int 0, .int 0, .int 0, .int 0, .int 0, .null, .null, .null])), (q1, .inl (cI, 206, .inl (fun _ => 0))), (q2, .inl (cI, 206, .inl (fun _ => 0))), (q3, .inl (cI, 824, .inl (fun _ => 0))), (q4, .inl (cI, 206, .inl (fun _ => 0)))]) := hD
  refine lv_aload_n hx hb dX7_init_40 rfl (lv_at hl 0 rfl) ?_
  refine lv_bipush (v := 60) hx hb dX7_init_41 (by decide) ?_
  refine ej_newa (n := 60) (N := 60) hx hb (hts (.arrayClass .int) (List.mem_of_getElem? (i := 4) rfl)) hK ht0 hP hD hS hA (by decide) (by decide) (Nat.le_of_ble_eq_true rfl) (Nat.le_of_ble_eq_true rfl) (Nat.le_of_ble_eq_true rfl) dX7_init_43 (fun q5 H hP hD hS => ?_)
  have hP : va_P D vwCl ([(h0, .inr (7, [.ref q1, .ref q2, .ref q3, .int 0, .ref q4, .int 0, .null, .int 0, .int 0, .int 0, .int 0, .int 0, .int 0, .int 0, .null, .null, .null])), (q1, .inl (cI, 206, .inl (fun _ => 0))), (q2, .inl (cI, 206, .inl (fun _ => 0))), (q3, .inl (cI, 824, .inl (fun _ => 0))), (q4, .inl (cI, 206, .inl (fun _ => 0))), (q5, .inl (cI, 60, .inl (fun _ => 0)))]) H := hP
  have hD : va_D A ([(h0, .inr (7, [.ref q1, .ref q2, .ref q3, .int 0, .ref q4, .int 0, .null, .int 0, .int 0, .int 0, .int 0, .int 0, .int 0, .int 0, .null, .null, .null])), (q1, .inl (cI, 206, .inl (fun _ => 0))), (q2, .inl (cI, 206, .inl (fun _ => 0))), (q3, .inl (cI, 824, .inl (fun _ => 0))), (q4, .inl (cI, 206, .inl (fun _ => 0))), (q5, .inl (cI, 60, .inl (fun _ => 0)))]) := hD
  refine W.widen (k := 5) (n := 1502) (by omega) (by omega) ?_
  refine va_putF (D := D) (ci := 7) (v := .ref q5) (ty := .array .int) (C := RX7) (T := TX7) (N := 17) hx hb hts iX7 tyX7 tyX7_ok nmX7 hown hK hP hD hS 0 rfl rfl 6 (Nat.le_of_ble_eq_true rfl) (hts (.fieldLink RX7 22 "BentPinsModel" "pad" "[I") (List.mem_of_getElem? (i := 9) rfl)) (fun _ h9 => h9) rfl hin rfl (by decide +kernel) rfl rfl (Nat.le_of_ble_eq_true rfl) dX7_init_45 (fun H locs hP hD hS => ?_)
  have hP : va_P D vwCl ([(h0, .inr (7, [.ref q1, .ref q2, .ref q3, .int 0, .ref q4, .int 0, .ref q5, .int 0, .int 0, .int 0, .int 0, .int 0, .int 0, .int 0, .null, .null, .null])), (q1, .inl (cI, 206, .inl (fun _ => 0))), (q2, .inl (cI, 206, .inl (fun _ => 0))), (q3, .inl (cI, 824, .inl (fun _ => 0))), (q4, .inl (cI, 206, .inl (fun _ => 0))), (q5, .inl (cI, 60, .inl (fun _ => 0)))]) H := hP
  have hD : va_D A ([(h0, .inr (7, [.ref q1, .ref q2, .ref q3, .int 0, .ref q4, .int 0, .ref q5, .int 0, .int 0, .int 0, .int 0, .int 0, .int 0, .int 0, .null, .null, .null])), (q1, .inl (cI, 206, .inl (fun _ => 0))), (q2, .inl (cI, 206, .inl (fun _ => 0))), (q3, .inl (cI, 824, .inl (fun _ => 0))), (q4, .inl (cI, 206, .inl (fun _ => 0))), (q5, .inl (cI, 60, .inl (fun _ => 0)))]) := hD
  refine lv_aload_n hx hb dX7_init_48 rfl (lv_at hl 0 rfl) ?_
  refine lv_iconst (v := 3) hx hb dX7_init_49 (by decide) ?_
  refine ej_newa (n := 3) (N := 3) hx hb (hts (.arrayClass .int) (List.mem_of_getElem? (i := 4) rfl)) hK ht0 hP hD hS hA (by decide) (by decide) (Nat.le_of_ble_eq_true rfl) (Nat.le_of_ble_eq_true rfl) (Nat.le_of_ble_eq_true rfl) dX7_init_50 (fun q6 H hP hD hS => ?_)
  have hP : va_P D vwCl ([(h0, .inr (7, [.ref q1, .ref q2, .ref q3, .int 0, .ref q4, .int 0, .ref q5, .int 0, .int 0, .int 0, .int 0, .int 0, .int 0, .int 0, .null, .null, .null])), (q1, .inl (cI, 206, .inl (fun _ => 0))), (q2, .inl (cI, 206, .inl (fun _ => 0))), (q3, .inl (cI, 824, .inl (fun _ => 0))), (q4, .inl (cI, 206, .inl (fun _ => 0))), (q5, .inl (cI, 60, .inl (fun _ => 0))), (q6, .inl (cI, 3, .inl (fun _ => 0)))]) H := hP
  have hD : va_D A ([(h0, .inr (7, [.ref q1, .ref q2, .ref q3, .int 0, .ref q4, .int 0, .ref q5, .int 0, .int 0, .int 0, .int 0, .int 0, .int 0, .int 0, .null, .null, .null])), (q1, .inl (cI, 206, .inl (fun _ => 0))), (q2, .inl (cI, 206, .inl (fun _ => 0))), (q3, .inl (cI, 824, .inl (fun _ => 0))), (q4, .inl (cI, 206, .inl (fun _ => 0))), (q5, .inl (cI, 60, .inl (fun _ => 0))), (q6, .inl (cI, 3, .inl (fun _ => 0)))]) := hD
  refine W.widen (k := 6) (n := 1505) (by omega) (by omega) ?_
  refine va_putF (D := D) (ci := 7) (v := .ref q6) (ty := .array .int) (C := RX7) (T := TX7) (N := 17) hx hb hts iX7 tyX7 tyX7_ok nmX7 hown hK hP hD hS 0 rfl rfl 14 (Nat.le_of_ble_eq_true rfl) (hts (.fieldLink RX7 25 "BentPinsModel" "stop" "[I") (List.mem_of_getElem? (i := 10) rfl)) (fun _ h9 => h9) rfl hin rfl (by decide +kernel) rfl rfl (Nat.le_of_ble_eq_true rfl) dX7_init_52 (fun H locs hP hD hS => ?_)
  have hP : va_P D vwCl ([(h0, .inr (7, [.ref q1, .ref q2, .ref q3, .int 0, .ref q4, .int 0, .ref q5, .int 0, .int 0, .int 0, .int 0, .int 0, .int 0, .int 0, .ref q6, .null, .null])), (q1, .inl (cI, 206, .inl (fun _ => 0))), (q2, .inl (cI, 206, .inl (fun _ => 0))), (q3, .inl (cI, 824, .inl (fun _ => 0))), (q4, .inl (cI, 206, .inl (fun _ => 0))), (q5, .inl (cI, 60, .inl (fun _ => 0))), (q6, .inl (cI, 3, .inl (fun _ => 0)))]) H := hP
  have hD : va_D A ([(h0, .inr (7, [.ref q1, .ref q2, .ref q3, .int 0, .ref q4, .int 0, .ref q5, .int 0, .int 0, .int 0, .int 0, .int 0, .int 0, .int 0, .ref q6, .null, .null])), (q1, .inl (cI, 206, .inl (fun _ => 0))), (q2, .inl (cI, 206, .inl (fun _ => 0))), (q3, .inl (cI, 824, .inl (fun _ => 0))), (q4, .inl (cI, 206, .inl (fun _ => 0))), (q5, .inl (cI, 60, .inl (fun _ => 0))), (q6, .inl (cI, 3, .inl (fun _ => 0)))]) := hD
  refine lv_aload_n hx hb dX7_init_55 rfl (lv_at hl 0 rfl) ?_
  refine lv_bipush (v := 7) hx hb dX7_init_56 (by decide) ?_
  refine ej_newa (n := 7) (N := 7) hx hb (hts (.arrayClass .int) (List.mem_of_getElem? (i := 4) rfl)) hK ht0 hP hD hS hA (by decide) (by decide) (Nat.le_of_ble_eq_true rfl) (Nat.le_of_ble_eq_true rfl) (Nat.le_of_ble_eq_true rfl) dX7_init_58 (fun q7 H hP hD hS => ?_)
  have hP : va_P D vwCl ([(h0, .inr (7, [.ref q1, .ref q2, .ref q3, .int 0, .ref q4, .int 0, .ref q5, .int 0, .int 0, .int 0, .int 0, .int 0, .int 0, .int 0, .ref q6, .null, .null])), (q1, .inl (cI, 206, .inl (fun _ => 0))), (q2, .inl (cI, 206, .inl (fun _ => 0))), (q3, .inl (cI, 824, .inl (fun _ => 0))), (q4, .inl (cI, 206, .inl (fun _ => 0))), (q5, .inl (cI, 60, .inl (fun _ => 0))), (q6, .inl (cI, 3, .inl (fun _ => 0))), (q7, .inl (cI, 7, .inl (fun _ => 0)))]) H := hP
  have hD : va_D A ([(h0, .inr (7, [.ref q1, .ref q2, .ref q3, .int 0, .ref q4, .int 0, .ref q5, .int 0, .int 0, .int 0, .int 0, .int 0, .int 0, .int 0, .ref q6, .null, .null])), (q1, .inl (cI, 206, .inl (fun _ => 0))), (q2, .inl (cI, 206, .inl (fun _ => 0))), (q3, .inl (cI, 824, .inl (fun _ => 0))), (q4, .inl (cI, 206, .inl (fun _ => 0))), (q5, .inl (cI, 60, .inl (fun _ => 0))), (q6, .inl (cI, 3, .inl (fun _ => 0))), (q7, .inl (cI, 7, .inl (fun _ => 0)))]) := hD
  refine W.widen (k := 7) (n := 1512) (by omega) (by omega) ?_
  refine va_putF (D := D) (ci := 7) (v := .ref q7) (ty := .array .int) (C := RX7) (T := TX7) (N := 17) hx hb hts iX7 tyX7 tyX7_ok nmX7 hown hK hP hD hS 0 rfl rfl 15 (Nat.le_of_ble_eq_true rfl) (hts (.fieldLink RX7 28 "BentPinsModel" "many" "[I") (List.mem_of_getElem? (i := 11) rfl)) (fun _ h9 => h9) rfl hin rfl (by decide +kernel) rfl rfl (Nat.le_of_ble_eq_true rfl) dX7_init_60 (fun H locs hP hD hS => ?_)
  have hP : va_P D vwCl ([(h0, .inr (7, [.ref q1, .ref q2, .ref q3, .int 0, .ref q4, .int 0, .ref q5, .int 0, .int 0, .int 0, .int 0, .int 0, .int 0, .int 0, .ref q6, .ref q7, .null])), (q1, .inl (cI, 206, .inl (fun _ => 0))), (q2, .inl (cI, 206, .inl (fun _ => 0))), (q3, .inl (cI, 824, .inl (fun _ => 0))), (q4, .inl (cI, 206, .inl (fun _ => 0))), (q5, .inl (cI, 60, .inl (fun _ => 0))), (q6, .inl (cI, 3, .inl (fun _ => 0))), (q7, .inl (cI, 7, .inl (fun _ => 0)))]) H := hP
  have hD : va_D A ([(h0, .inr (7, [.ref q1, .ref q2, .ref q3, .int 0, .ref q4, .int 0, .ref q5, .int 0, .int 0, .int 0, .int 0, .int 0, .int 0, .int 0, .ref q6, .ref q7, .null])), (q1, .inl (cI, 206, .inl (fun _ => 0))), (q2, .inl (cI, 206, .inl (fun _ => 0))), (q3, .inl (cI, 824, .inl (fun _ => 0))), (q4, .inl (cI, 206, .inl (fun _ => 0))), (q5, .inl (cI, 60, .inl (fun _ => 0))), (q6, .inl (cI, 3, .inl (fun _ => 0))), (q7, .inl (cI, 7, .inl (fun _ => 0)))]) := hD
  refine lv_aload_n hx hb dX7_init_63 rfl (lv_at hl 0 rfl) ?_
  refine lv_bipush (v := 7) hx hb dX7_init_64 (by decide) ?_
  refine ej_newa (n := 7) (N := 7) hx hb (hts (.arrayClass .int) (List.mem_of_getElem? (i := 4) rfl)) hK ht0 hP hD hS hA (by decide) (by decide) (Nat.le_of_ble_eq_true rfl) (Nat.le_of_ble_eq_true rfl) (Nat.le_of_ble_eq_true rfl) dX7_init_66 (fun q8 H hP hD hS => ?_)
  have hP : va_P D vwCl ([(h0, .inr (7, [.ref q1, .ref q2, .ref q3, .int 0, .ref q4, .int 0, .ref q5, .int 0, .int 0, .int 0, .int 0, .int 0, .int 0, .int 0, .ref q6, .ref q7, .null])), (q1, .inl (cI, 206, .inl (fun _ => 0))), (q2, .inl (cI, 206, .inl (fun _ => 0))), (q3, .inl (cI, 824, .inl (fun _ => 0))), (q4, .inl (cI, 206, .inl (fun _ => 0))), (q5, .inl (cI, 60, .inl (fun _ => 0))), (q6, .inl (cI, 3, .inl (fun _ => 0))), (q7, .inl (cI, 7, .inl (fun _ => 0))), (q8, .inl (cI, 7, .inl (fun _ => 0)))]) H := hP
  have hD : va_D A ([(h0, .inr (7, [.ref q1, .ref q2, .ref q3, .int 0, .ref q4, .int 0, .ref q5, .int 0, .int 0, .int 0, .int 0, .int 0, .int 0, .int 0, .ref q6, .ref q7, .null])), (q1, .inl (cI, 206, .inl (fun _ => 0))), (q2, .inl (cI, 206, .inl (fun _ => 0))), (q3, .inl (cI, 824, .inl (fun _ => 0))), (q4, .inl (cI, 206, .inl (fun _ => 0))), (q5, .inl (cI, 60, .inl (fun _ => 0))), (q6, .inl (cI, 3, .inl (fun _ => 0))), (q7, .inl (cI, 7, .inl (fun _ => 0))), (q8, .inl (cI, 7, .inl (fun _ => 0)))]) := hD
  refine W.widen (k := 8) (n := 1519) (by omega) (by omega) ?_
  refine va_putF (D := D) (ci := 7) (v := .ref q8) (ty := .array .int) (C := RX7) (T := TX7) (N := 17) hx hb hts iX7 tyX7 tyX7_ok nmX7 hown hK hP hD hS 0 rfl rfl 16 (Nat.le_of_ble_eq_true rfl) (hts (.fieldLink RX7 31 "BentPinsModel" "then" "[I") (List.mem_of_getElem? (i := 12) rfl)) (fun _ h9 => h9) rfl hin rfl (by decide +kernel) rfl rfl (Nat.le_of_ble_eq_true rfl) dX7_init_68 (fun H locs hP hD hS => ?_)
  have hP : va_P D vwCl ([(h0, .inr (7, [.ref q1, .ref q2, .ref q3, .int 0, .ref q4, .int 0, .ref q5, .int 0, .int 0, .int 0, .int 0, .int 0, .int 0, .int 0, .ref q6, .ref q7, .ref q8])), (q1, .inl (cI, 206, .inl (fun _ => 0))), (q2, .inl (cI, 206, .inl (fun _ => 0))), (q3, .inl (cI, 824, .inl (fun _ => 0))), (q4, .inl (cI, 206, .inl (fun _ => 0))), (q5, .inl (cI, 60, .inl (fun _ => 0))), (q6, .inl (cI, 3, .inl (fun _ => 0))), (q7, .inl (cI, 7, .inl (fun _ => 0))), (q8, .inl (cI, 7, .inl (fun _ => 0)))]) H := hP
  have hD : va_D A ([(h0, .inr (7, [.ref q1, .ref q2, .ref q3, .int 0, .ref q4, .int 0, .ref q5, .int 0, .int 0, .int 0, .int 0, .int 0, .int 0, .int 0, .ref q6, .ref q7, .ref q8])), (q1, .inl (cI, 206, .inl (fun _ => 0))), (q2, .inl (cI, 206, .inl (fun _ => 0))), (q3, .inl (cI, 824, .inl (fun _ => 0))), (q4, .inl (cI, 206, .inl (fun _ => 0))), (q5, .inl (cI, 60, .inl (fun _ => 0))), (q6, .inl (cI, 3, .inl (fun _ => 0))), (q7, .inl (cI, 7, .inl (fun _ => 0))), (q8, .inl (cI, 7, .inl (fun _ => 0)))]) := hD
  refine lv_aload_n hx hb dX7_init_71 rfl (lv_at hl 0 rfl) ?_
  refine va_get (D := D) (ci := 7) (v := .ref q1) (C := RX7) (T := TX7) (N := 17) hx hb hts iX7 hown hK hP 0 rfl rfl 0 (Nat.le_of_ble_eq_true rfl) (hts (.fieldLink RX7 7 "BentPinsModel" "s" "[I") (List.mem_of_getElem? (i := 5) rfl)) (fun _ h9 => h9) rfl dX7_init_72 ?_
  refine lv_iconst (v := 1) hx hb dX7_init_75 (by decide) ?_
  refine lv_bipush (v := 20) hx hb dX7_init_76 (by decide) ?_
  refine va_iast (i := 1) hx hb hK hP hD hS 1 0 rfl ht0 (vp_in_nI (n := 1) (N := 206) (by omega) (by omega)) dX7_init_78 (fun H locs hP hD hS => ?_)
  rw [show (1 : Int32).toNatClampNeg = 1 from by decide] at hP hD
  have hP : va_P D vwCl ([(h0, .inr (7, [.ref q1, .ref q2, .ref q3, .int 0, .ref q4, .int 0, .ref q5, .int 0, .int 0, .int 0, .int 0, .int 0, .int 0, .int 0, .ref q6, .ref q7, .ref q8])), (q1, .inl (cI, 206, .inl (upd (fun _ => 0) 1 20))), (q2, .inl (cI, 206, .inl (fun _ => 0))), (q3, .inl (cI, 824, .inl (fun _ => 0))), (q4, .inl (cI, 206, .inl (fun _ => 0))), (q5, .inl (cI, 60, .inl (fun _ => 0))), (q6, .inl (cI, 3, .inl (fun _ => 0))), (q7, .inl (cI, 7, .inl (fun _ => 0))), (q8, .inl (cI, 7, .inl (fun _ => 0)))]) H := hP
  have hD : va_D A ([(h0, .inr (7, [.ref q1, .ref q2, .ref q3, .int 0, .ref q4, .int 0, .ref q5, .int 0, .int 0, .int 0, .int 0, .int 0, .int 0, .int 0, .ref q6, .ref q7, .ref q8])), (q1, .inl (cI, 206, .inl (upd (fun _ => 0) 1 20))), (q2, .inl (cI, 206, .inl (fun _ => 0))), (q3, .inl (cI, 824, .inl (fun _ => 0))), (q4, .inl (cI, 206, .inl (fun _ => 0))), (q5, .inl (cI, 60, .inl (fun _ => 0))), (q6, .inl (cI, 3, .inl (fun _ => 0))), (q7, .inl (cI, 7, .inl (fun _ => 0))), (q8, .inl (cI, 7, .inl (fun _ => 0)))]) := hD
  refine lv_aload_n hx hb dX7_init_79 rfl (lv_at hl 0 rfl) ?_
  refine va_get (D := D) (ci := 7) (v := .ref q1) (C := RX7) (T := TX7) (N := 17) hx hb hts iX7 hown hK hP 0 rfl rfl 0 (Nat.le_of_ble_eq_true rfl) (hts (.fieldLink RX7 7 "BentPinsModel" "s" "[I") (List.mem_of_getElem? (i := 5) rfl)) (fun _ h9 => h9) rfl dX7_init_80 ?_
  refine lv_bipush (v := 8) hx hb dX7_init_83 (by decide) ?_
  refine lv_iconst (v := 1) hx hb dX7_init_85 (by decide) ?_
  refine va_iast (i := 8) hx hb hK hP hD hS 1 0 rfl ht0 (vp_in_nI (n := 8) (N := 206) (by omega) (by omega)) dX7_init_86 (fun H locs hP hD hS => ?_)
  rw [show (8 : Int32).toNatClampNeg = 8 from by decide] at hP hD
  have hP : va_P D vwCl ([(h0, .inr (7, [.ref q1, .ref q2, .ref q3, .int 0, .ref q4, .int 0, .ref q5, .int 0, .int 0, .int 0, .int 0, .int 0, .int 0, .int 0, .ref q6, .ref q7, .ref q8])), (q1, .inl (cI, 206, .inl (upd (upd (fun _ => 0) 1 20) 8 1))), (q2, .inl (cI, 206, .inl (fun _ => 0))), (q3, .inl (cI, 824, .inl (fun _ => 0))), (q4, .inl (cI, 206, .inl (fun _ => 0))), (q5, .inl (cI, 60, .inl (fun _ => 0))), (q6, .inl (cI, 3, .inl (fun _ => 0))), (q7, .inl (cI, 7, .inl (fun _ => 0))), (q8, .inl (cI, 7, .inl (fun _ => 0)))]) H := hP
  have hD : va_D A ([(h0, .inr (7, [.ref q1, .ref q2, .ref q3, .int 0, .ref q4, .int 0, .ref q5, .int 0, .int 0, .int 0, .int 0, .int 0, .int 0, .int 0, .ref q6, .ref q7, .ref q8])), (q1, .inl (cI, 206, .inl (upd (upd (fun _ => 0) 1 20) 8 1))), (q2, .inl (cI, 206, .inl (fun _ => 0))), (q3, .inl (cI, 824, .inl (fun _ => 0))), (q4, .inl (cI, 206, .inl (fun _ => 0))), (q5, .inl (cI, 60, .inl (fun _ => 0))), (q6, .inl (cI, 3, .inl (fun _ => 0))), (q7, .inl (cI, 7, .inl (fun _ => 0))), (q8, .inl (cI, 7, .inl (fun _ => 0)))]) := hD
  refine lv_aload_n hx hb dX7_init_87 rfl (lv_at hl 0 rfl) ?_
  refine va_get (D := D) (ci := 7) (v := .ref q1) (C := RX7) (T := TX7) (N := 17) hx hb hts iX7 hown hK hP 0 rfl rfl 0 (Nat.le_of_ble_eq_true rfl) (hts (.fieldLink RX7 7 "BentPinsModel" "s" "[I") (List.mem_of_getElem? (i := 5) rfl)) (fun _ h9 => h9) rfl dX7_init_88 ?_
  refine lv_bipush (v := 9) hx hb dX7_init_91 (by decide) ?_
  refine lv_iconst (v := 3) hx hb dX7_init_93 (by decide) ?_
  refine va_iast (i := 9) hx hb hK hP hD hS 1 0 rfl ht0 (vp_in_nI (n := 9) (N := 206) (by omega) (by omega)) dX7_init_94 (fun H locs hP hD hS => ?_)
  rw [show (9 : Int32).toNatClampNeg = 9 from by decide] at hP hD
  have hP : va_P D vwCl ([(h0, .inr (7, [.ref q1, .ref q2, .ref q3, .int 0, .ref q4, .int 0, .ref q5, .int 0, .int 0, .int 0, .int 0, .int 0, .int 0, .int 0, .ref q6, .ref q7, .ref q8])), (q1, .inl (cI, 206, .inl (upd (upd (upd (fun _ => 0) 1 20) 8 1) 9 3))), (q2, .inl (cI, 206, .inl (fun _ => 0))), (q3, .inl (cI, 824, .inl (fun _ => 0))), (q4, .inl (cI, 206, .inl (fun _ => 0))), (q5, .inl (cI, 60, .inl (fun _ => 0))), (q6, .inl (cI, 3, .inl (fun _ => 0))), (q7, .inl (cI, 7, .inl (fun _ => 0))), (q8, .inl (cI, 7, .inl (fun _ => 0)))]) H := hP
  have hD : va_D A ([(h0, .inr (7, [.ref q1, .ref q2, .ref q3, .int 0, .ref q4, .int 0, .ref q5, .int 0, .int 0, .int 0, .int 0, .int 0, .int 0, .int 0, .ref q6, .ref q7, .ref q8])), (q1, .inl (cI, 206, .inl (upd (upd (upd (fun _ => 0) 1 20) 8 1) 9 3))), (q2, .inl (cI, 206, .inl (fun _ => 0))), (q3, .inl (cI, 824, .inl (fun _ => 0))), (q4, .inl (cI, 206, .inl (fun _ => 0))), (q5, .inl (cI, 60, .inl (fun _ => 0))), (q6, .inl (cI, 3, .inl (fun _ => 0))), (q7, .inl (cI, 7, .inl (fun _ => 0))), (q8, .inl (cI, 7, .inl (fun _ => 0)))]) := hD
  refine lv_iconst (v := 0) hx hb dX7_init_95 (by decide) ?_
  refine lv_istore_n (lv' := [(1, .int 0), (0, .ref h0)]) hx hb dX7_init_96 rfl hl (by decide) rfl (fun ls hl => ?_)
  refine lv_iload_n hx hb dX7_init_97 rfl (lv_at hl 0 rfl) ?_
  refine lv_bipush (v := 7) hx hb dX7_init_98 (by decide) ?_
  refine lv_icmp_ge (tgt := 136) hx hb dX7_init_100 (by decide) (fun h9 => absurd h9 (show ¬ (7 : Int32) ≤ 0 from by decide)) (fun _ => ?_)
  refine lv_aload_n hx hb dX7_init_103 rfl (lv_at hl 1 rfl) ?_
  refine va_get (D := D) (ci := 7) (v := .ref q1) (C := RX7) (T := TX7) (N := 17) hx hb hts iX7 hown hK hP 0 rfl rfl 0 (Nat.le_of_ble_eq_true rfl) (hts (.fieldLink RX7 7 "BentPinsModel" "s" "[I") (List.mem_of_getElem? (i := 5) rfl)) (fun _ h9 => h9) rfl dX7_init_104 ?_
  refine lv_sipush (v := 185) hx hb dX7_init_107 (by decide) ?_
  refine lv_iconst (v := 3) hx hb dX7_init_110 (by decide) ?_
  refine lv_iload_n hx hb dX7_init_111 rfl (lv_at hl 0 rfl) ?_
  refine lv_imul hx hb dX7_init_112 ?_
  refine ej_topi (show (3 * 0 : Int32) = 0 by decide) ?_
  refine lv_iadd hx hb dX7_init_113 ?_
  refine ej_topi (show (185 + 0 : Int32) = 185 by decide) ?_
  refine lv_iload_n hx hb dX7_init_114 rfl (lv_at hl 0 rfl) ?_
  refine lv_iconst (v := 3) hx hb dX7_init_115 (by decide) ?_
  refine lv_icmp_le (tgt := 123) hx hb dX7_init_116 (by decide) (fun _ => ?_) (fun h9 => absurd (show (0 : Int32) ≤ 3 from by decide) h9)
  refine lv_bipush (v := 6) hx hb dX7_init_123 (by decide) ?_
  refine lv_iload_n hx hb dX7_init_125 rfl (lv_at hl 0 rfl) ?_
  refine lv_isub hx hb dX7_init_126 ?_
  refine ej_topi (show (6 - 0 : Int32) = 6 by decide) ?_
  refine lv_iconst (v := 2) hx hb dX7_init_127 (by decide) ?_
  refine lv_isub hx hb dX7_init_128 ?_
  refine ej_topi (show (6 - 2 : Int32) = 4 by decide) ?_
  refine va_iast (i := 185) hx hb hK hP hD hS 1 0 rfl ht0 (vp_in_nI (n := 185) (N := 206) (by omega) (by omega)) dX7_init_129 (fun H locs hP hD hS => ?_)
  rw [show (185 : Int32).toNatClampNeg = 185 from by decide] at hP hD
  have hP : va_P D vwCl ([(h0, .inr (7, [.ref q1, .ref q2, .ref q3, .int 0, .ref q4, .int 0, .ref q5, .int 0, .int 0, .int 0, .int 0, .int 0, .int 0, .int 0, .ref q6, .ref q7, .ref q8])), (q1, .inl (cI, 206, .inl (upd (upd (upd (upd (fun _ => 0) 1 20) 8 1) 9 3) 185 4))), (q2, .inl (cI, 206, .inl (fun _ => 0))), (q3, .inl (cI, 824, .inl (fun _ => 0))), (q4, .inl (cI, 206, .inl (fun _ => 0))), (q5, .inl (cI, 60, .inl (fun _ => 0))), (q6, .inl (cI, 3, .inl (fun _ => 0))), (q7, .inl (cI, 7, .inl (fun _ => 0))), (q8, .inl (cI, 7, .inl (fun _ => 0)))]) H := hP
  have hD : va_D A ([(h0, .inr (7, [.ref q1, .ref q2, .ref q3, .int 0, .ref q4, .int 0, .ref q5, .int 0, .int 0, .int 0, .int 0, .int 0, .int 0, .int 0, .ref q6, .ref q7, .ref q8])), (q1, .inl (cI, 206, .inl (upd (upd (upd (upd (fun _ => 0) 1 20) 8 1) 9 3) 185 4))), (q2, .inl (cI, 206, .inl (fun _ => 0))), (q3, .inl (cI, 824, .inl (fun _ => 0))), (q4, .inl (cI, 206, .inl (fun _ => 0))), (q5, .inl (cI, 60, .inl (fun _ => 0))), (q6, .inl (cI, 3, .inl (fun _ => 0))), (q7, .inl (cI, 7, .inl (fun _ => 0))), (q8, .inl (cI, 7, .inl (fun _ => 0)))]) := hD
  refine lv_iinc (v := 1) (lv' := [(1, .int 1), (0, .ref h0)]) hx hb dX7_init_130 hl (k := 0) rfl (by decide) (by decide) rfl (fun ls hl => ?_)
  refine lv_goto (tgt := 97) hx hb dX7_init_133 (by decide) ?_
  refine lv_iload_n hx hb dX7_init_97 rfl (lv_at hl 0 rfl) ?_
  refine lv_bipush (v := 7) hx hb dX7_init_98 (by decide) ?_
  refine lv_icmp_ge (tgt := 136) hx hb dX7_init_100 (by decide) (fun h9 => absurd h9 (show ¬ (7 : Int32) ≤ 1 from by decide)) (fun _ => ?_)
  refine lv_aload_n hx hb dX7_init_103 rfl (lv_at hl 1 rfl) ?_
  refine va_get (D := D) (ci := 7) (v := .ref q1) (C := RX7) (T := TX7) (N := 17) hx hb hts iX7 hown hK hP 0 rfl rfl 0 (Nat.le_of_ble_eq_true rfl) (hts (.fieldLink RX7 7 "BentPinsModel" "s" "[I") (List.mem_of_getElem? (i := 5) rfl)) (fun _ h9 => h9) rfl dX7_init_104 ?_
  refine lv_sipush (v := 185) hx hb dX7_init_107 (by decide) ?_
  refine lv_iconst (v := 3) hx hb dX7_init_110 (by decide) ?_
  refine lv_iload_n hx hb dX7_init_111 rfl (lv_at hl 0 rfl) ?_
  refine lv_imul hx hb dX7_init_112 ?_
  refine ej_topi (show (3 * 1 : Int32) = 3 by decide) ?_
  refine lv_iadd hx hb dX7_init_113 ?_
  refine ej_topi (show (185 + 3 : Int32) = 188 by decide) ?_
  refine lv_iload_n hx hb dX7_init_114 rfl (lv_at hl 0 rfl) ?_
  refine lv_iconst (v := 3) hx hb dX7_init_115 (by decide) ?_
  refine lv_icmp_le (tgt := 123) hx hb dX7_init_116 (by decide) (fun _ => ?_) (fun h9 => absurd (show (1 : Int32) ≤ 3 from by decide) h9)
  refine lv_bipush (v := 6) hx hb dX7_init_123 (by decide) ?_
  refine lv_iload_n hx hb dX7_init_125 rfl (lv_at hl 0 rfl) ?_
  refine lv_isub hx hb dX7_init_126 ?_
  refine ej_topi (show (6 - 1 : Int32) = 5 by decide) ?_
  refine lv_iconst (v := 2) hx hb dX7_init_127 (by decide) ?_
  refine lv_isub hx hb dX7_init_128 ?_
  refine ej_topi (show (5 - 2 : Int32) = 3 by decide) ?_
  refine va_iast (i := 188) hx hb hK hP hD hS 1 0 rfl ht0 (vp_in_nI (n := 188) (N := 206) (by omega) (by omega)) dX7_init_129 (fun H locs hP hD hS => ?_)
  rw [show (188 : Int32).toNatClampNeg = 188 from by decide] at hP hD
  have hP : va_P D vwCl ([(h0, .inr (7, [.ref q1, .ref q2, .ref q3, .int 0, .ref q4, .int 0, .ref q5, .int 0, .int 0, .int 0, .int 0, .int 0, .int 0, .int 0, .ref q6, .ref q7, .ref q8])), (q1, .inl (cI, 206, .inl (upd (upd (upd (upd (upd (fun _ => 0) 1 20) 8 1) 9 3) 185 4) 188 3))), (q2, .inl (cI, 206, .inl (fun _ => 0))), (q3, .inl (cI, 824, .inl (fun _ => 0))), (q4, .inl (cI, 206, .inl (fun _ => 0))), (q5, .inl (cI, 60, .inl (fun _ => 0))), (q6, .inl (cI, 3, .inl (fun _ => 0))), (q7, .inl (cI, 7, .inl (fun _ => 0))), (q8, .inl (cI, 7, .inl (fun _ => 0)))]) H := hP
  have hD : va_D A ([(h0, .inr (7, [.ref q1, .ref q2, .ref q3, .int 0, .ref q4, .int 0, .ref q5, .int 0, .int 0, .int 0, .int 0, .int 0, .int 0, .int 0, .ref q6, .ref q7, .ref q8])), (q1, .inl (cI, 206, .inl (upd (upd (upd (upd (upd (fun _ => 0) 1 20) 8 1) 9 3) 185 4) 188 3))), (q2, .inl (cI, 206, .inl (fun _ => 0))), (q3, .inl (cI, 824, .inl (fun _ => 0))), (q4, .inl (cI, 206, .inl (fun _ => 0))), (q5, .inl (cI, 60, .inl (fun _ => 0))), (q6, .inl (cI, 3, .inl (fun _ => 0))), (q7, .inl (cI, 7, .inl (fun _ => 0))), (q8, .inl (cI, 7, .inl (fun _ => 0)))]) := hD
  refine lv_iinc (v := 2) (lv' := [(1, .int 2), (0, .ref h0)]) hx hb dX7_init_130 hl (k := 0) rfl (by decide) (by decide) rfl (fun ls hl => ?_)
  refine lv_goto (tgt := 97) hx hb dX7_init_133 (by decide) ?_
  refine lv_iload_n hx hb dX7_init_97 rfl (lv_at hl 0 rfl) ?_
  refine lv_bipush (v := 7) hx hb dX7_init_98 (by decide) ?_
  refine lv_icmp_ge (tgt := 136) hx hb dX7_init_100 (by decide) (fun h9 => absurd h9 (show ¬ (7 : Int32) ≤ 2 from by decide)) (fun _ => ?_)
  refine lv_aload_n hx hb dX7_init_103 rfl (lv_at hl 1 rfl) ?_
  refine va_get (D := D) (ci := 7) (v := .ref q1) (C := RX7) (T := TX7) (N := 17) hx hb hts iX7 hown hK hP 0 rfl rfl 0 (Nat.le_of_ble_eq_true rfl) (hts (.fieldLink RX7 7 "BentPinsModel" "s" "[I") (List.mem_of_getElem? (i := 5) rfl)) (fun _ h9 => h9) rfl dX7_init_104 ?_
  refine lv_sipush (v := 185) hx hb dX7_init_107 (by decide) ?_
  refine lv_iconst (v := 3) hx hb dX7_init_110 (by decide) ?_
  refine lv_iload_n hx hb dX7_init_111 rfl (lv_at hl 0 rfl) ?_
  refine lv_imul hx hb dX7_init_112 ?_
  refine ej_topi (show (3 * 2 : Int32) = 6 by decide) ?_
  refine lv_iadd hx hb dX7_init_113 ?_
  refine ej_topi (show (185 + 6 : Int32) = 191 by decide) ?_
  refine lv_iload_n hx hb dX7_init_114 rfl (lv_at hl 0 rfl) ?_
  refine lv_iconst (v := 3) hx hb dX7_init_115 (by decide) ?_
  refine lv_icmp_le (tgt := 123) hx hb dX7_init_116 (by decide) (fun _ => ?_) (fun h9 => absurd (show (2 : Int32) ≤ 3 from by decide) h9)
  refine lv_bipush (v := 6) hx hb dX7_init_123 (by decide) ?_
  refine lv_iload_n hx hb dX7_init_125 rfl (lv_at hl 0 rfl) ?_
  refine lv_isub hx hb dX7_init_126 ?_
  refine ej_topi (show (6 - 2 : Int32) = 4 by decide) ?_
  refine lv_iconst (v := 2) hx hb dX7_init_127 (by decide) ?_
  refine lv_isub hx hb dX7_init_128 ?_
  refine ej_topi (show (4 - 2 : Int32) = 2 by decide) ?_
  refine va_iast (i := 191) hx hb hK hP hD hS 1 0 rfl ht0 (vp_in_nI (n := 191) (N := 206) (by omega) (by omega)) dX7_init_129 (fun H locs hP hD hS => ?_)
  rw [show (191 : Int32).toNatClampNeg = 191 from by decide] at hP hD
  have hP : va_P D vwCl ([(h0, .inr (7, [.ref q1, .ref q2, .ref q3, .int 0, .ref q4, .int 0, .ref q5, .int 0, .int 0, .int 0, .int 0, .int 0, .int 0, .int 0, .ref q6, .ref q7, .ref q8])), (q1, .inl (cI, 206, .inl (upd (upd (upd (upd (upd (upd (fun _ => 0) 1 20) 8 1) 9 3) 185 4) 188 3) 191 2))), (q2, .inl (cI, 206, .inl (fun _ => 0))), (q3, .inl (cI, 824, .inl (fun _ => 0))), (q4, .inl (cI, 206, .inl (fun _ => 0))), (q5, .inl (cI, 60, .inl (fun _ => 0))), (q6, .inl (cI, 3, .inl (fun _ => 0))), (q7, .inl (cI, 7, .inl (fun _ => 0))), (q8, .inl (cI, 7, .inl (fun _ => 0)))]) H := hP
  have hD : va_D A ([(h0, .inr (7, [.ref q1, .ref q2, .ref q3, .int 0, .ref q4, .int 0, .ref q5, .int 0, .int 0, .int 0, .int 0, .int 0, .int 0, .int 0, .ref q6, .ref q7, .ref q8])), (q1, .inl (cI, 206, .inl (upd (upd (upd (upd (upd (upd (fun _ => 0) 1 20) 8 1) 9 3) 185 4) 188 3) 191 2))), (q2, .inl (cI, 206, .inl (fun _ => 0))), (q3, .inl (cI, 824, .inl (fun _ => 0))), (q4, .inl (cI, 206, .inl (fun _ => 0))), (q5, .inl (cI, 60, .inl (fun _ => 0))), (q6, .inl (cI, 3, .inl (fun _ => 0))), (q7, .inl (cI, 7, .inl (fun _ => 0))), (q8, .inl (cI, 7, .inl (fun _ => 0)))]) := hD
  refine lv_iinc (v := 3) (lv' := [(1, .int 3), (0, .ref h0)]) hx hb dX7_init_130 hl (k := 0) rfl (by decide) (by decide) rfl (fun ls hl => ?_)
  refine lv_goto (tgt := 97) hx hb dX7_init_133 (by decide) ?_
  refine lv_iload_n hx hb dX7_init_97 rfl (lv_at hl 0 rfl) ?_
  refine lv_bipush (v := 7) hx hb dX7_init_98 (by decide) ?_
  refine lv_icmp_ge (tgt := 136) hx hb dX7_init_100 (by decide) (fun h9 => absurd h9 (show ¬ (7 : Int32) ≤ 3 from by decide)) (fun _ => ?_)
  refine lv_aload_n hx hb dX7_init_103 rfl (lv_at hl 1 rfl) ?_
  refine va_get (D := D) (ci := 7) (v := .ref q1) (C := RX7) (T := TX7) (N := 17) hx hb hts iX7 hown hK hP 0 rfl rfl 0 (Nat.le_of_ble_eq_true rfl) (hts (.fieldLink RX7 7 "BentPinsModel" "s" "[I") (List.mem_of_getElem? (i := 5) rfl)) (fun _ h9 => h9) rfl dX7_init_104 ?_
  refine lv_sipush (v := 185) hx hb dX7_init_107 (by decide) ?_
  refine lv_iconst (v := 3) hx hb dX7_init_110 (by decide) ?_
  refine lv_iload_n hx hb dX7_init_111 rfl (lv_at hl 0 rfl) ?_
  refine lv_imul hx hb dX7_init_112 ?_
  refine ej_topi (show (3 * 3 : Int32) = 9 by decide) ?_
  refine lv_iadd hx hb dX7_init_113 ?_
  refine ej_topi (show (185 + 9 : Int32) = 194 by decide) ?_
  refine lv_iload_n hx hb dX7_init_114 rfl (lv_at hl 0 rfl) ?_
  refine lv_iconst (v := 3) hx hb dX7_init_115 (by decide) ?_
  refine lv_icmp_le (tgt := 123) hx hb dX7_init_116 (by decide) (fun _ => ?_) (fun h9 => absurd (show (3 : Int32) ≤ 3 from by decide) h9)
  refine lv_bipush (v := 6) hx hb dX7_init_123 (by decide) ?_
  refine lv_iload_n hx hb dX7_init_125 rfl (lv_at hl 0 rfl) ?_
  refine lv_isub hx hb dX7_init_126 ?_
  refine ej_topi (show (6 - 3 : Int32) = 3 by decide) ?_
  refine lv_iconst (v := 2) hx hb dX7_init_127 (by decide) ?_
  refine lv_isub hx hb dX7_init_128 ?_
  refine ej_topi (show (3 - 2 : Int32) = 1 by decide) ?_
  refine va_iast (i := 194) hx hb hK hP hD hS 1 0 rfl ht0 (vp_in_nI (n := 194) (N := 206) (by omega) (by omega)) dX7_init_129 (fun H locs hP hD hS => ?_)
  rw [show (194 : Int32).toNatClampNeg = 194 from by decide] at hP hD
  have hP : va_P D vwCl ([(h0, .inr (7, [.ref q1, .ref q2, .ref q3, .int 0, .ref q4, .int 0, .ref q5, .int 0, .int 0, .int 0, .int 0, .int 0, .int 0, .int 0, .ref q6, .ref q7, .ref q8])), (q1, .inl (cI, 206, .inl (upd (upd (upd (upd (upd (upd (upd (fun _ => 0) 1 20) 8 1) 9 3) 185 4) 188 3) 191 2) 194 1))), (q2, .inl (cI, 206, .inl (fun _ => 0))), (q3, .inl (cI, 824, .inl (fun _ => 0))), (q4, .inl (cI, 206, .inl (fun _ => 0))), (q5, .inl (cI, 60, .inl (fun _ => 0))), (q6, .inl (cI, 3, .inl (fun _ => 0))), (q7, .inl (cI, 7, .inl (fun _ => 0))), (q8, .inl (cI, 7, .inl (fun _ => 0)))]) H := hP
  have hD : va_D A ([(h0, .inr (7, [.ref q1, .ref q2, .ref q3, .int 0, .ref q4, .int 0, .ref q5, .int 0, .int 0, .int 0, .int 0, .int 0, .int 0, .int 0, .ref q6, .ref q7, .ref q8])), (q1, .inl (cI, 206, .inl (upd (upd (upd (upd (upd (upd (upd (fun _ => 0) 1 20) 8 1) 9 3) 185 4) 188 3) 191 2) 194 1))), (q2, .inl (cI, 206, .inl (fun _ => 0))), (q3, .inl (cI, 824, .inl (fun _ => 0))), (q4, .inl (cI, 206, .inl (fun _ => 0))), (q5, .inl (cI, 60, .inl (fun _ => 0))), (q6, .inl (cI, 3, .inl (fun _ => 0))), (q7, .inl (cI, 7, .inl (fun _ => 0))), (q8, .inl (cI, 7, .inl (fun _ => 0)))]) := hD
  refine lv_iinc (v := 4) (lv' := [(1, .int 4), (0, .ref h0)]) hx hb dX7_init_130 hl (k := 0) rfl (by decide) (by decide) rfl (fun ls hl => ?_)
  refine lv_goto (tgt := 97) hx hb dX7_init_133 (by decide) ?_
  refine lv_iload_n hx hb dX7_init_97 rfl (lv_at hl 0 rfl) ?_
  refine lv_bipush (v := 7) hx hb dX7_init_98 (by decide) ?_
  refine lv_icmp_ge (tgt := 136) hx hb dX7_init_100 (by decide) (fun h9 => absurd h9 (show ¬ (7 : Int32) ≤ 4 from by decide)) (fun _ => ?_)
  refine lv_aload_n hx hb dX7_init_103 rfl (lv_at hl 1 rfl) ?_
  refine va_get (D := D) (ci := 7) (v := .ref q1) (C := RX7) (T := TX7) (N := 17) hx hb hts iX7 hown hK hP 0 rfl rfl 0 (Nat.le_of_ble_eq_true rfl) (hts (.fieldLink RX7 7 "BentPinsModel" "s" "[I") (List.mem_of_getElem? (i := 5) rfl)) (fun _ h9 => h9) rfl dX7_init_104 ?_
  refine lv_sipush (v := 185) hx hb dX7_init_107 (by decide) ?_
  refine lv_iconst (v := 3) hx hb dX7_init_110 (by decide) ?_
  refine lv_iload_n hx hb dX7_init_111 rfl (lv_at hl 0 rfl) ?_
  refine lv_imul hx hb dX7_init_112 ?_
  refine ej_topi (show (3 * 4 : Int32) = 12 by decide) ?_
  refine lv_iadd hx hb dX7_init_113 ?_
  refine ej_topi (show (185 + 12 : Int32) = 197 by decide) ?_
  refine lv_iload_n hx hb dX7_init_114 rfl (lv_at hl 0 rfl) ?_
  refine lv_iconst (v := 3) hx hb dX7_init_115 (by decide) ?_
  refine lv_icmp_le (tgt := 123) hx hb dX7_init_116 (by decide) (fun h9 => absurd h9 (show ¬ (4 : Int32) ≤ 3 from by decide)) (fun _ => ?_)
  refine lv_iload_n hx hb dX7_init_119 rfl (lv_at hl 0 rfl) ?_
  refine lv_goto (tgt := 127) hx hb dX7_init_120 (by decide) ?_
  refine lv_iconst (v := 2) hx hb dX7_init_127 (by decide) ?_
  refine lv_isub hx hb dX7_init_128 ?_
  refine ej_topi (show (4 - 2 : Int32) = 2 by decide) ?_
  refine va_iast (i := 197) hx hb hK hP hD hS 1 0 rfl ht0 (vp_in_nI (n := 197) (N := 206) (by omega) (by omega)) dX7_init_129 (fun H locs hP hD hS => ?_)
  rw [show (197 : Int32).toNatClampNeg = 197 from by decide] at hP hD
  have hP : va_P D vwCl ([(h0, .inr (7, [.ref q1, .ref q2, .ref q3, .int 0, .ref q4, .int 0, .ref q5, .int 0, .int 0, .int 0, .int 0, .int 0, .int 0, .int 0, .ref q6, .ref q7, .ref q8])), (q1, .inl (cI, 206, .inl (upd (upd (upd (upd (upd (upd (upd (upd (fun _ => 0) 1 20) 8 1) 9 3) 185 4) 188 3) 191 2) 194 1) 197 2))), (q2, .inl (cI, 206, .inl (fun _ => 0))), (q3, .inl (cI, 824, .inl (fun _ => 0))), (q4, .inl (cI, 206, .inl (fun _ => 0))), (q5, .inl (cI, 60, .inl (fun _ => 0))), (q6, .inl (cI, 3, .inl (fun _ => 0))), (q7, .inl (cI, 7, .inl (fun _ => 0))), (q8, .inl (cI, 7, .inl (fun _ => 0)))]) H := hP
  have hD : va_D A ([(h0, .inr (7, [.ref q1, .ref q2, .ref q3, .int 0, .ref q4, .int 0, .ref q5, .int 0, .int 0, .int 0, .int 0, .int 0, .int 0, .int 0, .ref q6, .ref q7, .ref q8])), (q1, .inl (cI, 206, .inl (upd (upd (upd (upd (upd (upd (upd (upd (fun _ => 0) 1 20) 8 1) 9 3) 185 4) 188 3) 191 2) 194 1) 197 2))), (q2, .inl (cI, 206, .inl (fun _ => 0))), (q3, .inl (cI, 824, .inl (fun _ => 0))), (q4, .inl (cI, 206, .inl (fun _ => 0))), (q5, .inl (cI, 60, .inl (fun _ => 0))), (q6, .inl (cI, 3, .inl (fun _ => 0))), (q7, .inl (cI, 7, .inl (fun _ => 0))), (q8, .inl (cI, 7, .inl (fun _ => 0)))]) := hD
  refine lv_iinc (v := 5) (lv' := [(1, .int 5), (0, .ref h0)]) hx hb dX7_init_130 hl (k := 0) rfl (by decide) (by decide) rfl (fun ls hl => ?_)
  refine lv_goto (tgt := 97) hx hb dX7_init_133 (by decide) ?_
  refine lv_iload_n hx hb dX7_init_97 rfl (lv_at hl 0 rfl) ?_
  refine lv_bipush (v := 7) hx hb dX7_init_98 (by decide) ?_
  refine lv_icmp_ge (tgt := 136) hx hb dX7_init_100 (by decide) (fun h9 => absurd h9 (show ¬ (7 : Int32) ≤ 5 from by decide)) (fun _ => ?_)
  refine lv_aload_n hx hb dX7_init_103 rfl (lv_at hl 1 rfl) ?_
  refine va_get (D := D) (ci := 7) (v := .ref q1) (C := RX7) (T := TX7) (N := 17) hx hb hts iX7 hown hK hP 0 rfl rfl 0 (Nat.le_of_ble_eq_true rfl) (hts (.fieldLink RX7 7 "BentPinsModel" "s" "[I") (List.mem_of_getElem? (i := 5) rfl)) (fun _ h9 => h9) rfl dX7_init_104 ?_
  refine lv_sipush (v := 185) hx hb dX7_init_107 (by decide) ?_
  refine lv_iconst (v := 3) hx hb dX7_init_110 (by decide) ?_
  refine lv_iload_n hx hb dX7_init_111 rfl (lv_at hl 0 rfl) ?_
  refine lv_imul hx hb dX7_init_112 ?_
  refine ej_topi (show (3 * 5 : Int32) = 15 by decide) ?_
  refine lv_iadd hx hb dX7_init_113 ?_
  refine ej_topi (show (185 + 15 : Int32) = 200 by decide) ?_
  refine lv_iload_n hx hb dX7_init_114 rfl (lv_at hl 0 rfl) ?_
  refine lv_iconst (v := 3) hx hb dX7_init_115 (by decide) ?_
  refine lv_icmp_le (tgt := 123) hx hb dX7_init_116 (by decide) (fun h9 => absurd h9 (show ¬ (5 : Int32) ≤ 3 from by decide)) (fun _ => ?_)
  refine lv_iload_n hx hb dX7_init_119 rfl (lv_at hl 0 rfl) ?_
  refine lv_goto (tgt := 127) hx hb dX7_init_120 (by decide) ?_
  refine lv_iconst (v := 2) hx hb dX7_init_127 (by decide) ?_
  refine lv_isub hx hb dX7_init_128 ?_
  refine ej_topi (show (5 - 2 : Int32) = 3 by decide) ?_
  refine va_iast (i := 200) hx hb hK hP hD hS 1 0 rfl ht0 (vp_in_nI (n := 200) (N := 206) (by omega) (by omega)) dX7_init_129 (fun H locs hP hD hS => ?_)
  rw [show (200 : Int32).toNatClampNeg = 200 from by decide] at hP hD
  have hP : va_P D vwCl ([(h0, .inr (7, [.ref q1, .ref q2, .ref q3, .int 0, .ref q4, .int 0, .ref q5, .int 0, .int 0, .int 0, .int 0, .int 0, .int 0, .int 0, .ref q6, .ref q7, .ref q8])), (q1, .inl (cI, 206, .inl (upd (upd (upd (upd (upd (upd (upd (upd (upd (fun _ => 0) 1 20) 8 1) 9 3) 185 4) 188 3) 191 2) 194 1) 197 2) 200 3))), (q2, .inl (cI, 206, .inl (fun _ => 0))), (q3, .inl (cI, 824, .inl (fun _ => 0))), (q4, .inl (cI, 206, .inl (fun _ => 0))), (q5, .inl (cI, 60, .inl (fun _ => 0))), (q6, .inl (cI, 3, .inl (fun _ => 0))), (q7, .inl (cI, 7, .inl (fun _ => 0))), (q8, .inl (cI, 7, .inl (fun _ => 0)))]) H := hP
  have hD : va_D A ([(h0, .inr (7, [.ref q1, .ref q2, .ref q3, .int 0, .ref q4, .int 0, .ref q5, .int 0, .int 0, .int 0, .int 0, .int 0, .int 0, .int 0, .ref q6, .ref q7, .ref q8])), (q1, .inl (cI, 206, .inl (upd (upd (upd (upd (upd (upd (upd (upd (upd (fun _ => 0) 1 20) 8 1) 9 3) 185 4) 188 3) 191 2) 194 1) 197 2) 200 3))), (q2, .inl (cI, 206, .inl (fun _ => 0))), (q3, .inl (cI, 824, .inl (fun _ => 0))), (q4, .inl (cI, 206, .inl (fun _ => 0))), (q5, .inl (cI, 60, .inl (fun _ => 0))), (q6, .inl (cI, 3, .inl (fun _ => 0))), (q7, .inl (cI, 7, .inl (fun _ => 0))), (q8, .inl (cI, 7, .inl (fun _ => 0)))]) := hD
  refine lv_iinc (v := 6) (lv' := [(1, .int 6), (0, .ref h0)]) hx hb dX7_init_130 hl (k := 0) rfl (by decide) (by decide) rfl (fun ls hl => ?_)
  refine lv_goto (tgt := 97) hx hb dX7_init_133 (by decide) ?_
  refine lv_iload_n hx hb dX7_init_97 rfl (lv_at hl 0 rfl) ?_
  refine lv_bipush (v := 7) hx hb dX7_init_98 (by decide) ?_
  refine lv_icmp_ge (tgt := 136) hx hb dX7_init_100 (by decide) (fun h9 => absurd h9 (show ¬ (7 : Int32) ≤ 6 from by decide)) (fun _ => ?_)
  refine lv_aload_n hx hb dX7_init_103 rfl (lv_at hl 1 rfl) ?_
  refine va_get (D := D) (ci := 7) (v := .ref q1) (C := RX7) (T := TX7) (N := 17) hx hb hts iX7 hown hK hP 0 rfl rfl 0 (Nat.le_of_ble_eq_true rfl) (hts (.fieldLink RX7 7 "BentPinsModel" "s" "[I") (List.mem_of_getElem? (i := 5) rfl)) (fun _ h9 => h9) rfl dX7_init_104 ?_
  refine lv_sipush (v := 185) hx hb dX7_init_107 (by decide) ?_
  refine lv_iconst (v := 3) hx hb dX7_init_110 (by decide) ?_
  refine lv_iload_n hx hb dX7_init_111 rfl (lv_at hl 0 rfl) ?_
  refine lv_imul hx hb dX7_init_112 ?_
  refine ej_topi (show (3 * 6 : Int32) = 18 by decide) ?_
  refine lv_iadd hx hb dX7_init_113 ?_
  refine ej_topi (show (185 + 18 : Int32) = 203 by decide) ?_
  refine lv_iload_n hx hb dX7_init_114 rfl (lv_at hl 0 rfl) ?_
  refine lv_iconst (v := 3) hx hb dX7_init_115 (by decide) ?_
  refine lv_icmp_le (tgt := 123) hx hb dX7_init_116 (by decide) (fun h9 => absurd h9 (show ¬ (6 : Int32) ≤ 3 from by decide)) (fun _ => ?_)
  refine lv_iload_n hx hb dX7_init_119 rfl (lv_at hl 0 rfl) ?_
  refine lv_goto (tgt := 127) hx hb dX7_init_120 (by decide) ?_
  refine lv_iconst (v := 2) hx hb dX7_init_127 (by decide) ?_
  refine lv_isub hx hb dX7_init_128 ?_
  refine ej_topi (show (6 - 2 : Int32) = 4 by decide) ?_
  refine va_iast (i := 203) hx hb hK hP hD hS 1 0 rfl ht0 (vp_in_nI (n := 203) (N := 206) (by omega) (by omega)) dX7_init_129 (fun H locs hP hD hS => ?_)
  rw [show (203 : Int32).toNatClampNeg = 203 from by decide] at hP hD
  have hP : va_P D vwCl ([(h0, .inr (7, [.ref q1, .ref q2, .ref q3, .int 0, .ref q4, .int 0, .ref q5, .int 0, .int 0, .int 0, .int 0, .int 0, .int 0, .int 0, .ref q6, .ref q7, .ref q8])), (q1, .inl (cI, 206, .inl (upd (upd (upd (upd (upd (upd (upd (upd (upd (upd (fun _ => 0) 1 20) 8 1) 9 3) 185 4) 188 3) 191 2) 194 1) 197 2) 200 3) 203 4))), (q2, .inl (cI, 206, .inl (fun _ => 0))), (q3, .inl (cI, 824, .inl (fun _ => 0))), (q4, .inl (cI, 206, .inl (fun _ => 0))), (q5, .inl (cI, 60, .inl (fun _ => 0))), (q6, .inl (cI, 3, .inl (fun _ => 0))), (q7, .inl (cI, 7, .inl (fun _ => 0))), (q8, .inl (cI, 7, .inl (fun _ => 0)))]) H := hP
  have hD : va_D A ([(h0, .inr (7, [.ref q1, .ref q2, .ref q3, .int 0, .ref q4, .int 0, .ref q5, .int 0, .int 0, .int 0, .int 0, .int 0, .int 0, .int 0, .ref q6, .ref q7, .ref q8])), (q1, .inl (cI, 206, .inl (upd (upd (upd (upd (upd (upd (upd (upd (upd (upd (fun _ => 0) 1 20) 8 1) 9 3) 185 4) 188 3) 191 2) 194 1) 197 2) 200 3) 203 4))), (q2, .inl (cI, 206, .inl (fun _ => 0))), (q3, .inl (cI, 824, .inl (fun _ => 0))), (q4, .inl (cI, 206, .inl (fun _ => 0))), (q5, .inl (cI, 60, .inl (fun _ => 0))), (q6, .inl (cI, 3, .inl (fun _ => 0))), (q7, .inl (cI, 7, .inl (fun _ => 0))), (q8, .inl (cI, 7, .inl (fun _ => 0)))]) := hD
  refine lv_iinc (v := 7) (lv' := [(1, .int 7), (0, .ref h0)]) hx hb dX7_init_130 hl (k := 0) rfl (by decide) (by decide) rfl (fun ls hl => ?_)
  refine lv_goto (tgt := 97) hx hb dX7_init_133 (by decide) ?_
  refine lv_iload_n hx hb dX7_init_97 rfl (lv_at hl 0 rfl) ?_
  refine lv_bipush (v := 7) hx hb dX7_init_98 (by decide) ?_
  refine lv_icmp_ge (tgt := 136) hx hb dX7_init_100 (by decide) (fun _ => ?_) (fun h9 => absurd (show (7 : Int32) ≤ 7 from by decide) h9)
  have hP := ej_row (q := 1) (a := q1) (cI := cI) (n := 206) (flatS t00 u00) hP rfl (fun j9 hj9 => m0_ok hj9)
  have hD := ej_rowD (q := 1) (a := q1) (cI := cI) (n := 206) (flatS t00 u00) hD rfl
  have hP : va_P D vwCl ([(h0, .inr (7, [.ref q1, .ref q2, .ref q3, .int 0, .ref q4, .int 0, .ref q5, .int 0, .int 0, .int 0, .int 0, .int 0, .int 0, .int 0, .ref q6, .ref q7, .ref q8])), (q1, .inl (cI, 206, .inl (flatS t00 u00))), (q2, .inl (cI, 206, .inl (fun _ => 0))), (q3, .inl (cI, 824, .inl (fun _ => 0))), (q4, .inl (cI, 206, .inl (fun _ => 0))), (q5, .inl (cI, 60, .inl (fun _ => 0))), (q6, .inl (cI, 3, .inl (fun _ => 0))), (q7, .inl (cI, 7, .inl (fun _ => 0))), (q8, .inl (cI, 7, .inl (fun _ => 0)))]) _ := hP
  have hD : va_D A ([(h0, .inr (7, [.ref q1, .ref q2, .ref q3, .int 0, .ref q4, .int 0, .ref q5, .int 0, .int 0, .int 0, .int 0, .int 0, .int 0, .int 0, .ref q6, .ref q7, .ref q8])), (q1, .inl (cI, 206, .inl (flatS t00 u00))), (q2, .inl (cI, 206, .inl (fun _ => 0))), (q3, .inl (cI, 824, .inl (fun _ => 0))), (q4, .inl (cI, 206, .inl (fun _ => 0))), (q5, .inl (cI, 60, .inl (fun _ => 0))), (q6, .inl (cI, 3, .inl (fun _ => 0))), (q7, .inl (cI, 7, .inl (fun _ => 0))), (q8, .inl (cI, 7, .inl (fun _ => 0)))]) := hD
  have hP := ej_row (q := 3) (a := q3) (cI := cI) (n := 824) (pastF (fun _ => (tz0, uz0))) hP rfl (fun j9 _ => (z0_ok _).symm)
  have hD := ej_rowD (q := 3) (a := q3) (cI := cI) (n := 824) (pastF (fun _ => (tz0, uz0))) hD rfl
  have hP : va_P D vwCl ([(h0, .inr (7, [.ref q1, .ref q2, .ref q3, .int 0, .ref q4, .int 0, .ref q5, .int 0, .int 0, .int 0, .int 0, .int 0, .int 0, .int 0, .ref q6, .ref q7, .ref q8])), (q1, .inl (cI, 206, .inl (flatS t00 u00))), (q2, .inl (cI, 206, .inl (fun _ => 0))), (q3, .inl (cI, 824, .inl (pastF (fun _ => (tz0, uz0))))), (q4, .inl (cI, 206, .inl (fun _ => 0))), (q5, .inl (cI, 60, .inl (fun _ => 0))), (q6, .inl (cI, 3, .inl (fun _ => 0))), (q7, .inl (cI, 7, .inl (fun _ => 0))), (q8, .inl (cI, 7, .inl (fun _ => 0)))]) _ := hP
  have hD : va_D A ([(h0, .inr (7, [.ref q1, .ref q2, .ref q3, .int 0, .ref q4, .int 0, .ref q5, .int 0, .int 0, .int 0, .int 0, .int 0, .int 0, .int 0, .ref q6, .ref q7, .ref q8])), (q1, .inl (cI, 206, .inl (flatS t00 u00))), (q2, .inl (cI, 206, .inl (fun _ => 0))), (q3, .inl (cI, 824, .inl (pastF (fun _ => (tz0, uz0))))), (q4, .inl (cI, 206, .inl (fun _ => 0))), (q5, .inl (cI, 60, .inl (fun _ => 0))), (q6, .inl (cI, 3, .inl (fun _ => 0))), (q7, .inl (cI, 7, .inl (fun _ => 0))), (q8, .inl (cI, 7, .inl (fun _ => 0)))]) := hD
  have hP := ej_row (q := 4) (a := q4) (cI := cI) (n := 206) (flatS tz0 uz0) hP rfl (fun j9 _ => (z0_ok _).symm)
  have hD := ej_rowD (q := 4) (a := q4) (cI := cI) (n := 206) (flatS tz0 uz0) hD rfl
  have hP : va_P D vwCl ([(h0, .inr (7, [.ref q1, .ref q2, .ref q3, .int 0, .ref q4, .int 0, .ref q5, .int 0, .int 0, .int 0, .int 0, .int 0, .int 0, .int 0, .ref q6, .ref q7, .ref q8])), (q1, .inl (cI, 206, .inl (flatS t00 u00))), (q2, .inl (cI, 206, .inl (fun _ => 0))), (q3, .inl (cI, 824, .inl (pastF (fun _ => (tz0, uz0))))), (q4, .inl (cI, 206, .inl (flatS tz0 uz0))), (q5, .inl (cI, 60, .inl (fun _ => 0))), (q6, .inl (cI, 3, .inl (fun _ => 0))), (q7, .inl (cI, 7, .inl (fun _ => 0))), (q8, .inl (cI, 7, .inl (fun _ => 0)))]) _ := hP
  have hD : va_D A ([(h0, .inr (7, [.ref q1, .ref q2, .ref q3, .int 0, .ref q4, .int 0, .ref q5, .int 0, .int 0, .int 0, .int 0, .int 0, .int 0, .int 0, .ref q6, .ref q7, .ref q8])), (q1, .inl (cI, 206, .inl (flatS t00 u00))), (q2, .inl (cI, 206, .inl (fun _ => 0))), (q3, .inl (cI, 824, .inl (pastF (fun _ => (tz0, uz0))))), (q4, .inl (cI, 206, .inl (flatS tz0 uz0))), (q5, .inl (cI, 60, .inl (fun _ => 0))), (q6, .inl (cI, 3, .inl (fun _ => 0))), (q7, .inl (cI, 7, .inl (fun _ => 0))), (q8, .inl (cI, 7, .inl (fun _ => 0)))]) := hD
  exact hQ _ H _ _ (adL [h0, q1, q2, q3, q4, q5, q6, q7, q8]) dX7_init_136 hP hD hS
