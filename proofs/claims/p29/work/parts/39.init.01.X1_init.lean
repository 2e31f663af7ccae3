set_option maxHeartbeats 4000000 in
set_option maxRecDepth 100000 in
theorem c_X1_init (l : Launch) (D : va_G) (tys : eT) (cI : ClassId) (ht0 : tys[0]? = some (cI, .int)) (cT : ClassId) (ht1 : tys[1]? = some (cT, .object RX5)) (h0 : Nat)  : fcN l D tys yX1_init wsX1_init (eRm 2 45 2 61) [.ref h0] ([(h0, .inr (1, [.null, .int 0]))]) 2 61 (fun a => [(h0, .inr (1, [.ref (a 1), .int 0])), ((a 1), .inr (4, [.ref (a 2)])), ((a 2), .inl (cI, 60, .inl (fun _ => 0)))]) := by
  refine fcN_void cX1_init 1 (by decide +kernel) rfl (Nat.le_of_ble_eq_true rfl) rfl ?_
  intro p9 e9 s9 m9 a9 b9 t9 c9 H0 A Q ls S hin hK hN hA hP hD hS hl hQ
  have S : CallFix p9 m9 c9 cX1_init 1 s9 a9 wsX1_init RX1 := S
  obtain ⟨hx, hb, hml, hown, hts⟩ := id S
  have iX1 : ∀ w ∈ wsX10, w ∈ wsX1_init := fun w h => List.mem_cons_of_mem _ (List.mem_append_right _ (h))
  have iX4 : ∀ w ∈ wsX40, w ∈ wsX1_init := fun w h => List.mem_cons_of_mem _ (List.mem_append_left _ (List.mem_append_right _ (h)))
  have hP : va_P D vwCl ([(h0, .inr (1, [.null, .int 0]))]) H0 := hP
  have hD : va_D A ([(h0, .inr (1, [.null, .int 0]))]) := hD
  have hl : lv_has ls 1 [(0, .ref h0)] := hl
  refine lv_aload_n hx hb dX1_init_0 rfl (lv_at hl 0 rfl) ?_
  refine W.objInit hx hb hown (hts (.methodLink RX1 3 objectInit) (List.mem_of_getElem? (i := 1) rfl)) (hts (.instanceMethod objectInit) (List.mem_of_getElem? (i := 2) rfl)) (hts (.code objectInit ⟨#[0xb1]⟩ 1 none) (List.mem_of_getElem? (i := 3) rfl)) rfl (by rw [hml]; exact hl.1) rfl dX1_init_1 (Nat.le_of_ble_eq_true rfl) (Nat.le_of_ble_eq_true rfl) ?_
  refine W.eq (g2 := F0 m9 4 ls []) rfl ?_
  refine lv_aload_n hx hb dX1_init_4 rfl (lv_at hl 0 rfl) ?_
  refine va_new (ci := 4) (fs := [.null]) (C := RX4) (T := TX4) (N := 1) hx hb hts iX4 tyX4 tyX4_ok hown (hts (.classLink RX1 9 RX4) (List.mem_of_getElem? (i := 4) rfl)) (hts (.instantiable RX4 1) (List.mem_of_getElem? (i := 5) rfl)) (hts (.initialized RX4) (List.mem_of_getElem? (i := 6) rfl)) hK hP hD hS hA rfl (fun j hj => by rcases (show j = 0 by omega) with rfl <;> rfl) (Nat.le_of_ble_eq_true rfl) (Nat.le_of_ble_eq_true rfl) dX1_init_5 (fun q1 H hP hD hS => ?_)
  have hP : va_P D vwCl ([(h0, .inr (1, [.null, .int 0])), (q1, .inr (4, [.null]))]) H := hP
  have hD : va_D A ([(h0, .inr (1, [.null, .int 0])), (q1, .inr (4, [.null]))]) := hD
  refine W.widen (k := 1) (n := 1) (by omega) (by omega) ?_
  refine lv_dup hx hb dX1_init_8 rfl ?_
  refine lv_bipush (v := 60) hx hb dX1_init_9 (by decide) ?_
  refine ej_I (As := [.int 60]) (rest := [.ref q1, .ref h0]) (wr := [(h0, .inr (1, [.null, .int 0]))]) S hK hN hA hP hD hS (c_X4_init l D tys cI ht0 cT ht1 q1 60 (by omega) (by omega)) (cwI 1 hts gX1_init_X4_init rfl rfl rfl (hts (.initialized RX4) (List.mem_of_getElem? (i := 6) rfl)) (hts (.methodLink RX1 11 yX4_init) (List.mem_of_getElem? (i := 9) rfl)) (hts (.instanceMethod yX4_init) (List.mem_of_getElem? (i := 10) rfl)) rfl hds_X4_init ⟨Nat.le_of_ble_eq_true rfl, Nat.le_of_ble_eq_true rfl⟩) [1] [0] rfl rfl rfl rfl (by decide) rfl rfl hl.1 (Nat.le_of_ble_eq_true rfl) dX1_init_11 ⟨Nat.le_of_ble_eq_true rfl, Nat.le_of_ble_eq_true rfl⟩ (fun a2 H locs hP hD hS => ?_)
  have hP : va_P D vwCl ([(h0, .inr (1, [.null, .int 0])), (q1, .inr (4, [.ref (a2 1)])), ((a2 1), .inl (cI, 60, .inl (fun _ => 0)))]) H := hP
  have hD : va_D A ([(h0, .inr (1, [.null, .int 0])), (q1, .inr (4, [.ref (a2 1)])), ((a2 1), .inl (cI, 60, .inl (fun _ => 0)))]) := hD
  refine W.widen (k := 2) (n := 61) (by omega) (by omega) ?_
  refine va_putF (D := D) (ci := 1) (v := .ref q1) (ty := .object "BentPins$Row") (C := RX1) (T := TX1) (N := 2) hx hb hts iX1 tyX1 tyX1_ok nmX1 hown hK hP hD hS 0 rfl rfl 0 (Nat.le_of_ble_eq_true rfl) (hts (.fieldLink RX1 14 "BentPins$Pad" "codes" "LBentPins$Row;") (List.mem_of_getElem? (i := 7) rfl)) (fun _ h9 => h9) rfl hin rfl (by decide +kernel) rfl rfl (Nat.le_of_ble_eq_true rfl) dX1_init_14 (fun H locs hP hD hS => ?_)
  have hP : va_P D vwCl ([(h0, .inr (1, [.ref q1, .int 0])), (q1, .inr (4, [.ref (a2 1)])), ((a2 1), .inl (cI, 60, .inl (fun _ => 0)))]) H := hP
  have hD : va_D A ([(h0, .inr (1, [.ref q1, .int 0])), (q1, .inr (4, [.ref (a2 1)])), ((a2 1), .inl (cI, 60, .inl (fun _ => 0)))]) := hD
  refine lv_aload_n hx hb dX1_init_17 rfl (lv_at hl 0 rfl) ?_
  refine lv_iconst (v := 0) hx hb dX1_init_18 (by decide) ?_
  refine va_put (D := D) (ci := 1) (v := .int 0) (ty := .int) (C := RX1) (T := TX1) (N := 2) hx hb hts iX1 tyX1 tyX1_ok nmX1 hown hK hP hD hS 0 rfl rfl 1 (Nat.le_of_ble_eq_true rfl) (hts (.fieldLink RX1 20 "BentPins$Pad" "length" "I") (List.mem_of_getElem? (i := 8) rfl)) (fun _ h9 => h9) rfl (by decide +kernel) rfl rfl (Nat.le_of_ble_eq_true rfl) dX1_init_19 (fun H locs hP hD hS => ?_)
  have hP : va_P D vwCl ([(h0, .inr (1, [.ref q1, .int 0])), (q1, .inr (4, [.ref (a2 1)])), ((a2 1), .inl (cI, 60, .inl (fun _ => 0)))]) H := hP
  have hD : va_D A ([(h0, .inr (1, [.ref q1, .int 0])), (q1, .inr (4, [.ref (a2 1)])), ((a2 1), .inl (cI, 60, .inl (fun _ => 0)))]) := hD
  exact hQ _ H _ _ (adL [h0, q1, (a2 1)]) dX1_init_22 hP hD hS
