set_option maxHeartbeats 4000000 in
set_option maxRecDepth 100000 in
theorem c_X6_clear (l : Launch) (D : va_G) (tys : eT) (cI : ClassId) (ht0 : tys[0]? = some (cI, .int)) (o aT aB aS g y z : Nat → Nat) (sk s0 s1 s2 : Int32) (q : Nat) (f : Nat → Int32)  (hq : q ≤ 60) : fc l D tys yX6_clear wsX6_clear (eR 1 20) [.ref (o 0)] ([((o 0), .inr (6, [.ref (aT 0), .ref (aB 0), .ref (aS 0), .int sk, .ref (g 0), .ref (y 0), .ref (z 0), .int s0, .int s1, .int s2])), ((z 0), .inr (1, [.ref (z 1), .int (nI q)])), ((z 1), .inr (4, [.ref (z 2)])), ((z 2), .inl (cI, 60, .inl f))]) (some (.int (nI q))) ([((o 0), .inr (6, [.ref (aT 0), .ref (aB 0), .ref (aS 0), .int sk, .ref (g 0), .ref (y 0), .ref (z 0), .int s0, .int s1, .int s2])), ((z 0), .inr (1, [.ref (z 1), .int (nI 0)])), ((z 1), .inr (4, [.ref (z 2)])), ((z 2), .inl (cI, 60, .inl f))]) := by
  refine fc_int cX6_clear 2 (by decide +kernel) rfl (rfl) (Nat.le_of_ble_eq_true rfl) ?_
  intro p9 e9 s9 m9 a9 b9 t9 c9 H0 A Q ls S hK hN hA hP hD hS hl hQ
  have S : CallFix p9 m9 c9 cX6_clear 2 s9 a9 wsX6_clear RX6 := S
  obtain ⟨hx, hb, hml, hown, hts⟩ := id S
  have iX1 : ∀ w ∈ wsX10, w ∈ wsX6_clear := fun w h => List.mem_cons_of_mem _ (List.mem_append_right _ (h))
  have iX6 : ∀ w ∈ wsX60, w ∈ wsX6_clear := fun w h => List.mem_cons_of_mem _ (List.mem_append_left _ (List.mem_append_right _ (h)))
  have hP : va_P D vwCl ([((o 0), .inr (6, [.ref (aT 0), .ref (aB 0), .ref (aS 0), .int sk, .ref (g 0), .ref (y 0), .ref (z 0), .int s0, .int s1, .int s2])), ((z 0), .inr (1, [.ref (z 1), .int (nI q)])), ((z 1), .inr (4, [.ref (z 2)])), ((z 2), .inl (cI, 60, .inl f))]) H0 := hP
  have hD : va_D A ([((o 0), .inr (6, [.ref (aT 0), .ref (aB 0), .ref (aS 0), .int sk, .ref (g 0), .ref (y 0), .ref (z 0), .int s0, .int s1, .int s2])), ((z 0), .inr (1, [.ref (z 1), .int (nI q)])), ((z 1), .inr (4, [.ref (z 2)])), ((z 2), .inl (cI, 60, .inl f))]) := hD
  have hl : lv_has ls 2 [(0, .ref (o 0))] := hl
  refine lv_aload_n hx hb dX6_clear_0 rfl (lv_at hl 0 rfl) ?_
  refine va_get (D := D) (ci := 6) (v := .ref (z 0)) (C := RX6) (T := TX6) (N := 10) hx hb hts iX6 hown hK hP 0 rfl rfl 6 (Nat.le_of_ble_eq_true rfl) (hts (.fieldLink RX6 43 "BentPins" "pad" "LBentPins$Pad;") (List.mem_of_getElem? (i := 1) rfl)) (fun _ h9 => h9) rfl dX6_clear_1 ?_
  refine va_get (D := D) (ci := 1) (v := .int (nI q)) (C := RX1) (T := TX1) (N := 2) hx hb hts iX1 hown hK hP 1 rfl rfl 1 (Nat.le_of_ble_eq_true rfl) (hts (.fieldLink RX6 119 "BentPins$Pad" "length" "I") (List.mem_of_getElem? (i := 2) rfl)) (fun _ h9 => h9) rfl dX6_clear_4 ?_
  refine lv_istore_n (lv' := [(1, .int (nI q)), (0, .ref (o 0))]) hx hb dX6_clear_7 rfl hl (by decide) rfl (fun ls hl => ?_)
  refine lv_aload_n hx hb dX6_clear_8 rfl (lv_at hl 1 rfl) ?_
  refine va_get (D := D) (ci := 6) (v := .ref (z 0)) (C := RX6) (T := TX6) (N := 10) hx hb hts iX6 hown hK hP 0 rfl rfl 6 (Nat.le_of_ble_eq_true rfl) (hts (.fieldLink RX6 43 "BentPins" "pad" "LBentPins$Pad;") (List.mem_of_getElem? (i := 1) rfl)) (fun _ h9 => h9) rfl dX6_clear_9 ?_
  refine ej_V (As := []) (rest := []) (w' := [((o 0), .inr (6, [.ref (aT 0), .ref (aB 0), .ref (aS 0), .int sk, .ref (g 0), .ref (y 0), .ref (z 0), .int s0, .int s1, .int s2])), ((z 0), .inr (1, [.ref (z 1), .int (nI 0)])), ((z 1), .inr (4, [.ref (z 2)])), ((z 2), .inl (cI, 60, .inl f))]) S hK hN hA hP hD hS (c_X1_wipe l D tys cI ht0 z q f) (cwV 0 hts gX6_clear_X1_wipe rfl rfl rfl hdv_X1_wipe ⟨Nat.le_of_ble_eq_true rfl, Nat.le_of_ble_eq_true rfl⟩) [1, 2, 3] [none, some 0, some 1, some 2] [(z 0), (z 1), (z 2)] rfl (by decide +kernel) ⟨rfl, rfl⟩ rfl (by decide +kernel) 1 1 rfl rfl rfl rfl hl.1 (Nat.le_of_ble_eq_true rfl) dX6_clear_12 ⟨Nat.zero_le _, Nat.zero_le _⟩ (fun H locs hP hD hS => ?_)
  show W p9 l e9 (eR 1 20) s9 m9 a9 b9 t9 c9 H locs 0 0 Q (F0 m9 15 ls [])
  refine lv_iload_n hx hb dX6_clear_15 rfl (lv_at hl 0 rfl) ?_
  exact hQ _ _ _ _ (nI q) ([((o 0), .inr (6, [.ref (aT 0), .ref (aB 0), .ref (aS 0), .int sk, .ref (g 0), .ref (y 0), .ref (z 0), .int s0, .int s1, .int s2])), ((z 0), .inr (1, [.ref (z 1), .int (nI 0)])), ((z 1), .inr (4, [.ref (z 2)])), ((z 2), .inl (cI, 60, .inl f))]) dX6_clear_16 rfl rfl hP hS
