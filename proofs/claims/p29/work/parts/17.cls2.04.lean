set_option maxHeartbeats 4000000 in
set_option maxRecDepth 100000 in
theorem c_X6_noteStop (l : Launch) (D : va_G) (tys : eT) (cI : ClassId) (ht0 : tys[0]? = some (cI, .int)) (o aT aB aS g y z : Nat → Nat) (sk s0 s1 s2 : Int32) (x1 x2 x3 : Int32)   : fc l D tys yX6_noteStop wsX6_noteStop (eR 0 0) [.ref (o 0), .int x1, .int x2, .int x3] ([((o 0), .inr (6, [.ref (aT 0), .ref (aB 0), .ref (aS 0), .int sk, .ref (g 0), .ref (y 0), .ref (z 0), .int s0, .int s1, .int s2]))]) none ([((o 0), .inr (6, [.ref (aT 0), .ref (aB 0), .ref (aS 0), .int sk, .ref (g 0), .ref (y 0), .ref (z 0), .int x1, .int x2, .int x3]))]) := by
  refine fc_void cX6_noteStop 4 (by decide +kernel) rfl (Nat.le_of_ble_eq_true rfl) ?_
  intro p9 e9 s9 m9 a9 b9 t9 c9 H0 A Q ls S hK hN hA hP hD hS hl hQ
  have S : CallFix p9 m9 c9 cX6_noteStop 4 s9 a9 wsX6_noteStop RX6 := S
  obtain ⟨hx, hb, hml, hown, hts⟩ := id S
  have iX6 : ∀ w ∈ wsX60, w ∈ wsX6_noteStop := fun w h => List.mem_cons_of_mem _ (List.mem_append_right _ (h))
  have hP : va_P D vwCl ([((o 0), .inr (6, [.ref (aT 0), .ref (aB 0), .ref (aS 0), .int sk, .ref (g 0), .ref (y 0), .ref (z 0), .int s0, .int s1, .int s2]))]) H0 := hP
  have hD : va_D A ([((o 0), .inr (6, [.ref (aT 0), .ref (aB 0), .ref (aS 0), .int sk, .ref (g 0), .ref (y 0), .ref (z 0), .int s0, .int s1, .int s2]))]) := hD
  have hl : lv_has ls 4 [(0, .ref (o 0)), (1, .int x1), (2, .int x2), (3, .int x3)] := hl
  refine lv_aload_n hx hb dX6_noteStop_0 rfl (lv_at hl 0 rfl) ?_
  refine lv_iload_n hx hb dX6_noteStop_1 rfl (lv_at hl 1 rfl) ?_
  refine va_put (D := D) (ci := 6) (v := .int x1) (ty := .int) (C := RX6) (T := TX6) (N := 10) hx hb hts iX6 tyX6 tyX6_ok nmX6 hown hK hP hD hS 0 rfl rfl 7 (Nat.le_of_ble_eq_true rfl) (hts (.fieldLink RX6 47 "BentPins" "stopReason" "I") (List.mem_of_getElem? (i := 1) rfl)) (fun _ h9 => h9) rfl (by decide +kernel) rfl rfl (Nat.le_of_ble_eq_true rfl) dX6_noteStop_2 (fun H locs hP hD hS => ?_)
  have hP : va_P D vwCl ([((o 0), .inr (6, [.ref (aT 0), .ref (aB 0), .ref (aS 0), .int sk, .ref (g 0), .ref (y 0), .ref (z 0), .int x1, .int s1, .int s2]))]) H := hP
  have hD : va_D A ([((o 0), .inr (6, [.ref (aT 0), .ref (aB 0), .ref (aS 0), .int sk, .ref (g 0), .ref (y 0), .ref (z 0), .int x1, .int s1, .int s2]))]) := hD
  refine lv_aload_n hx hb dX6_noteStop_5 rfl (lv_at hl 0 rfl) ?_
  refine lv_iload_n hx hb dX6_noteStop_6 rfl (lv_at hl 2 rfl) ?_
  refine va_put (D := D) (ci := 6) (v := .int x2) (ty := .int) (C := RX6) (T := TX6) (N := 10) hx hb hts iX6 tyX6 tyX6_ok nmX6 hown hK hP hD hS 0 rfl rfl 8 (Nat.le_of_ble_eq_true rfl) (hts (.fieldLink RX6 51 "BentPins" "stopPart" "I") (List.mem_of_getElem? (i := 2) rfl)) (fun _ h9 => h9) rfl (by decide +kernel) rfl rfl (Nat.le_of_ble_eq_true rfl) dX6_noteStop_7 (fun H locs hP hD hS => ?_)
  have hP : va_P D vwCl ([((o 0), .inr (6, [.ref (aT 0), .ref (aB 0), .ref (aS 0), .int sk, .ref (g 0), .ref (y 0), .ref (z 0), .int x1, .int x2, .int s2]))]) H := hP
  have hD : va_D A ([((o 0), .inr (6, [.ref (aT 0), .ref (aB 0), .ref (aS 0), .int sk, .ref (g 0), .ref (y 0), .ref (z 0), .int x1, .int x2, .int s2]))]) := hD
  refine lv_aload_n hx hb dX6_noteStop_10 rfl (lv_at hl 0 rfl) ?_
  refine lv_iload_n hx hb dX6_noteStop_11 rfl (lv_at hl 3 rfl) ?_
  refine va_put (D := D) (ci := 6) (v := .int x3) (ty := .int) (C := RX6) (T := TX6) (N := 10) hx hb hts iX6 tyX6 tyX6_ok nmX6 hown hK hP hD hS 0 rfl rfl 9 (Nat.le_of_ble_eq_true rfl) (hts (.fieldLink RX6 54 "BentPins" "stopPosition" "I") (List.mem_of_getElem? (i := 3) rfl)) (fun _ h9 => h9) rfl (by decide +kernel) rfl rfl (Nat.le_of_ble_eq_true rfl) dX6_noteStop_12 (fun H locs hP hD hS => ?_)
  have hP : va_P D vwCl ([((o 0), .inr (6, [.ref (aT 0), .ref (aB 0), .ref (aS 0), .int sk, .ref (g 0), .ref (y 0), .ref (z 0), .int x1, .int x2, .int x3]))]) H := hP
  have hD : va_D A ([((o 0), .inr (6, [.ref (aT 0), .ref (aB 0), .ref (aS 0), .int sk, .ref (g 0), .ref (y 0), .ref (z 0), .int x1, .int x2, .int x3]))]) := hD
  exact hQ _ _ _ _ ([((o 0), .inr (6, [.ref (aT 0), .ref (aB 0), .ref (aS 0), .int sk, .ref (g 0), .ref (y 0), .ref (z 0), .int x1, .int x2, .int x3]))]) dX6_noteStop_15 rfl hP hS
