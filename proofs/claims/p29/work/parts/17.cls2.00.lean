set_option maxHeartbeats 4000000 in
set_option maxRecDepth 100000 in
theorem c_X6_append (l : Launch) (D : va_G) (tys : eT) (cI : ClassId) (ht0 : tys[0]? = some (cI, .int)) (o aT aB aS g y z : Nat → Nat) (sk s0 s1 s2 : Int32) (q : Nat) (f : Nat → Int32) (v : Int32) (q1 : Nat) (e_q1 : q1 = if ¬ v < 33 ∧ ¬ 126 < v then if q < 60 then q + 1 else q else q) (f1 : Nat → Int32) (e_f1 : f1 = if ¬ v < 33 ∧ ¬ 126 < v then if q < 60 then upd f q v else f else f) (r1 : Int32) (e_r1 : r1 = if ¬ v < 33 ∧ ¬ 126 < v then if q < 60 then nI (q + 1) else -3 else -1) (hq : q ≤ 60) : fc l D tys yX6_append wsX6_append (eR 2 43) [.ref (o 0), .int v] ([((o 0), .inr (6, [.ref (aT 0), .ref (aB 0), .ref (aS 0), .int sk, .ref (g 0), .ref (y 0), .ref (z 0), .int s0, .int s1, .int s2])), ((z 0), .inr (1, [.ref (z 1), .int (nI q)])), ((z 1), .inr (4, [.ref (z 2)])), ((z 2), .inl (cI, 60, .inl f))]) (some (.int r1)) ([((o 0), .inr (6, [.ref (aT 0), .ref (aB 0), .ref (aS 0), .int sk, .ref (g 0), .ref (y 0), .ref (z 0), .int s0, .int s1, .int s2])), ((z 0), .inr (1, [.ref (z 1), .int (nI q1)])), ((z 1), .inr (4, [.ref (z 2)])), ((z 2), .inl (cI, 60, .inl f1))]) := by
  refine fc_int cX6_append 2 (by decide +kernel) rfl (rfl) (Nat.le_of_ble_eq_true rfl) ?_
  intro p9 e9 s9 m9 a9 b9 t9 c9 H0 A Q ls S hK hN hA hP hD hS hl hQ
  have S : CallFix p9 m9 c9 cX6_append 2 s9 a9 wsX6_append RX6 := S
  obtain ⟨hx, hb, hml, hown, hts⟩ := id S
  have iX1 : ∀ w ∈ wsX10, w ∈ wsX6_append := fun w h => List.mem_cons_of_mem _ (List.mem_append_left _ (List.mem_append_right _ (h)))
  have iX6 : ∀ w ∈ wsX60, w ∈ wsX6_append := fun w h => List.mem_cons_of_mem _ (List.mem_append_left _ (List.mem_append_left _ (List.mem_append_right _ (h))))
  have hP : va_P D vwCl ([((o 0), .inr (6, [.ref (aT 0), .ref (aB 0), .ref (aS 0), .int sk, .ref (g 0), .ref (y 0), .ref (z 0), .int s0, .int s1, .int s2])), ((z 0), .inr (1, [.ref (z 1), .int (nI q)])), ((z 1), .inr (4, [.ref (z 2)])), ((z 2), .inl (cI, 60, .inl f))]) H0 := hP
  have hD : va_D A ([((o 0), .inr (6, [.ref (aT 0), .ref (aB 0), .ref (aS 0), .int sk, .ref (g 0), .ref (y 0), .ref (z 0), .int s0, .int s1, .int s2])), ((z 0), .inr (1, [.ref (z 1), .int (nI q)])), ((z 1), .inr (4, [.ref (z 2)])), ((z 2), .inl (cI, 60, .inl f))]) := hD
  have hl : lv_has ls 2 [(0, .ref (o 0)), (1, .int v)] := hl
  refine lv_iload_n hx hb dX6_append_0 rfl (lv_at hl 1 rfl) ?_
  refine lv_bipush (v := 33) hx hb dX6_append_1 (by decide) ?_
  refine lv_bipush (v := 126) hx hb dX6_append_3 (by decide) ?_
  refine ej_S (As := [.int v, .int 33, .int 126]) (rest := []) (w' := [((o 0), .inr (6, [.ref (aT 0), .ref (aB 0), .ref (aS 0), .int sk, .ref (g 0), .ref (y 0), .ref (z 0), .int s0, .int s1, .int s2])), ((z 0), .inr (1, [.ref (z 1), .int (nI q)])), ((z 1), .inr (4, [.ref (z 2)])), ((z 2), .inl (cI, 60, .inl f))]) S hK hN hA hP hD hS (c_X6_isWithin l D tys cI ht0 v 33 126) (va_cwS 3 hts gX6_append_X6_isWithin rfl rfl rfl hds_X6_isWithin ⟨Nat.le_of_ble_eq_true rfl, Nat.le_of_ble_eq_true rfl⟩) [] [] [] rfl (by decide +kernel) ⟨rfl, rfl⟩ rfl (by decide +kernel) rfl rfl hl.1 (Nat.le_of_ble_eq_true rfl) dX6_append_5 ⟨Nat.zero_le _, Nat.zero_le _⟩ (fun H locs hP hD hS => ?_)
  show W p9 l e9 (eR 2 43) s9 m9 a9 b9 t9 c9 H locs 0 0 Q (F0 m9 8 ls (.int (if ¬ v < 33 ∧ ¬ 126 < v then 1 else 0) :: []))
  refine lv_if_ne (tgt := 13) hx hb dX6_append_8 (by decide) (fun c_1 => ?_) (fun c_1 => ?_)
  · have b_1 : ¬ v < 33 ∧ ¬ 126 < v := ej_b1 c_1
    refine lv_aload_n hx hb dX6_append_13 rfl (lv_at hl 0 rfl) ?_
    refine va_get (D := D) (ci := 6) (v := .ref (z 0)) (C := RX6) (T := TX6) (N := 10) hx hb hts iX6 hown hK hP 0 rfl rfl 6 (Nat.le_of_ble_eq_true rfl) (hts (.fieldLink RX6 43 "BentPins" "pad" "LBentPins$Pad;") (List.mem_of_getElem? (i := 1) rfl)) (fun _ h9 => h9) rfl dX6_append_14 ?_
    refine va_get (D := D) (ci := 1) (v := .int (nI q)) (C := RX1) (T := TX1) (N := 2) hx hb hts iX1 hown hK hP 1 rfl rfl 1 (Nat.le_of_ble_eq_true rfl) (hts (.fieldLink RX6 119 "BentPins$Pad" "length" "I") (List.mem_of_getElem? (i := 2) rfl)) (fun _ h9 => h9) rfl dX6_append_17 ?_
    refine lv_bipush (v := 60) hx hb dX6_append_20 (by decide) ?_
    refine lv_icmp_lt (tgt := 28) hx hb dX6_append_22 (by decide) (fun c_2 => ?_) (fun c_2 => ?_)
    · have n_2 : q < 60 := ej_tlt (a := q) (b := 60) (by omega) (by omega) c_2
      refine lv_aload_n hx hb dX6_append_28 rfl (lv_at hl 0 rfl) ?_
      refine va_get (D := D) (ci := 6) (v := .ref (z 0)) (C := RX6) (T := TX6) (N := 10) hx hb hts iX6 hown hK hP 0 rfl rfl 6 (Nat.le_of_ble_eq_true rfl) (hts (.fieldLink RX6 43 "BentPins" "pad" "LBentPins$Pad;") (List.mem_of_getElem? (i := 1) rfl)) (fun _ h9 => h9) rfl dX6_append_29 ?_
      refine lv_iload_n hx hb dX6_append_32 rfl (lv_at hl 1 rfl) ?_
      refine ej_V (As := [.int v]) (rest := []) (w' := [((o 0), .inr (6, [.ref (aT 0), .ref (aB 0), .ref (aS 0), .int sk, .ref (g 0), .ref (y 0), .ref (z 0), .int s0, .int s1, .int s2])), ((z 0), .inr (1, [.ref (z 1), .int (nI (q + 1))])), ((z 1), .inr (4, [.ref (z 2)])), ((z 2), .inl (cI, 60, .inl (upd f q v)))]) S hK hN hA hP hD hS (c_X1_write l D tys cI ht0 z q f v (by omega)) (cwV 1 hts gX6_append_X1_write rfl rfl rfl hdv_X1_write ⟨Nat.le_of_ble_eq_true rfl, Nat.le_of_ble_eq_true rfl⟩) [1, 2, 3] [none, some 0, some 1, some 2] [(z 0), (z 1), (z 2)] rfl (by decide +kernel) ⟨rfl, rfl⟩ rfl (by decide +kernel) 1 1 rfl rfl rfl rfl hl.1 (Nat.le_of_ble_eq_true rfl) dX6_append_33 ⟨Nat.zero_le _, Nat.zero_le _⟩ (fun H locs hP hD hS => ?_)
      show W p9 l e9 (eR 2 43) s9 m9 a9 b9 t9 c9 H locs 0 0 Q (F0 m9 36 ls [])
      refine lv_aload_n hx hb dX6_append_36 rfl (lv_at hl 0 rfl) ?_
      refine va_get (D := D) (ci := 6) (v := .ref (z 0)) (C := RX6) (T := TX6) (N := 10) hx hb hts iX6 hown hK hP 0 rfl rfl 6 (Nat.le_of_ble_eq_true rfl) (hts (.fieldLink RX6 43 "BentPins" "pad" "LBentPins$Pad;") (List.mem_of_getElem? (i := 1) rfl)) (fun _ h9 => h9) rfl dX6_append_37 ?_
      refine va_get (D := D) (ci := 1) (v := .int (nI (q + 1))) (C := RX1) (T := TX1) (N := 2) hx hb hts iX1 hown hK hP 1 rfl rfl 1 (Nat.le_of_ble_eq_true rfl) (hts (.fieldLink RX6 119 "BentPins$Pad" "length" "I") (List.mem_of_getElem? (i := 2) rfl)) (fun _ h9 => h9) rfl dX6_append_40 ?_
      have f_q1 : (q + 1) = q1 := by rw [e_q1]; first | (simp only [b_1, n_2, c_2, if_true, if_false, not_true_eq_false, not_false_eq_true, and_true, true_and, and_false, false_and, and_self, reduceIte]; done) | (rw [if_pos (by assumption)]; first | rw [if_pos (by omega)] | rw [if_neg (by omega)]) | (rw [if_neg (by assumption)])
      have f_f1 : (upd f q v) = f1 := by rw [e_f1]; first | (simp only [b_1, n_2, c_2, if_true, if_false, not_true_eq_false, not_false_eq_true, and_true, true_and, and_false, false_and, and_self, reduceIte]; done) | (rw [if_pos (by assumption)]; first | rw [if_pos (by omega)] | rw [if_neg (by omega)]) | (rw [if_neg (by assumption)])
      have f_r1 : (nI (q + 1)) = r1 := by rw [e_r1]; first | (simp only [b_1, n_2, c_2, if_true, if_false, not_true_eq_false, not_false_eq_true, and_true, true_and, and_false, false_and, and_self, reduceIte]; done) | (rw [if_pos (by assumption)]; first | rw [if_pos (by omega)] | rw [if_neg (by omega)]) | (rw [if_neg (by assumption)])
      subst f_q1
      subst f_f1
      subst f_r1
      exact hQ _ _ _ _ (nI (q + 1)) ([((o 0), .inr (6, [.ref (aT 0), .ref (aB 0), .ref (aS 0), .int sk, .ref (g 0), .ref (y 0), .ref (z 0), .int s0, .int s1, .int s2])), ((z 0), .inr (1, [.ref (z 1), .int (nI (q + 1))])), ((z 1), .inr (4, [.ref (z 2)])), ((z 2), .inl (cI, 60, .inl (upd f q v)))]) dX6_append_43 rfl rfl hP hS
    · have n_2 : 60 ≤ q := ej_tnlt (a := q) (b := 60) (by omega) (by omega) c_2
      refine lv_bipush (v := (-3)) hx hb dX6_append_25 (by decide) ?_
      have f_q1 : q = q1 := by rw [e_q1]; first | (simp only [b_1, n_2, c_2, if_true, if_false, not_true_eq_false, not_false_eq_true, and_true, true_and, and_false, false_and, and_self, reduceIte]; done) | (rw [if_pos (by assumption)]; first | rw [if_pos (by omega)] | rw [if_neg (by omega)]) | (rw [if_neg (by assumption)])
      have f_f1 : f = f1 := by rw [e_f1]; first | (simp only [b_1, n_2, c_2, if_true, if_false, not_true_eq_false, not_false_eq_true, and_true, true_and, and_false, false_and, and_self, reduceIte]; done) | (rw [if_pos (by assumption)]; first | rw [if_pos (by omega)] | rw [if_neg (by omega)]) | (rw [if_neg (by assumption)])
      have f_r1 : (-3) = r1 := by rw [e_r1]; first | (simp only [b_1, n_2, c_2, if_true, if_false, not_true_eq_false, not_false_eq_true, and_true, true_and, and_false, false_and, and_self, reduceIte]; done) | (rw [if_pos (by assumption)]; first | rw [if_pos (by omega)] | rw [if_neg (by omega)]) | (rw [if_neg (by assumption)])
      subst f_q1
      subst f_f1
      subst f_r1
      exact hQ _ _ _ _ (-3) ([((o 0), .inr (6, [.ref (aT 0), .ref (aB 0), .ref (aS 0), .int sk, .ref (g 0), .ref (y 0), .ref (z 0), .int s0, .int s1, .int s2])), ((z 0), .inr (1, [.ref (z 1), .int (nI q)])), ((z 1), .inr (4, [.ref (z 2)])), ((z 2), .inl (cI, 60, .inl f))]) dX6_append_27 rfl rfl hP hS
  · have b_1 : ¬ (¬ v < 33 ∧ ¬ 126 < v) := ej_b0 c_1
    refine lv_iconst (v := (-1)) hx hb dX6_append_11 (by decide) ?_
    have f_q1 : q = q1 := by rw [e_q1]; first | (simp only [b_1, if_true, if_false, not_true_eq_false, not_false_eq_true, and_true, true_and, and_false, false_and, and_self, reduceIte]; done) | (rw [if_pos (by assumption)]; first | rw [if_pos (by omega)] | rw [if_neg (by omega)]) | (rw [if_neg (by assumption)])
    have f_f1 : f = f1 := by rw [e_f1]; first | (simp only [b_1, if_true, if_false, not_true_eq_false, not_false_eq_true, and_true, true_and, and_false, false_and, and_self, reduceIte]; done) | (rw [if_pos (by assumption)]; first | rw [if_pos (by omega)] | rw [if_neg (by omega)]) | (rw [if_neg (by assumption)])
    have f_r1 : (-1) = r1 := by rw [e_r1]; first | (simp only [b_1, if_true, if_false, not_true_eq_false, not_false_eq_true, and_true, true_and, and_false, false_and, and_self, reduceIte]; done) | (rw [if_pos (by assumption)]; first | rw [if_pos (by omega)] | rw [if_neg (by omega)]) | (rw [if_neg (by assumption)])
    subst f_q1
    subst f_f1
    subst f_r1
    exact hQ _ _ _ _ (-1) ([((o 0), .inr (6, [.ref (aT 0), .ref (aB 0), .ref (aS 0), .int sk, .ref (g 0), .ref (y 0), .ref (z 0), .int s0, .int s1, .int s2])), ((z 0), .inr (1, [.ref (z 1), .int (nI q)])), ((z 1), .inr (4, [.ref (z 2)])), ((z 2), .inl (cI, 60, .inl f))]) dX6_append_12 rfl rfl hP hS
