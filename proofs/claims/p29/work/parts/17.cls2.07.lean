set_option maxHeartbeats 4000000 in
set_option maxRecDepth 100000 in
theorem c_X6_why (l : Launch) (D : va_G) (tys : eT) (cI : ClassId) (ht0 : tys[0]? = some (cI, .int)) (o aT aB aS g y z : Nat → Nat) (sk s0 s1 s2 : Int32) (v : Int32) (r1 : Int32) (e_r1 : r1 = if inP v 2 then if s0 = 0 then -4 else if v = 0 then s0 else if v = 1 then s1 else s2 else -1)  : fc l D tys yX6_why wsX6_why (eR 1 22) [.ref (o 0), .int v] ([((o 0), .inr (6, [.ref (aT 0), .ref (aB 0), .ref (aS 0), .int sk, .ref (g 0), .ref (y 0), .ref (z 0), .int s0, .int s1, .int s2]))]) (some (.int r1)) ([((o 0), .inr (6, [.ref (aT 0), .ref (aB 0), .ref (aS 0), .int sk, .ref (g 0), .ref (y 0), .ref (z 0), .int s0, .int s1, .int s2]))]) := by
  refine fc_int cX6_why 2 (by decide +kernel) rfl (rfl) (Nat.le_of_ble_eq_true rfl) ?_
  intro p9 e9 s9 m9 a9 b9 t9 c9 H0 A Q ls S hK hN hA hP hD hS hl hQ
  have S : CallFix p9 m9 c9 cX6_why 2 s9 a9 wsX6_why RX6 := S
  obtain ⟨hx, hb, hml, hown, hts⟩ := id S
  have iX6 : ∀ w ∈ wsX60, w ∈ wsX6_why := fun w h => List.mem_cons_of_mem _ (List.mem_append_right _ (h))
  have hP : va_P D vwCl ([((o 0), .inr (6, [.ref (aT 0), .ref (aB 0), .ref (aS 0), .int sk, .ref (g 0), .ref (y 0), .ref (z 0), .int s0, .int s1, .int s2]))]) H0 := hP
  have hD : va_D A ([((o 0), .inr (6, [.ref (aT 0), .ref (aB 0), .ref (aS 0), .int sk, .ref (g 0), .ref (y 0), .ref (z 0), .int s0, .int s1, .int s2]))]) := hD
  have hl : lv_has ls 2 [(0, .ref (o 0)), (1, .int v)] := hl
  refine lv_iload_n hx hb dX6_why_0 rfl (lv_at hl 1 rfl) ?_
  refine lv_iconst (v := 0) hx hb dX6_why_1 (by decide) ?_
  refine lv_iconst (v := 2) hx hb dX6_why_2 (by decide) ?_
  refine ej_S (As := [.int v, .int 0, .int 2]) (rest := []) (w' := [((o 0), .inr (6, [.ref (aT 0), .ref (aB 0), .ref (aS 0), .int sk, .ref (g 0), .ref (y 0), .ref (z 0), .int s0, .int s1, .int s2]))]) S hK hN hA hP hD hS (c_X6_isWithin l D tys cI ht0 v 0 2) (va_cwS 3 hts gX6_why_X6_isWithin rfl rfl rfl hds_X6_isWithin ⟨Nat.le_of_ble_eq_true rfl, Nat.le_of_ble_eq_true rfl⟩) [] [] [] rfl (by decide +kernel) ⟨rfl, rfl⟩ rfl (by decide +kernel) rfl rfl hl.1 (Nat.le_of_ble_eq_true rfl) dX6_why_3 ⟨Nat.zero_le _, Nat.zero_le _⟩ (fun H locs hP hD hS => ?_)
  show W p9 l e9 (eR 1 22) s9 m9 a9 b9 t9 c9 H locs 0 0 Q (F0 m9 6 ls (.int (if ¬ v < 0 ∧ ¬ 2 < v then 1 else 0) :: []))
  refine lv_if_ne (tgt := 11) hx hb dX6_why_6 (by decide) (fun c_1 => ?_) (fun c_1 => ?_)
  · have b_1 : ¬ v < 0 ∧ ¬ 2 < v := ej_b1 c_1
    refine lv_aload_n hx hb dX6_why_11 rfl (lv_at hl 0 rfl) ?_
    refine va_get (D := D) (ci := 6) (v := .int s0) (C := RX6) (T := TX6) (N := 10) hx hb hts iX6 hown hK hP 0 rfl rfl 7 (Nat.le_of_ble_eq_true rfl) (hts (.fieldLink RX6 47 "BentPins" "stopReason" "I") (List.mem_of_getElem? (i := 1) rfl)) (fun _ h9 => h9) rfl dX6_why_12 ?_
    refine lv_if_ne (tgt := 21) hx hb dX6_why_15 (by decide) (fun c_2 => ?_) (fun c_2 => ?_)
    · refine lv_iload_n hx hb dX6_why_21 rfl (lv_at hl 1 rfl) ?_
      rcases Decidable.em (v = 0) with c_3 | c_3
      · refine lv_lookup (off := 26) (tgt := 48) hx hb dX6_why_22 (by decide) (by rw [c_3]; rfl) (by decide) ?_
        refine lv_aload_n hx hb dX6_why_48 rfl (lv_at hl 0 rfl) ?_
        refine va_get (D := D) (ci := 6) (v := .int s0) (C := RX6) (T := TX6) (N := 10) hx hb hts iX6 hown hK hP 0 rfl rfl 7 (Nat.le_of_ble_eq_true rfl) (hts (.fieldLink RX6 47 "BentPins" "stopReason" "I") (List.mem_of_getElem? (i := 1) rfl)) (fun _ h9 => h9) rfl dX6_why_49 ?_
        have f_r1 : s0 = r1 := by rw [e_r1]; first | (simp only [inP, b_1, c_2, eq_true c_3, if_true, if_false, ite_true, ite_false, not_true_eq_false, not_false_eq_true, and_true, true_and, and_false, false_and, and_self, reduceIte]; done) | (simp only [inP, b_1, c_2, eq_true c_3, if_true, if_false, ite_true, ite_false, not_true_eq_false, not_false_eq_true, and_true, true_and, and_false, false_and, and_self, reduceIte]; rfl) | rfl
        subst f_r1
        exact hQ _ _ _ _ s0 ([((o 0), .inr (6, [.ref (aT 0), .ref (aB 0), .ref (aS 0), .int sk, .ref (g 0), .ref (y 0), .ref (z 0), .int s0, .int s1, .int s2]))]) dX6_why_52 rfl rfl hP hS
      rcases Decidable.em (v = 1) with c_4 | c_4
      · refine lv_lookup (off := 31) (tgt := 53) hx hb dX6_why_22 (by decide) (by rw [c_4]; rfl) (by decide) ?_
        refine lv_aload_n hx hb dX6_why_53 rfl (lv_at hl 0 rfl) ?_
        refine va_get (D := D) (ci := 6) (v := .int s1) (C := RX6) (T := TX6) (N := 10) hx hb hts iX6 hown hK hP 0 rfl rfl 8 (Nat.le_of_ble_eq_true rfl) (hts (.fieldLink RX6 51 "BentPins" "stopPart" "I") (List.mem_of_getElem? (i := 2) rfl)) (fun _ h9 => h9) rfl dX6_why_54 ?_
        have f_r1 : s1 = r1 := by rw [e_r1]; first | (simp only [inP, b_1, c_2, c_3, eq_true c_4, if_true, if_false, ite_true, ite_false, not_true_eq_false, not_false_eq_true, and_true, true_and, and_false, false_and, and_self, reduceIte]; done) | (simp only [inP, b_1, c_2, c_3, eq_true c_4, if_true, if_false, ite_true, ite_false, not_true_eq_false, not_false_eq_true, and_true, true_and, and_false, false_and, and_self, reduceIte]; rfl) | rfl
        subst f_r1
        exact hQ _ _ _ _ s1 ([((o 0), .inr (6, [.ref (aT 0), .ref (aB 0), .ref (aS 0), .int sk, .ref (g 0), .ref (y 0), .ref (z 0), .int s0, .int s1, .int s2]))]) dX6_why_57 rfl rfl hP hS
      refine lv_lookup (off := 36) (tgt := 58) hx hb dX6_why_22 (by decide) (by show Op.lookupswitch.offset _ _ _ = _; rw [lv_osw c_3 (show (0 : Int32).toInt = 0 by decide), lv_osw c_4 (show (1 : Int32).toInt = 1 by decide)]; rfl) (by decide) ?_
      refine lv_aload_n hx hb dX6_why_58 rfl (lv_at hl 0 rfl) ?_
      refine va_get (D := D) (ci := 6) (v := .int s2) (C := RX6) (T := TX6) (N := 10) hx hb hts iX6 hown hK hP 0 rfl rfl 9 (Nat.le_of_ble_eq_true rfl) (hts (.fieldLink RX6 54 "BentPins" "stopPosition" "I") (List.mem_of_getElem? (i := 3) rfl)) (fun _ h9 => h9) rfl dX6_why_59 ?_
      have f_r1 : s2 = r1 := by rw [e_r1]; first | (simp only [inP, b_1, c_2, c_3, c_4, if_true, if_false, ite_true, ite_false, not_true_eq_false, not_false_eq_true, and_true, true_and, and_false, false_and, and_self, reduceIte]; done) | (simp only [inP, b_1, c_2, c_3, c_4, if_true, if_false, ite_true, ite_false, not_true_eq_false, not_false_eq_true, and_true, true_and, and_false, false_and, and_self, reduceIte]; rfl) | rfl
      subst f_r1
      exact hQ _ _ _ _ s2 ([((o 0), .inr (6, [.ref (aT 0), .ref (aB 0), .ref (aS 0), .int sk, .ref (g 0), .ref (y 0), .ref (z 0), .int s0, .int s1, .int s2]))]) dX6_why_62 rfl rfl hP hS
    · refine lv_bipush (v := (-4)) hx hb dX6_why_18 (by decide) ?_
      have f_r1 : (-4) = r1 := by rw [e_r1]; first | (simp only [inP, b_1, eq_true c_2, if_true, if_false, ite_true, ite_false, not_true_eq_false, not_false_eq_true, and_true, true_and, and_false, false_and, and_self, reduceIte]; done) | (simp only [inP, b_1, eq_true c_2, if_true, if_false, ite_true, ite_false, not_true_eq_false, not_false_eq_true, and_true, true_and, and_false, false_and, and_self, reduceIte]; rfl) | rfl
      subst f_r1
      exact hQ _ _ _ _ (-4) ([((o 0), .inr (6, [.ref (aT 0), .ref (aB 0), .ref (aS 0), .int sk, .ref (g 0), .ref (y 0), .ref (z 0), .int s0, .int s1, .int s2]))]) dX6_why_20 rfl rfl hP hS
  · have b_1 : ¬ (¬ v < 0 ∧ ¬ 2 < v) := ej_b0 c_1
    refine lv_iconst (v := (-1)) hx hb dX6_why_9 (by decide) ?_
    have f_r1 : (-1) = r1 := by rw [e_r1]; first | (simp only [inP, b_1, if_true, if_false, ite_true, ite_false, not_true_eq_false, not_false_eq_true, and_true, true_and, and_false, false_and, and_self, reduceIte]; done) | (simp only [inP, b_1, if_true, if_false, ite_true, ite_false, not_true_eq_false, not_false_eq_true, and_true, true_and, and_false, false_and, and_self, reduceIte]; rfl) | rfl
    subst f_r1
    exact hQ _ _ _ _ (-1) ([((o 0), .inr (6, [.ref (aT 0), .ref (aB 0), .ref (aS 0), .int sk, .ref (g 0), .ref (y 0), .ref (z 0), .int s0, .int s1, .int s2]))]) dX6_why_10 rfl rfl hP hS
