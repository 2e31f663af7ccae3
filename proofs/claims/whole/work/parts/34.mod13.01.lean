set_option maxHeartbeats 4000000 in
set_option maxRecDepth 100000 in
theorem c_X7_count_n (l : Launch) (D : va_G) (tys : eT) (cI : ClassId) (ht0 : tys[0]? = some (cI, .int)) (b : Nat → Nat) (kn le sp : Nat) (ik be fo op ha st : Int32) (t : Pn) (u : Tr) (w : Int32)  (hw : ¬ (¬ w < 0 ∧ ¬ 18 < w)) : fc l D tys yX7_count wsX7_count (eR 12 500) [.ref (b 0), .int w] ([((b 0), .inr (7, [.ref (b 1), .ref (b 2), .ref (b 3), .int (nI kn), .ref (b 4), .int ik, .ref (b 5), .int (nI le), .int be, .int (nI sp), .int fo, .int op, .int ha, .int st, .ref (b 6), .ref (b 7), .ref (b 8)])), ((b 1), .inl (cI, 206, .inl (flatS t u)))]) (some (.int (-1))) ([((b 0), .inr (7, [.ref (b 1), .ref (b 2), .ref (b 3), .int (nI kn), .ref (b 4), .int ik, .ref (b 5), .int (nI le), .int be, .int (nI sp), .int fo, .int op, .int ha, .int st, .ref (b 6), .ref (b 7), .ref (b 8)])), ((b 1), .inl (cI, 206, .inl (flatS t u)))]) := by
  refine fc_int cX7_count 2 (by decide +kernel) rfl (rfl) (Nat.le_of_ble_eq_true rfl) ?_
  intro p9 e9 s9 m9 a9 b9 t9 c9 H0 A Q ls S hK hN hA hP hD hS hl hQ
  have S : CallFix p9 m9 c9 cX7_count 2 s9 a9 wsX7_count RX7 := S
  obtain ⟨hx, hb, hml, hown, hts⟩ := id S
  have hP : va_P D vwCl ([((b 0), .inr (7, [.ref (b 1), .ref (b 2), .ref (b 3), .int (nI kn), .ref (b 4), .int ik, .ref (b 5), .int (nI le), .int be, .int (nI sp), .int fo, .int op, .int ha, .int st, .ref (b 6), .ref (b 7), .ref (b 8)])), ((b 1), .inl (cI, 206, .inl (flatS t u)))]) H0 := hP
  have hD : va_D A ([((b 0), .inr (7, [.ref (b 1), .ref (b 2), .ref (b 3), .int (nI kn), .ref (b 4), .int ik, .ref (b 5), .int (nI le), .int be, .int (nI sp), .int fo, .int op, .int ha, .int st, .ref (b 6), .ref (b 7), .ref (b 8)])), ((b 1), .inl (cI, 206, .inl (flatS t u)))]) := hD
  have hl : lv_has ls 2 [(0, .ref (b 0)), (1, .int w)] := hl
  refine lv_iload_n hx hb dX7_count_0 rfl (lv_at hl 1 rfl) ?_
  rcases Decidable.em (w = 0) with c_1 | c_1
  · rw [c_1] at hw; exact absurd (by decide) hw
  rcases Decidable.em (w = 1) with c_2 | c_2
  · rw [c_2] at hw; exact absurd (by decide) hw
  rcases Decidable.em (w = 2) with c_3 | c_3
  · rw [c_3] at hw; exact absurd (by decide) hw
  rcases Decidable.em (w = 3) with c_4 | c_4
  · rw [c_4] at hw; exact absurd (by decide) hw
  rcases Decidable.em (w = 4) with c_5 | c_5
  · rw [c_5] at hw; exact absurd (by decide) hw
  rcases Decidable.em (w = 5) with c_6 | c_6
  · rw [c_6] at hw; exact absurd (by decide) hw
  rcases Decidable.em (w = 6) with c_7 | c_7
  · rw [c_7] at hw; exact absurd (by decide) hw
  rcases Decidable.em (w = 7) with c_8 | c_8
  · rw [c_8] at hw; exact absurd (by decide) hw
  rcases Decidable.em (w = 8) with c_9 | c_9
  · rw [c_9] at hw; exact absurd (by decide) hw
  rcases Decidable.em (w = 9) with c_10 | c_10
  · rw [c_10] at hw; exact absurd (by decide) hw
  rcases Decidable.em (w = 10) with c_11 | c_11
  · rw [c_11] at hw; exact absurd (by decide) hw
  rcases Decidable.em (w = 11) with c_12 | c_12
  · rw [c_12] at hw; exact absurd (by decide) hw
  rcases Decidable.em (w = 12) with c_13 | c_13
  · rw [c_13] at hw; exact absurd (by decide) hw
  rcases Decidable.em (w = 13) with c_14 | c_14
  · rw [c_14] at hw; exact absurd (by decide) hw
  rcases Decidable.em (w = 14) with c_15 | c_15
  · rw [c_15] at hw; exact absurd (by decide) hw
  rcases Decidable.em (w = 15) with c_16 | c_16
  · rw [c_16] at hw; exact absurd (by decide) hw
  rcases Decidable.em (w = 16) with c_17 | c_17
  · rw [c_17] at hw; exact absurd (by decide) hw
  rcases Decidable.em (w = 17) with c_18 | c_18
  · rw [c_18] at hw; exact absurd (by decide) hw
  rcases Decidable.em (w = 18) with c_19 | c_19
  · rw [c_19] at hw; exact absurd (by decide) hw
  have tc_1 := lv_neT c_1 (show (0 : Int32).toInt = 0 by decide)
  have tc_2 := lv_neT c_2 (show (1 : Int32).toInt = 1 by decide)
  have tc_3 := lv_neT c_3 (show (2 : Int32).toInt = 2 by decide)
  have tc_4 := lv_neT c_4 (show (3 : Int32).toInt = 3 by decide)
  have tc_5 := lv_neT c_5 (show (4 : Int32).toInt = 4 by decide)
  have tc_6 := lv_neT c_6 (show (5 : Int32).toInt = 5 by decide)
  have tc_7 := lv_neT c_7 (show (6 : Int32).toInt = 6 by decide)
  have tc_8 := lv_neT c_8 (show (7 : Int32).toInt = 7 by decide)
  have tc_9 := lv_neT c_9 (show (8 : Int32).toInt = 8 by decide)
  have tc_10 := lv_neT c_10 (show (9 : Int32).toInt = 9 by decide)
  have tc_11 := lv_neT c_11 (show (10 : Int32).toInt = 10 by decide)
  have tc_12 := lv_neT c_12 (show (11 : Int32).toInt = 11 by decide)
  have tc_13 := lv_neT c_13 (show (12 : Int32).toInt = 12 by decide)
  have tc_14 := lv_neT c_14 (show (13 : Int32).toInt = 13 by decide)
  have tc_15 := lv_neT c_15 (show (14 : Int32).toInt = 14 by decide)
  have tc_16 := lv_neT c_16 (show (15 : Int32).toInt = 15 by decide)
  have tc_17 := lv_neT c_17 (show (16 : Int32).toInt = 16 by decide)
  have tc_18 := lv_neT c_18 (show (17 : Int32).toInt = 17 by decide)
  have tc_19 := lv_neT c_19 (show (18 : Int32).toInt = 18 by decide)
  refine lv_tableOut (tgt := 189) hx hb dX7_count_1 (by omega) (by decide) ?_
  refine lv_iconst (v := (-1)) hx hb dX7_count_189 (by decide) ?_
  exact hQ _ _ _ _ (-1) ([((b 0), .inr (7, [.ref (b 1), .ref (b 2), .ref (b 3), .int (nI kn), .ref (b 4), .int ik, .ref (b 5), .int (nI le), .int be, .int (nI sp), .int fo, .int op, .int ha, .int st, .ref (b 6), .ref (b 7), .ref (b 8)])), ((b 1), .inl (cI, 206, .inl (flatS t u)))]) dX7_count_190 (by first | (simp only [c_1, c_2, c_3, c_4, c_5, c_6, c_7, c_8, c_9, c_10, c_11, c_12, c_13, c_14, c_15, c_16, c_17, c_18, c_19, if_true, if_false, ite_true, ite_false, not_true_eq_false, not_false_eq_true, and_true, true_and, and_false, false_and, and_self, true_or, or_true, or_false, false_or, reduceIte]; done) | rfl | simp [c_1, c_2, c_3, c_4, c_5, c_6, c_7, c_8, c_9, c_10, c_11, c_12, c_13, c_14, c_15, c_16, c_17, c_18, c_19]) rfl hP hS
