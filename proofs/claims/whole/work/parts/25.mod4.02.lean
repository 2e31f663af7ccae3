set_option maxHeartbeats 4000000 in
set_option maxRecDepth 100000 in
theorem c_X7_set_0 (l : Launch) (D : va_G) (tys : eT) (cI : ClassId) (ht0 : tys[0]? = some (cI, .int)) (b : Nat → Nat) (kn le sp : Nat) (ik be fo op ha st : Int32) (t : Pn) (u : Tr) (ps : Nat → Pn × Tr) (w : Int32) (k1 : Nat) (e_k1 : k1 = if inP w 2 then recN kn else kn) (ps1 : Nat → Pn × Tr) (e_ps1 : ps1 = if inP w 2 then recS ps kn (t, u) else ps) (t1 : Pn) (e_t1 : t1 = if inP w 2 then tiT t w else t) (r1 : Int32) (e_r1 : r1 = if inP w 2 then P_ti t else -1) (hkn : kn ≤ 4) : fc l D tys yX7_set wsX7_set (eR 2 45) [.ref (b 0), .int 0, .int w] ([((b 0), .inr (7, [.ref (b 1), .ref (b 2), .ref (b 3), .int (nI kn), .ref (b 4), .int ik, .ref (b 5), .int (nI le), .int be, .int (nI sp), .int fo, .int op, .int ha, .int st, .ref (b 6), .ref (b 7), .ref (b 8)])), ((b 1), .inl (cI, 206, .inl (flatS t u))), ((b 3), .inl (cI, 824, .inl (pastF ps)))]) (some (.int r1)) ([((b 0), .inr (7, [.ref (b 1), .ref (b 2), .ref (b 3), .int (nI k1), .ref (b 4), .int ik, .ref (b 5), .int (nI le), .int be, .int (nI sp), .int fo, .int op, .int ha, .int st, .ref (b 6), .ref (b 7), .ref (b 8)])), ((b 1), .inl (cI, 206, .inl (flatS t1 u))), ((b 3), .inl (cI, 824, .inl (pastF ps1)))]) := by
  refine fc_int cX7_set 4 (by decide +kernel) rfl (rfl) (Nat.le_of_ble_eq_true rfl) ?_
  intro p9 e9 s9 m9 a9 b9 t9 c9 H0 A Q ls S hK hN hA hP hD hS hl hQ
  have S : CallFix p9 m9 c9 cX7_set 4 s9 a9 wsX7_set RX7 := S
  obtain ⟨hx, hb, hml, hown, hts⟩ := id S
  have iX7 : ∀ w ∈ wsX70, w ∈ wsX7_set := fun w h => List.mem_cons_of_mem _ (List.mem_append_right _ (h))
  have hP : va_P D vwCl ([((b 0), .inr (7, [.ref (b 1), .ref (b 2), .ref (b 3), .int (nI kn), .ref (b 4), .int ik, .ref (b 5), .int (nI le), .int be, .int (nI sp), .int fo, .int op, .int ha, .int st, .ref (b 6), .ref (b 7), .ref (b 8)])), ((b 1), .inl (cI, 206, .inl (flatS t u))), ((b 3), .inl (cI, 824, .inl (pastF ps)))]) H0 := hP
  have hD : va_D A ([((b 0), .inr (7, [.ref (b 1), .ref (b 2), .ref (b 3), .int (nI kn), .ref (b 4), .int ik, .ref (b 5), .int (nI le), .int be, .int (nI sp), .int fo, .int op, .int ha, .int st, .ref (b 6), .ref (b 7), .ref (b 8)])), ((b 1), .inl (cI, 206, .inl (flatS t u))), ((b 3), .inl (cI, 824, .inl (pastF ps)))]) := hD
  have hl : lv_has ls 4 [(0, .ref (b 0)), (1, .int 0), (2, .int w)] := hl
  refine lv_iload_n hx hb dX7_set_0 rfl (lv_at hl 1 rfl) ?_
  refine lv_iconst (v := 0) hx hb dX7_set_1 (by decide) ?_
  refine lv_iconst (v := 1) hx hb dX7_set_2 (by decide) ?_
  refine ej_S (As := [.int 0, .int 0, .int 1]) (rest := []) (w' := [((b 0), .inr (7, [.ref (b 1), .ref (b 2), .ref (b 3), .int (nI kn), .ref (b 4), .int ik, .ref (b 5), .int (nI le), .int be, .int (nI sp), .int fo, .int op, .int ha, .int st, .ref (b 6), .ref (b 7), .ref (b 8)])), ((b 1), .inl (cI, 206, .inl (flatS t u))), ((b 3), .inl (cI, 824, .inl (pastF ps)))]) S hK hN hA hP hD hS (c_X7_in l D tys cI ht0 0 0 1) (va_cwS 3 hts gX7_set_X7_in rfl rfl rfl hds_X7_in ⟨Nat.le_of_ble_eq_true rfl, Nat.le_of_ble_eq_true rfl⟩) [] [] [] rfl (by decide +kernel) ⟨rfl, rfl⟩ rfl (by decide +kernel) rfl rfl hl.1 (Nat.le_of_ble_eq_true rfl) dX7_set_3 ⟨Nat.zero_le _, Nat.zero_le _⟩ (fun H locs hP hD hS => ?_)
  show W p9 l e9 (eR 2 45) s9 m9 a9 b9 t9 c9 H locs 0 0 Q (F0 m9 6 ls (.int (if ¬ 0 < 0 ∧ ¬ 1 < 0 then 1 else 0) :: []))
  refine lv_if_eq (tgt := 27) hx hb dX7_set_6 (by decide) (fun c_1 => ?_) (fun c_1 => ?_)
  · have b_1 : ¬ (¬ 0 < 0 ∧ ¬ 1 < 0) := ej_b0 c_1
    exact absurd (by decide) b_1
  · have b_1 : ¬ 0 < 0 ∧ ¬ 1 < 0 := ej_b1 c_1
    refine lv_iload_n hx hb dX7_set_9 rfl (lv_at hl 2 rfl) ?_
    refine lv_iload_n hx hb dX7_set_10 rfl (lv_at hl 1 rfl) ?_
    refine lv_iload_n hx hb dX7_set_11 rfl (lv_at hl 1 rfl) ?_
    refine lv_if_ne (tgt := 19) hx hb dX7_set_12 (by decide) (fun h9 => absurd (show (0 : Int32) = 0 from by decide) h9) (fun _ => ?_)
    refine lv_iconst (v := 2) hx hb dX7_set_15 (by decide) ?_
    refine lv_goto (tgt := 21) hx hb dX7_set_16 (by decide) ?_
    refine ej_S (As := [.int w, .int 0, .int 2]) (rest := []) (w' := [((b 0), .inr (7, [.ref (b 1), .ref (b 2), .ref (b 3), .int (nI kn), .ref (b 4), .int ik, .ref (b 5), .int (nI le), .int be, .int (nI sp), .int fo, .int op, .int ha, .int st, .ref (b 6), .ref (b 7), .ref (b 8)])), ((b 1), .inl (cI, 206, .inl (flatS t u))), ((b 3), .inl (cI, 824, .inl (pastF ps)))]) S hK hN hA hP hD hS (c_X7_in l D tys cI ht0 w 0 2) (va_cwS 3 hts gX7_set_X7_in rfl rfl rfl hds_X7_in ⟨Nat.le_of_ble_eq_true rfl, Nat.le_of_ble_eq_true rfl⟩) [] [] [] rfl (by decide +kernel) ⟨rfl, rfl⟩ rfl (by decide +kernel) rfl rfl hl.1 (Nat.le_of_ble_eq_true rfl) dX7_set_21 ⟨Nat.zero_le _, Nat.zero_le _⟩ (fun H locs hP hD hS => ?_)
    show W p9 l e9 (eR 2 45) s9 m9 a9 b9 t9 c9 H locs 0 0 Q (F0 m9 24 ls (.int (if ¬ w < 0 ∧ ¬ 2 < w then 1 else 0) :: []))
    refine lv_if_ne (tgt := 29) hx hb dX7_set_24 (by decide) (fun c_2 => ?_) (fun c_2 => ?_)
    · have b_2 : ¬ w < 0 ∧ ¬ 2 < w := ej_b1 c_2
      refine lv_aload_n hx hb dX7_set_29 rfl (lv_at hl 0 rfl) ?_
      obtain ⟨k1_3, e_k1_3⟩ : ∃ z9 : Nat, z9 = recN kn := ⟨_, rfl⟩
      obtain ⟨ps1_4, e_ps1_4⟩ : ∃ z9 : Nat → Pn × Tr, z9 = recS ps kn (t, u) := ⟨_, rfl⟩
      refine ej_V (As := []) (rest := []) (w' := [((b 0), .inr (7, [.ref (b 1), .ref (b 2), .ref (b 3), .int (nI k1_3), .ref (b 4), .int ik, .ref (b 5), .int (nI le), .int be, .int (nI sp), .int fo, .int op, .int ha, .int st, .ref (b 6), .ref (b 7), .ref (b 8)])), ((b 1), .inl (cI, 206, .inl (flatS t u))), ((b 3), .inl (cI, 824, .inl (pastF ps1_4)))]) S hK hN hA hP hD hS (c_X7_records l D tys cI ht0 b kn le sp ik be fo op ha st t u ps k1_3 e_k1_3 ps1_4 e_ps1_4 (by omega)) (cwV 0 hts gX7_set_X7_records rfl rfl rfl hdv_X7_records ⟨Nat.le_of_ble_eq_true rfl, Nat.le_of_ble_eq_true rfl⟩) [0, 1, 2] [some 0, some 1, some 2] [(b 0), (b 1), (b 3)] rfl (by decide +kernel) ⟨rfl, rfl⟩ rfl (by decide +kernel) 0 7 rfl rfl rfl rfl hl.1 (Nat.le_of_ble_eq_true rfl) dX7_set_30 ⟨Nat.zero_le _, Nat.zero_le _⟩ (fun H locs hP hD hS => ?_)
      show W p9 l e9 (eR 2 45) s9 m9 a9 b9 t9 c9 H locs 0 0 Q (F0 m9 33 ls [])
      refine lv_aload_n hx hb dX7_set_33 rfl (lv_at hl 0 rfl) ?_
      refine va_get (D := D) (ci := 7) (v := .ref (b 1)) (C := RX7) (T := TX7) (N := 17) hx hb hts iX7 hown hK hP 0 rfl rfl 0 (Nat.le_of_ble_eq_true rfl) (hts (.fieldLink RX7 7 "BentPinsModel" "s" "[I") (List.mem_of_getElem? (i := 1) rfl)) (fun _ h9 => h9) rfl dX7_set_34 ?_
      refine lv_bipush (v := 8) hx hb dX7_set_37 (by decide) ?_
      refine lv_iload_n hx hb dX7_set_39 rfl (lv_at hl 1 rfl) ?_
      refine lv_iadd hx hb dX7_set_40 ?_
      refine ej_topi (show (8 + 0 : Int32) = 8 by decide) ?_
      refine va_iald (i := 8) hx hb hK hP 1 0 rfl ht0 (vp_in_nI (n := 8) (N := 206) (by omega) (by omega)) dX7_set_41 ?_
      refine ej_topi (show (flatS t u) (nI 8).toNatClampNeg = (flatS t u) 8 from congrArg (flatS t u) (nI_clamp (n := 8) (by omega))) ?_
      refine ej_topi (show (flatS t u) 8 = P_ti t from rfl) ?_
      refine lv_istore_n (lv' := [(3, .int (P_ti t)), (0, .ref (b 0)), (1, .int 0), (2, .int w)]) hx hb dX7_set_42 rfl hl (by decide) rfl (fun ls hl => ?_)
      refine lv_aload_n hx hb dX7_set_43 rfl (lv_at hl 1 rfl) ?_
      refine va_get (D := D) (ci := 7) (v := .ref (b 1)) (C := RX7) (T := TX7) (N := 17) hx hb hts iX7 hown hK hP 0 rfl rfl 0 (Nat.le_of_ble_eq_true rfl) (hts (.fieldLink RX7 7 "BentPinsModel" "s" "[I") (List.mem_of_getElem? (i := 1) rfl)) (fun _ h9 => h9) rfl dX7_set_44 ?_
      refine lv_bipush (v := 8) hx hb dX7_set_47 (by decide) ?_
      refine lv_iload_n hx hb dX7_set_49 rfl (lv_at hl 2 rfl) ?_
      refine lv_iadd hx hb dX7_set_50 ?_
      refine ej_topi (show (8 + 0 : Int32) = 8 by decide) ?_
      refine lv_iload_n hx hb dX7_set_51 rfl (lv_at hl 3 rfl) ?_
      refine va_iast (i := 8) hx hb hK hP hD hS 1 0 rfl ht0 (vp_in_nI (n := 8) (N := 206) (by omega) (by omega)) dX7_set_52 (fun H locs hP hD hS => ?_)
      rw [show (8 : Int32).toNatClampNeg = 8 from by decide] at hP hD
      have hP := ej_row (q := 1) (a := (b 1)) (cI := cI) (n := 206) (flatS (P_be t, P_ou t, P_bl t, P_si t, P_vi t, w, P_ri t, P_bb t) u) hP rfl (fun j9 _ => congrFun (flC_8 t u w) j9)
      have hD := ej_rowD (q := 1) (a := (b 1)) (cI := cI) (n := 206) (flatS (P_be t, P_ou t, P_bl t, P_si t, P_vi t, w, P_ri t, P_bb t) u) hD rfl
      have hP : va_P D vwCl ([((b 0), .inr (7, [.ref (b 1), .ref (b 2), .ref (b 3), .int (nI k1_3), .ref (b 4), .int ik, .ref (b 5), .int (nI le), .int be, .int (nI sp), .int fo, .int op, .int ha, .int st, .ref (b 6), .ref (b 7), .ref (b 8)])), ((b 1), .inl (cI, 206, .inl (flatS (P_be t, P_ou t, P_bl t, P_si t, P_vi t, w, P_ri t, P_bb t) u))), ((b 3), .inl (cI, 824, .inl (pastF ps1_4)))]) _ := hP
      have hD : va_D A ([((b 0), .inr (7, [.ref (b 1), .ref (b 2), .ref (b 3), .int (nI k1_3), .ref (b 4), .int ik, .ref (b 5), .int (nI le), .int be, .int (nI sp), .int fo, .int op, .int ha, .int st, .ref (b 6), .ref (b 7), .ref (b 8)])), ((b 1), .inl (cI, 206, .inl (flatS (P_be t, P_ou t, P_bl t, P_si t, P_vi t, w, P_ri t, P_bb t) u))), ((b 3), .inl (cI, 824, .inl (pastF ps1_4)))]) := hD
      have hP : va_P D vwCl ([((b 0), .inr (7, [.ref (b 1), .ref (b 2), .ref (b 3), .int (nI k1_3), .ref (b 4), .int ik, .ref (b 5), .int (nI le), .int be, .int (nI sp), .int fo, .int op, .int ha, .int st, .ref (b 6), .ref (b 7), .ref (b 8)])), ((b 1), .inl (cI, 206, .inl (flatS (P_be t, P_ou t, P_bl t, P_si t, P_vi t, w, P_ri t, P_bb t) u))), ((b 3), .inl (cI, 824, .inl (pastF ps1_4)))]) H := hP
      have hD : va_D A ([((b 0), .inr (7, [.ref (b 1), .ref (b 2), .ref (b 3), .int (nI k1_3), .ref (b 4), .int ik, .ref (b 5), .int (nI le), .int be, .int (nI sp), .int fo, .int op, .int ha, .int st, .ref (b 6), .ref (b 7), .ref (b 8)])), ((b 1), .inl (cI, 206, .inl (flatS (P_be t, P_ou t, P_bl t, P_si t, P_vi t, w, P_ri t, P_bb t) u))), ((b 3), .inl (cI, 824, .inl (pastF ps1_4)))]) := hD
      refine lv_iload_n hx hb dX7_set_53 rfl (lv_at hl 0 rfl) ?_
      have f_k1 : k1_3 = k1 := by rw [e_k1]; first | (simp only [inP, tiT, b_1, b_2, e_k1_3, e_ps1_4, if_true, if_false, ite_true, ite_false, not_true_eq_false, not_false_eq_true, and_true, true_and, and_false, false_and, and_self, reduceIte]; done) | (simp only [inP, tiT, b_1, b_2, e_k1_3, e_ps1_4, if_true, if_false, ite_true, ite_false, not_true_eq_false, not_false_eq_true, and_true, true_and, and_false, false_and, and_self, reduceIte]; rfl) | rfl
      have f_ps1 : ps1_4 = ps1 := by rw [e_ps1]; first | (simp only [inP, tiT, b_1, b_2, e_k1_3, e_ps1_4, if_true, if_false, ite_true, ite_false, not_true_eq_false, not_false_eq_true, and_true, true_and, and_false, false_and, and_self, reduceIte]; done) | (simp only [inP, tiT, b_1, b_2, e_k1_3, e_ps1_4, if_true, if_false, ite_true, ite_false, not_true_eq_false, not_false_eq_true, and_true, true_and, and_false, false_and, and_self, reduceIte]; rfl) | rfl
      have f_t1 : (P_be t, P_ou t, P_bl t, P_si t, P_vi t, w, P_ri t, P_bb t) = t1 := by rw [e_t1]; first | (simp only [inP, tiT, b_1, b_2, e_k1_3, e_ps1_4, if_true, if_false, ite_true, ite_false, not_true_eq_false, not_false_eq_true, and_true, true_and, and_false, false_and, and_self, reduceIte]; done) | (simp only [inP, tiT, b_1, b_2, e_k1_3, e_ps1_4, if_true, if_false, ite_true, ite_false, not_true_eq_false, not_false_eq_true, and_true, true_and, and_false, false_and, and_self, reduceIte]; rfl) | rfl
      have f_r1 : (P_ti t) = r1 := by rw [e_r1]; first | (simp only [inP, tiT, b_1, b_2, e_k1_3, e_ps1_4, if_true, if_false, ite_true, ite_false, not_true_eq_false, not_false_eq_true, and_true, true_and, and_false, false_and, and_self, reduceIte]; done) | (simp only [inP, tiT, b_1, b_2, e_k1_3, e_ps1_4, if_true, if_false, ite_true, ite_false, not_true_eq_false, not_false_eq_true, and_true, true_and, and_false, false_and, and_self, reduceIte]; rfl) | rfl
      subst f_k1
      subst f_ps1
      subst f_t1
      subst f_r1
      exact hQ _ _ _ _ (P_ti t) ([((b 0), .inr (7, [.ref (b 1), .ref (b 2), .ref (b 3), .int (nI k1_3), .ref (b 4), .int ik, .ref (b 5), .int (nI le), .int be, .int (nI sp), .int fo, .int op, .int ha, .int st, .ref (b 6), .ref (b 7), .ref (b 8)])), ((b 1), .inl (cI, 206, .inl (flatS (P_be t, P_ou t, P_bl t, P_si t, P_vi t, w, P_ri t, P_bb t) u))), ((b 3), .inl (cI, 824, .inl (pastF ps1_4)))]) dX7_set_54 rfl rfl hP hS
    · have b_2 : ¬ (¬ w < 0 ∧ ¬ 2 < w) := ej_b0 c_2
      refine lv_iconst (v := (-1)) hx hb dX7_set_27 (by decide) ?_
      have f_k1 : kn = k1 := by rw [e_k1]; first | (simp only [inP, tiT, b_1, b_2, if_true, if_false, ite_true, ite_false, not_true_eq_false, not_false_eq_true, and_true, true_and, and_false, false_and, and_self, reduceIte]; done) | (simp only [inP, tiT, b_1, b_2, if_true, if_false, ite_true, ite_false, not_true_eq_false, not_false_eq_true, and_true, true_and, and_false, false_and, and_self, reduceIte]; rfl) | rfl
      have f_ps1 : ps = ps1 := by rw [e_ps1]; first | (simp only [inP, tiT, b_1, b_2, if_true, if_false, ite_true, ite_false, not_true_eq_false, not_false_eq_true, and_true, true_and, and_false, false_and, and_self, reduceIte]; done) | (simp only [inP, tiT, b_1, b_2, if_true, if_false, ite_true, ite_false, not_true_eq_false, not_false_eq_true, and_true, true_and, and_false, false_and, and_self, reduceIte]; rfl) | rfl
      have f_t1 : t = t1 := by rw [e_t1]; first | (simp only [inP, tiT, b_1, b_2, if_true, if_false, ite_true, ite_false, not_true_eq_false, not_false_eq_true, and_true, true_and, and_false, false_and, and_self, reduceIte]; done) | (simp only [inP, tiT, b_1, b_2, if_true, if_false, ite_true, ite_false, not_true_eq_false, not_false_eq_true, and_true, true_and, and_false, false_and, and_self, reduceIte]; rfl) | rfl
      have f_r1 : (-1) = r1 := by rw [e_r1]; first | (simp only [inP, tiT, b_1, b_2, if_true, if_false, ite_true, ite_false, not_true_eq_false, not_false_eq_true, and_true, true_and, and_false, false_and, and_self, reduceIte]; done) | (simp only [inP, tiT, b_1, b_2, if_true, if_false, ite_true, ite_false, not_true_eq_false, not_false_eq_true, and_true, true_and, and_false, false_and, and_self, reduceIte]; rfl) | rfl
      subst f_k1
      subst f_ps1
      subst f_t1
      subst f_r1
      exact hQ _ _ _ _ (-1) ([((b 0), .inr (7, [.ref (b 1), .ref (b 2), .ref (b 3), .int (nI kn), .ref (b 4), .int ik, .ref (b 5), .int (nI le), .int be, .int (nI sp), .int fo, .int op, .int ha, .int st, .ref (b 6), .ref (b 7), .ref (b 8)])), ((b 1), .inl (cI, 206, .inl (flatS t u))), ((b 3), .inl (cI, 824, .inl (pastF ps)))]) dX7_set_28 rfl rfl hP hS
