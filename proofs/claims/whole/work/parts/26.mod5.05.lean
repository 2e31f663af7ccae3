set_option maxHeartbeats 4000000 in
set_option maxRecDepth 100000 in
theorem c_X7_sign (l : Launch) (D : va_G) (tys : eT) (cI : ClassId) (ht0 : tys[0]? = some (cI, .int)) (b : Nat → Nat) (kn le sp : Nat) (ik be fo op ha st : Int32) (t : Pn) (u : Tr) (v : Int32) (r1 : Int32) (e_r1 : r1 = if inP v 34 then signI t v.toNatClampNeg else -1) (hout : outOK t) (hbl : belOK t) : fc l D tys yX7_sign wsX7_sign (eR 2 42) [.ref (b 0), .int v] ([((b 0), .inr (7, [.ref (b 1), .ref (b 2), .ref (b 3), .int (nI kn), .ref (b 4), .int ik, .ref (b 5), .int (nI le), .int be, .int (nI sp), .int fo, .int op, .int ha, .int st, .ref (b 6), .ref (b 7), .ref (b 8)])), ((b 1), .inl (cI, 206, .inl (flatS t u)))]) (some (.int r1)) ([((b 0), .inr (7, [.ref (b 1), .ref (b 2), .ref (b 3), .int (nI kn), .ref (b 4), .int ik, .ref (b 5), .int (nI le), .int be, .int (nI sp), .int fo, .int op, .int ha, .int st, .ref (b 6), .ref (b 7), .ref (b 8)])), ((b 1), .inl (cI, 206, .inl (flatS t u)))]) := by
  refine fc_int cX7_sign 3 (by decide +kernel) rfl (rfl) (Nat.le_of_ble_eq_true rfl) ?_
  intro p9 e9 s9 m9 a9 b9 t9 c9 H0 A Q ls S hK hN hA hP hD hS hl hQ
  have S : CallFix p9 m9 c9 cX7_sign 3 s9 a9 wsX7_sign RX7 := S
  obtain ⟨hx, hb, hml, hown, hts⟩ := id S
  have hP : va_P D vwCl ([((b 0), .inr (7, [.ref (b 1), .ref (b 2), .ref (b 3), .int (nI kn), .ref (b 4), .int ik, .ref (b 5), .int (nI le), .int be, .int (nI sp), .int fo, .int op, .int ha, .int st, .ref (b 6), .ref (b 7), .ref (b 8)])), ((b 1), .inl (cI, 206, .inl (flatS t u)))]) H0 := hP
  have hD : va_D A ([((b 0), .inr (7, [.ref (b 1), .ref (b 2), .ref (b 3), .int (nI kn), .ref (b 4), .int ik, .ref (b 5), .int (nI le), .int be, .int (nI sp), .int fo, .int op, .int ha, .int st, .ref (b 6), .ref (b 7), .ref (b 8)])), ((b 1), .inl (cI, 206, .inl (flatS t u)))]) := hD
  have hl : lv_has ls 3 [(0, .ref (b 0)), (1, .int v)] := hl
  refine lv_iload_n hx hb dX7_sign_0 rfl (lv_at hl 1 rfl) ?_
  refine ej_S (As := [.int v]) (rest := []) (w' := [((b 0), .inr (7, [.ref (b 1), .ref (b 2), .ref (b 3), .int (nI kn), .ref (b 4), .int ik, .ref (b 5), .int (nI le), .int be, .int (nI sp), .int fo, .int op, .int ha, .int st, .ref (b 6), .ref (b 7), .ref (b 8)])), ((b 1), .inl (cI, 206, .inl (flatS t u)))]) S hK hN hA hP hD hS (c_X7_isPin l D tys cI ht0 v) (va_cwS 1 hts gX7_sign_X7_isPin rfl rfl rfl hds_X7_isPin ⟨Nat.le_of_ble_eq_true rfl, Nat.le_of_ble_eq_true rfl⟩) [] [] [] rfl (by decide +kernel) ⟨rfl, rfl⟩ rfl (by decide +kernel) rfl rfl hl.1 (Nat.le_of_ble_eq_true rfl) dX7_sign_1 ⟨Nat.zero_le _, Nat.zero_le _⟩ (fun H locs hP hD hS => ?_)
  show W p9 l e9 (eR 2 42) s9 m9 a9 b9 t9 c9 H locs 0 0 Q (F0 m9 4 ls (.int (if ¬ v < 0 ∧ ¬ 34 < v then 1 else 0) :: []))
  refine lv_if_ne (tgt := 9) hx hb dX7_sign_4 (by decide) (fun c_1 => ?_) (fun c_1 => ?_)
  · have b_1 : ¬ v < 0 ∧ ¬ 34 < v := ej_b1 c_1
    obtain ⟨k, h_k, rfl⟩ := ej_in34 b_1
    have kk_k : (nI k).toNatClampNeg = k := nI_clamp (by omega)
    refine lv_aload_n hx hb dX7_sign_9 rfl (lv_at hl 0 rfl) ?_
    refine lv_iload_n hx hb dX7_sign_10 rfl (lv_at hl 1 rfl) ?_
    refine lv_iconst (v := 0) hx hb dX7_sign_11 (by decide) ?_
    refine ej_V (As := [.int (nI k), .int 0]) (rest := []) (w' := [((b 0), .inr (7, [.ref (b 1), .ref (b 2), .ref (b 3), .int (nI kn), .ref (b 4), .int ik, .ref (b 5), .int (nI le), .int be, .int (nI sp), .int fo, .int op, .int ha, .int st, .ref (b 6), .ref (b 7), .ref (b 8)])), ((b 1), .inl (cI, 206, .inl (flatS t u)))]) S hK hN hA hP hD hS (c_X7_of l D tys cI ht0 b kn le sp ik be fo op ha st (flatS t u) k 0 (by omega) (by omega)) (cwV 2 hts gX7_sign_X7_of rfl rfl rfl hdv_X7_of ⟨Nat.le_of_ble_eq_true rfl, Nat.le_of_ble_eq_true rfl⟩) [0, 1] [some 0, some 1] [(b 0), (b 1)] rfl (by decide +kernel) ⟨rfl, rfl⟩ rfl (by decide +kernel) 0 7 rfl rfl rfl rfl hl.1 (Nat.le_of_ble_eq_true rfl) dX7_sign_12 ⟨Nat.zero_le _, Nat.zero_le _⟩ (fun H locs hP hD hS => ?_)
    show W p9 l e9 (eR 2 42) s9 m9 a9 b9 t9 c9 H locs 0 0 Q (F0 m9 15 ls (.int ((flatS t u) (10 + 5 * k + 0)) :: []))
    refine ej_topi (show ((flatS t u) (10 + 5 * k + 0)) = P_be t k from flS_0 t u (by omega)) ?_
    refine lv_istore_n (lv' := [(2, .int (P_be t k)), (0, .ref (b 0)), (1, .int (nI k))]) hx hb dX7_sign_15 rfl hl (by decide) rfl (fun ls hl => ?_)
    refine lv_aload_n hx hb dX7_sign_16 rfl (lv_at hl 1 rfl) ?_
    refine lv_iload_n hx hb dX7_sign_17 rfl (lv_at hl 2 rfl) ?_
    refine lv_iconst (v := 1) hx hb dX7_sign_18 (by decide) ?_
    refine ej_V (As := [.int (nI k), .int 1]) (rest := []) (w' := [((b 0), .inr (7, [.ref (b 1), .ref (b 2), .ref (b 3), .int (nI kn), .ref (b 4), .int ik, .ref (b 5), .int (nI le), .int be, .int (nI sp), .int fo, .int op, .int ha, .int st, .ref (b 6), .ref (b 7), .ref (b 8)])), ((b 1), .inl (cI, 206, .inl (flatS t u)))]) S hK hN hA hP hD hS (c_X7_of l D tys cI ht0 b kn le sp ik be fo op ha st (flatS t u) k 1 (by omega) (by omega)) (cwV 2 hts gX7_sign_X7_of rfl rfl rfl hdv_X7_of ⟨Nat.le_of_ble_eq_true rfl, Nat.le_of_ble_eq_true rfl⟩) [0, 1] [some 0, some 1] [(b 0), (b 1)] rfl (by decide +kernel) ⟨rfl, rfl⟩ rfl (by decide +kernel) 0 7 rfl rfl rfl rfl hl.1 (Nat.le_of_ble_eq_true rfl) dX7_sign_19 ⟨Nat.zero_le _, Nat.zero_le _⟩ (fun H locs hP hD hS => ?_)
    show W p9 l e9 (eR 2 42) s9 m9 a9 b9 t9 c9 H locs 0 0 Q (F0 m9 22 ls (.int ((flatS t u) (10 + 5 * k + 1)) :: []))
    refine ej_topi (show ((flatS t u) (10 + 5 * k + 1)) = P_ou t k from flS_1 t u (by omega)) ?_
    refine lv_iconst (v := 1) hx hb dX7_sign_22 (by decide) ?_
    refine lv_icmp_ne (tgt := 31) hx hb dX7_sign_23 (by decide) (fun c_2 => ?_) (fun c_2 => ?_)
    · have o_2 : P_ou t k = 0 := (hout k (by omega)).resolve_right c_2
      refine lv_aload_n hx hb dX7_sign_31 rfl (lv_at hl 1 rfl) ?_
      refine lv_iload_n hx hb dX7_sign_32 rfl (lv_at hl 2 rfl) ?_
      refine lv_iconst (v := 2) hx hb dX7_sign_33 (by decide) ?_
      refine ej_V (As := [.int (nI k), .int 2]) (rest := []) (w' := [((b 0), .inr (7, [.ref (b 1), .ref (b 2), .ref (b 3), .int (nI kn), .ref (b 4), .int ik, .ref (b 5), .int (nI le), .int be, .int (nI sp), .int fo, .int op, .int ha, .int st, .ref (b 6), .ref (b 7), .ref (b 8)])), ((b 1), .inl (cI, 206, .inl (flatS t u)))]) S hK hN hA hP hD hS (c_X7_of l D tys cI ht0 b kn le sp ik be fo op ha st (flatS t u) k 2 (by omega) (by omega)) (cwV 2 hts gX7_sign_X7_of rfl rfl rfl hdv_X7_of ⟨Nat.le_of_ble_eq_true rfl, Nat.le_of_ble_eq_true rfl⟩) [0, 1] [some 0, some 1] [(b 0), (b 1)] rfl (by decide +kernel) ⟨rfl, rfl⟩ rfl (by decide +kernel) 0 7 rfl rfl rfl rfl hl.1 (Nat.le_of_ble_eq_true rfl) dX7_sign_34 ⟨Nat.zero_le _, Nat.zero_le _⟩ (fun H locs hP hD hS => ?_)
      show W p9 l e9 (eR 2 42) s9 m9 a9 b9 t9 c9 H locs 0 0 Q (F0 m9 37 ls (.int ((flatS t u) (10 + 5 * k + 2)) :: []))
      refine ej_topi (show ((flatS t u) (10 + 5 * k + 2)) = P_bl t k from flS_2 t u (by omega)) ?_
      refine lv_iconst (v := 1) hx hb dX7_sign_37 (by decide) ?_
      refine lv_icmp_ne (tgt := 46) hx hb dX7_sign_38 (by decide) (fun c_3 => ?_) (fun c_3 => ?_)
      · have o_3 : P_bl t k = 0 := (hbl k (by omega)).resolve_right c_3
        refine lv_iload_n hx hb dX7_sign_46 rfl (lv_at hl 0 rfl) ?_
        refine lv_if_ge (tgt := 55) hx hb dX7_sign_47 (by decide) (fun c_4 => ?_) (fun c_4 => ?_)
        · have d_4 := ej_xa c_4
          refine lv_iload_n hx hb dX7_sign_55 rfl (lv_at hl 0 rfl) ?_
          refine lv_if_le (tgt := 64) hx hb dX7_sign_56 (by decide) (fun c_5 => ?_) (fun c_5 => ?_)
          · have d_5 := ej_xa c_5
            refine lv_bipush (v := 124) hx hb dX7_sign_64 (by decide) ?_
            have f_r1 : 124 = r1 := by rw [e_r1]; first | (simp only [inP, signI, b_1, kk_k, c_2, eq_true o_2, c_3, eq_true o_3, c_4, d_4, c_5, d_5, if_true, if_false, ite_true, ite_false, not_true_eq_false, not_false_eq_true, and_true, true_and, and_false, false_and, and_self, reduceIte]; done) | (simp only [inP, signI, b_1, kk_k, c_2, eq_true o_2, c_3, eq_true o_3, c_4, d_4, c_5, d_5, if_true, if_false, ite_true, ite_false, not_true_eq_false, not_false_eq_true, and_true, true_and, and_false, false_and, and_self, reduceIte]; rfl) | rfl
            subst f_r1
            exact hQ _ _ _ _ 124 ([((b 0), .inr (7, [.ref (b 1), .ref (b 2), .ref (b 3), .int (nI kn), .ref (b 4), .int ik, .ref (b 5), .int (nI le), .int be, .int (nI sp), .int fo, .int op, .int ha, .int st, .ref (b 6), .ref (b 7), .ref (b 8)])), ((b 1), .inl (cI, 206, .inl (flatS t u)))]) dX7_sign_66 rfl rfl hP hS
          · have d_5 := ej_xd c_5
            refine lv_bipush (v := 62) hx hb dX7_sign_59 (by decide) ?_
            refine lv_goto (tgt := 66) hx hb dX7_sign_61 (by decide) ?_
            have f_r1 : 62 = r1 := by rw [e_r1]; first | (simp only [inP, signI, b_1, kk_k, c_2, eq_true o_2, c_3, eq_true o_3, c_4, d_4, c_5, d_5, if_true, if_false, ite_true, ite_false, not_true_eq_false, not_false_eq_true, and_true, true_and, and_false, false_and, and_self, reduceIte]; done) | (simp only [inP, signI, b_1, kk_k, c_2, eq_true o_2, c_3, eq_true o_3, c_4, d_4, c_5, d_5, if_true, if_false, ite_true, ite_false, not_true_eq_false, not_false_eq_true, and_true, true_and, and_false, false_and, and_self, reduceIte]; rfl) | rfl
            subst f_r1
            exact hQ _ _ _ _ 62 ([((b 0), .inr (7, [.ref (b 1), .ref (b 2), .ref (b 3), .int (nI kn), .ref (b 4), .int ik, .ref (b 5), .int (nI le), .int be, .int (nI sp), .int fo, .int op, .int ha, .int st, .ref (b 6), .ref (b 7), .ref (b 8)])), ((b 1), .inl (cI, 206, .inl (flatS t u)))]) dX7_sign_66 rfl rfl hP hS
        · have d_4 := ej_xd c_4
          refine lv_bipush (v := 60) hx hb dX7_sign_50 (by decide) ?_
          refine lv_goto (tgt := 66) hx hb dX7_sign_52 (by decide) ?_
          have f_r1 : 60 = r1 := by rw [e_r1]; first | (simp only [inP, signI, b_1, kk_k, c_2, eq_true o_2, c_3, eq_true o_3, c_4, d_4, if_true, if_false, ite_true, ite_false, not_true_eq_false, not_false_eq_true, and_true, true_and, and_false, false_and, and_self, reduceIte]; done) | (simp only [inP, signI, b_1, kk_k, c_2, eq_true o_2, c_3, eq_true o_3, c_4, d_4, if_true, if_false, ite_true, ite_false, not_true_eq_false, not_false_eq_true, and_true, true_and, and_false, false_and, and_self, reduceIte]; rfl) | rfl
          subst f_r1
          exact hQ _ _ _ _ 60 ([((b 0), .inr (7, [.ref (b 1), .ref (b 2), .ref (b 3), .int (nI kn), .ref (b 4), .int ik, .ref (b 5), .int (nI le), .int be, .int (nI sp), .int fo, .int op, .int ha, .int st, .ref (b 6), .ref (b 7), .ref (b 8)])), ((b 1), .inl (cI, 206, .inl (flatS t u)))]) dX7_sign_66 rfl rfl hP hS
      · have o_3 : ¬ P_bl t k = 0 := by rw [c_3]; decide
        refine lv_bipush (v := 111) hx hb dX7_sign_41 (by decide) ?_
        refine lv_goto (tgt := 66) hx hb dX7_sign_43 (by decide) ?_
        have f_r1 : 111 = r1 := by rw [e_r1]; first | (simp only [inP, signI, b_1, kk_k, c_2, eq_true o_2, eq_true c_3, o_3, if_true, if_false, ite_true, ite_false, not_true_eq_false, not_false_eq_true, and_true, true_and, and_false, false_and, and_self, reduceIte]; done) | (simp only [inP, signI, b_1, kk_k, c_2, eq_true o_2, eq_true c_3, o_3, if_true, if_false, ite_true, ite_false, not_true_eq_false, not_false_eq_true, and_true, true_and, and_false, false_and, and_self, reduceIte]; rfl) | rfl
        subst f_r1
        exact hQ _ _ _ _ 111 ([((b 0), .inr (7, [.ref (b 1), .ref (b 2), .ref (b 3), .int (nI kn), .ref (b 4), .int ik, .ref (b 5), .int (nI le), .int be, .int (nI sp), .int fo, .int op, .int ha, .int st, .ref (b 6), .ref (b 7), .ref (b 8)])), ((b 1), .inl (cI, 206, .inl (flatS t u)))]) dX7_sign_66 rfl rfl hP hS
    · have o_2 : ¬ P_ou t k = 0 := by rw [c_2]; decide
      refine lv_bipush (v := 46) hx hb dX7_sign_26 (by decide) ?_
      refine lv_goto (tgt := 66) hx hb dX7_sign_28 (by decide) ?_
      have f_r1 : 46 = r1 := by rw [e_r1]; first | (simp only [inP, signI, b_1, kk_k, eq_true c_2, o_2, if_true, if_false, ite_true, ite_false, not_true_eq_false, not_false_eq_true, and_true, true_and, and_false, false_and, and_self, reduceIte]; done) | (simp only [inP, signI, b_1, kk_k, eq_true c_2, o_2, if_true, if_false, ite_true, ite_false, not_true_eq_false, not_false_eq_true, and_true, true_and, and_false, false_and, and_self, reduceIte]; rfl) | rfl
      subst f_r1
      exact hQ _ _ _ _ 46 ([((b 0), .inr (7, [.ref (b 1), .ref (b 2), .ref (b 3), .int (nI kn), .ref (b 4), .int ik, .ref (b 5), .int (nI le), .int be, .int (nI sp), .int fo, .int op, .int ha, .int st, .ref (b 6), .ref (b 7), .ref (b 8)])), ((b 1), .inl (cI, 206, .inl (flatS t u)))]) dX7_sign_66 rfl rfl hP hS
  · have b_1 : ¬ (¬ v < 0 ∧ ¬ 34 < v) := ej_b0 c_1
    refine lv_iconst (v := (-1)) hx hb dX7_sign_7 (by decide) ?_
    have f_r1 : (-1) = r1 := by rw [e_r1]; first | (simp only [inP, signI, b_1, if_true, if_false, ite_true, ite_false, not_true_eq_false, not_false_eq_true, and_true, true_and, and_false, false_and, and_self, reduceIte]; done) | (simp only [inP, signI, b_1, if_true, if_false, ite_true, ite_false, not_true_eq_false, not_false_eq_true, and_true, true_and, and_false, false_and, and_self, reduceIte]; rfl) | rfl
    subst f_r1
    exact hQ _ _ _ _ (-1) ([((b 0), .inr (7, [.ref (b 1), .ref (b 2), .ref (b 3), .int (nI kn), .ref (b 4), .int ik, .ref (b 5), .int (nI le), .int be, .int (nI sp), .int fo, .int op, .int ha, .int st, .ref (b 6), .ref (b 7), .ref (b 8)])), ((b 1), .inl (cI, 206, .inl (flatS t u)))]) dX7_sign_8 rfl rfl hP hS
