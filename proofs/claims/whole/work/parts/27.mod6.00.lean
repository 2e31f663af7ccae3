set_option maxHeartbeats 4000000 in
set_option maxRecDepth 100000 in
theorem c_X7_nextOf (l : Launch) (D : va_G) (tys : eT) (cI : ClassId) (ht0 : tys[0]? = some (cI, .int)) (b : Nat → Nat) (kn le sp : Nat) (ik be fo op ha st : Int32) (t : Pn) (u : Tr) (k c : Nat) (m1 : Nat) (e_m1 : m1 = nextM t k) (hk : k < 35) (hc : c = k % 7) (htl : tilOK t) (hout : outOK t) : fc l D tys yX7_nextOf wsX7_nextOf (eR 2 44) [.ref (b 0), .int (nI k), .int (nI c)] ([((b 0), .inr (7, [.ref (b 1), .ref (b 2), .ref (b 3), .int (nI kn), .ref (b 4), .int ik, .ref (b 5), .int (nI le), .int be, .int (nI sp), .int fo, .int op, .int ha, .int st, .ref (b 6), .ref (b 7), .ref (b 8)])), ((b 1), .inl (cI, 206, .inl (flatS t u)))]) (some (.int (nI m1))) ([((b 0), .inr (7, [.ref (b 1), .ref (b 2), .ref (b 3), .int (nI kn), .ref (b 4), .int ik, .ref (b 5), .int (nI le), .int be, .int (nI sp), .int fo, .int op, .int ha, .int st, .ref (b 6), .ref (b 7), .ref (b 8)])), ((b 1), .inl (cI, 206, .inl (flatS t u)))]) := by
  refine fc_int cX7_nextOf 4 (by decide +kernel) rfl (rfl) (Nat.le_of_ble_eq_true rfl) ?_
  intro p9 e9 s9 m9 a9 b9 t9 c9 H0 A Q ls S hK hN hA hP hD hS hl hQ
  have S : CallFix p9 m9 c9 cX7_nextOf 4 s9 a9 wsX7_nextOf RX7 := S
  obtain ⟨hx, hb, hml, hown, hts⟩ := id S
  have hP : va_P D vwCl ([((b 0), .inr (7, [.ref (b 1), .ref (b 2), .ref (b 3), .int (nI kn), .ref (b 4), .int ik, .ref (b 5), .int (nI le), .int be, .int (nI sp), .int fo, .int op, .int ha, .int st, .ref (b 6), .ref (b 7), .ref (b 8)])), ((b 1), .inl (cI, 206, .inl (flatS t u)))]) H0 := hP
  have hD : va_D A ([((b 0), .inr (7, [.ref (b 1), .ref (b 2), .ref (b 3), .int (nI kn), .ref (b 4), .int ik, .ref (b 5), .int (nI le), .int be, .int (nI sp), .int fo, .int op, .int ha, .int st, .ref (b 6), .ref (b 7), .ref (b 8)])), ((b 1), .inl (cI, 206, .inl (flatS t u)))]) := hD
  have hl : lv_has ls 4 [(0, .ref (b 0)), (1, .int (nI k)), (2, .int (nI c))] := hl
  refine lv_aload_n hx hb dX7_nextOf_0 rfl (lv_at hl 0 rfl) ?_
  refine lv_iload_n hx hb dX7_nextOf_1 rfl (lv_at hl 1 rfl) ?_
  refine lv_iconst (v := 1) hx hb dX7_nextOf_2 (by decide) ?_
  refine ej_V (As := [.int (nI k), .int 1]) (rest := []) (w' := [((b 0), .inr (7, [.ref (b 1), .ref (b 2), .ref (b 3), .int (nI kn), .ref (b 4), .int ik, .ref (b 5), .int (nI le), .int be, .int (nI sp), .int fo, .int op, .int ha, .int st, .ref (b 6), .ref (b 7), .ref (b 8)])), ((b 1), .inl (cI, 206, .inl (flatS t u)))]) S hK hN hA hP hD hS (c_X7_of l D tys cI ht0 b kn le sp ik be fo op ha st (flatS t u) k 1 (by omega) (by omega)) (cwV 2 hts gX7_nextOf_X7_of rfl rfl rfl hdv_X7_of ⟨Nat.le_of_ble_eq_true rfl, Nat.le_of_ble_eq_true rfl⟩) [0, 1] [some 0, some 1] [(b 0), (b 1)] rfl (by decide +kernel) ⟨rfl, rfl⟩ rfl (by decide +kernel) 0 7 rfl rfl rfl rfl hl.1 (Nat.le_of_ble_eq_true rfl) dX7_nextOf_3 ⟨Nat.zero_le _, Nat.zero_le _⟩ (fun H locs hP hD hS => ?_)
  show W p9 l e9 (eR 2 44) s9 m9 a9 b9 t9 c9 H locs 0 0 Q (F0 m9 6 ls (.int ((flatS t u) (10 + 5 * k + 1)) :: []))
  refine ej_topi (show ((flatS t u) (10 + 5 * k + 1)) = P_ou t k from flS_1 t u (by omega)) ?_
  refine lv_iconst (v := 1) hx hb dX7_nextOf_6 (by decide) ?_
  refine lv_icmp_ne (tgt := 14) hx hb dX7_nextOf_7 (by decide) (fun c_1 => ?_) (fun c_1 => ?_)
  · have o_1 : P_ou t k = 0 := (hout k hk).resolve_right c_1
    refine lv_aload_n hx hb dX7_nextOf_14 rfl (lv_at hl 0 rfl) ?_
    refine lv_iload_n hx hb dX7_nextOf_15 rfl (lv_at hl 1 rfl) ?_
    refine ej_V (As := [.int (nI k)]) (rest := []) (w' := [((b 0), .inr (7, [.ref (b 1), .ref (b 2), .ref (b 3), .int (nI kn), .ref (b 4), .int ik, .ref (b 5), .int (nI le), .int be, .int (nI sp), .int fo, .int op, .int ha, .int st, .ref (b 6), .ref (b 7), .ref (b 8)])), ((b 1), .inl (cI, 206, .inl (flatS t u)))]) S hK hN hA hP hD hS (c_X7_sends l D tys cI ht0 b kn le sp ik be fo op ha st t u k (by omega)) (cwV 1 hts gX7_nextOf_X7_sends rfl rfl rfl hdv_X7_sends ⟨Nat.le_of_ble_eq_true rfl, Nat.le_of_ble_eq_true rfl⟩) [0, 1] [some 0, some 1] [(b 0), (b 1)] rfl (by decide +kernel) ⟨rfl, rfl⟩ rfl (by decide +kernel) 0 7 rfl rfl rfl rfl hl.1 (Nat.le_of_ble_eq_true rfl) dX7_nextOf_16 ⟨Nat.zero_le _, Nat.zero_le _⟩ (fun H locs hP hD hS => ?_)
    show W p9 l e9 (eR 2 44) s9 m9 a9 b9 t9 c9 H locs 0 0 Q (F0 m9 19 ls (.int (leanT t k) :: []))
    refine lv_istore_n (lv' := [(3, .int (leanT t k)), (0, .ref (b 0)), (1, .int (nI k)), (2, .int (nI c))]) hx hb dX7_nextOf_19 rfl hl (by decide) rfl (fun ls hl => ?_)
    refine lv_iload_n hx hb dX7_nextOf_20 rfl (lv_at hl 0 rfl) ?_
    refine lv_if_ne (tgt := 42) hx hb dX7_nextOf_21 (by decide) (fun c_2 => ?_) (fun c_2 => ?_)
    · refine lv_iconst (v := 1) hx hb dX7_nextOf_42 (by decide) ?_
      refine lv_iload_n hx hb dX7_nextOf_43 rfl (lv_at hl 3 rfl) ?_
      refine lv_iload_n hx hb dX7_nextOf_44 rfl (lv_at hl 0 rfl) ?_
      refine ej_S (As := [.int (nI c), .int (leanT t k)]) (rest := [.int 1]) (w' := [((b 0), .inr (7, [.ref (b 1), .ref (b 2), .ref (b 3), .int (nI kn), .ref (b 4), .int ik, .ref (b 5), .int (nI le), .int be, .int (nI sp), .int fo, .int op, .int ha, .int st, .ref (b 6), .ref (b 7), .ref (b 8)])), ((b 1), .inl (cI, 206, .inl (flatS t u)))]) S hK hN hA hP hD hS (c_X7_moved l D tys cI ht0 c (leanT t k) (by omega) (leanT_ok htl k)) (va_cwS 2 hts gX7_nextOf_X7_moved rfl rfl rfl hds_X7_moved ⟨Nat.le_of_ble_eq_true rfl, Nat.le_of_ble_eq_true rfl⟩) [] [] [] rfl (by decide +kernel) ⟨rfl, rfl⟩ rfl (by decide +kernel) rfl rfl hl.1 (Nat.le_of_ble_eq_true rfl) dX7_nextOf_45 ⟨Nat.zero_le _, Nat.zero_le _⟩ (fun H locs hP hD hS => ?_)
      show W p9 l e9 (eR 2 44) s9 m9 a9 b9 t9 c9 H locs 0 0 Q (F0 m9 48 ls (.int (nI (bes c (leanT t k))) :: [.int 1]))
      refine lv_ishl hx hb dX7_nextOf_48 ?_
      refine ej_topi (show (1 <<< ((nI (bes c (leanT t k))) &&& 31)) = nI (2 ^ (bes c (leanT t k))) from ej_shl1 _ (bes_31 _ (by omega))) ?_
      have f_m1 : (2 ^ (bes c (leanT t k))) = m1 := by rw [e_m1]; first | (simp only [nextM, ← hc, c_1, eq_true o_1, c_2, if_true, if_false, ite_true, ite_false, not_true_eq_false, not_false_eq_true, and_true, true_and, and_false, false_and, and_self, reduceIte]; done) | (simp only [nextM, ← hc, c_1, eq_true o_1, c_2, if_true, if_false, ite_true, ite_false, not_true_eq_false, not_false_eq_true, and_true, true_and, and_false, false_and, and_self, reduceIte]; rfl) | rfl
      subst f_m1
      exact hQ _ _ _ _ (nI (2 ^ (bes c (leanT t k)))) ([((b 0), .inr (7, [.ref (b 1), .ref (b 2), .ref (b 3), .int (nI kn), .ref (b 4), .int ik, .ref (b 5), .int (nI le), .int be, .int (nI sp), .int fo, .int op, .int ha, .int st, .ref (b 6), .ref (b 7), .ref (b 8)])), ((b 1), .inl (cI, 206, .inl (flatS t u)))]) dX7_nextOf_49 rfl rfl hP hS
    · refine lv_iconst (v := 1) hx hb dX7_nextOf_24 (by decide) ?_
      refine lv_iload_n hx hb dX7_nextOf_25 rfl (lv_at hl 3 rfl) ?_
      refine lv_iconst (v := (-1)) hx hb dX7_nextOf_26 (by decide) ?_
      refine ej_S (As := [.int (nI c), .int (-1)]) (rest := [.int 1]) (w' := [((b 0), .inr (7, [.ref (b 1), .ref (b 2), .ref (b 3), .int (nI kn), .ref (b 4), .int ik, .ref (b 5), .int (nI le), .int be, .int (nI sp), .int fo, .int op, .int ha, .int st, .ref (b 6), .ref (b 7), .ref (b 8)])), ((b 1), .inl (cI, 206, .inl (flatS t u)))]) S hK hN hA hP hD hS (c_X7_moved l D tys cI ht0 c (-1) (by omega) dOK_m) (va_cwS 2 hts gX7_nextOf_X7_moved rfl rfl rfl hds_X7_moved ⟨Nat.le_of_ble_eq_true rfl, Nat.le_of_ble_eq_true rfl⟩) [] [] [] rfl (by decide +kernel) ⟨rfl, rfl⟩ rfl (by decide +kernel) rfl rfl hl.1 (Nat.le_of_ble_eq_true rfl) dX7_nextOf_27 ⟨Nat.zero_le _, Nat.zero_le _⟩ (fun H locs hP hD hS => ?_)
      show W p9 l e9 (eR 2 44) s9 m9 a9 b9 t9 c9 H locs 0 0 Q (F0 m9 30 ls (.int (nI (bes c (-1))) :: [.int 1]))
      refine lv_ishl hx hb dX7_nextOf_30 ?_
      refine ej_topi (show (1 <<< ((nI (bes c (-1))) &&& 31)) = nI (2 ^ (bes c (-1))) from ej_shl1 _ (bes_31 _ (by omega))) ?_
      refine lv_iconst (v := 1) hx hb dX7_nextOf_31 (by decide) ?_
      refine lv_iload_n hx hb dX7_nextOf_32 rfl (lv_at hl 3 rfl) ?_
      refine lv_iconst (v := 1) hx hb dX7_nextOf_33 (by decide) ?_
      refine ej_S (As := [.int (nI c), .int 1]) (rest := [.int 1, .int (nI (2 ^ (bes c (-1))))]) (w' := [((b 0), .inr (7, [.ref (b 1), .ref (b 2), .ref (b 3), .int (nI kn), .ref (b 4), .int ik, .ref (b 5), .int (nI le), .int be, .int (nI sp), .int fo, .int op, .int ha, .int st, .ref (b 6), .ref (b 7), .ref (b 8)])), ((b 1), .inl (cI, 206, .inl (flatS t u)))]) S hK hN hA hP hD hS (c_X7_moved l D tys cI ht0 c 1 (by omega) dOK_p) (va_cwS 2 hts gX7_nextOf_X7_moved rfl rfl rfl hds_X7_moved ⟨Nat.le_of_ble_eq_true rfl, Nat.le_of_ble_eq_true rfl⟩) [] [] [] rfl (by decide +kernel) ⟨rfl, rfl⟩ rfl (by decide +kernel) rfl rfl hl.1 (Nat.le_of_ble_eq_true rfl) dX7_nextOf_34 ⟨Nat.zero_le _, Nat.zero_le _⟩ (fun H locs hP hD hS => ?_)
      show W p9 l e9 (eR 2 44) s9 m9 a9 b9 t9 c9 H locs 0 0 Q (F0 m9 37 ls (.int (nI (bes c 1)) :: [.int 1, .int (nI (2 ^ (bes c (-1))))]))
      refine lv_ishl hx hb dX7_nextOf_37 ?_
      refine ej_topi (show (1 <<< ((nI (bes c 1)) &&& 31)) = nI (2 ^ (bes c 1)) from ej_shl1 _ (bes_31 _ (by omega))) ?_
      refine lv_ior hx hb dX7_nextOf_38 ?_
      refine ej_topi (show (nI (2 ^ (bes c (-1)))) ||| (nI (2 ^ (bes c 1))) = nI ((2 ^ (bes c (-1))) ||| (2 ^ (bes c 1))) from fa_or (2 ^ (bes c (-1))) (2 ^ (bes c 1))) ?_
      refine lv_goto (tgt := 49) hx hb dX7_nextOf_39 (by decide) ?_
      have f_m1 : ((2 ^ (bes c (-1))) ||| (2 ^ (bes c 1))) = m1 := by rw [e_m1]; first | (simp only [nextM, ← hc, c_1, eq_true o_1, eq_true c_2, if_true, if_false, ite_true, ite_false, not_true_eq_false, not_false_eq_true, and_true, true_and, and_false, false_and, and_self, reduceIte]; done) | (simp only [nextM, ← hc, c_1, eq_true o_1, eq_true c_2, if_true, if_false, ite_true, ite_false, not_true_eq_false, not_false_eq_true, and_true, true_and, and_false, false_and, and_self, reduceIte]; rfl) | rfl
      subst f_m1
      exact hQ _ _ _ _ (nI ((2 ^ (bes c (-1))) ||| (2 ^ (bes c 1)))) ([((b 0), .inr (7, [.ref (b 1), .ref (b 2), .ref (b 3), .int (nI kn), .ref (b 4), .int ik, .ref (b 5), .int (nI le), .int be, .int (nI sp), .int fo, .int op, .int ha, .int st, .ref (b 6), .ref (b 7), .ref (b 8)])), ((b 1), .inl (cI, 206, .inl (flatS t u)))]) dX7_nextOf_49 rfl rfl hP hS
  · have o_1 : ¬ P_ou t k = 0 := by rw [c_1]; decide
    refine lv_iconst (v := 1) hx hb dX7_nextOf_10 (by decide) ?_
    refine lv_iload_n hx hb dX7_nextOf_11 rfl (lv_at hl 2 rfl) ?_
    refine lv_ishl hx hb dX7_nextOf_12 ?_
    refine ej_topi (show (1 <<< ((nI c) &&& 31)) = nI (2 ^ c) from ej_shl1 c (by omega)) ?_
    have f_m1 : (2 ^ c) = m1 := by rw [e_m1]; first | (simp only [nextM, ← hc, eq_true c_1, o_1, if_true, if_false, ite_true, ite_false, not_true_eq_false, not_false_eq_true, and_true, true_and, and_false, false_and, and_self, reduceIte]; done) | (simp only [nextM, ← hc, eq_true c_1, o_1, if_true, if_false, ite_true, ite_false, not_true_eq_false, not_false_eq_true, and_true, true_and, and_false, false_and, and_self, reduceIte]; rfl) | rfl
    subst f_m1
    exact hQ _ _ _ _ (nI (2 ^ c)) ([((b 0), .inr (7, [.ref (b 1), .ref (b 2), .ref (b 3), .int (nI kn), .ref (b 4), .int ik, .ref (b 5), .int (nI le), .int be, .int (nI sp), .int fo, .int op, .int ha, .int st, .ref (b 6), .ref (b 7), .ref (b 8)])), ((b 1), .inl (cI, 206, .inl (flatS t u)))]) dX7_nextOf_13 rfl rfl hP hS
