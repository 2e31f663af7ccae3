set_option maxHeartbeats 4000000 in
set_option maxRecDepth 100000 in
theorem c_X7_ways (l : Launch) (D : va_G) (tys : eT) (cI : ClassId) (ht0 : tys[0]? = some (cI, .int)) (b : Nat → Nat) (kn le sp : Nat) (ik be fo op ha st : Int32) (t : Pn) (u : Tr) (m g : Nat → Int32) (v w : Int32) (m1 : Nat → Int32) (e_m1 : m1 = if inP v 6 ∧ inP w 1 then wmG t 5 else m) (g1 : Nat → Int32) (e_g1 : g1 = if inP v 6 ∧ inP w 1 then wmG t 5 else g) (r1 : Int32) (e_r1 : r1 = if inP v 6 ∧ inP w 1 then wmG t 5 v.toNatClampNeg else -1) (htl : tilOK t) (hout : outOK t) : fc l D tys yX7_ways wsX7_ways (eR 4 91) [.ref (b 0), .int v, .int w] ([((b 0), .inr (7, [.ref (b 1), .ref (b 2), .ref (b 3), .int (nI kn), .ref (b 4), .int ik, .ref (b 5), .int (nI le), .int be, .int (nI sp), .int fo, .int op, .int ha, .int st, .ref (b 6), .ref (b 7), .ref (b 8)])), ((b 1), .inl (cI, 206, .inl (flatS t u))), ((b 7), .inl (cI, 7, .inl m)), ((b 8), .inl (cI, 7, .inl g))]) (some (.int r1)) ([((b 0), .inr (7, [.ref (b 1), .ref (b 2), .ref (b 3), .int (nI kn), .ref (b 4), .int ik, .ref (b 5), .int (nI le), .int be, .int (nI sp), .int fo, .int op, .int ha, .int st, .ref (b 6), .ref (b 7), .ref (b 8)])), ((b 1), .inl (cI, 206, .inl (flatS t u))), ((b 7), .inl (cI, 7, .inl m1)), ((b 8), .inl (cI, 7, .inl g1))]) := by
  refine fc_int cX7_ways 3 (by decide +kernel) rfl (rfl) (Nat.le_of_ble_eq_true rfl) ?_
  intro p9 e9 s9 m9 a9 b9 t9 c9 H0 A Q ls S hK hN hA hP hD hS hl hQ
  have S : CallFix p9 m9 c9 cX7_ways 3 s9 a9 wsX7_ways RX7 := S
  obtain ⟨hx, hb, hml, hown, hts⟩ := id S
  have hP : va_P D vwCl ([((b 0), .inr (7, [.ref (b 1), .ref (b 2), .ref (b 3), .int (nI kn), .ref (b 4), .int ik, .ref (b 5), .int (nI le), .int be, .int (nI sp), .int fo, .int op, .int ha, .int st, .ref (b 6), .ref (b 7), .ref (b 8)])), ((b 1), .inl (cI, 206, .inl (flatS t u))), ((b 7), .inl (cI, 7, .inl m)), ((b 8), .inl (cI, 7, .inl g))]) H0 := hP
  have hD : va_D A ([((b 0), .inr (7, [.ref (b 1), .ref (b 2), .ref (b 3), .int (nI kn), .ref (b 4), .int ik, .ref (b 5), .int (nI le), .int be, .int (nI sp), .int fo, .int op, .int ha, .int st, .ref (b 6), .ref (b 7), .ref (b 8)])), ((b 1), .inl (cI, 206, .inl (flatS t u))), ((b 7), .inl (cI, 7, .inl m)), ((b 8), .inl (cI, 7, .inl g))]) := hD
  have hl : lv_has ls 3 [(0, .ref (b 0)), (1, .int v), (2, .int w)] := hl
  refine lv_iload_n hx hb dX7_ways_0 rfl (lv_at hl 1 rfl) ?_
  refine ej_S (As := [.int v]) (rest := []) (w' := [((b 0), .inr (7, [.ref (b 1), .ref (b 2), .ref (b 3), .int (nI kn), .ref (b 4), .int ik, .ref (b 5), .int (nI le), .int be, .int (nI sp), .int fo, .int op, .int ha, .int st, .ref (b 6), .ref (b 7), .ref (b 8)])), ((b 1), .inl (cI, 206, .inl (flatS t u))), ((b 7), .inl (cI, 7, .inl m)), ((b 8), .inl (cI, 7, .inl g))]) S hK hN hA hP hD hS (c_X7_isPlace l D tys cI ht0 v) (va_cwS 1 hts gX7_ways_X7_isPlace rfl rfl rfl hds_X7_isPlace ⟨Nat.le_of_ble_eq_true rfl, Nat.le_of_ble_eq_true rfl⟩) [] [] [] rfl (by decide +kernel) ⟨rfl, rfl⟩ rfl (by decide +kernel) rfl rfl hl.1 (Nat.le_of_ble_eq_true rfl) dX7_ways_1 ⟨Nat.zero_le _, Nat.zero_le _⟩ (fun H locs hP hD hS => ?_)
  show W p9 l e9 (eR 4 91) s9 m9 a9 b9 t9 c9 H locs 0 0 Q (F0 m9 4 ls (.int (if ¬ v < 0 ∧ ¬ 6 < v then 1 else 0) :: []))
  refine lv_if_eq (tgt := 24) hx hb dX7_ways_4 (by decide) (fun c_1 => ?_) (fun c_1 => ?_)
  · have b_1 : ¬ (¬ v < 0 ∧ ¬ 6 < v) := ej_b0 c_1
    refine lv_iconst (v := (-1)) hx hb dX7_ways_24 (by decide) ?_
    have f_m1 : m = m1 := by rw [e_m1]; rw [if_neg (fun q9 => b_1 q9.1)]
    have f_g1 : g = g1 := by rw [e_g1]; rw [if_neg (fun q9 => b_1 q9.1)]
    have f_r1 : (-1) = r1 := by rw [e_r1]; rw [if_neg (fun q9 => b_1 q9.1)]
    subst f_m1
    subst f_g1
    subst f_r1
    exact hQ _ _ _ _ (-1) ([((b 0), .inr (7, [.ref (b 1), .ref (b 2), .ref (b 3), .int (nI kn), .ref (b 4), .int ik, .ref (b 5), .int (nI le), .int be, .int (nI sp), .int fo, .int op, .int ha, .int st, .ref (b 6), .ref (b 7), .ref (b 8)])), ((b 1), .inl (cI, 206, .inl (flatS t u))), ((b 7), .inl (cI, 7, .inl m)), ((b 8), .inl (cI, 7, .inl g))]) dX7_ways_25 rfl rfl hP hS
  · have b_1 : ¬ v < 0 ∧ ¬ 6 < v := ej_b1 c_1
    obtain ⟨k, h_k, rfl⟩ := ej_in6 b_1
    have kk_k : (nI k).toNatClampNeg = k := nI_clamp (by omega)
    refine lv_iload_n hx hb dX7_ways_7 rfl (lv_at hl 2 rfl) ?_
    refine lv_iconst (v := 0) hx hb dX7_ways_8 (by decide) ?_
    refine lv_iconst (v := 1) hx hb dX7_ways_9 (by decide) ?_
    refine ej_S (As := [.int w, .int 0, .int 1]) (rest := []) (w' := [((b 0), .inr (7, [.ref (b 1), .ref (b 2), .ref (b 3), .int (nI kn), .ref (b 4), .int ik, .ref (b 5), .int (nI le), .int be, .int (nI sp), .int fo, .int op, .int ha, .int st, .ref (b 6), .ref (b 7), .ref (b 8)])), ((b 1), .inl (cI, 206, .inl (flatS t u))), ((b 7), .inl (cI, 7, .inl m)), ((b 8), .inl (cI, 7, .inl g))]) S hK hN hA hP hD hS (c_X7_in l D tys cI ht0 w 0 1) (va_cwS 3 hts gX7_ways_X7_in rfl rfl rfl hds_X7_in ⟨Nat.le_of_ble_eq_true rfl, Nat.le_of_ble_eq_true rfl⟩) [] [] [] rfl (by decide +kernel) ⟨rfl, rfl⟩ rfl (by decide +kernel) rfl rfl hl.1 (Nat.le_of_ble_eq_true rfl) dX7_ways_10 ⟨Nat.zero_le _, Nat.zero_le _⟩ (fun H locs hP hD hS => ?_)
    show W p9 l e9 (eR 4 91) s9 m9 a9 b9 t9 c9 H locs 0 0 Q (F0 m9 13 ls (.int (if ¬ w < 0 ∧ ¬ 1 < w then 1 else 0) :: []))
    refine lv_if_eq (tgt := 24) hx hb dX7_ways_13 (by decide) (fun c_2 => ?_) (fun c_2 => ?_)
    · have b_2 : ¬ (¬ w < 0 ∧ ¬ 1 < w) := ej_b0 c_2
      refine lv_iconst (v := (-1)) hx hb dX7_ways_24 (by decide) ?_
      have f_m1 : m = m1 := by rw [e_m1]; rw [if_neg (fun q9 => b_2 q9.2)]
      have f_g1 : g = g1 := by rw [e_g1]; rw [if_neg (fun q9 => b_2 q9.2)]
      have f_r1 : (-1) = r1 := by rw [e_r1]; rw [if_neg (fun q9 => b_2 q9.2)]
      subst f_m1
      subst f_g1
      subst f_r1
      exact hQ _ _ _ _ (-1) ([((b 0), .inr (7, [.ref (b 1), .ref (b 2), .ref (b 3), .int (nI kn), .ref (b 4), .int ik, .ref (b 5), .int (nI le), .int be, .int (nI sp), .int fo, .int op, .int ha, .int st, .ref (b 6), .ref (b 7), .ref (b 8)])), ((b 1), .inl (cI, 206, .inl (flatS t u))), ((b 7), .inl (cI, 7, .inl m)), ((b 8), .inl (cI, 7, .inl g))]) dX7_ways_25 rfl rfl hP hS
    · have b_2 : ¬ w < 0 ∧ ¬ 1 < w := ej_b1 c_2
      refine lv_aload_n hx hb dX7_ways_16 rfl (lv_at hl 0 rfl) ?_
      refine lv_iload_n hx hb dX7_ways_17 rfl (lv_at hl 1 rfl) ?_
      refine ej_V (As := [.int (nI k)]) (rest := []) (w' := [((b 0), .inr (7, [.ref (b 1), .ref (b 2), .ref (b 3), .int (nI kn), .ref (b 4), .int ik, .ref (b 5), .int (nI le), .int be, .int (nI sp), .int fo, .int op, .int ha, .int st, .ref (b 6), .ref (b 7), .ref (b 8)])), ((b 1), .inl (cI, 206, .inl (flatS t u))), ((b 7), .inl (cI, 7, .inl (wmG t 5))), ((b 8), .inl (cI, 7, .inl (wmG t 5)))]) S hK hN hA hP hD hS (c_X7_waysTo l D tys cI ht0 b kn le sp ik be fo op ha st t u m g k (by omega) (by omega) (by omega)) (cwV 1 hts gX7_ways_X7_waysTo rfl rfl rfl hdv_X7_waysTo ⟨Nat.le_of_ble_eq_true rfl, Nat.le_of_ble_eq_true rfl⟩) [0, 1, 2, 3] [some 0, some 1, some 2, some 3] [(b 0), (b 1), (b 7), (b 8)] rfl (by decide +kernel) ⟨rfl, rfl⟩ rfl (by decide +kernel) 0 7 rfl rfl rfl rfl hl.1 (Nat.le_of_ble_eq_true rfl) dX7_ways_18 ⟨Nat.zero_le _, Nat.zero_le _⟩ (fun H locs hP hD hS => ?_)
      show W p9 l e9 (eR 4 91) s9 m9 a9 b9 t9 c9 H locs 0 0 Q (F0 m9 21 ls (.int (wmG t 5 k) :: []))
      refine lv_goto (tgt := 25) hx hb dX7_ways_21 (by decide) ?_
      have f_m1 : (wmG t 5) = m1 := by rw [e_m1]; rw [if_pos ⟨b_1, b_2⟩]
      have f_g1 : (wmG t 5) = g1 := by rw [e_g1]; rw [if_pos ⟨b_1, b_2⟩]
      have f_r1 : (wmG t 5 k) = r1 := by rw [e_r1]; rw [if_pos ⟨b_1, b_2⟩, kk_k]
      subst f_m1
      subst f_g1
      subst f_r1
      exact hQ _ _ _ _ (wmG t 5 k) ([((b 0), .inr (7, [.ref (b 1), .ref (b 2), .ref (b 3), .int (nI kn), .ref (b 4), .int ik, .ref (b 5), .int (nI le), .int be, .int (nI sp), .int fo, .int op, .int ha, .int st, .ref (b 6), .ref (b 7), .ref (b 8)])), ((b 1), .inl (cI, 206, .inl (flatS t u))), ((b 7), .inl (cI, 7, .inl (wmG t 5))), ((b 8), .inl (cI, 7, .inl (wmG t 5)))]) dX7_ways_25 rfl rfl hP hS
