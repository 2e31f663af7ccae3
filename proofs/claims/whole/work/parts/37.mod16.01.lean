set_option maxHeartbeats 4000000 in
set_option maxRecDepth 100000 in
theorem c_X7_ifShot (l : Launch) (D : va_G) (tys : eT) (cI : ClassId) (ht0 : tys[0]? = some (cI, .int)) (b : Nat → Nat) (kn le sp : Nat) (ik be fo op ha st : Int32) (t : Pn) (u : Tr) (g : Nat → Int32) (v h m w : Int32) (g1 : Nat → Int32) (e_g1 : g1 = if inP v 6 ∧ ((¬ m < 1 ∧ ¬ 20 < m) ∧ inP w 2) then flatS t u else g) (be1 : Int32) (e_be1 : be1 = if inP v 6 ∧ ((¬ m < 1 ∧ ¬ 20 < m) ∧ inP w 2) then tbG t u v.toNatClampNeg h be m.toNatClampNeg else be) (r1 : Int32) (e_r1 : r1 = if inP v 6 ∧ ((¬ m < 1 ∧ ¬ 20 < m) ∧ inP w 2) then ifR t u (ifG t u v.toNatClampNeg h m.toNatClampNeg) w else -1) (htl : tilOK t) (hout : outOK t) (hou : okU u) : fc l D tys yX7_ifShot wsX7_ifShot (eR 6 144) [.ref (b 0), .int v, .int h, .int m, .int w] ([((b 0), .inr (7, [.ref (b 1), .ref (b 2), .ref (b 3), .int (nI kn), .ref (b 4), .int ik, .ref (b 5), .int (nI le), .int be, .int (nI sp), .int fo, .int op, .int ha, .int st, .ref (b 6), .ref (b 7), .ref (b 8)])), ((b 1), .inl (cI, 206, .inl (flatS t u))), ((b 2), .inl (cI, 206, .inl g))]) (some (.int r1)) ([((b 0), .inr (7, [.ref (b 1), .ref (b 2), .ref (b 3), .int (nI kn), .ref (b 4), .int ik, .ref (b 5), .int (nI le), .int be1, .int (nI sp), .int fo, .int op, .int ha, .int st, .ref (b 6), .ref (b 7), .ref (b 8)])), ((b 1), .inl (cI, 206, .inl (flatS t u))), ((b 2), .inl (cI, 206, .inl g1))]) := by
  refine fc_int cX7_ifShot 5 (by decide +kernel) rfl (rfl) (Nat.le_of_ble_eq_true rfl) ?_
  intro p9 e9 s9 m9 a9 b9 t9 c9 H0 A Q ls S hK hN hA hP hD hS hl hQ
  have S : CallFix p9 m9 c9 cX7_ifShot 5 s9 a9 wsX7_ifShot RX7 := S
  obtain ⟨hx, hb, hml, hown, hts⟩ := id S
  have hP : va_P D vwCl ([((b 0), .inr (7, [.ref (b 1), .ref (b 2), .ref (b 3), .int (nI kn), .ref (b 4), .int ik, .ref (b 5), .int (nI le), .int be, .int (nI sp), .int fo, .int op, .int ha, .int st, .ref (b 6), .ref (b 7), .ref (b 8)])), ((b 1), .inl (cI, 206, .inl (flatS t u))), ((b 2), .inl (cI, 206, .inl g))]) H0 := hP
  have hD : va_D A ([((b 0), .inr (7, [.ref (b 1), .ref (b 2), .ref (b 3), .int (nI kn), .ref (b 4), .int ik, .ref (b 5), .int (nI le), .int be, .int (nI sp), .int fo, .int op, .int ha, .int st, .ref (b 6), .ref (b 7), .ref (b 8)])), ((b 1), .inl (cI, 206, .inl (flatS t u))), ((b 2), .inl (cI, 206, .inl g))]) := hD
  have hl : lv_has ls 5 [(0, .ref (b 0)), (1, .int v), (2, .int h), (3, .int m), (4, .int w)] := hl
  refine lv_iload_n hx hb dX7_ifShot_0 rfl (lv_at hl 1 rfl) ?_
  refine ej_S (As := [.int v]) (rest := []) (w' := [((b 0), .inr (7, [.ref (b 1), .ref (b 2), .ref (b 3), .int (nI kn), .ref (b 4), .int ik, .ref (b 5), .int (nI le), .int be, .int (nI sp), .int fo, .int op, .int ha, .int st, .ref (b 6), .ref (b 7), .ref (b 8)])), ((b 1), .inl (cI, 206, .inl (flatS t u))), ((b 2), .inl (cI, 206, .inl g))]) S hK hN hA hP hD hS (c_X7_isPlace l D tys cI ht0 v) (va_cwS 1 hts gX7_ifShot_X7_isPlace rfl rfl rfl hds_X7_isPlace ⟨Nat.le_of_ble_eq_true rfl, Nat.le_of_ble_eq_true rfl⟩) [] [] [] rfl (by decide +kernel) ⟨rfl, rfl⟩ rfl (by decide +kernel) rfl rfl hl.1 (Nat.le_of_ble_eq_true rfl) dX7_ifShot_1 ⟨Nat.zero_le _, Nat.zero_le _⟩ (fun H locs hP hD hS => ?_)
  show W p9 l e9 (eR 6 144) s9 m9 a9 b9 t9 c9 H locs 0 0 Q (F0 m9 4 ls (.int (if ¬ v < 0 ∧ ¬ 6 < v then 1 else 0) :: []))
  refine lv_if_eq (tgt := 39) hx hb dX7_ifShot_4 (by decide) (fun c_1 => ?_) (fun c_1 => ?_)
  · have b_1 : ¬ (¬ v < 0 ∧ ¬ 6 < v) := ej_b0 c_1
    refine lv_iconst (v := (-1)) hx hb dX7_ifShot_39 (by decide) ?_
    have f_g1 : g = g1 := by rw [e_g1]; rw [if_neg (fun q9 => b_1 q9.1)]
    have f_be1 : be = be1 := by rw [e_be1]; rw [if_neg (fun q9 => b_1 q9.1)]
    have f_r1 : (-1) = r1 := by rw [e_r1]; rw [if_neg (fun q9 => b_1 q9.1)]
    subst f_g1
    subst f_be1
    subst f_r1
    exact hQ _ _ _ _ (-1) ([((b 0), .inr (7, [.ref (b 1), .ref (b 2), .ref (b 3), .int (nI kn), .ref (b 4), .int ik, .ref (b 5), .int (nI le), .int be, .int (nI sp), .int fo, .int op, .int ha, .int st, .ref (b 6), .ref (b 7), .ref (b 8)])), ((b 1), .inl (cI, 206, .inl (flatS t u))), ((b 2), .inl (cI, 206, .inl g))]) dX7_ifShot_40 rfl rfl hP hS
  · have b_1 : ¬ v < 0 ∧ ¬ 6 < v := ej_b1 c_1
    obtain ⟨k, h_k, rfl⟩ := ej_in6 b_1
    have kk_k : (nI k).toNatClampNeg = k := nI_clamp (by omega)
    refine lv_iload_n hx hb dX7_ifShot_7 rfl (lv_at hl 3 rfl) ?_
    refine lv_iconst (v := 1) hx hb dX7_ifShot_8 (by decide) ?_
    refine lv_bipush (v := 20) hx hb dX7_ifShot_9 (by decide) ?_
    refine ej_S (As := [.int m, .int 1, .int 20]) (rest := []) (w' := [((b 0), .inr (7, [.ref (b 1), .ref (b 2), .ref (b 3), .int (nI kn), .ref (b 4), .int ik, .ref (b 5), .int (nI le), .int be, .int (nI sp), .int fo, .int op, .int ha, .int st, .ref (b 6), .ref (b 7), .ref (b 8)])), ((b 1), .inl (cI, 206, .inl (flatS t u))), ((b 2), .inl (cI, 206, .inl g))]) S hK hN hA hP hD hS (c_X7_in l D tys cI ht0 m 1 20) (va_cwS 3 hts gX7_ifShot_X7_in rfl rfl rfl hds_X7_in ⟨Nat.le_of_ble_eq_true rfl, Nat.le_of_ble_eq_true rfl⟩) [] [] [] rfl (by decide +kernel) ⟨rfl, rfl⟩ rfl (by decide +kernel) rfl rfl hl.1 (Nat.le_of_ble_eq_true rfl) dX7_ifShot_11 ⟨Nat.zero_le _, Nat.zero_le _⟩ (fun H locs hP hD hS => ?_)
    show W p9 l e9 (eR 6 144) s9 m9 a9 b9 t9 c9 H locs 0 0 Q (F0 m9 14 ls (.int (if ¬ m < 1 ∧ ¬ 20 < m then 1 else 0) :: []))
    refine lv_if_eq (tgt := 39) hx hb dX7_ifShot_14 (by decide) (fun c_2 => ?_) (fun c_2 => ?_)
    · have b_2 : ¬ (¬ m < 1 ∧ ¬ 20 < m) := ej_b0 c_2
      refine lv_iconst (v := (-1)) hx hb dX7_ifShot_39 (by decide) ?_
      have f_g1 : g = g1 := by rw [e_g1]; rw [if_neg (fun q9 => b_2 q9.2.1)]
      have f_be1 : be = be1 := by rw [e_be1]; rw [if_neg (fun q9 => b_2 q9.2.1)]
      have f_r1 : (-1) = r1 := by rw [e_r1]; rw [if_neg (fun q9 => b_2 q9.2.1)]
      subst f_g1
      subst f_be1
      subst f_r1
      exact hQ _ _ _ _ (-1) ([((b 0), .inr (7, [.ref (b 1), .ref (b 2), .ref (b 3), .int (nI kn), .ref (b 4), .int ik, .ref (b 5), .int (nI le), .int be, .int (nI sp), .int fo, .int op, .int ha, .int st, .ref (b 6), .ref (b 7), .ref (b 8)])), ((b 1), .inl (cI, 206, .inl (flatS t u))), ((b 2), .inl (cI, 206, .inl g))]) dX7_ifShot_40 rfl rfl hP hS
    · have b_2 : ¬ m < 1 ∧ ¬ 20 < m := ej_b1 c_2
      obtain ⟨j, h_j, rfl⟩ := ej_in20 b_2
      have kk_j : (nI j).toNatClampNeg = j := nI_clamp (by omega)
      refine lv_iload hx hb dX7_ifShot_17 (lv_at hl 4 rfl) ?_
      refine lv_iconst (v := 0) hx hb dX7_ifShot_19 (by decide) ?_
      refine lv_iconst (v := 2) hx hb dX7_ifShot_20 (by decide) ?_
      refine ej_S (As := [.int w, .int 0, .int 2]) (rest := []) (w' := [((b 0), .inr (7, [.ref (b 1), .ref (b 2), .ref (b 3), .int (nI kn), .ref (b 4), .int ik, .ref (b 5), .int (nI le), .int be, .int (nI sp), .int fo, .int op, .int ha, .int st, .ref (b 6), .ref (b 7), .ref (b 8)])), ((b 1), .inl (cI, 206, .inl (flatS t u))), ((b 2), .inl (cI, 206, .inl g))]) S hK hN hA hP hD hS (c_X7_in l D tys cI ht0 w 0 2) (va_cwS 3 hts gX7_ifShot_X7_in rfl rfl rfl hds_X7_in ⟨Nat.le_of_ble_eq_true rfl, Nat.le_of_ble_eq_true rfl⟩) [] [] [] rfl (by decide +kernel) ⟨rfl, rfl⟩ rfl (by decide +kernel) rfl rfl hl.1 (Nat.le_of_ble_eq_true rfl) dX7_ifShot_21 ⟨Nat.zero_le _, Nat.zero_le _⟩ (fun H locs hP hD hS => ?_)
      show W p9 l e9 (eR 6 144) s9 m9 a9 b9 t9 c9 H locs 0 0 Q (F0 m9 24 ls (.int (if ¬ w < 0 ∧ ¬ 2 < w then 1 else 0) :: []))
      refine lv_if_eq (tgt := 39) hx hb dX7_ifShot_24 (by decide) (fun c_3 => ?_) (fun c_3 => ?_)
      · have b_3 : ¬ (¬ w < 0 ∧ ¬ 2 < w) := ej_b0 c_3
        refine lv_iconst (v := (-1)) hx hb dX7_ifShot_39 (by decide) ?_
        have f_g1 : g = g1 := by rw [e_g1]; rw [if_neg (fun q9 => b_3 q9.2.2)]
        have f_be1 : be = be1 := by rw [e_be1]; rw [if_neg (fun q9 => b_3 q9.2.2)]
        have f_r1 : (-1) = r1 := by rw [e_r1]; rw [if_neg (fun q9 => b_3 q9.2.2)]
        subst f_g1
        subst f_be1
        subst f_r1
        exact hQ _ _ _ _ (-1) ([((b 0), .inr (7, [.ref (b 1), .ref (b 2), .ref (b 3), .int (nI kn), .ref (b 4), .int ik, .ref (b 5), .int (nI le), .int be, .int (nI sp), .int fo, .int op, .int ha, .int st, .ref (b 6), .ref (b 7), .ref (b 8)])), ((b 1), .inl (cI, 206, .inl (flatS t u))), ((b 2), .inl (cI, 206, .inl g))]) dX7_ifShot_40 rfl rfl hP hS
      · have b_3 : ¬ w < 0 ∧ ¬ 2 < w := ej_b1 c_3
        refine lv_aload_n hx hb dX7_ifShot_27 rfl (lv_at hl 0 rfl) ?_
        refine lv_iload_n hx hb dX7_ifShot_28 rfl (lv_at hl 1 rfl) ?_
        refine lv_iload_n hx hb dX7_ifShot_29 rfl (lv_at hl 2 rfl) ?_
        refine lv_iload_n hx hb dX7_ifShot_30 rfl (lv_at hl 3 rfl) ?_
        refine lv_iload hx hb dX7_ifShot_31 (lv_at hl 4 rfl) ?_
        obtain ⟨be1_4, e_be1_4⟩ : ∃ z9 : Int32, z9 = tbG t u k h be j := ⟨_, rfl⟩
        obtain ⟨r1_5, e_r1_5⟩ : ∃ z9 : Int32, z9 = ifR t u (ifG t u k h j) w := ⟨_, rfl⟩
        refine ej_V (As := [.int (nI k), .int h, .int (nI j), .int w]) (rest := []) (w' := [((b 0), .inr (7, [.ref (b 1), .ref (b 2), .ref (b 3), .int (nI kn), .ref (b 4), .int ik, .ref (b 5), .int (nI le), .int be1_4, .int (nI sp), .int fo, .int op, .int ha, .int st, .ref (b 6), .ref (b 7), .ref (b 8)])), ((b 1), .inl (cI, 206, .inl (flatS t u))), ((b 2), .inl (cI, 206, .inl (flatS t u)))]) S hK hN hA hP hD hS (c_X7_tries l D tys cI ht0 b kn le sp ik be fo op ha st t u g k j h w be1_4 e_be1_4 r1_5 e_r1_5 (by omega) (by omega) (by omega) (by omega) (by omega)) (cwV 4 hts gX7_ifShot_X7_tries rfl rfl rfl hdv_X7_tries ⟨Nat.le_of_ble_eq_true rfl, Nat.le_of_ble_eq_true rfl⟩) [0, 1, 2] [some 0, some 1, some 2] [(b 0), (b 1), (b 2)] rfl (by decide +kernel) ⟨rfl, rfl⟩ rfl (by decide +kernel) 0 7 rfl rfl rfl rfl hl.1 (Nat.le_of_ble_eq_true rfl) dX7_ifShot_33 ⟨Nat.zero_le _, Nat.zero_le _⟩ (fun H locs hP hD hS => ?_)
        show W p9 l e9 (eR 6 144) s9 m9 a9 b9 t9 c9 H locs 0 0 Q (F0 m9 36 ls (.int r1_5 :: []))
        refine lv_goto (tgt := 40) hx hb dX7_ifShot_36 (by decide) ?_
        have f_g1 : (flatS t u) = g1 := by rw [e_g1]; rw [if_pos (⟨b_1, b_2, b_3⟩ : inP (nI k) 6 ∧ (¬ nI j < 1 ∧ ¬ 20 < nI j) ∧ inP w 2)]
        have f_be1 : be1_4 = be1 := by rw [e_be1]; rw [if_pos (⟨b_1, b_2, b_3⟩ : inP (nI k) 6 ∧ (¬ nI j < 1 ∧ ¬ 20 < nI j) ∧ inP w 2), kk_k, kk_j]; exact e_be1_4
        have f_r1 : r1_5 = r1 := by rw [e_r1]; rw [if_pos (⟨b_1, b_2, b_3⟩ : inP (nI k) 6 ∧ (¬ nI j < 1 ∧ ¬ 20 < nI j) ∧ inP w 2), kk_k, kk_j]; exact e_r1_5
        subst f_g1
        subst f_be1
        subst f_r1
        exact hQ _ _ _ _ r1_5 ([((b 0), .inr (7, [.ref (b 1), .ref (b 2), .ref (b 3), .int (nI kn), .ref (b 4), .int ik, .ref (b 5), .int (nI le), .int be1_4, .int (nI sp), .int fo, .int op, .int ha, .int st, .ref (b 6), .ref (b 7), .ref (b 8)])), ((b 1), .inl (cI, 206, .inl (flatS t u))), ((b 2), .inl (cI, 206, .inl (flatS t u)))]) dX7_ifShot_40 rfl rfl hP hS
