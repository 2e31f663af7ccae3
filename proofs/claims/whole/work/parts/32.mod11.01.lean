set_option maxHeartbeats 4000000 in
set_option maxRecDepth 100000 in
theorem c_X7_pin_4 (l : Launch) (D : va_G) (tys : eT) (cI : ClassId) (ht0 : tys[0]? = some (cI, .int)) (b : Nat → Nat) (kn le sp : Nat) (ik be fo op ha st : Int32) (t : Pn) (u : Tr) (v : Int32) (r1 : Int32) (e_r1 : r1 = if inP v 34 then if (cmG t 127 (v.toNatClampNeg / 7)).testBit (v.toNatClampNeg % 7) = true then 1 else 0 else -1) (htl : tilOK t) (hout : outOK t) : fc l D tys yX7_pin wsX7_pin (eR 4 93) [.ref (b 0), .int v, .int 4] ([((b 0), .inr (7, [.ref (b 1), .ref (b 2), .ref (b 3), .int (nI kn), .ref (b 4), .int ik, .ref (b 5), .int (nI le), .int be, .int (nI sp), .int fo, .int op, .int ha, .int st, .ref (b 6), .ref (b 7), .ref (b 8)])), ((b 1), .inl (cI, 206, .inl (flatS t u)))]) (some (.int r1)) ([((b 0), .inr (7, [.ref (b 1), .ref (b 2), .ref (b 3), .int (nI kn), .ref (b 4), .int ik, .ref (b 5), .int (nI le), .int be, .int (nI sp), .int fo, .int op, .int ha, .int st, .ref (b 6), .ref (b 7), .ref (b 8)])), ((b 1), .inl (cI, 206, .inl (flatS t u)))]) := by
  refine fc_int cX7_pin 4 (by decide +kernel) rfl (rfl) (Nat.le_of_ble_eq_true rfl) ?_
  intro p9 e9 s9 m9 a9 b9 t9 c9 H0 A Q ls S hK hN hA hP hD hS hl hQ
  have S : CallFix p9 m9 c9 cX7_pin 4 s9 a9 wsX7_pin RX7 := S
  obtain ⟨hx, hb, hml, hown, hts⟩ := id S
  have hP : va_P D vwCl ([((b 0), .inr (7, [.ref (b 1), .ref (b 2), .ref (b 3), .int (nI kn), .ref (b 4), .int ik, .ref (b 5), .int (nI le), .int be, .int (nI sp), .int fo, .int op, .int ha, .int st, .ref (b 6), .ref (b 7), .ref (b 8)])), ((b 1), .inl (cI, 206, .inl (flatS t u)))]) H0 := hP
  have hD : va_D A ([((b 0), .inr (7, [.ref (b 1), .ref (b 2), .ref (b 3), .int (nI kn), .ref (b 4), .int ik, .ref (b 5), .int (nI le), .int be, .int (nI sp), .int fo, .int op, .int ha, .int st, .ref (b 6), .ref (b 7), .ref (b 8)])), ((b 1), .inl (cI, 206, .inl (flatS t u)))]) := hD
  have hl : lv_has ls 4 [(0, .ref (b 0)), (1, .int v), (2, .int 4)] := hl
  refine lv_iload_n hx hb dX7_pin_0 rfl (lv_at hl 1 rfl) ?_
  refine ej_S (As := [.int v]) (rest := []) (w' := [((b 0), .inr (7, [.ref (b 1), .ref (b 2), .ref (b 3), .int (nI kn), .ref (b 4), .int ik, .ref (b 5), .int (nI le), .int be, .int (nI sp), .int fo, .int op, .int ha, .int st, .ref (b 6), .ref (b 7), .ref (b 8)])), ((b 1), .inl (cI, 206, .inl (flatS t u)))]) S hK hN hA hP hD hS (c_X7_isPin l D tys cI ht0 v) (va_cwS 1 hts gX7_pin_X7_isPin rfl rfl rfl hds_X7_isPin ⟨Nat.le_of_ble_eq_true rfl, Nat.le_of_ble_eq_true rfl⟩) [] [] [] rfl (by decide +kernel) ⟨rfl, rfl⟩ rfl (by decide +kernel) rfl rfl hl.1 (Nat.le_of_ble_eq_true rfl) dX7_pin_1 ⟨Nat.zero_le _, Nat.zero_le _⟩ (fun H locs hP hD hS => ?_)
  show W p9 l e9 (eR 4 93) s9 m9 a9 b9 t9 c9 H locs 0 0 Q (F0 m9 4 ls (.int (if ¬ v < 0 ∧ ¬ 34 < v then 1 else 0) :: []))
  refine lv_if_eq (tgt := 16) hx hb dX7_pin_4 (by decide) (fun c_1 => ?_) (fun c_1 => ?_)
  · have b_1 : ¬ (¬ v < 0 ∧ ¬ 34 < v) := ej_b0 c_1
    refine lv_iconst (v := (-1)) hx hb dX7_pin_16 (by decide) ?_
    have f_r1 : (-1) = r1 := by rw [e_r1]; rw [if_neg b_1]
    subst f_r1
    exact hQ _ _ _ _ (-1) ([((b 0), .inr (7, [.ref (b 1), .ref (b 2), .ref (b 3), .int (nI kn), .ref (b 4), .int ik, .ref (b 5), .int (nI le), .int be, .int (nI sp), .int fo, .int op, .int ha, .int st, .ref (b 6), .ref (b 7), .ref (b 8)])), ((b 1), .inl (cI, 206, .inl (flatS t u)))]) dX7_pin_17 rfl rfl hP hS
  · have b_1 : ¬ v < 0 ∧ ¬ 34 < v := ej_b1 c_1
    obtain ⟨k, h_k, rfl⟩ := ej_in34 b_1
    have kk_k : (nI k).toNatClampNeg = k := nI_clamp (by omega)
    refine lv_iload_n hx hb dX7_pin_7 rfl (lv_at hl 2 rfl) ?_
    refine lv_iconst (v := 0) hx hb dX7_pin_8 (by decide) ?_
    refine lv_iconst (v := 4) hx hb dX7_pin_9 (by decide) ?_
    refine ej_S (As := [.int 4, .int 0, .int 4]) (rest := []) (w' := [((b 0), .inr (7, [.ref (b 1), .ref (b 2), .ref (b 3), .int (nI kn), .ref (b 4), .int ik, .ref (b 5), .int (nI le), .int be, .int (nI sp), .int fo, .int op, .int ha, .int st, .ref (b 6), .ref (b 7), .ref (b 8)])), ((b 1), .inl (cI, 206, .inl (flatS t u)))]) S hK hN hA hP hD hS (c_X7_in l D tys cI ht0 4 0 4) (va_cwS 3 hts gX7_pin_X7_in rfl rfl rfl hds_X7_in ⟨Nat.le_of_ble_eq_true rfl, Nat.le_of_ble_eq_true rfl⟩) [] [] [] rfl (by decide +kernel) ⟨rfl, rfl⟩ rfl (by decide +kernel) rfl rfl hl.1 (Nat.le_of_ble_eq_true rfl) dX7_pin_10 ⟨Nat.zero_le _, Nat.zero_le _⟩ (fun H locs hP hD hS => ?_)
    show W p9 l e9 (eR 4 93) s9 m9 a9 b9 t9 c9 H locs 0 0 Q (F0 m9 13 ls (.int (if ¬ 4 < 0 ∧ ¬ 4 < 4 then 1 else 0) :: []))
    refine lv_if_ne (tgt := 18) hx hb dX7_pin_13 (by decide) (fun c_2 => ?_) (fun c_2 => ?_)
    · have b_2 : ¬ 4 < 0 ∧ ¬ 4 < 4 := ej_b1 c_2
      refine lv_aload_n hx hb dX7_pin_18 rfl (lv_at hl 0 rfl) ?_
      refine lv_iload_n hx hb dX7_pin_19 rfl (lv_at hl 1 rfl) ?_
      refine lv_iconst (v := 1) hx hb dX7_pin_20 (by decide) ?_
      refine ej_V (As := [.int (nI k), .int 1]) (rest := []) (w' := [((b 0), .inr (7, [.ref (b 1), .ref (b 2), .ref (b 3), .int (nI kn), .ref (b 4), .int ik, .ref (b 5), .int (nI le), .int be, .int (nI sp), .int fo, .int op, .int ha, .int st, .ref (b 6), .ref (b 7), .ref (b 8)])), ((b 1), .inl (cI, 206, .inl (flatS t u)))]) S hK hN hA hP hD hS (c_X7_of l D tys cI ht0 b kn le sp ik be fo op ha st (flatS t u) k 1 (by omega) (by omega)) (cwV 2 hts gX7_pin_X7_of rfl rfl rfl hdv_X7_of ⟨Nat.le_of_ble_eq_true rfl, Nat.le_of_ble_eq_true rfl⟩) [0, 1] [some 0, some 1] [(b 0), (b 1)] rfl (by decide +kernel) ⟨rfl, rfl⟩ rfl (by decide +kernel) 0 7 rfl rfl rfl rfl hl.1 (Nat.le_of_ble_eq_true rfl) dX7_pin_21 ⟨Nat.zero_le _, Nat.zero_le _⟩ (fun H locs hP hD hS => ?_)
      show W p9 l e9 (eR 4 93) s9 m9 a9 b9 t9 c9 H locs 0 0 Q (F0 m9 24 ls (.int ((flatS t u) (10 + 5 * k + 1)) :: []))
      refine ej_topi (show ((flatS t u) (10 + 5 * k + 1)) = P_ou t k from flS_1 t u (by omega)) ?_
      refine lv_iconst (v := 1) hx hb dX7_pin_24 (by decide) ?_
      refine lv_icmp_ne (tgt := 32) hx hb dX7_pin_25 (by decide) (fun c_3 => ?_) (fun c_3 => ?_)
      · refine lv_iconst (v := 0) hx hb dX7_pin_32 (by decide) ?_
        refine lv_istore_n (lv' := [(3, .int 0), (0, .ref (b 0)), (1, .int (nI k)), (2, .int 4)]) hx hb dX7_pin_33 rfl hl (by decide) rfl (fun ls hl => ?_)
        refine lv_iload_n hx hb dX7_pin_34 rfl (lv_at hl 3 rfl) ?_
        refine lv_tableOut (tgt := 112) hx hb dX7_pin_35 (by decide) (by decide) ?_
        refine lv_aload_n hx hb dX7_pin_112 rfl (lv_at hl 1 rfl) ?_
        refine lv_bipush (v := 127) hx hb dX7_pin_113 (by decide) ?_
        refine lv_iload_n hx hb dX7_pin_115 rfl (lv_at hl 2 rfl) ?_
        refine lv_bipush (v := 7) hx hb dX7_pin_116 (by decide) ?_
        refine lv_idiv hx hb dX7_pin_118 (by decide) ?_
        refine ej_topi (show ((nI k) / 7) = nI (k / 7) from pk_div (a := k) (d := 7) (by omega) (by decide) (by decide)) ?_
        obtain ⟨m1_4, e_m1_4⟩ : ∃ z9 : Nat, z9 = cmG t 127 (k / 7) := ⟨_, rfl⟩
        refine ej_V (As := [.int 127, .int (nI (k / 7))]) (rest := []) (w' := [((b 0), .inr (7, [.ref (b 1), .ref (b 2), .ref (b 3), .int (nI kn), .ref (b 4), .int ik, .ref (b 5), .int (nI le), .int be, .int (nI sp), .int fo, .int op, .int ha, .int st, .ref (b 6), .ref (b 7), .ref (b 8)])), ((b 1), .inl (cI, 206, .inl (flatS t u)))]) S hK hN hA hP hD hS (c_X7_comesTo l D tys cI ht0 b kn le sp ik be fo op ha st t u 127 (k / 7) m1_4 e_m1_4 (by omega) (by omega) (by omega) (by omega)) (cwV 2 hts gX7_pin_X7_comesTo rfl rfl rfl hdv_X7_comesTo ⟨Nat.le_of_ble_eq_true rfl, Nat.le_of_ble_eq_true rfl⟩) [0, 1] [some 0, some 1] [(b 0), (b 1)] rfl (by decide +kernel) ⟨rfl, rfl⟩ rfl (by decide +kernel) 0 7 rfl rfl rfl rfl hl.1 (Nat.le_of_ble_eq_true rfl) dX7_pin_119 ⟨Nat.zero_le _, Nat.zero_le _⟩ (fun H locs hP hD hS => ?_)
        show W p9 l e9 (eR 4 93) s9 m9 a9 b9 t9 c9 H locs 0 0 Q (F0 m9 122 ls (.int (nI m1_4) :: []))
        refine lv_iload_n hx hb dX7_pin_122 rfl (lv_at hl 2 rfl) ?_
        refine lv_bipush (v := 7) hx hb dX7_pin_123 (by decide) ?_
        refine lv_irem hx hb dX7_pin_125 (by decide) ?_
        refine ej_topi (show ((nI k) - (nI k) / 7 * 7) = nI (k % 7) from pk_rem (a := k) (d := 7) (by omega) (by decide) (by decide)) ?_
        refine lv_ishr hx hb dX7_pin_126 ?_
        refine lv_iconst (v := 1) hx hb dX7_pin_127 (by decide) ?_
        refine lv_iand hx hb dX7_pin_128 ?_
        refine ej_topi (show (((nI m1_4) >>> ((nI (k % 7)) &&& 31)) &&& 1) = if (m1_4).testBit (k % 7) = true then 1 else 0 from bit_ok m1_4 (by rw [e_m1_4]; exact cmG_lt t (by decide) (k / 7)) (k % 7) (by omega)) ?_
        have f_r1 : (if (m1_4).testBit (k % 7) = true then 1 else 0) = r1 := by rw [e_r1]; rw [if_pos b_1, kk_k, e_m1_4]
        subst f_r1
        exact hQ _ _ _ _ (if (m1_4).testBit (k % 7) = true then 1 else 0) ([((b 0), .inr (7, [.ref (b 1), .ref (b 2), .ref (b 3), .int (nI kn), .ref (b 4), .int ik, .ref (b 5), .int (nI le), .int be, .int (nI sp), .int fo, .int op, .int ha, .int st, .ref (b 6), .ref (b 7), .ref (b 8)])), ((b 1), .inl (cI, 206, .inl (flatS t u)))]) dX7_pin_129 rfl rfl hP hS
      · refine lv_iconst (v := 1) hx hb dX7_pin_28 (by decide) ?_
        refine lv_goto (tgt := 33) hx hb dX7_pin_29 (by decide) ?_
        refine lv_istore_n (lv' := [(3, .int 1), (0, .ref (b 0)), (1, .int (nI k)), (2, .int 4)]) hx hb dX7_pin_33 rfl hl (by decide) rfl (fun ls hl => ?_)
        refine lv_iload_n hx hb dX7_pin_34 rfl (lv_at hl 3 rfl) ?_
        refine lv_tableOut (tgt := 112) hx hb dX7_pin_35 (by decide) (by decide) ?_
        refine lv_aload_n hx hb dX7_pin_112 rfl (lv_at hl 1 rfl) ?_
        refine lv_bipush (v := 127) hx hb dX7_pin_113 (by decide) ?_
        refine lv_iload_n hx hb dX7_pin_115 rfl (lv_at hl 2 rfl) ?_
        refine lv_bipush (v := 7) hx hb dX7_pin_116 (by decide) ?_
        refine lv_idiv hx hb dX7_pin_118 (by decide) ?_
        refine ej_topi (show ((nI k) / 7) = nI (k / 7) from pk_div (a := k) (d := 7) (by omega) (by decide) (by decide)) ?_
        obtain ⟨m1_5, e_m1_5⟩ : ∃ z9 : Nat, z9 = cmG t 127 (k / 7) := ⟨_, rfl⟩
        refine ej_V (As := [.int 127, .int (nI (k / 7))]) (rest := []) (w' := [((b 0), .inr (7, [.ref (b 1), .ref (b 2), .ref (b 3), .int (nI kn), .ref (b 4), .int ik, .ref (b 5), .int (nI le), .int be, .int (nI sp), .int fo, .int op, .int ha, .int st, .ref (b 6), .ref (b 7), .ref (b 8)])), ((b 1), .inl (cI, 206, .inl (flatS t u)))]) S hK hN hA hP hD hS (c_X7_comesTo l D tys cI ht0 b kn le sp ik be fo op ha st t u 127 (k / 7) m1_5 e_m1_5 (by omega) (by omega) (by omega) (by omega)) (cwV 2 hts gX7_pin_X7_comesTo rfl rfl rfl hdv_X7_comesTo ⟨Nat.le_of_ble_eq_true rfl, Nat.le_of_ble_eq_true rfl⟩) [0, 1] [some 0, some 1] [(b 0), (b 1)] rfl (by decide +kernel) ⟨rfl, rfl⟩ rfl (by decide +kernel) 0 7 rfl rfl rfl rfl hl.1 (Nat.le_of_ble_eq_true rfl) dX7_pin_119 ⟨Nat.zero_le _, Nat.zero_le _⟩ (fun H locs hP hD hS => ?_)
        show W p9 l e9 (eR 4 93) s9 m9 a9 b9 t9 c9 H locs 0 0 Q (F0 m9 122 ls (.int (nI m1_5) :: []))
        refine lv_iload_n hx hb dX7_pin_122 rfl (lv_at hl 2 rfl) ?_
        refine lv_bipush (v := 7) hx hb dX7_pin_123 (by decide) ?_
        refine lv_irem hx hb dX7_pin_125 (by decide) ?_
        refine ej_topi (show ((nI k) - (nI k) / 7 * 7) = nI (k % 7) from pk_rem (a := k) (d := 7) (by omega) (by decide) (by decide)) ?_
        refine lv_ishr hx hb dX7_pin_126 ?_
        refine lv_iconst (v := 1) hx hb dX7_pin_127 (by decide) ?_
        refine lv_iand hx hb dX7_pin_128 ?_
        refine ej_topi (show (((nI m1_5) >>> ((nI (k % 7)) &&& 31)) &&& 1) = if (m1_5).testBit (k % 7) = true then 1 else 0 from bit_ok m1_5 (by rw [e_m1_5]; exact cmG_lt t (by decide) (k / 7)) (k % 7) (by omega)) ?_
        have f_r1 : (if (m1_5).testBit (k % 7) = true then 1 else 0) = r1 := by rw [e_r1]; rw [if_pos b_1, kk_k, e_m1_5]
        subst f_r1
        exact hQ _ _ _ _ (if (m1_5).testBit (k % 7) = true then 1 else 0) ([((b 0), .inr (7, [.ref (b 1), .ref (b 2), .ref (b 3), .int (nI kn), .ref (b 4), .int ik, .ref (b 5), .int (nI le), .int be, .int (nI sp), .int fo, .int op, .int ha, .int st, .ref (b 6), .ref (b 7), .ref (b 8)])), ((b 1), .inl (cI, 206, .inl (flatS t u)))]) dX7_pin_129 rfl rfl hP hS
    · have b_2 : ¬ (¬ 4 < 0 ∧ ¬ 4 < 4) := ej_b0 c_2
      exact absurd (by decide) b_2
