set_option maxHeartbeats 4000000 in
set_option maxRecDepth 100000 in
theorem c_X7_fault_0 (l : Launch) (D : va_G) (tys : eT) (cI : ClassId) (ht0 : tys[0]? = some (cI, .int)) (b : Nat → Nat) (kn le sp : Nat) (ik be fo op ha st : Int32) (f : Nat → Int32) (sp1 : Nat) (e_sp1 : sp1 = bI le f 35 0) (r1 : Int32) (e_r1 : r1 = if bI le f 35 0 = 35 ∧ le = 35 then -4 else nI (bI le f 35 0)) (hq : le ≤ 60) : fc l D tys yX7_fault wsX7_fault (eR 2 40) [.ref (b 0), .int 0] ([((b 0), .inr (7, [.ref (b 1), .ref (b 2), .ref (b 3), .int (nI kn), .ref (b 4), .int ik, .ref (b 5), .int (nI le), .int be, .int (nI sp), .int fo, .int op, .int ha, .int st, .ref (b 6), .ref (b 7), .ref (b 8)])), ((b 5), .inl (cI, 60, .inl f))]) (some (.int r1)) ([((b 0), .inr (7, [.ref (b 1), .ref (b 2), .ref (b 3), .int (nI kn), .ref (b 4), .int ik, .ref (b 5), .int (nI le), .int be, .int (nI sp1), .int fo, .int op, .int ha, .int st, .ref (b 6), .ref (b 7), .ref (b 8)])), ((b 5), .inl (cI, 60, .inl f))]) := by
  refine fc_int cX7_fault 2 (by decide +kernel) rfl (rfl) (Nat.le_of_ble_eq_true rfl) ?_
  intro p9 e9 s9 m9 a9 b9 t9 c9 H0 A Q ls S hK hN hA hP hD hS hl hQ
  have S : CallFix p9 m9 c9 cX7_fault 2 s9 a9 wsX7_fault RX7 := S
  obtain ⟨hx, hb, hml, hown, hts⟩ := id S
  have iX7 : ∀ w ∈ wsX70, w ∈ wsX7_fault := fun w h => List.mem_cons_of_mem _ (List.mem_append_right _ (h))
  have hP : va_P D vwCl ([((b 0), .inr (7, [.ref (b 1), .ref (b 2), .ref (b 3), .int (nI kn), .ref (b 4), .int ik, .ref (b 5), .int (nI le), .int be, .int (nI sp), .int fo, .int op, .int ha, .int st, .ref (b 6), .ref (b 7), .ref (b 8)])), ((b 5), .inl (cI, 60, .inl f))]) H0 := hP
  have hD : va_D A ([((b 0), .inr (7, [.ref (b 1), .ref (b 2), .ref (b 3), .int (nI kn), .ref (b 4), .int ik, .ref (b 5), .int (nI le), .int be, .int (nI sp), .int fo, .int op, .int ha, .int st, .ref (b 6), .ref (b 7), .ref (b 8)])), ((b 5), .inl (cI, 60, .inl f))]) := hD
  have hl : lv_has ls 2 [(0, .ref (b 0)), (1, .int 0)] := hl
  refine lv_iload_n hx hb dX7_fault_0 rfl (lv_at hl 1 rfl) ?_
  refine lv_iconst (v := 0) hx hb dX7_fault_1 (by decide) ?_
  refine lv_iconst (v := 1) hx hb dX7_fault_2 (by decide) ?_
  refine ej_S (As := [.int 0, .int 0, .int 1]) (rest := []) (w' := [((b 0), .inr (7, [.ref (b 1), .ref (b 2), .ref (b 3), .int (nI kn), .ref (b 4), .int ik, .ref (b 5), .int (nI le), .int be, .int (nI sp), .int fo, .int op, .int ha, .int st, .ref (b 6), .ref (b 7), .ref (b 8)])), ((b 5), .inl (cI, 60, .inl f))]) S hK hN hA hP hD hS (c_X7_in l D tys cI ht0 0 0 1) (va_cwS 3 hts gX7_fault_X7_in rfl rfl rfl hds_X7_in ⟨Nat.le_of_ble_eq_true rfl, Nat.le_of_ble_eq_true rfl⟩) [] [] [] rfl (by decide +kernel) ⟨rfl, rfl⟩ rfl (by decide +kernel) rfl rfl hl.1 (Nat.le_of_ble_eq_true rfl) dX7_fault_3 ⟨Nat.zero_le _, Nat.zero_le _⟩ (fun H locs hP hD hS => ?_)
  show W p9 l e9 (eR 2 40) s9 m9 a9 b9 t9 c9 H locs 0 0 Q (F0 m9 6 ls (.int (if ¬ 0 < 0 ∧ ¬ 1 < 0 then 1 else 0) :: []))
  refine lv_if_ne (tgt := 11) hx hb dX7_fault_6 (by decide) (fun c_1 => ?_) (fun c_1 => ?_)
  · have b_1 : ¬ 0 < 0 ∧ ¬ 1 < 0 := ej_b1 c_1
    refine lv_iload_n hx hb dX7_fault_11 rfl (lv_at hl 1 rfl) ?_
    refine lv_if_ne (tgt := 25) hx hb dX7_fault_12 (by decide) (fun h9 => absurd (show (0 : Int32) = 0 from by decide) h9) (fun _ => ?_)
    refine lv_aload_n hx hb dX7_fault_15 rfl (lv_at hl 0 rfl) ?_
    obtain ⟨sp1_2, e_sp1_2⟩ : ∃ z9 : Nat, z9 = bI le f 35 0 := ⟨_, rfl⟩
    refine ej_V (As := []) (rest := []) (w' := [((b 0), .inr (7, [.ref (b 1), .ref (b 2), .ref (b 3), .int (nI kn), .ref (b 4), .int ik, .ref (b 5), .int (nI le), .int be, .int (nI sp1_2), .int fo, .int op, .int ha, .int st, .ref (b 6), .ref (b 7), .ref (b 8)])), ((b 5), .inl (cI, 60, .inl f))]) S hK hN hA hP hD hS (c_X7_isBoard l D tys cI ht0 b kn le sp ik be fo op ha st f sp1_2 e_sp1_2 (by omega)) (cwV 0 hts gX7_fault_X7_isBoard rfl rfl rfl hdv_X7_isBoard ⟨Nat.le_of_ble_eq_true rfl, Nat.le_of_ble_eq_true rfl⟩) [0, 1] [some 0, some 1] [(b 0), (b 5)] rfl (by decide +kernel) ⟨rfl, rfl⟩ rfl (by decide +kernel) 0 7 rfl rfl rfl rfl hl.1 (Nat.le_of_ble_eq_true rfl) dX7_fault_16 ⟨Nat.zero_le _, Nat.zero_le _⟩ (fun H locs hP hD hS => ?_)
    show W p9 l e9 (eR 2 40) s9 m9 a9 b9 t9 c9 H locs 0 0 Q (F0 m9 19 ls (.int (if sp1_2 = 35 ∧ le = 35 then 1 else 0) :: []))
    have q_sp1_2 : (bI le f 35 0) = sp1_2 := Eq.symm (e_sp1_2)
    subst q_sp1_2
    refine lv_if_eq (tgt := 37) hx hb dX7_fault_19 (by decide) (fun c_3 => ?_) (fun c_3 => ?_)
    · have b_3 : ¬ ((bI le f 35 0) = 35 ∧ le = 35) := ej_b0 c_3
      refine lv_aload_n hx hb dX7_fault_37 rfl (lv_at hl 0 rfl) ?_
      refine va_get (D := D) (ci := 7) (v := .int (nI (bI le f 35 0))) (C := RX7) (T := TX7) (N := 17) hx hb hts iX7 hown hK hP 0 rfl rfl 9 (Nat.le_of_ble_eq_true rfl) (hts (.fieldLink RX7 111 "BentPinsModel" "spot" "I") (List.mem_of_getElem? (i := 1) rfl)) (fun _ h9 => h9) rfl dX7_fault_38 ?_
      have f_sp1 : (bI le f 35 0) = sp1 := by rw [e_sp1]; skip
      have f_r1 : (nI (bI le f 35 0)) = r1 := by rw [e_r1]; first | exact (if_pos b_3).symm | exact (if_neg b_3).symm
      subst f_sp1
      subst f_r1
      exact hQ _ _ _ _ (nI (bI le f 35 0)) ([((b 0), .inr (7, [.ref (b 1), .ref (b 2), .ref (b 3), .int (nI kn), .ref (b 4), .int ik, .ref (b 5), .int (nI le), .int be, .int (nI (bI le f 35 0)), .int fo, .int op, .int ha, .int st, .ref (b 6), .ref (b 7), .ref (b 8)])), ((b 5), .inl (cI, 60, .inl f))]) dX7_fault_41 rfl rfl hP hS
    · have b_3 : (bI le f 35 0) = 35 ∧ le = 35 := ej_b1 c_3
      refine lv_goto (tgt := 32) hx hb dX7_fault_22 (by decide) ?_
      refine lv_bipush (v := (-4)) hx hb dX7_fault_32 (by decide) ?_
      refine lv_goto (tgt := 41) hx hb dX7_fault_34 (by decide) ?_
      have f_sp1 : (bI le f 35 0) = sp1 := by rw [e_sp1]; skip
      have f_r1 : (-4) = r1 := by rw [e_r1]; first | exact (if_pos b_3).symm | exact (if_neg b_3).symm
      subst f_sp1
      subst f_r1
      exact hQ _ _ _ _ (-4) ([((b 0), .inr (7, [.ref (b 1), .ref (b 2), .ref (b 3), .int (nI kn), .ref (b 4), .int ik, .ref (b 5), .int (nI le), .int be, .int (nI (bI le f 35 0)), .int fo, .int op, .int ha, .int st, .ref (b 6), .ref (b 7), .ref (b 8)])), ((b 5), .inl (cI, 60, .inl f))]) dX7_fault_41 rfl rfl hP hS
  · have b_1 : ¬ (¬ 0 < 0 ∧ ¬ 1 < 0) := ej_b0 c_1
    exact absurd (by decide) b_1
