set_option maxHeartbeats 4000000 in
set_option maxRecDepth 100000 in
theorem c_X7_fault_1 (l : Launch) (D : va_G) (tys : eT) (cI : ClassId) (ht0 : tys[0]? = some (cI, .int)) (b : Nat → Nat) (kn le sp : Nat) (ik be fo op ha st : Int32) (f : Nat → Int32) (op1 : Int32) (e_op1 : op1 = (asA le f).2.2.1) (fo1 : Int32) (e_fo1 : fo1 = (asA le f).2.1) (ha1 : Int32) (e_ha1 : ha1 = (asA le f).2.2.2) (sp1 : Nat) (e_sp1 : sp1 = (asA le f).1) (r1 : Int32) (e_r1 : r1 = if ¬ (asA le f).2.1 = 0 then -4 else nI (asA le f).1) (hq : le ≤ 60) : fc l D tys yX7_fault wsX7_fault (eR 4 82) [.ref (b 0), .int 1] ([((b 0), .inr (7, [.ref (b 1), .ref (b 2), .ref (b 3), .int (nI kn), .ref (b 4), .int ik, .ref (b 5), .int (nI le), .int be, .int (nI sp), .int fo, .int op, .int ha, .int st, .ref (b 6), .ref (b 7), .ref (b 8)])), ((b 5), .inl (cI, 60, .inl f))]) (some (.int r1)) ([((b 0), .inr (7, [.ref (b 1), .ref (b 2), .ref (b 3), .int (nI kn), .ref (b 4), .int ik, .ref (b 5), .int (nI le), .int be, .int (nI sp1), .int fo1, .int op1, .int ha1, .int st, .ref (b 6), .ref (b 7), .ref (b 8)])), ((b 5), .inl (cI, 60, .inl f))]) := by
  refine fc_int cX7_fault 2 (by decide +kernel) rfl (rfl) (Nat.le_of_ble_eq_true rfl) ?_
  intro p9 e9 s9 m9 a9 b9 t9 c9 H0 A Q ls S hK hN hA hP hD hS hl hQ
  have S : CallFix p9 m9 c9 cX7_fault 2 s9 a9 wsX7_fault RX7 := S
  obtain ⟨hx, hb, hml, hown, hts⟩ := id S
  have iX7 : ∀ w ∈ wsX70, w ∈ wsX7_fault := fun w h => List.mem_cons_of_mem _ (List.mem_append_right _ (h))
  have hP : va_P D vwCl ([((b 0), .inr (7, [.ref (b 1), .ref (b 2), .ref (b 3), .int (nI kn), .ref (b 4), .int ik, .ref (b 5), .int (nI le), .int be, .int (nI sp), .int fo, .int op, .int ha, .int st, .ref (b 6), .ref (b 7), .ref (b 8)])), ((b 5), .inl (cI, 60, .inl f))]) H0 := hP
  have hD : va_D A ([((b 0), .inr (7, [.ref (b 1), .ref (b 2), .ref (b 3), .int (nI kn), .ref (b 4), .int ik, .ref (b 5), .int (nI le), .int be, .int (nI sp), .int fo, .int op, .int ha, .int st, .ref (b 6), .ref (b 7), .ref (b 8)])), ((b 5), .inl (cI, 60, .inl f))]) := hD
  have hl : lv_has ls 2 [(0, .ref (b 0)), (1, .int 1)] := hl
  refine lv_iload_n hx hb dX7_fault_0 rfl (lv_at hl 1 rfl) ?_
  refine lv_iconst (v := 0) hx hb dX7_fault_1 (by decide) ?_
  refine lv_iconst (v := 1) hx hb dX7_fault_2 (by decide) ?_
  refine ej_S (As := [.int 1, .int 0, .int 1]) (rest := []) (w' := [((b 0), .inr (7, [.ref (b 1), .ref (b 2), .ref (b 3), .int (nI kn), .ref (b 4), .int ik, .ref (b 5), .int (nI le), .int be, .int (nI sp), .int fo, .int op, .int ha, .int st, .ref (b 6), .ref (b 7), .ref (b 8)])), ((b 5), .inl (cI, 60, .inl f))]) S hK hN hA hP hD hS (c_X7_in l D tys cI ht0 1 0 1) (va_cwS 3 hts gX7_fault_X7_in rfl rfl rfl hds_X7_in ⟨Nat.le_of_ble_eq_true rfl, Nat.le_of_ble_eq_true rfl⟩) [] [] [] rfl (by decide +kernel) ⟨rfl, rfl⟩ rfl (by decide +kernel) rfl rfl hl.1 (Nat.le_of_ble_eq_true rfl) dX7_fault_3 ⟨Nat.zero_le _, Nat.zero_le _⟩ (fun H locs hP hD hS => ?_)
  show W p9 l e9 (eR 4 82) s9 m9 a9 b9 t9 c9 H locs 0 0 Q (F0 m9 6 ls (.int (if ¬ 1 < 0 ∧ ¬ 1 < 1 then 1 else 0) :: []))
  refine lv_if_ne (tgt := 11) hx hb dX7_fault_6 (by decide) (fun c_1 => ?_) (fun c_1 => ?_)
  · have b_1 : ¬ 1 < 0 ∧ ¬ 1 < 1 := ej_b1 c_1
    refine lv_iload_n hx hb dX7_fault_11 rfl (lv_at hl 1 rfl) ?_
    refine lv_if_ne (tgt := 25) hx hb dX7_fault_12 (by decide) (fun _ => ?_) (fun h9 => absurd h9 (show ¬ (1 : Int32) = 0 from by decide))
    refine lv_aload_n hx hb dX7_fault_25 rfl (lv_at hl 0 rfl) ?_
    obtain ⟨op1_2, e_op1_2⟩ : ∃ z9 : Int32, z9 = (asA le f).2.2.1 := ⟨_, rfl⟩
    obtain ⟨fo1_3, e_fo1_3⟩ : ∃ z9 : Int32, z9 = (asA le f).2.1 := ⟨_, rfl⟩
    obtain ⟨ha1_4, e_ha1_4⟩ : ∃ z9 : Int32, z9 = (asA le f).2.2.2 := ⟨_, rfl⟩
    obtain ⟨sp1_5, e_sp1_5⟩ : ∃ z9 : Nat, z9 = (asA le f).1 := ⟨_, rfl⟩
    refine ej_V (As := []) (rest := []) (w' := [((b 0), .inr (7, [.ref (b 1), .ref (b 2), .ref (b 3), .int (nI kn), .ref (b 4), .int ik, .ref (b 5), .int (nI le), .int be, .int (nI sp1_5), .int fo1_3, .int op1_2, .int ha1_4, .int st, .ref (b 6), .ref (b 7), .ref (b 8)])), ((b 5), .inl (cI, 60, .inl f))]) S hK hN hA hP hD hS (c_X7_areShots l D tys cI ht0 b kn le sp ik be fo op ha st f op1_2 e_op1_2 fo1_3 e_fo1_3 ha1_4 e_ha1_4 sp1_5 e_sp1_5 (by omega)) (cwV 0 hts gX7_fault_X7_areShots rfl rfl rfl hdv_X7_areShots ⟨Nat.le_of_ble_eq_true rfl, Nat.le_of_ble_eq_true rfl⟩) [0, 1] [some 0, some 1] [(b 0), (b 5)] rfl (by decide +kernel) ⟨rfl, rfl⟩ rfl (by decide +kernel) 0 7 rfl rfl rfl rfl hl.1 (Nat.le_of_ble_eq_true rfl) dX7_fault_26 ⟨Nat.zero_le _, Nat.zero_le _⟩ (fun H locs hP hD hS => ?_)
    show W p9 l e9 (eR 4 82) s9 m9 a9 b9 t9 c9 H locs 0 0 Q (F0 m9 29 ls (.int (if ¬ (asA le f).2.1 = 0 then 1 else 0) :: []))
    have q_sp1_5 : ((asA le f).1) = sp1_5 := Eq.symm (e_sp1_5)
    subst q_sp1_5
    have q_fo1_3 : ((asA le f).2.1) = fo1_3 := Eq.symm (e_fo1_3)
    subst q_fo1_3
    have q_op1_2 : ((asA le f).2.2.1) = op1_2 := Eq.symm (e_op1_2)
    subst q_op1_2
    have q_ha1_4 : ((asA le f).2.2.2) = ha1_4 := Eq.symm (e_ha1_4)
    subst q_ha1_4
    refine lv_if_eq (tgt := 37) hx hb dX7_fault_29 (by decide) (fun c_6 => ?_) (fun c_6 => ?_)
    · have b_6 : (asA le f).2.1 = 0 := Decidable.not_not.mp (ej_b0 c_6)
      refine lv_aload_n hx hb dX7_fault_37 rfl (lv_at hl 0 rfl) ?_
      refine va_get (D := D) (ci := 7) (v := .int (nI ((asA le f).1))) (C := RX7) (T := TX7) (N := 17) hx hb hts iX7 hown hK hP 0 rfl rfl 9 (Nat.le_of_ble_eq_true rfl) (hts (.fieldLink RX7 111 "BentPinsModel" "spot" "I") (List.mem_of_getElem? (i := 1) rfl)) (fun _ h9 => h9) rfl dX7_fault_38 ?_
      have f_op1 : ((asA le f).2.2.1) = op1 := by rw [e_op1]; skip
      have f_fo1 : ((asA le f).2.1) = fo1 := by rw [e_fo1]; skip
      have f_ha1 : ((asA le f).2.2.2) = ha1 := by rw [e_ha1]; skip
      have f_sp1 : ((asA le f).1) = sp1 := by rw [e_sp1]; skip
      have f_r1 : (nI ((asA le f).1)) = r1 := by rw [e_r1]; first | exact (if_pos b_6).symm | exact (if_neg (fun q9 => q9 b_6)).symm
      subst f_op1
      subst f_fo1
      subst f_ha1
      subst f_sp1
      subst f_r1
      exact hQ _ _ _ _ (nI ((asA le f).1)) ([((b 0), .inr (7, [.ref (b 1), .ref (b 2), .ref (b 3), .int (nI kn), .ref (b 4), .int ik, .ref (b 5), .int (nI le), .int be, .int (nI ((asA le f).1)), .int ((asA le f).2.1), .int ((asA le f).2.2.1), .int ((asA le f).2.2.2), .int st, .ref (b 6), .ref (b 7), .ref (b 8)])), ((b 5), .inl (cI, 60, .inl f))]) dX7_fault_41 rfl rfl hP hS
    · have b_6 : ¬ (asA le f).2.1 = 0 := ej_b1 c_6
      refine lv_bipush (v := (-4)) hx hb dX7_fault_32 (by decide) ?_
      refine lv_goto (tgt := 41) hx hb dX7_fault_34 (by decide) ?_
      have f_op1 : ((asA le f).2.2.1) = op1 := by rw [e_op1]; skip
      have f_fo1 : ((asA le f).2.1) = fo1 := by rw [e_fo1]; skip
      have f_ha1 : ((asA le f).2.2.2) = ha1 := by rw [e_ha1]; skip
      have f_sp1 : ((asA le f).1) = sp1 := by rw [e_sp1]; skip
      have f_r1 : (-4) = r1 := by rw [e_r1]; first | exact (if_pos b_6).symm | exact (if_neg (fun q9 => q9 b_6)).symm
      subst f_op1
      subst f_fo1
      subst f_ha1
      subst f_sp1
      subst f_r1
      exact hQ _ _ _ _ (-4) ([((b 0), .inr (7, [.ref (b 1), .ref (b 2), .ref (b 3), .int (nI kn), .ref (b 4), .int ik, .ref (b 5), .int (nI le), .int be, .int (nI ((asA le f).1)), .int ((asA le f).2.1), .int ((asA le f).2.2.1), .int ((asA le f).2.2.2), .int st, .ref (b 6), .ref (b 7), .ref (b 8)])), ((b 5), .inl (cI, 60, .inl f))]) dX7_fault_41 rfl rfl hP hS
  · have b_1 : ¬ (¬ 1 < 0 ∧ ¬ 1 < 1) := ej_b0 c_1
    exact absurd (by decide) b_1
