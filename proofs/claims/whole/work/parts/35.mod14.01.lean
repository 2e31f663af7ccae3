set_option maxHeartbeats 4000000 in
set_option maxRecDepth 100000 in
theorem c_X7_areShots (l : Launch) (D : va_G) (tys : eT) (cI : ClassId) (ht0 : tys[0]? = some (cI, .int)) (b : Nat → Nat) (kn le sp : Nat) (ik be fo op ha st : Int32) (f : Nat → Int32) (op1 : Int32) (e_op1 : op1 = (asA le f).2.2.1) (fo1 : Int32) (e_fo1 : fo1 = (asA le f).2.1) (ha1 : Int32) (e_ha1 : ha1 = (asA le f).2.2.2) (sp1 : Nat) (e_sp1 : sp1 = (asA le f).1) (hq : le ≤ 60) : fc l D tys yX7_areShots wsX7_areShots (eR 3 62) [.ref (b 0)] ([((b 0), .inr (7, [.ref (b 1), .ref (b 2), .ref (b 3), .int (nI kn), .ref (b 4), .int ik, .ref (b 5), .int (nI le), .int be, .int (nI sp), .int fo, .int op, .int ha, .int st, .ref (b 6), .ref (b 7), .ref (b 8)])), ((b 5), .inl (cI, 60, .inl f))]) (some (.int (if ¬ (asA le f).2.1 = 0 then 1 else 0))) ([((b 0), .inr (7, [.ref (b 1), .ref (b 2), .ref (b 3), .int (nI kn), .ref (b 4), .int ik, .ref (b 5), .int (nI le), .int be, .int (nI sp1), .int fo1, .int op1, .int ha1, .int st, .ref (b 6), .ref (b 7), .ref (b 8)])), ((b 5), .inl (cI, 60, .inl f))]) := by
  refine fc_int cX7_areShots 1 (by decide +kernel) rfl (ej_narB _) (Nat.le_of_ble_eq_true rfl) ?_
  intro p9 e9 s9 m9 a9 b9 t9 c9 H0 A Q ls S hK hN hA hP hD hS hl hQ
  have S : CallFix p9 m9 c9 cX7_areShots 1 s9 a9 wsX7_areShots RX7 := S
  obtain ⟨hx, hb, hml, hown, hts⟩ := id S
  have iX7 : ∀ w ∈ wsX70, w ∈ wsX7_areShots := fun w h => List.mem_cons_of_mem _ (List.mem_append_right _ (h))
  have hP : va_P D vwCl ([((b 0), .inr (7, [.ref (b 1), .ref (b 2), .ref (b 3), .int (nI kn), .ref (b 4), .int ik, .ref (b 5), .int (nI le), .int be, .int (nI sp), .int fo, .int op, .int ha, .int st, .ref (b 6), .ref (b 7), .ref (b 8)])), ((b 5), .inl (cI, 60, .inl f))]) H0 := hP
  have hD : va_D A ([((b 0), .inr (7, [.ref (b 1), .ref (b 2), .ref (b 3), .int (nI kn), .ref (b 4), .int ik, .ref (b 5), .int (nI le), .int be, .int (nI sp), .int fo, .int op, .int ha, .int st, .ref (b 6), .ref (b 7), .ref (b 8)])), ((b 5), .inl (cI, 60, .inl f))]) := hD
  have hl : lv_has ls 1 [(0, .ref (b 0))] := hl
  refine lv_aload_n hx hb dX7_areShots_0 rfl (lv_at hl 0 rfl) ?_
  refine lv_iconst (v := 0) hx hb dX7_areShots_1 (by decide) ?_
  refine va_put (D := D) (ci := 7) (v := .int 0) (ty := .int) (C := RX7) (T := TX7) (N := 17) hx hb hts iX7 tyX7 tyX7_ok nmX7 hown hK hP hD hS 0 rfl rfl 9 (Nat.le_of_ble_eq_true rfl) (hts (.fieldLink RX7 111 "BentPinsModel" "spot" "I") (List.mem_of_getElem? (i := 1) rfl)) (fun _ h9 => h9) rfl (by decide +kernel) rfl rfl (Nat.le_of_ble_eq_true rfl) dX7_areShots_2 (fun H locs hP hD hS => ?_)
  have hP : va_P D vwCl ([((b 0), .inr (7, [.ref (b 1), .ref (b 2), .ref (b 3), .int (nI kn), .ref (b 4), .int ik, .ref (b 5), .int (nI le), .int be, .int 0, .int fo, .int op, .int ha, .int st, .ref (b 6), .ref (b 7), .ref (b 8)])), ((b 5), .inl (cI, 60, .inl f))]) H := hP
  have hD : va_D A ([((b 0), .inr (7, [.ref (b 1), .ref (b 2), .ref (b 3), .int (nI kn), .ref (b 4), .int ik, .ref (b 5), .int (nI le), .int be, .int 0, .int fo, .int op, .int ha, .int st, .ref (b 6), .ref (b 7), .ref (b 8)])), ((b 5), .inl (cI, 60, .inl f))]) := hD
  refine lv_aload_n hx hb dX7_areShots_5 rfl (lv_at hl 0 rfl) ?_
  refine lv_iconst (v := 1) hx hb dX7_areShots_6 (by decide) ?_
  refine va_put (D := D) (ci := 7) (v := .int 1) (ty := .boolean) (C := RX7) (T := TX7) (N := 17) hx hb hts iX7 tyX7 tyX7_ok nmX7 hown hK hP hD hS 0 rfl rfl 10 (Nat.le_of_ble_eq_true rfl) (hts (.fieldLink RX7 114 "BentPinsModel" "isForm" "Z") (List.mem_of_getElem? (i := 2) rfl)) (fun _ h9 => h9) rfl (by decide +kernel) rfl rfl (Nat.le_of_ble_eq_true rfl) dX7_areShots_7 (fun H locs hP hD hS => ?_)
  have hP : va_P D vwCl ([((b 0), .inr (7, [.ref (b 1), .ref (b 2), .ref (b 3), .int (nI kn), .ref (b 4), .int ik, .ref (b 5), .int (nI le), .int be, .int 0, .int 1, .int op, .int ha, .int st, .ref (b 6), .ref (b 7), .ref (b 8)])), ((b 5), .inl (cI, 60, .inl f))]) H := hP
  have hD : va_D A ([((b 0), .inr (7, [.ref (b 1), .ref (b 2), .ref (b 3), .int (nI kn), .ref (b 4), .int ik, .ref (b 5), .int (nI le), .int be, .int 0, .int 1, .int op, .int ha, .int st, .ref (b 6), .ref (b 7), .ref (b 8)])), ((b 5), .inl (cI, 60, .inl f))]) := hD
  refine lv_aload_n hx hb dX7_areShots_10 rfl (lv_at hl 0 rfl) ?_
  obtain ⟨op1_1, e_op1_1⟩ : ∃ z9 : Int32, z9 = tsO le f 0 := ⟨_, rfl⟩
  obtain ⟨fo1_2, e_fo1_2⟩ : ∃ z9 : Int32, z9 = tsF le f 1 0 := ⟨_, rfl⟩
  obtain ⟨ha1_3, e_ha1_3⟩ : ∃ z9 : Int32, z9 = tsH le f 1 0 := ⟨_, rfl⟩
  obtain ⟨sp1_4, e_sp1_4⟩ : ∃ z9 : Nat, z9 = tsN le f 1 0 := ⟨_, rfl⟩
  refine ej_V (As := []) (rest := []) (w' := [((b 0), .inr (7, [.ref (b 1), .ref (b 2), .ref (b 3), .int (nI kn), .ref (b 4), .int ik, .ref (b 5), .int (nI le), .int be, .int (nI sp1_4), .int fo1_2, .int op1_1, .int ha1_3, .int st, .ref (b 6), .ref (b 7), .ref (b 8)])), ((b 5), .inl (cI, 60, .inl f))]) S hK hN hA hP hD hS (c_X7_takesShot l D tys cI ht0 b kn le 0 ik be 1 op ha st f op1_1 e_op1_1 fo1_2 e_fo1_2 ha1_3 e_ha1_3 sp1_4 e_sp1_4 (by omega) (by omega)) (cwV 0 hts gX7_areShots_X7_takesShot rfl rfl rfl hdv_X7_takesShot ⟨Nat.le_of_ble_eq_true rfl, Nat.le_of_ble_eq_true rfl⟩) [0, 1] [some 0, some 1] [(b 0), (b 5)] rfl (by decide +kernel) ⟨rfl, rfl⟩ rfl (by decide +kernel) 0 7 rfl rfl rfl rfl hl.1 (Nat.le_of_ble_eq_true rfl) dX7_areShots_11 ⟨Nat.zero_le _, Nat.zero_le _⟩ (fun H locs hP hD hS => ?_)
  show W p9 l e9 (eR 3 62) s9 m9 a9 b9 t9 c9 H locs 0 0 Q (F0 m9 14 ls [])
  have q_sp1_4 : (tsN le f 1 0) = sp1_4 := Eq.symm (e_sp1_4)
  subst q_sp1_4
  have q_fo1_2 : (tsF le f 1 0) = fo1_2 := Eq.symm (e_fo1_2)
  subst q_fo1_2
  have q_op1_1 : (tsO le f 0) = op1_1 := Eq.symm (e_op1_1)
  subst q_op1_1
  have q_ha1_3 : (tsH le f 1 0) = ha1_3 := Eq.symm (e_ha1_3)
  subst q_ha1_3
  have lp14 : ∀ (n14 : Nat) (r : Nat) (x : Nat) (y : Int32) (o : Int32) (w : Int32), r < n14 → (x ≤ le) → (y = 0 ∨ y = 1) → (¬ y = 0 → le ≤ x + r) → (asG le f r x y o w = asA le f) → ∀ (H : Heap) (locs : List Loc) (ls : Array Slot), va_P D vwCl ([((b 0), .inr (7, [.ref (b 1), .ref (b 2), .ref (b 3), .int (nI kn), .ref (b 4), .int ik, .ref (b 5), .int (nI le), .int be, .int (nI x), .int y, .int o, .int w, .int st, .ref (b 6), .ref (b 7), .ref (b 8)])), ((b 5), .inl (cI, 60, .inl f))]) H → va_D A ([((b 0), .inr (7, [.ref (b 1), .ref (b 2), .ref (b 3), .int (nI kn), .ref (b 4), .int ik, .ref (b 5), .int (nI le), .int be, .int (nI x), .int y, .int o, .int w, .int st, .ref (b 6), .ref (b 7), .ref (b 8)])), ((b 5), .inl (cI, 60, .inl f))]) → va_S A H0 H locs → lv_has ls 1 [(0, .ref (b 0))] → W p9 l e9 (eR 3 62) s9 m9 a9 b9 t9 c9 H locs 0 0 Q (F0 m9 14 ls []) := by
    intro n14
    induction n14 with
    | zero => intro r x y o w hm9; exact absurd hm9 (Nat.not_lt_zero _)
    | succ n14 ih14 =>
      intro r x y o w hm14 hxx hy hr hv H locs ls hP hD hS hl
      refine lv_aload_n hx hb dX7_areShots_14 rfl (lv_at hl 0 rfl) ?_
      refine va_get (D := D) (ci := 7) (v := .int y) (C := RX7) (T := TX7) (N := 17) hx hb hts iX7 hown hK hP 0 rfl rfl 10 (Nat.le_of_ble_eq_true rfl) (hts (.fieldLink RX7 114 "BentPinsModel" "isForm" "Z") (List.mem_of_getElem? (i := 2) rfl)) (fun _ h9 => h9) rfl dX7_areShots_15 ?_
      refine lv_if_eq (tgt := 64) hx hb dX7_areShots_18 (by decide) (fun c_5 => ?_) (fun c_5 => ?_)
      · refine lv_aload_n hx hb dX7_areShots_64 rfl (lv_at hl 0 rfl) ?_
        refine va_get (D := D) (ci := 7) (v := .int y) (C := RX7) (T := TX7) (N := 17) hx hb hts iX7 hown hK hP 0 rfl rfl 10 (Nat.le_of_ble_eq_true rfl) (hts (.fieldLink RX7 114 "BentPinsModel" "isForm" "Z") (List.mem_of_getElem? (i := 2) rfl)) (fun _ h9 => h9) rfl dX7_areShots_65 ?_
        have f_op1 : o = op1 := by rw [e_op1]; rw [← hv, c_5, asG_y0]
        have f_fo1 : y = fo1 := by rw [e_fo1]; rw [← hv, c_5, asG_y0]
        have f_ha1 : w = ha1 := by rw [e_ha1]; rw [← hv, c_5, asG_y0]
        have f_sp1 : x = sp1 := by rw [e_sp1]; rw [← hv, c_5, asG_y0]
        subst f_op1
        subst f_fo1
        subst f_ha1
        subst f_sp1
        exact hQ _ _ _ _ y ([((b 0), .inr (7, [.ref (b 1), .ref (b 2), .ref (b 3), .int (nI kn), .ref (b 4), .int ik, .ref (b 5), .int (nI le), .int be, .int (nI x), .int y, .int o, .int w, .int st, .ref (b 6), .ref (b 7), .ref (b 8)])), ((b 5), .inl (cI, 60, .inl f))]) dX7_areShots_68 (by rw [← hv, c_5, asG_y0]; rfl) rfl hP hS
      · refine lv_aload_n hx hb dX7_areShots_21 rfl (lv_at hl 0 rfl) ?_
        refine va_get (D := D) (ci := 7) (v := .int (nI x)) (C := RX7) (T := TX7) (N := 17) hx hb hts iX7 hown hK hP 0 rfl rfl 9 (Nat.le_of_ble_eq_true rfl) (hts (.fieldLink RX7 111 "BentPinsModel" "spot" "I") (List.mem_of_getElem? (i := 1) rfl)) (fun _ h9 => h9) rfl dX7_areShots_22 ?_
        refine lv_aload_n hx hb dX7_areShots_25 rfl (lv_at hl 0 rfl) ?_
        refine va_get (D := D) (ci := 7) (v := .int (nI le)) (C := RX7) (T := TX7) (N := 17) hx hb hts iX7 hown hK hP 0 rfl rfl 7 (Nat.le_of_ble_eq_true rfl) (hts (.fieldLink RX7 108 "BentPinsModel" "length" "I") (List.mem_of_getElem? (i := 3) rfl)) (fun _ h9 => h9) rfl dX7_areShots_26 ?_
        refine lv_icmp_ge (tgt := 64) hx hb dX7_areShots_29 (by decide) (fun c_6 => ?_) (fun c_6 => ?_)
        · have n_6 : le ≤ x := ej_tle (a := le) (b := x) (by omega) (by omega) c_6
          refine lv_aload_n hx hb dX7_areShots_64 rfl (lv_at hl 0 rfl) ?_
          refine va_get (D := D) (ci := 7) (v := .int y) (C := RX7) (T := TX7) (N := 17) hx hb hts iX7 hown hK hP 0 rfl rfl 10 (Nat.le_of_ble_eq_true rfl) (hts (.fieldLink RX7 114 "BentPinsModel" "isForm" "Z") (List.mem_of_getElem? (i := 2) rfl)) (fun _ h9 => h9) rfl dX7_areShots_65 ?_
          have f_op1 : o = op1 := by rw [e_op1]; rw [← hv, asG_done n_6]
          have f_fo1 : y = fo1 := by rw [e_fo1]; rw [← hv, asG_done n_6]
          have f_ha1 : w = ha1 := by rw [e_ha1]; rw [← hv, asG_done n_6]
          have f_sp1 : x = sp1 := by rw [e_sp1]; rw [← hv, asG_done n_6]
          subst f_op1
          subst f_fo1
          subst f_ha1
          subst f_sp1
          exact hQ _ _ _ _ y ([((b 0), .inr (7, [.ref (b 1), .ref (b 2), .ref (b 3), .int (nI kn), .ref (b 4), .int ik, .ref (b 5), .int (nI le), .int be, .int (nI x), .int y, .int o, .int w, .int st, .ref (b 6), .ref (b 7), .ref (b 8)])), ((b 5), .inl (cI, 60, .inl f))]) dX7_areShots_68 (by rw [← hv, asG_done n_6]; rcases hy with q9 | q9 <;> rw [q9] <;> rfl) rfl hP hS
        · have n_6 : x < le := ej_tnle (a := le) (b := x) (by omega) (by omega) c_6
          obtain ⟨r0, rfl⟩ : ∃ q9 : Nat, r = q9 + 1 := ⟨r - 1, by have := hr c_5; omega⟩
          refine lv_aload_n hx hb dX7_areShots_32 rfl (lv_at hl 0 rfl) ?_
          refine lv_aload_n hx hb dX7_areShots_33 rfl (lv_at hl 0 rfl) ?_
          refine ej_V (As := []) (rest := [.ref (b 0)]) (w' := [((b 0), .inr (7, [.ref (b 1), .ref (b 2), .ref (b 3), .int (nI kn), .ref (b 4), .int ik, .ref (b 5), .int (nI le), .int be, .int (nI x), .int y, .int o, .int w, .int st, .ref (b 6), .ref (b 7), .ref (b 8)])), ((b 5), .inl (cI, 60, .inl f))]) S hK hN hA hP hD hS (c_X7_here l D tys cI ht0 b kn le x ik be y o w st f (by omega) (by omega)) (cwV 0 hts gX7_areShots_X7_here rfl rfl rfl hdv_X7_here ⟨Nat.le_of_ble_eq_true rfl, Nat.le_of_ble_eq_true rfl⟩) [0, 1] [some 0, some 1] [(b 0), (b 5)] rfl (by decide +kernel) ⟨rfl, rfl⟩ rfl (by decide +kernel) 0 7 rfl rfl rfl rfl hl.1 (Nat.le_of_ble_eq_true rfl) dX7_areShots_34 ⟨Nat.zero_le _, Nat.zero_le _⟩ (fun H locs hP hD hS => ?_)
          show W p9 l e9 (eR 3 62) s9 m9 a9 b9 t9 c9 H locs 0 0 Q (F0 m9 37 ls (.int (codeP le f x) :: [.ref (b 0)]))
          refine lv_bipush (v := 44) hx hb dX7_areShots_37 (by decide) ?_
          refine lv_icmp_ne (tgt := 46) hx hb dX7_areShots_39 (by decide) (fun c_7 => ?_) (fun c_7 => ?_)
          · refine lv_iconst (v := 0) hx hb dX7_areShots_46 (by decide) ?_
            obtain ⟨fo1_8, e_fo1_8⟩ : ∃ z9 : Int32, z9 = if ¬ y = 0 ∧ ¬ 0 = (0 : Int32) then 1 else 0 := ⟨_, rfl⟩
            obtain ⟨sp1_9, e_sp1_9⟩ : ∃ z9 : Nat, z9 = if ¬ y = 0 ∧ ¬ 0 = (0 : Int32) then x + 1 else x := ⟨_, rfl⟩
            refine ej_V (As := [.int 0]) (rest := []) (w' := [((b 0), .inr (7, [.ref (b 1), .ref (b 2), .ref (b 3), .int (nI kn), .ref (b 4), .int ik, .ref (b 5), .int (nI le), .int be, .int (nI sp1_9), .int fo1_8, .int o, .int w, .int st, .ref (b 6), .ref (b 7), .ref (b 8)])), ((b 5), .inl (cI, 60, .inl f))]) S hK hN hA hP hD hS (c_X7_takes l D tys cI ht0 b kn le x ik be y o w st 0 fo1_8 e_fo1_8 sp1_9 e_sp1_9 (by omega)) (cwV 1 hts gX7_areShots_X7_takes rfl rfl rfl hdv_X7_takes ⟨Nat.le_of_ble_eq_true rfl, Nat.le_of_ble_eq_true rfl⟩) [0] [some 0] [(b 0)] rfl (by decide +kernel) ⟨rfl, rfl⟩ rfl (by decide +kernel) 0 7 rfl rfl rfl rfl hl.1 (Nat.le_of_ble_eq_true rfl) dX7_areShots_47 ⟨Nat.zero_le _, Nat.zero_le _⟩ (fun H locs hP hD hS => ?_)
            show W p9 l e9 (eR 3 62) s9 m9 a9 b9 t9 c9 H locs 0 0 Q (F0 m9 50 ls [])
            have q_fo1_8 : 0 = fo1_8 := Eq.symm (by rw [e_fo1_8]; exact if_neg (fun q9 => q9.2 rfl))
            subst q_fo1_8
            have q_sp1_9 : x = sp1_9 := Eq.symm (by rw [e_sp1_9]; exact if_neg (fun q9 => q9.2 rfl))
            subst q_sp1_9
            refine lv_aload_n hx hb dX7_areShots_50 rfl (lv_at hl 0 rfl) ?_
            refine va_get (D := D) (ci := 7) (v := .int 0) (C := RX7) (T := TX7) (N := 17) hx hb hts iX7 hown hK hP 0 rfl rfl 10 (Nat.le_of_ble_eq_true rfl) (hts (.fieldLink RX7 114 "BentPinsModel" "isForm" "Z") (List.mem_of_getElem? (i := 2) rfl)) (fun _ h9 => h9) rfl dX7_areShots_51 ?_
            refine lv_if_eq (tgt := 14) hx hb dX7_areShots_54 (by decide) (fun _ => ?_) (fun h9 => absurd (show (0 : Int32) = 0 from by decide) h9)
            exact ih14  r0 x 0 o w (by omega) hxx (Or.inl rfl) (fun q9 => absurd rfl q9) (by rw [← hv, asG, if_pos ⟨c_5, n_6⟩, if_neg c_7]; exact asG_y0 le f r0 x o w) _ _ _ hP hD hS (lv_sub hl [0] rfl)
          · refine lv_iconst (v := 1) hx hb dX7_areShots_42 (by decide) ?_
            refine lv_goto (tgt := 47) hx hb dX7_areShots_43 (by decide) ?_
            obtain ⟨fo1_10, e_fo1_10⟩ : ∃ z9 : Int32, z9 = if ¬ y = 0 ∧ ¬ 1 = (0 : Int32) then 1 else 0 := ⟨_, rfl⟩
            obtain ⟨sp1_11, e_sp1_11⟩ : ∃ z9 : Nat, z9 = if ¬ y = 0 ∧ ¬ 1 = (0 : Int32) then x + 1 else x := ⟨_, rfl⟩
            refine ej_V (As := [.int 1]) (rest := []) (w' := [((b 0), .inr (7, [.ref (b 1), .ref (b 2), .ref (b 3), .int (nI kn), .ref (b 4), .int ik, .ref (b 5), .int (nI le), .int be, .int (nI sp1_11), .int fo1_10, .int o, .int w, .int st, .ref (b 6), .ref (b 7), .ref (b 8)])), ((b 5), .inl (cI, 60, .inl f))]) S hK hN hA hP hD hS (c_X7_takes l D tys cI ht0 b kn le x ik be y o w st 1 fo1_10 e_fo1_10 sp1_11 e_sp1_11 (by omega)) (cwV 1 hts gX7_areShots_X7_takes rfl rfl rfl hdv_X7_takes ⟨Nat.le_of_ble_eq_true rfl, Nat.le_of_ble_eq_true rfl⟩) [0] [some 0] [(b 0)] rfl (by decide +kernel) ⟨rfl, rfl⟩ rfl (by decide +kernel) 0 7 rfl rfl rfl rfl hl.1 (Nat.le_of_ble_eq_true rfl) dX7_areShots_47 ⟨Nat.zero_le _, Nat.zero_le _⟩ (fun H locs hP hD hS => ?_)
            show W p9 l e9 (eR 3 62) s9 m9 a9 b9 t9 c9 H locs 0 0 Q (F0 m9 50 ls [])
            have q_fo1_10 : 1 = fo1_10 := Eq.symm (by rw [e_fo1_10]; exact if_pos ⟨c_5, by decide⟩)
            subst q_fo1_10
            have q_sp1_11 : (x + 1) = sp1_11 := Eq.symm (by rw [e_sp1_11]; exact if_pos ⟨c_5, by decide⟩)
            subst q_sp1_11
            refine lv_aload_n hx hb dX7_areShots_50 rfl (lv_at hl 0 rfl) ?_
            refine va_get (D := D) (ci := 7) (v := .int 1) (C := RX7) (T := TX7) (N := 17) hx hb hts iX7 hown hK hP 0 rfl rfl 10 (Nat.le_of_ble_eq_true rfl) (hts (.fieldLink RX7 114 "BentPinsModel" "isForm" "Z") (List.mem_of_getElem? (i := 2) rfl)) (fun _ h9 => h9) rfl dX7_areShots_51 ?_
            refine lv_if_eq (tgt := 14) hx hb dX7_areShots_54 (by decide) (fun h9 => absurd h9 (show ¬ (1 : Int32) = 0 from by decide)) (fun _ => ?_)
            refine lv_aload_n hx hb dX7_areShots_57 rfl (lv_at hl 0 rfl) ?_
            obtain ⟨op1_12, e_op1_12⟩ : ∃ z9 : Int32, z9 = tsO le f (x + 1) := ⟨_, rfl⟩
            obtain ⟨fo1_13, e_fo1_13⟩ : ∃ z9 : Int32, z9 = tsF le f 1 (x + 1) := ⟨_, rfl⟩
            obtain ⟨ha1_14, e_ha1_14⟩ : ∃ z9 : Int32, z9 = tsH le f 1 (x + 1) := ⟨_, rfl⟩
            obtain ⟨sp1_15, e_sp1_15⟩ : ∃ z9 : Nat, z9 = tsN le f 1 (x + 1) := ⟨_, rfl⟩
            refine ej_V (As := []) (rest := []) (w' := [((b 0), .inr (7, [.ref (b 1), .ref (b 2), .ref (b 3), .int (nI kn), .ref (b 4), .int ik, .ref (b 5), .int (nI le), .int be, .int (nI sp1_15), .int fo1_13, .int op1_12, .int ha1_14, .int st, .ref (b 6), .ref (b 7), .ref (b 8)])), ((b 5), .inl (cI, 60, .inl f))]) S hK hN hA hP hD hS (c_X7_takesShot l D tys cI ht0 b kn le (x + 1) ik be 1 o w st f op1_12 e_op1_12 fo1_13 e_fo1_13 ha1_14 e_ha1_14 sp1_15 e_sp1_15 (by omega) (by omega)) (cwV 0 hts gX7_areShots_X7_takesShot rfl rfl rfl hdv_X7_takesShot ⟨Nat.le_of_ble_eq_true rfl, Nat.le_of_ble_eq_true rfl⟩) [0, 1] [some 0, some 1] [(b 0), (b 5)] rfl (by decide +kernel) ⟨rfl, rfl⟩ rfl (by decide +kernel) 0 7 rfl rfl rfl rfl hl.1 (Nat.le_of_ble_eq_true rfl) dX7_areShots_58 ⟨Nat.zero_le _, Nat.zero_le _⟩ (fun H locs hP hD hS => ?_)
            show W p9 l e9 (eR 3 62) s9 m9 a9 b9 t9 c9 H locs 0 0 Q (F0 m9 61 ls [])
            have q_sp1_15 : (tsN le f 1 (x + 1)) = sp1_15 := Eq.symm (e_sp1_15)
            subst q_sp1_15
            have q_fo1_13 : (tsF le f 1 (x + 1)) = fo1_13 := Eq.symm (e_fo1_13)
            subst q_fo1_13
            have q_op1_12 : (tsO le f (x + 1)) = op1_12 := Eq.symm (e_op1_12)
            subst q_op1_12
            have q_ha1_14 : (tsH le f 1 (x + 1)) = ha1_14 := Eq.symm (e_ha1_14)
            subst q_ha1_14
            refine lv_goto (tgt := 14) hx hb dX7_areShots_61 (by decide) ?_
            exact ih14  r0 (tsN le f 1 (x + 1)) (tsF le f 1 (x + 1)) (tsO le f (x + 1)) (tsH le f 1 (x + 1)) (by omega) (tsN_le (by omega)) (tsF_01 (Or.inr rfl)) (fun _ => by have := tsN_ge le f 1 (x + 1); have := hr c_5; omega) (by rw [← hv, asG, if_pos ⟨c_5, n_6⟩, if_pos c_7]) _ _ _ hP hD hS (lv_sub hl [0] rfl)
  exact lp14 (le + 1) le (tsN le f 1 0) (tsF le f 1 0) (tsO le f 0) (tsH le f 1 0) (by omega) (tsN_le (Nat.zero_le _)) (tsF_01 (Or.inr rfl)) (fun _ => Nat.le_add_left _ _) rfl _ _ _ hP hD hS (lv_sub hl [0] rfl)
