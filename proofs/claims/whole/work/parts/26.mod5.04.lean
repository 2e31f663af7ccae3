set_option maxHeartbeats 4000000 in
set_option maxRecDepth 100000 in
theorem c_X7_isBoard (l : Launch) (D : va_G) (tys : eT) (cI : ClassId) (ht0 : tys[0]? = some (cI, .int)) (b : Nat → Nat) (kn le sp : Nat) (ik be fo op ha st : Int32) (f : Nat → Int32) (sp1 : Nat) (e_sp1 : sp1 = bI le f 35 0) (hq : le ≤ 60) : fc l D tys yX7_isBoard wsX7_isBoard (eR 1 20) [.ref (b 0)] ([((b 0), .inr (7, [.ref (b 1), .ref (b 2), .ref (b 3), .int (nI kn), .ref (b 4), .int ik, .ref (b 5), .int (nI le), .int be, .int (nI sp), .int fo, .int op, .int ha, .int st, .ref (b 6), .ref (b 7), .ref (b 8)])), ((b 5), .inl (cI, 60, .inl f))]) (some (.int (if sp1 = 35 ∧ le = 35 then 1 else 0))) ([((b 0), .inr (7, [.ref (b 1), .ref (b 2), .ref (b 3), .int (nI kn), .ref (b 4), .int ik, .ref (b 5), .int (nI le), .int be, .int (nI sp1), .int fo, .int op, .int ha, .int st, .ref (b 6), .ref (b 7), .ref (b 8)])), ((b 5), .inl (cI, 60, .inl f))]) := by
  refine fc_int cX7_isBoard 1 (by decide +kernel) rfl (ej_narB _) (Nat.le_of_ble_eq_true rfl) ?_
  intro p9 e9 s9 m9 a9 b9 t9 c9 H0 A Q ls S hK hN hA hP hD hS hl hQ
  have S : CallFix p9 m9 c9 cX7_isBoard 1 s9 a9 wsX7_isBoard RX7 := S
  obtain ⟨hx, hb, hml, hown, hts⟩ := id S
  have iX7 : ∀ w ∈ wsX70, w ∈ wsX7_isBoard := fun w h => List.mem_cons_of_mem _ (List.mem_append_right _ (h))
  have hP : va_P D vwCl ([((b 0), .inr (7, [.ref (b 1), .ref (b 2), .ref (b 3), .int (nI kn), .ref (b 4), .int ik, .ref (b 5), .int (nI le), .int be, .int (nI sp), .int fo, .int op, .int ha, .int st, .ref (b 6), .ref (b 7), .ref (b 8)])), ((b 5), .inl (cI, 60, .inl f))]) H0 := hP
  have hD : va_D A ([((b 0), .inr (7, [.ref (b 1), .ref (b 2), .ref (b 3), .int (nI kn), .ref (b 4), .int ik, .ref (b 5), .int (nI le), .int be, .int (nI sp), .int fo, .int op, .int ha, .int st, .ref (b 6), .ref (b 7), .ref (b 8)])), ((b 5), .inl (cI, 60, .inl f))]) := hD
  have hl : lv_has ls 1 [(0, .ref (b 0))] := hl
  refine lv_aload_n hx hb dX7_isBoard_0 rfl (lv_at hl 0 rfl) ?_
  refine lv_iconst (v := 0) hx hb dX7_isBoard_1 (by decide) ?_
  refine va_put (D := D) (ci := 7) (v := .int 0) (ty := .int) (C := RX7) (T := TX7) (N := 17) hx hb hts iX7 tyX7 tyX7_ok nmX7 hown hK hP hD hS 0 rfl rfl 9 (Nat.le_of_ble_eq_true rfl) (hts (.fieldLink RX7 111 "BentPinsModel" "spot" "I") (List.mem_of_getElem? (i := 1) rfl)) (fun _ h9 => h9) rfl (by decide +kernel) rfl rfl (Nat.le_of_ble_eq_true rfl) dX7_isBoard_2 (fun H locs hP hD hS => ?_)
  have hP : va_P D vwCl ([((b 0), .inr (7, [.ref (b 1), .ref (b 2), .ref (b 3), .int (nI kn), .ref (b 4), .int ik, .ref (b 5), .int (nI le), .int be, .int 0, .int fo, .int op, .int ha, .int st, .ref (b 6), .ref (b 7), .ref (b 8)])), ((b 5), .inl (cI, 60, .inl f))]) H := hP
  have hD : va_D A ([((b 0), .inr (7, [.ref (b 1), .ref (b 2), .ref (b 3), .int (nI kn), .ref (b 4), .int ik, .ref (b 5), .int (nI le), .int be, .int 0, .int fo, .int op, .int ha, .int st, .ref (b 6), .ref (b 7), .ref (b 8)])), ((b 5), .inl (cI, 60, .inl f))]) := hD
  have lp5 : ∀ (n5 : Nat) (i : Nat), 35 - i < n5 → (i ≤ 35) → (bI le f (35 - i) i = bI le f 35 0) → ∀ (H : Heap) (locs : List Loc) (ls : Array Slot), va_P D vwCl ([((b 0), .inr (7, [.ref (b 1), .ref (b 2), .ref (b 3), .int (nI kn), .ref (b 4), .int ik, .ref (b 5), .int (nI le), .int be, .int (nI i), .int fo, .int op, .int ha, .int st, .ref (b 6), .ref (b 7), .ref (b 8)])), ((b 5), .inl (cI, 60, .inl f))]) H → va_D A ([((b 0), .inr (7, [.ref (b 1), .ref (b 2), .ref (b 3), .int (nI kn), .ref (b 4), .int ik, .ref (b 5), .int (nI le), .int be, .int (nI i), .int fo, .int op, .int ha, .int st, .ref (b 6), .ref (b 7), .ref (b 8)])), ((b 5), .inl (cI, 60, .inl f))]) → va_S A H0 H locs → lv_has ls 1 [(0, .ref (b 0))] → W p9 l e9 (eR 1 20) s9 m9 a9 b9 t9 c9 H locs 0 0 Q (F0 m9 5 ls []) := by
    intro n5
    induction n5 with
    | zero => intro i hm9; exact absurd hm9 (Nat.not_lt_zero _)
    | succ n5 ih5 =>
      intro i hm5 hi hv H locs ls hP hD hS hl
      refine lv_aload_n hx hb dX7_isBoard_5 rfl (lv_at hl 0 rfl) ?_
      refine va_get (D := D) (ci := 7) (v := .int (nI i)) (C := RX7) (T := TX7) (N := 17) hx hb hts iX7 hown hK hP 0 rfl rfl 9 (Nat.le_of_ble_eq_true rfl) (hts (.fieldLink RX7 111 "BentPinsModel" "spot" "I") (List.mem_of_getElem? (i := 1) rfl)) (fun _ h9 => h9) rfl dX7_isBoard_6 ?_
      refine lv_bipush (v := 35) hx hb dX7_isBoard_9 (by decide) ?_
      refine lv_icmp_ge (tgt := 37) hx hb dX7_isBoard_11 (by decide) (fun c_1 => ?_) (fun c_1 => ?_)
      · have n_1 : 35 ≤ i := ej_tle (a := 35) (b := i) (by omega) (by omega) c_1
        refine lv_aload_n hx hb dX7_isBoard_37 rfl (lv_at hl 0 rfl) ?_
        refine va_get (D := D) (ci := 7) (v := .int (nI i)) (C := RX7) (T := TX7) (N := 17) hx hb hts iX7 hown hK hP 0 rfl rfl 9 (Nat.le_of_ble_eq_true rfl) (hts (.fieldLink RX7 111 "BentPinsModel" "spot" "I") (List.mem_of_getElem? (i := 1) rfl)) (fun _ h9 => h9) rfl dX7_isBoard_38 ?_
        refine lv_bipush (v := 35) hx hb dX7_isBoard_41 (by decide) ?_
        refine lv_icmp_ne (tgt := 59) hx hb dX7_isBoard_43 (by decide) (fun c_2 => ?_) (fun c_2 => ?_)
        · have n_2 : i ≠ 35 := ej_tne (a := i) (b := 35) (by omega) (by omega) c_2
          refine lv_iconst (v := 0) hx hb dX7_isBoard_59 (by decide) ?_
          have f_sp1 : i = sp1 := by rw [e_sp1]; rw [← hv]; rw [show 35 - i = 0 by omega, bI]
          subst f_sp1
          exact hQ _ _ _ _ 0 ([((b 0), .inr (7, [.ref (b 1), .ref (b 2), .ref (b 3), .int (nI kn), .ref (b 4), .int ik, .ref (b 5), .int (nI le), .int be, .int (nI i), .int fo, .int op, .int ha, .int st, .ref (b 6), .ref (b 7), .ref (b 8)])), ((b 5), .inl (cI, 60, .inl f))]) dX7_isBoard_60 (by first | (rw [if_pos ⟨by omega, by omega⟩]; done) | (rw [if_neg (fun q9 => by omega)]; done)) rfl hP hS
        · have n_2 : i = 35 := ej_teq (a := i) (b := 35) (by omega) (by omega) c_2
          refine lv_aload_n hx hb dX7_isBoard_46 rfl (lv_at hl 0 rfl) ?_
          refine va_get (D := D) (ci := 7) (v := .int (nI le)) (C := RX7) (T := TX7) (N := 17) hx hb hts iX7 hown hK hP 0 rfl rfl 7 (Nat.le_of_ble_eq_true rfl) (hts (.fieldLink RX7 108 "BentPinsModel" "length" "I") (List.mem_of_getElem? (i := 2) rfl)) (fun _ h9 => h9) rfl dX7_isBoard_47 ?_
          refine lv_bipush (v := 35) hx hb dX7_isBoard_50 (by decide) ?_
          refine lv_icmp_ne (tgt := 59) hx hb dX7_isBoard_52 (by decide) (fun c_3 => ?_) (fun c_3 => ?_)
          · have n_3 : le ≠ 35 := ej_tne (a := le) (b := 35) (by omega) (by omega) c_3
            refine lv_iconst (v := 0) hx hb dX7_isBoard_59 (by decide) ?_
            have f_sp1 : i = sp1 := by rw [e_sp1]; rw [← hv]; rw [show 35 - i = 0 by omega, bI]
            subst f_sp1
            exact hQ _ _ _ _ 0 ([((b 0), .inr (7, [.ref (b 1), .ref (b 2), .ref (b 3), .int (nI kn), .ref (b 4), .int ik, .ref (b 5), .int (nI le), .int be, .int (nI i), .int fo, .int op, .int ha, .int st, .ref (b 6), .ref (b 7), .ref (b 8)])), ((b 5), .inl (cI, 60, .inl f))]) dX7_isBoard_60 (by first | (rw [if_pos ⟨by omega, by omega⟩]; done) | (rw [if_neg (fun q9 => by omega)]; done)) rfl hP hS
          · have n_3 : le = 35 := ej_teq (a := le) (b := 35) (by omega) (by omega) c_3
            refine lv_iconst (v := 1) hx hb dX7_isBoard_55 (by decide) ?_
            refine lv_goto (tgt := 60) hx hb dX7_isBoard_56 (by decide) ?_
            have f_sp1 : i = sp1 := by rw [e_sp1]; rw [← hv]; rw [show 35 - i = 0 by omega, bI]
            subst f_sp1
            exact hQ _ _ _ _ 1 ([((b 0), .inr (7, [.ref (b 1), .ref (b 2), .ref (b 3), .int (nI kn), .ref (b 4), .int ik, .ref (b 5), .int (nI le), .int be, .int (nI i), .int fo, .int op, .int ha, .int st, .ref (b 6), .ref (b 7), .ref (b 8)])), ((b 5), .inl (cI, 60, .inl f))]) dX7_isBoard_60 (by first | (rw [if_pos ⟨by omega, by omega⟩]; done) | (rw [if_neg (fun q9 => by omega)]; done)) rfl hP hS
      · have n_1 : i < 35 := ej_tnle (a := 35) (b := i) (by omega) (by omega) c_1
        refine lv_aload_n hx hb dX7_isBoard_14 rfl (lv_at hl 0 rfl) ?_
        refine ej_V (As := []) (rest := []) (w' := [((b 0), .inr (7, [.ref (b 1), .ref (b 2), .ref (b 3), .int (nI kn), .ref (b 4), .int ik, .ref (b 5), .int (nI le), .int be, .int (nI i), .int fo, .int op, .int ha, .int st, .ref (b 6), .ref (b 7), .ref (b 8)])), ((b 5), .inl (cI, 60, .inl f))]) S hK hN hA hP hD hS (c_X7_here l D tys cI ht0 b kn le i ik be fo op ha st f (by omega) (by omega)) (cwV 0 hts gX7_isBoard_X7_here rfl rfl rfl hdv_X7_here ⟨Nat.le_of_ble_eq_true rfl, Nat.le_of_ble_eq_true rfl⟩) [0, 1] [some 0, some 1] [(b 0), (b 5)] rfl (by decide +kernel) ⟨rfl, rfl⟩ rfl (by decide +kernel) 0 7 rfl rfl rfl rfl hl.1 (Nat.le_of_ble_eq_true rfl) dX7_isBoard_15 ⟨Nat.zero_le _, Nat.zero_le _⟩ (fun H locs hP hD hS => ?_)
        show W p9 l e9 (eR 1 20) s9 m9 a9 b9 t9 c9 H locs 0 0 Q (F0 m9 18 ls (.int (codeP le f i) :: []))
        refine ej_S (As := [.int (codeP le f i)]) (rest := []) (w' := [((b 0), .inr (7, [.ref (b 1), .ref (b 2), .ref (b 3), .int (nI kn), .ref (b 4), .int ik, .ref (b 5), .int (nI le), .int be, .int (nI i), .int fo, .int op, .int ha, .int st, .ref (b 6), .ref (b 7), .ref (b 8)])), ((b 5), .inl (cI, 60, .inl f))]) S hK hN hA hP hD hS (c_X7_isSign l D tys cI ht0 (codeP le f i)) (va_cwS 1 hts gX7_isBoard_X7_isSign rfl rfl rfl hds_X7_isSign ⟨Nat.le_of_ble_eq_true rfl, Nat.le_of_ble_eq_true rfl⟩) [] [] [] rfl (by decide +kernel) ⟨rfl, rfl⟩ rfl (by decide +kernel) rfl rfl hl.1 (Nat.le_of_ble_eq_true rfl) dX7_isBoard_18 ⟨Nat.zero_le _, Nat.zero_le _⟩ (fun H locs hP hD hS => ?_)
        show W p9 l e9 (eR 1 20) s9 m9 a9 b9 t9 c9 H locs 0 0 Q (F0 m9 21 ls (.int (if pinS (codeP le f i) then 1 else 0) :: []))
        refine lv_if_eq (tgt := 37) hx hb dX7_isBoard_21 (by decide) (fun c_4 => ?_) (fun c_4 => ?_)
        · have b_4 : ¬ (pinS (codeP le f i)) := ej_b0 c_4
          refine lv_aload_n hx hb dX7_isBoard_37 rfl (lv_at hl 0 rfl) ?_
          refine va_get (D := D) (ci := 7) (v := .int (nI i)) (C := RX7) (T := TX7) (N := 17) hx hb hts iX7 hown hK hP 0 rfl rfl 9 (Nat.le_of_ble_eq_true rfl) (hts (.fieldLink RX7 111 "BentPinsModel" "spot" "I") (List.mem_of_getElem? (i := 1) rfl)) (fun _ h9 => h9) rfl dX7_isBoard_38 ?_
          refine lv_bipush (v := 35) hx hb dX7_isBoard_41 (by decide) ?_
          refine lv_icmp_ne (tgt := 59) hx hb dX7_isBoard_43 (by decide) (fun c_5 => ?_) (fun c_5 => ?_)
          · have n_5 : i ≠ 35 := ej_tne (a := i) (b := 35) (by omega) (by omega) c_5
            refine lv_iconst (v := 0) hx hb dX7_isBoard_59 (by decide) ?_
            have f_sp1 : i = sp1 := by rw [e_sp1]; rw [← hv]; rw [show 35 - i = (35 - (i + 1)) + 1 by omega, bI, if_neg b_4]
            subst f_sp1
            exact hQ _ _ _ _ 0 ([((b 0), .inr (7, [.ref (b 1), .ref (b 2), .ref (b 3), .int (nI kn), .ref (b 4), .int ik, .ref (b 5), .int (nI le), .int be, .int (nI i), .int fo, .int op, .int ha, .int st, .ref (b 6), .ref (b 7), .ref (b 8)])), ((b 5), .inl (cI, 60, .inl f))]) dX7_isBoard_60 (by first | (rw [if_pos ⟨by omega, by omega⟩]; done) | (rw [if_neg (fun q9 => by omega)]; done)) rfl hP hS
          · have n_5 : i = 35 := ej_teq (a := i) (b := 35) (by omega) (by omega) c_5
            refine lv_aload_n hx hb dX7_isBoard_46 rfl (lv_at hl 0 rfl) ?_
            refine va_get (D := D) (ci := 7) (v := .int (nI le)) (C := RX7) (T := TX7) (N := 17) hx hb hts iX7 hown hK hP 0 rfl rfl 7 (Nat.le_of_ble_eq_true rfl) (hts (.fieldLink RX7 108 "BentPinsModel" "length" "I") (List.mem_of_getElem? (i := 2) rfl)) (fun _ h9 => h9) rfl dX7_isBoard_47 ?_
            refine lv_bipush (v := 35) hx hb dX7_isBoard_50 (by decide) ?_
            refine lv_icmp_ne (tgt := 59) hx hb dX7_isBoard_52 (by decide) (fun c_6 => ?_) (fun c_6 => ?_)
            · have n_6 : le ≠ 35 := ej_tne (a := le) (b := 35) (by omega) (by omega) c_6
              refine lv_iconst (v := 0) hx hb dX7_isBoard_59 (by decide) ?_
              have f_sp1 : i = sp1 := by rw [e_sp1]; rw [← hv]; rw [show 35 - i = (35 - (i + 1)) + 1 by omega, bI, if_neg b_4]
              subst f_sp1
              exact hQ _ _ _ _ 0 ([((b 0), .inr (7, [.ref (b 1), .ref (b 2), .ref (b 3), .int (nI kn), .ref (b 4), .int ik, .ref (b 5), .int (nI le), .int be, .int (nI i), .int fo, .int op, .int ha, .int st, .ref (b 6), .ref (b 7), .ref (b 8)])), ((b 5), .inl (cI, 60, .inl f))]) dX7_isBoard_60 (by first | (rw [if_pos ⟨by omega, by omega⟩]; done) | (rw [if_neg (fun q9 => by omega)]; done)) rfl hP hS
            · have n_6 : le = 35 := ej_teq (a := le) (b := 35) (by omega) (by omega) c_6
              refine lv_iconst (v := 1) hx hb dX7_isBoard_55 (by decide) ?_
              refine lv_goto (tgt := 60) hx hb dX7_isBoard_56 (by decide) ?_
              have f_sp1 : i = sp1 := by rw [e_sp1]; rw [← hv]; rw [show 35 - i = (35 - (i + 1)) + 1 by omega, bI, if_neg b_4]
              subst f_sp1
              exact hQ _ _ _ _ 1 ([((b 0), .inr (7, [.ref (b 1), .ref (b 2), .ref (b 3), .int (nI kn), .ref (b 4), .int ik, .ref (b 5), .int (nI le), .int be, .int (nI i), .int fo, .int op, .int ha, .int st, .ref (b 6), .ref (b 7), .ref (b 8)])), ((b 5), .inl (cI, 60, .inl f))]) dX7_isBoard_60 (by first | (rw [if_pos ⟨by omega, by omega⟩]; done) | (rw [if_neg (fun q9 => by omega)]; done)) rfl hP hS
        · have b_4 : pinS (codeP le f i) := ej_b1 c_4
          refine lv_aload_n hx hb dX7_isBoard_24 rfl (lv_at hl 0 rfl) ?_
          refine lv_dup hx hb dX7_isBoard_25 rfl ?_
          refine va_get (D := D) (ci := 7) (v := .int (nI i)) (C := RX7) (T := TX7) (N := 17) hx hb hts iX7 hown hK hP 0 rfl rfl 9 (Nat.le_of_ble_eq_true rfl) (hts (.fieldLink RX7 111 "BentPinsModel" "spot" "I") (List.mem_of_getElem? (i := 1) rfl)) (fun _ h9 => h9) rfl dX7_isBoard_26 ?_
          refine lv_iconst (v := 1) hx hb dX7_isBoard_29 (by decide) ?_
          refine lv_iadd hx hb dX7_isBoard_30 ?_
          refine ej_topi (show (nI i) + 1 = nI (i + 1) from nI_add i 1) ?_
          refine va_put (D := D) (ci := 7) (v := .int (nI (i + 1))) (ty := .int) (C := RX7) (T := TX7) (N := 17) hx hb hts iX7 tyX7 tyX7_ok nmX7 hown hK hP hD hS 0 rfl rfl 9 (Nat.le_of_ble_eq_true rfl) (hts (.fieldLink RX7 111 "BentPinsModel" "spot" "I") (List.mem_of_getElem? (i := 1) rfl)) (fun _ h9 => h9) rfl (by decide +kernel) rfl rfl (Nat.le_of_ble_eq_true rfl) dX7_isBoard_31 (fun H locs hP hD hS => ?_)
          have hP : va_P D vwCl ([((b 0), .inr (7, [.ref (b 1), .ref (b 2), .ref (b 3), .int (nI kn), .ref (b 4), .int ik, .ref (b 5), .int (nI le), .int be, .int (nI (i + 1)), .int fo, .int op, .int ha, .int st, .ref (b 6), .ref (b 7), .ref (b 8)])), ((b 5), .inl (cI, 60, .inl f))]) H := hP
          have hD : va_D A ([((b 0), .inr (7, [.ref (b 1), .ref (b 2), .ref (b 3), .int (nI kn), .ref (b 4), .int ik, .ref (b 5), .int (nI le), .int be, .int (nI (i + 1)), .int fo, .int op, .int ha, .int st, .ref (b 6), .ref (b 7), .ref (b 8)])), ((b 5), .inl (cI, 60, .inl f))]) := hD
          refine lv_goto (tgt := 5) hx hb dX7_isBoard_34 (by decide) ?_
          exact ih5  (i + 1) (by omega) (by omega) (by rw [← hv, show 35 - i = (35 - (i + 1)) + 1 by omega, bI, if_pos b_4]) _ _ _ hP hD hS (lv_sub hl [0] rfl)
  exact lp5 ((35 - 0) + 1) 0 (by omega) (by omega) rfl _ _ _ hP hD hS (lv_sub hl [0] rfl)
