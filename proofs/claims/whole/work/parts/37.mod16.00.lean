set_option maxHeartbeats 4000000 in
set_option maxRecDepth 100000 in
theorem c_X7_tries (l : Launch) (D : va_G) (tys : eT) (cI : ClassId) (ht0 : tys[0]? = some (cI, .int)) (b : Nat → Nat) (kn le sp : Nat) (ik be fo op ha st : Int32) (t : Pn) (u : Tr) (g : Nat → Int32) (k j : Nat) (h w : Int32) (be1 : Int32) (e_be1 : be1 = tbG t u k h be j) (r1 : Int32) (e_r1 : r1 = ifR t u (ifG t u k h j) w) (hk : k < 7) (hj : j ≤ 20) (htl : tilOK t) (hout : outOK t) (hou : okU u) : fc l D tys yX7_tries wsX7_tries (eR 5 118) [.ref (b 0), .int (nI k), .int h, .int (nI j), .int w] ([((b 0), .inr (7, [.ref (b 1), .ref (b 2), .ref (b 3), .int (nI kn), .ref (b 4), .int ik, .ref (b 5), .int (nI le), .int be, .int (nI sp), .int fo, .int op, .int ha, .int st, .ref (b 6), .ref (b 7), .ref (b 8)])), ((b 1), .inl (cI, 206, .inl (flatS t u))), ((b 2), .inl (cI, 206, .inl g))]) (some (.int r1)) ([((b 0), .inr (7, [.ref (b 1), .ref (b 2), .ref (b 3), .int (nI kn), .ref (b 4), .int ik, .ref (b 5), .int (nI le), .int be1, .int (nI sp), .int fo, .int op, .int ha, .int st, .ref (b 6), .ref (b 7), .ref (b 8)])), ((b 1), .inl (cI, 206, .inl (flatS t u))), ((b 2), .inl (cI, 206, .inl (flatS t u)))]) := by
  refine fc_int cX7_tries 7 (by decide +kernel) rfl (rfl) (Nat.le_of_ble_eq_true rfl) ?_
  intro p9 e9 s9 m9 a9 b9 t9 c9 H0 A Q ls S hK hN hA hP hD hS hl hQ
  have S : CallFix p9 m9 c9 cX7_tries 7 s9 a9 wsX7_tries RX7 := S
  obtain ⟨hx, hb, hml, hown, hts⟩ := id S
  have iX7 : ∀ w ∈ wsX70, w ∈ wsX7_tries := fun w h => List.mem_cons_of_mem _ (List.mem_append_right _ (h))
  have hP : va_P D vwCl ([((b 0), .inr (7, [.ref (b 1), .ref (b 2), .ref (b 3), .int (nI kn), .ref (b 4), .int ik, .ref (b 5), .int (nI le), .int be, .int (nI sp), .int fo, .int op, .int ha, .int st, .ref (b 6), .ref (b 7), .ref (b 8)])), ((b 1), .inl (cI, 206, .inl (flatS t u))), ((b 2), .inl (cI, 206, .inl g))]) H0 := hP
  have hD : va_D A ([((b 0), .inr (7, [.ref (b 1), .ref (b 2), .ref (b 3), .int (nI kn), .ref (b 4), .int ik, .ref (b 5), .int (nI le), .int be, .int (nI sp), .int fo, .int op, .int ha, .int st, .ref (b 6), .ref (b 7), .ref (b 8)])), ((b 1), .inl (cI, 206, .inl (flatS t u))), ((b 2), .inl (cI, 206, .inl g))]) := hD
  have hl : lv_has ls 7 [(0, .ref (b 0)), (1, .int (nI k)), (2, .int h), (3, .int (nI j)), (4, .int w)] := hl
  refine lv_aload_n hx hb dX7_tries_0 rfl (lv_at hl 0 rfl) ?_
  refine va_get (D := D) (ci := 7) (v := .ref (b 1)) (C := RX7) (T := TX7) (N := 17) hx hb hts iX7 hown hK hP 0 rfl rfl 0 (Nat.le_of_ble_eq_true rfl) (hts (.fieldLink RX7 7 "BentPinsModel" "s" "[I") (List.mem_of_getElem? (i := 1) rfl)) (fun _ h9 => h9) rfl dX7_tries_1 ?_
  refine lv_iconst (v := 0) hx hb dX7_tries_4 (by decide) ?_
  refine lv_aload_n hx hb dX7_tries_5 rfl (lv_at hl 0 rfl) ?_
  refine va_get (D := D) (ci := 7) (v := .ref (b 2)) (C := RX7) (T := TX7) (N := 17) hx hb hts iX7 hown hK hP 0 rfl rfl 1 (Nat.le_of_ble_eq_true rfl) (hts (.fieldLink RX7 13 "BentPinsModel" "aside" "[I") (List.mem_of_getElem? (i := 2) rfl)) (fun _ h9 => h9) rfl dX7_tries_6 ?_
  refine lv_iconst (v := 0) hx hb dX7_tries_9 (by decide) ?_
  refine ej_S (As := [.ref (b 1), .int 0, .ref (b 2), .int 0]) (rest := []) (w' := [((b 0), .inr (7, [.ref (b 1), .ref (b 2), .ref (b 3), .int (nI kn), .ref (b 4), .int ik, .ref (b 5), .int (nI le), .int be, .int (nI sp), .int fo, .int op, .int ha, .int st, .ref (b 6), .ref (b 7), .ref (b 8)])), ((b 1), .inl (cI, 206, .inl (flatS t u))), ((b 2), .inl (cI, 206, .inl (cpyG (flatS t u) g 0 0 206)))]) S hK hN hA hP hD hS (c_X7_copies l D tys cI ht0 (b 1) (b 2) 206 206 (flatS t u) g 0 0 (by omega) (by omega) (by omega) (by omega)) (va_cwS 4 hts gX7_tries_X7_copies rfl rfl rfl hds_X7_copies ⟨Nat.le_of_ble_eq_true rfl, Nat.le_of_ble_eq_true rfl⟩) [1, 2] [none, some 0, some 1] [(b 1), (b 2)] rfl (by decide +kernel) ⟨rfl, rfl⟩ rfl (by decide +kernel) rfl rfl hl.1 (Nat.le_of_ble_eq_true rfl) dX7_tries_10 ⟨Nat.zero_le _, Nat.zero_le _⟩ (fun H locs hP hD hS => ?_)
  show W p9 l e9 (eR 5 118) s9 m9 a9 b9 t9 c9 H locs 0 0 Q (F0 m9 13 ls [])
  have hP := ej_row (q := 2) (a := (b 2)) (cI := cI) (n := 206) (flatS t u) hP rfl (fun j9 hj9 => cpy_all _ _ hj9)
  have hD := ej_rowD (q := 2) (a := (b 2)) (cI := cI) (n := 206) (flatS t u) hD rfl
  have hP : va_P D vwCl ([((b 0), .inr (7, [.ref (b 1), .ref (b 2), .ref (b 3), .int (nI kn), .ref (b 4), .int ik, .ref (b 5), .int (nI le), .int be, .int (nI sp), .int fo, .int op, .int ha, .int st, .ref (b 6), .ref (b 7), .ref (b 8)])), ((b 1), .inl (cI, 206, .inl (flatS t u))), ((b 2), .inl (cI, 206, .inl (flatS t u)))]) _ := hP
  have hD : va_D A ([((b 0), .inr (7, [.ref (b 1), .ref (b 2), .ref (b 3), .int (nI kn), .ref (b 4), .int ik, .ref (b 5), .int (nI le), .int be, .int (nI sp), .int fo, .int op, .int ha, .int st, .ref (b 6), .ref (b 7), .ref (b 8)])), ((b 1), .inl (cI, 206, .inl (flatS t u))), ((b 2), .inl (cI, 206, .inl (flatS t u)))]) := hD
  refine lv_iconst (v := 0) hx hb dX7_tries_13 (by decide) ?_
  refine lv_istore (lv' := [(5, .int 0), (0, .ref (b 0)), (1, .int (nI k)), (2, .int h), (3, .int (nI j)), (4, .int w)]) hx hb dX7_tries_14 hl (by decide) rfl (fun ls hl => ?_)
  have lp16 : ∀ (n16 : Nat) (i : Nat) (tt : Pn) (uu : Tr) (bb : Int32), j - i < n16 → (i ≤ j) → (tt = (ifG t u k h i).1) → (uu = (ifG t u k h i).2) → (bb = tbG t u k h be i) → ∀ (H : Heap) (locs : List Loc) (ls : Array Slot), va_P D vwCl ([((b 0), .inr (7, [.ref (b 1), .ref (b 2), .ref (b 3), .int (nI kn), .ref (b 4), .int ik, .ref (b 5), .int (nI le), .int bb, .int (nI sp), .int fo, .int op, .int ha, .int st, .ref (b 6), .ref (b 7), .ref (b 8)])), ((b 1), .inl (cI, 206, .inl (flatS tt uu))), ((b 2), .inl (cI, 206, .inl (flatS t u)))]) H → va_D A ([((b 0), .inr (7, [.ref (b 1), .ref (b 2), .ref (b 3), .int (nI kn), .ref (b 4), .int ik, .ref (b 5), .int (nI le), .int bb, .int (nI sp), .int fo, .int op, .int ha, .int st, .ref (b 6), .ref (b 7), .ref (b 8)])), ((b 1), .inl (cI, 206, .inl (flatS tt uu))), ((b 2), .inl (cI, 206, .inl (flatS t u)))]) → va_S A H0 H locs → lv_has ls 7 [(0, .ref (b 0)), (1, .int (nI k)), (2, .int h), (3, .int (nI j)), (4, .int w), (5, .int (nI i))] → W p9 l e9 (eR 5 118) s9 m9 a9 b9 t9 c9 H locs 0 0 Q (F0 m9 16 ls []) := by
    intro n16
    induction n16 with
    | zero => intro i tt uu bb hm9; exact absurd hm9 (Nat.not_lt_zero _)
    | succ n16 ih16 =>
      intro i tt uu bb hm16 hi ett euu ebb H locs ls hP hD hS hl
      have htt : tilOK tt := by rw [ett]; exact ifG_til u k h htl i
      have hot : outOK tt := by rw [ett]; exact ifG_out u k h hout i
      have hoo : okU uu := by rw [euu]; exact ifG_okU t h hk hou i
      refine lv_iload hx hb dX7_tries_16 (lv_at hl 5 rfl) ?_
      refine lv_iload_n hx hb dX7_tries_18 rfl (lv_at hl 3 rfl) ?_
      refine lv_icmp_ge (tgt := 45) hx hb dX7_tries_19 (by decide) (fun c_1 => ?_) (fun c_1 => ?_)
      · have n_1 : j ≤ i := ej_tle (a := j) (b := i) (by omega) (by omega) c_1
        refine lv_iload hx hb dX7_tries_45 (lv_at hl 4 rfl) ?_
        refine lv_if_ne (tgt := 66) hx hb dX7_tries_47 (by decide) (fun c_2 => ?_) (fun c_2 => ?_)
        · refine lv_iload hx hb dX7_tries_66 (lv_at hl 4 rfl) ?_
          refine lv_iconst (v := 1) hx hb dX7_tries_68 (by decide) ?_
          refine lv_icmp_ne (tgt := 88) hx hb dX7_tries_69 (by decide) (fun c_3 => ?_) (fun c_3 => ?_)
          · refine lv_aload_n hx hb dX7_tries_88 rfl (lv_at hl 0 rfl) ?_
            obtain ⟨m1_4, e_m1_4⟩ : ∃ z9 : Nat, z9 = cmG tt 127 5 := ⟨_, rfl⟩
            refine ej_V (As := []) (rest := []) (w' := [((b 0), .inr (7, [.ref (b 1), .ref (b 2), .ref (b 3), .int (nI kn), .ref (b 4), .int ik, .ref (b 5), .int (nI le), .int bb, .int (nI sp), .int fo, .int op, .int ha, .int st, .ref (b 6), .ref (b 7), .ref (b 8)])), ((b 1), .inl (cI, 206, .inl (flatS tt uu))), ((b 2), .inl (cI, 206, .inl (flatS t u)))]) S hK hN hA hP hD hS (c_X7_reached l D tys cI ht0 b kn le sp ik bb fo op ha st tt uu m1_4 e_m1_4 htt hot) (cwV 0 hts gX7_tries_X7_reached rfl rfl rfl hdv_X7_reached ⟨Nat.le_of_ble_eq_true rfl, Nat.le_of_ble_eq_true rfl⟩) [0, 1] [some 0, some 1] [(b 0), (b 1)] rfl (by decide +kernel) ⟨rfl, rfl⟩ rfl (by decide +kernel) 0 7 rfl rfl rfl rfl hl.1 (Nat.le_of_ble_eq_true rfl) dX7_tries_89 ⟨Nat.zero_le _, Nat.zero_le _⟩ (fun H locs hP hD hS => ?_)
            show W p9 l e9 (eR 5 118) s9 m9 a9 b9 t9 c9 H locs 0 0 Q (F0 m9 92 ls (.int (nI m1_4) :: []))
            refine lv_istore (lv' := [(5, .int (nI m1_4)), (0, .ref (b 0)), (1, .int (nI k)), (2, .int h), (3, .int (nI j)), (4, .int w)]) hx hb dX7_tries_92 hl (by decide) rfl (fun ls hl => ?_)
            refine lv_aload_n hx hb dX7_tries_94 rfl (lv_at hl 1 rfl) ?_
            refine va_get (D := D) (ci := 7) (v := .ref (b 2)) (C := RX7) (T := TX7) (N := 17) hx hb hts iX7 hown hK hP 0 rfl rfl 1 (Nat.le_of_ble_eq_true rfl) (hts (.fieldLink RX7 13 "BentPinsModel" "aside" "[I") (List.mem_of_getElem? (i := 2) rfl)) (fun _ h9 => h9) rfl dX7_tries_95 ?_
            refine lv_iconst (v := 0) hx hb dX7_tries_98 (by decide) ?_
            refine lv_aload_n hx hb dX7_tries_99 rfl (lv_at hl 1 rfl) ?_
            refine va_get (D := D) (ci := 7) (v := .ref (b 1)) (C := RX7) (T := TX7) (N := 17) hx hb hts iX7 hown hK hP 0 rfl rfl 0 (Nat.le_of_ble_eq_true rfl) (hts (.fieldLink RX7 7 "BentPinsModel" "s" "[I") (List.mem_of_getElem? (i := 1) rfl)) (fun _ h9 => h9) rfl dX7_tries_100 ?_
            refine lv_iconst (v := 0) hx hb dX7_tries_103 (by decide) ?_
            refine ej_S (As := [.ref (b 2), .int 0, .ref (b 1), .int 0]) (rest := []) (w' := [((b 0), .inr (7, [.ref (b 1), .ref (b 2), .ref (b 3), .int (nI kn), .ref (b 4), .int ik, .ref (b 5), .int (nI le), .int bb, .int (nI sp), .int fo, .int op, .int ha, .int st, .ref (b 6), .ref (b 7), .ref (b 8)])), ((b 1), .inl (cI, 206, .inl (cpyG (flatS t u) (flatS tt uu) 0 0 206))), ((b 2), .inl (cI, 206, .inl (flatS t u)))]) S hK hN hA hP hD hS (c_X7_copies l D tys cI ht0 (b 2) (b 1) 206 206 (flatS t u) (flatS tt uu) 0 0 (by omega) (by omega) (by omega) (by omega)) (va_cwS 4 hts gX7_tries_X7_copies rfl rfl rfl hds_X7_copies ⟨Nat.le_of_ble_eq_true rfl, Nat.le_of_ble_eq_true rfl⟩) [2, 1] [none, some 1, some 0] [(b 2), (b 1)] rfl (by decide +kernel) ⟨rfl, rfl⟩ rfl (by decide +kernel) rfl rfl hl.1 (Nat.le_of_ble_eq_true rfl) dX7_tries_104 ⟨Nat.zero_le _, Nat.zero_le _⟩ (fun H locs hP hD hS => ?_)
            show W p9 l e9 (eR 5 118) s9 m9 a9 b9 t9 c9 H locs 0 0 Q (F0 m9 107 ls [])
            have hP := ej_row (q := 1) (a := (b 1)) (cI := cI) (n := 206) (flatS t u) hP rfl (fun j9 hj9 => cpy_all _ _ hj9)
            have hD := ej_rowD (q := 1) (a := (b 1)) (cI := cI) (n := 206) (flatS t u) hD rfl
            have hP : va_P D vwCl ([((b 0), .inr (7, [.ref (b 1), .ref (b 2), .ref (b 3), .int (nI kn), .ref (b 4), .int ik, .ref (b 5), .int (nI le), .int bb, .int (nI sp), .int fo, .int op, .int ha, .int st, .ref (b 6), .ref (b 7), .ref (b 8)])), ((b 1), .inl (cI, 206, .inl (flatS t u))), ((b 2), .inl (cI, 206, .inl (flatS t u)))]) _ := hP
            have hD : va_D A ([((b 0), .inr (7, [.ref (b 1), .ref (b 2), .ref (b 3), .int (nI kn), .ref (b 4), .int ik, .ref (b 5), .int (nI le), .int bb, .int (nI sp), .int fo, .int op, .int ha, .int st, .ref (b 6), .ref (b 7), .ref (b 8)])), ((b 1), .inl (cI, 206, .inl (flatS t u))), ((b 2), .inl (cI, 206, .inl (flatS t u)))]) := hD
            refine lv_iload hx hb dX7_tries_107 (lv_at hl 0 rfl) ?_
            have f_be1 : bb = be1 := by rw [e_be1]; rw [show j = i by omega, ← ebb]
            have f_r1 : (nI m1_4) = r1 := by rw [e_r1]; rw [show j = i by omega, ifR, ← ett, ← euu, e_m1_4, cm_fwd]; simp only [c_1, c_2, c_3, if_true, if_false, reduceIte]
            subst f_be1
            subst f_r1
            exact hQ _ _ _ _ (nI m1_4) ([((b 0), .inr (7, [.ref (b 1), .ref (b 2), .ref (b 3), .int (nI kn), .ref (b 4), .int ik, .ref (b 5), .int (nI le), .int bb, .int (nI sp), .int fo, .int op, .int ha, .int st, .ref (b 6), .ref (b 7), .ref (b 8)])), ((b 1), .inl (cI, 206, .inl (flatS t u))), ((b 2), .inl (cI, 206, .inl (flatS t u)))]) dX7_tries_109 rfl rfl hP hS
          · refine lv_aload_n hx hb dX7_tries_72 rfl (lv_at hl 0 rfl) ?_
            refine va_get (D := D) (ci := 7) (v := .ref (b 1)) (C := RX7) (T := TX7) (N := 17) hx hb hts iX7 hown hK hP 0 rfl rfl 0 (Nat.le_of_ble_eq_true rfl) (hts (.fieldLink RX7 7 "BentPinsModel" "s" "[I") (List.mem_of_getElem? (i := 1) rfl)) (fun _ h9 => h9) rfl dX7_tries_73 ?_
            refine lv_iconst (v := 2) hx hb dX7_tries_76 (by decide) ?_
            refine va_iald (i := 2) hx hb hK hP 1 0 rfl ht0 (vp_in_nI (n := 2) (N := 206) (by omega) (by omega)) dX7_tries_77 ?_
            refine ej_topi (show (flatS tt uu) (nI 2).toNatClampNeg = (flatS tt uu) 2 from congrArg (flatS tt uu) (nI_clamp (n := 2) (by omega))) ?_
            refine ej_topi (show (flatS tt uu) 2 = T_lo uu from rfl) ?_
            refine lv_aload_n hx hb dX7_tries_78 rfl (lv_at hl 0 rfl) ?_
            refine va_get (D := D) (ci := 7) (v := .ref (b 2)) (C := RX7) (T := TX7) (N := 17) hx hb hts iX7 hown hK hP 0 rfl rfl 1 (Nat.le_of_ble_eq_true rfl) (hts (.fieldLink RX7 13 "BentPinsModel" "aside" "[I") (List.mem_of_getElem? (i := 2) rfl)) (fun _ h9 => h9) rfl dX7_tries_79 ?_
            refine lv_iconst (v := 2) hx hb dX7_tries_82 (by decide) ?_
            refine va_iald (i := 2) hx hb hK hP 2 0 rfl ht0 (vp_in_nI (n := 2) (N := 206) (by omega) (by omega)) dX7_tries_83 ?_
            refine ej_topi (show (flatS t u) (nI 2).toNatClampNeg = (flatS t u) 2 from congrArg (flatS t u) (nI_clamp (n := 2) (by omega))) ?_
            refine ej_topi (show (flatS t u) 2 = T_lo u from rfl) ?_
            refine lv_isub hx hb dX7_tries_84 ?_
            refine lv_goto (tgt := 92) hx hb dX7_tries_85 (by decide) ?_
            refine lv_istore (lv' := [(5, .int ((T_lo uu) - (T_lo u))), (0, .ref (b 0)), (1, .int (nI k)), (2, .int h), (3, .int (nI j)), (4, .int w)]) hx hb dX7_tries_92 hl (by decide) rfl (fun ls hl => ?_)
            refine lv_aload_n hx hb dX7_tries_94 rfl (lv_at hl 1 rfl) ?_
            refine va_get (D := D) (ci := 7) (v := .ref (b 2)) (C := RX7) (T := TX7) (N := 17) hx hb hts iX7 hown hK hP 0 rfl rfl 1 (Nat.le_of_ble_eq_true rfl) (hts (.fieldLink RX7 13 "BentPinsModel" "aside" "[I") (List.mem_of_getElem? (i := 2) rfl)) (fun _ h9 => h9) rfl dX7_tries_95 ?_
            refine lv_iconst (v := 0) hx hb dX7_tries_98 (by decide) ?_
            refine lv_aload_n hx hb dX7_tries_99 rfl (lv_at hl 1 rfl) ?_
            refine va_get (D := D) (ci := 7) (v := .ref (b 1)) (C := RX7) (T := TX7) (N := 17) hx hb hts iX7 hown hK hP 0 rfl rfl 0 (Nat.le_of_ble_eq_true rfl) (hts (.fieldLink RX7 7 "BentPinsModel" "s" "[I") (List.mem_of_getElem? (i := 1) rfl)) (fun _ h9 => h9) rfl dX7_tries_100 ?_
            refine lv_iconst (v := 0) hx hb dX7_tries_103 (by decide) ?_
            refine ej_S (As := [.ref (b 2), .int 0, .ref (b 1), .int 0]) (rest := []) (w' := [((b 0), .inr (7, [.ref (b 1), .ref (b 2), .ref (b 3), .int (nI kn), .ref (b 4), .int ik, .ref (b 5), .int (nI le), .int bb, .int (nI sp), .int fo, .int op, .int ha, .int st, .ref (b 6), .ref (b 7), .ref (b 8)])), ((b 1), .inl (cI, 206, .inl (cpyG (flatS t u) (flatS tt uu) 0 0 206))), ((b 2), .inl (cI, 206, .inl (flatS t u)))]) S hK hN hA hP hD hS (c_X7_copies l D tys cI ht0 (b 2) (b 1) 206 206 (flatS t u) (flatS tt uu) 0 0 (by omega) (by omega) (by omega) (by omega)) (va_cwS 4 hts gX7_tries_X7_copies rfl rfl rfl hds_X7_copies ⟨Nat.le_of_ble_eq_true rfl, Nat.le_of_ble_eq_true rfl⟩) [2, 1] [none, some 1, some 0] [(b 2), (b 1)] rfl (by decide +kernel) ⟨rfl, rfl⟩ rfl (by decide +kernel) rfl rfl hl.1 (Nat.le_of_ble_eq_true rfl) dX7_tries_104 ⟨Nat.zero_le _, Nat.zero_le _⟩ (fun H locs hP hD hS => ?_)
            show W p9 l e9 (eR 5 118) s9 m9 a9 b9 t9 c9 H locs 0 0 Q (F0 m9 107 ls [])
            have hP := ej_row (q := 1) (a := (b 1)) (cI := cI) (n := 206) (flatS t u) hP rfl (fun j9 hj9 => cpy_all _ _ hj9)
            have hD := ej_rowD (q := 1) (a := (b 1)) (cI := cI) (n := 206) (flatS t u) hD rfl
            have hP : va_P D vwCl ([((b 0), .inr (7, [.ref (b 1), .ref (b 2), .ref (b 3), .int (nI kn), .ref (b 4), .int ik, .ref (b 5), .int (nI le), .int bb, .int (nI sp), .int fo, .int op, .int ha, .int st, .ref (b 6), .ref (b 7), .ref (b 8)])), ((b 1), .inl (cI, 206, .inl (flatS t u))), ((b 2), .inl (cI, 206, .inl (flatS t u)))]) _ := hP
            have hD : va_D A ([((b 0), .inr (7, [.ref (b 1), .ref (b 2), .ref (b 3), .int (nI kn), .ref (b 4), .int ik, .ref (b 5), .int (nI le), .int bb, .int (nI sp), .int fo, .int op, .int ha, .int st, .ref (b 6), .ref (b 7), .ref (b 8)])), ((b 1), .inl (cI, 206, .inl (flatS t u))), ((b 2), .inl (cI, 206, .inl (flatS t u)))]) := hD
            refine lv_iload hx hb dX7_tries_107 (lv_at hl 0 rfl) ?_
            have f_be1 : bb = be1 := by rw [e_be1]; rw [show j = i by omega, ← ebb]
            have f_r1 : ((T_lo uu) - (T_lo u)) = r1 := by rw [e_r1]; rw [show j = i by omega, ifR, ← ett, ← euu]; simp only [c_1, c_2, eq_true c_3, if_true, if_false, reduceIte]
            subst f_be1
            subst f_r1
            exact hQ _ _ _ _ ((T_lo uu) - (T_lo u)) ([((b 0), .inr (7, [.ref (b 1), .ref (b 2), .ref (b 3), .int (nI kn), .ref (b 4), .int ik, .ref (b 5), .int (nI le), .int bb, .int (nI sp), .int fo, .int op, .int ha, .int st, .ref (b 6), .ref (b 7), .ref (b 8)])), ((b 1), .inl (cI, 206, .inl (flatS t u))), ((b 2), .inl (cI, 206, .inl (flatS t u)))]) dX7_tries_109 rfl rfl hP hS
        · refine lv_aload_n hx hb dX7_tries_50 rfl (lv_at hl 0 rfl) ?_
          refine va_get (D := D) (ci := 7) (v := .ref (b 1)) (C := RX7) (T := TX7) (N := 17) hx hb hts iX7 hown hK hP 0 rfl rfl 0 (Nat.le_of_ble_eq_true rfl) (hts (.fieldLink RX7 7 "BentPinsModel" "s" "[I") (List.mem_of_getElem? (i := 1) rfl)) (fun _ h9 => h9) rfl dX7_tries_51 ?_
          refine lv_iconst (v := 0) hx hb dX7_tries_54 (by decide) ?_
          refine va_iald (i := 0) hx hb hK hP 1 0 rfl ht0 (vp_in_nI (n := 0) (N := 206) (by omega) (by omega)) dX7_tries_55 ?_
          refine ej_topi (show (flatS tt uu) (nI 0).toNatClampNeg = (flatS tt uu) 0 from congrArg (flatS tt uu) (nI_clamp (n := 0) (by omega))) ?_
          refine ej_topi (show (flatS tt uu) 0 = T_po uu from rfl) ?_
          refine lv_aload_n hx hb dX7_tries_56 rfl (lv_at hl 0 rfl) ?_
          refine va_get (D := D) (ci := 7) (v := .ref (b 2)) (C := RX7) (T := TX7) (N := 17) hx hb hts iX7 hown hK hP 0 rfl rfl 1 (Nat.le_of_ble_eq_true rfl) (hts (.fieldLink RX7 13 "BentPinsModel" "aside" "[I") (List.mem_of_getElem? (i := 2) rfl)) (fun _ h9 => h9) rfl dX7_tries_57 ?_
          refine lv_iconst (v := 0) hx hb dX7_tries_60 (by decide) ?_
          refine va_iald (i := 0) hx hb hK hP 2 0 rfl ht0 (vp_in_nI (n := 0) (N := 206) (by omega) (by omega)) dX7_tries_61 ?_
          refine ej_topi (show (flatS t u) (nI 0).toNatClampNeg = (flatS t u) 0 from congrArg (flatS t u) (nI_clamp (n := 0) (by omega))) ?_
          refine ej_topi (show (flatS t u) 0 = T_po u from rfl) ?_
          refine lv_isub hx hb dX7_tries_62 ?_
          refine lv_goto (tgt := 92) hx hb dX7_tries_63 (by decide) ?_
          refine lv_istore (lv' := [(5, .int ((T_po uu) - (T_po u))), (0, .ref (b 0)), (1, .int (nI k)), (2, .int h), (3, .int (nI j)), (4, .int w)]) hx hb dX7_tries_92 hl (by decide) rfl (fun ls hl => ?_)
          refine lv_aload_n hx hb dX7_tries_94 rfl (lv_at hl 1 rfl) ?_
          refine va_get (D := D) (ci := 7) (v := .ref (b 2)) (C := RX7) (T := TX7) (N := 17) hx hb hts iX7 hown hK hP 0 rfl rfl 1 (Nat.le_of_ble_eq_true rfl) (hts (.fieldLink RX7 13 "BentPinsModel" "aside" "[I") (List.mem_of_getElem? (i := 2) rfl)) (fun _ h9 => h9) rfl dX7_tries_95 ?_
          refine lv_iconst (v := 0) hx hb dX7_tries_98 (by decide) ?_
          refine lv_aload_n hx hb dX7_tries_99 rfl (lv_at hl 1 rfl) ?_
          refine va_get (D := D) (ci := 7) (v := .ref (b 1)) (C := RX7) (T := TX7) (N := 17) hx hb hts iX7 hown hK hP 0 rfl rfl 0 (Nat.le_of_ble_eq_true rfl) (hts (.fieldLink RX7 7 "BentPinsModel" "s" "[I") (List.mem_of_getElem? (i := 1) rfl)) (fun _ h9 => h9) rfl dX7_tries_100 ?_
          refine lv_iconst (v := 0) hx hb dX7_tries_103 (by decide) ?_
          refine ej_S (As := [.ref (b 2), .int 0, .ref (b 1), .int 0]) (rest := []) (w' := [((b 0), .inr (7, [.ref (b 1), .ref (b 2), .ref (b 3), .int (nI kn), .ref (b 4), .int ik, .ref (b 5), .int (nI le), .int bb, .int (nI sp), .int fo, .int op, .int ha, .int st, .ref (b 6), .ref (b 7), .ref (b 8)])), ((b 1), .inl (cI, 206, .inl (cpyG (flatS t u) (flatS tt uu) 0 0 206))), ((b 2), .inl (cI, 206, .inl (flatS t u)))]) S hK hN hA hP hD hS (c_X7_copies l D tys cI ht0 (b 2) (b 1) 206 206 (flatS t u) (flatS tt uu) 0 0 (by omega) (by omega) (by omega) (by omega)) (va_cwS 4 hts gX7_tries_X7_copies rfl rfl rfl hds_X7_copies ⟨Nat.le_of_ble_eq_true rfl, Nat.le_of_ble_eq_true rfl⟩) [2, 1] [none, some 1, some 0] [(b 2), (b 1)] rfl (by decide +kernel) ⟨rfl, rfl⟩ rfl (by decide +kernel) rfl rfl hl.1 (Nat.le_of_ble_eq_true rfl) dX7_tries_104 ⟨Nat.zero_le _, Nat.zero_le _⟩ (fun H locs hP hD hS => ?_)
          show W p9 l e9 (eR 5 118) s9 m9 a9 b9 t9 c9 H locs 0 0 Q (F0 m9 107 ls [])
          have hP := ej_row (q := 1) (a := (b 1)) (cI := cI) (n := 206) (flatS t u) hP rfl (fun j9 hj9 => cpy_all _ _ hj9)
          have hD := ej_rowD (q := 1) (a := (b 1)) (cI := cI) (n := 206) (flatS t u) hD rfl
          have hP : va_P D vwCl ([((b 0), .inr (7, [.ref (b 1), .ref (b 2), .ref (b 3), .int (nI kn), .ref (b 4), .int ik, .ref (b 5), .int (nI le), .int bb, .int (nI sp), .int fo, .int op, .int ha, .int st, .ref (b 6), .ref (b 7), .ref (b 8)])), ((b 1), .inl (cI, 206, .inl (flatS t u))), ((b 2), .inl (cI, 206, .inl (flatS t u)))]) _ := hP
          have hD : va_D A ([((b 0), .inr (7, [.ref (b 1), .ref (b 2), .ref (b 3), .int (nI kn), .ref (b 4), .int ik, .ref (b 5), .int (nI le), .int bb, .int (nI sp), .int fo, .int op, .int ha, .int st, .ref (b 6), .ref (b 7), .ref (b 8)])), ((b 1), .inl (cI, 206, .inl (flatS t u))), ((b 2), .inl (cI, 206, .inl (flatS t u)))]) := hD
          refine lv_iload hx hb dX7_tries_107 (lv_at hl 0 rfl) ?_
          have f_be1 : bb = be1 := by rw [e_be1]; rw [show j = i by omega, ← ebb]
          have f_r1 : ((T_po uu) - (T_po u)) = r1 := by rw [e_r1]; rw [show j = i by omega, ifR, ← ett, ← euu]; simp only [c_1, eq_true c_2, if_true, if_false, reduceIte]
          subst f_be1
          subst f_r1
          exact hQ _ _ _ _ ((T_po uu) - (T_po u)) ([((b 0), .inr (7, [.ref (b 1), .ref (b 2), .ref (b 3), .int (nI kn), .ref (b 4), .int ik, .ref (b 5), .int (nI le), .int bb, .int (nI sp), .int fo, .int op, .int ha, .int st, .ref (b 6), .ref (b 7), .ref (b 8)])), ((b 1), .inl (cI, 206, .inl (flatS t u))), ((b 2), .inl (cI, 206, .inl (flatS t u)))]) dX7_tries_109 rfl rfl hP hS
      · have n_1 : i < j := ej_tnle (a := j) (b := i) (by omega) (by omega) c_1
        refine lv_aload_n hx hb dX7_tries_22 rfl (lv_at hl 0 rfl) ?_
        refine va_get (D := D) (ci := 7) (v := .ref (b 1)) (C := RX7) (T := TX7) (N := 17) hx hb hts iX7 hown hK hP 0 rfl rfl 0 (Nat.le_of_ble_eq_true rfl) (hts (.fieldLink RX7 7 "BentPinsModel" "s" "[I") (List.mem_of_getElem? (i := 1) rfl)) (fun _ h9 => h9) rfl dX7_tries_23 ?_
        refine lv_iconst (v := 1) hx hb dX7_tries_26 (by decide) ?_
        refine va_iald (i := 1) hx hb hK hP 1 0 rfl ht0 (vp_in_nI (n := 1) (N := 206) (by omega) (by omega)) dX7_tries_27 ?_
        refine ej_topi (show (flatS tt uu) (nI 1).toNatClampNeg = (flatS tt uu) 1 from congrArg (flatS tt uu) (nI_clamp (n := 1) (by omega))) ?_
        refine ej_topi (show (flatS tt uu) 1 = T_le uu from rfl) ?_
        refine lv_if_le (tgt := 45) hx hb dX7_tries_28 (by decide) (fun c_5 => ?_) (fun c_5 => ?_)
        · have d_5 := ej_xa c_5
          refine lv_iload hx hb dX7_tries_45 (lv_at hl 4 rfl) ?_
          refine lv_if_ne (tgt := 66) hx hb dX7_tries_47 (by decide) (fun c_6 => ?_) (fun c_6 => ?_)
          · refine lv_iload hx hb dX7_tries_66 (lv_at hl 4 rfl) ?_
            refine lv_iconst (v := 1) hx hb dX7_tries_68 (by decide) ?_
            refine lv_icmp_ne (tgt := 88) hx hb dX7_tries_69 (by decide) (fun c_7 => ?_) (fun c_7 => ?_)
            · refine lv_aload_n hx hb dX7_tries_88 rfl (lv_at hl 0 rfl) ?_
              obtain ⟨m1_8, e_m1_8⟩ : ∃ z9 : Nat, z9 = cmG tt 127 5 := ⟨_, rfl⟩
              refine ej_V (As := []) (rest := []) (w' := [((b 0), .inr (7, [.ref (b 1), .ref (b 2), .ref (b 3), .int (nI kn), .ref (b 4), .int ik, .ref (b 5), .int (nI le), .int bb, .int (nI sp), .int fo, .int op, .int ha, .int st, .ref (b 6), .ref (b 7), .ref (b 8)])), ((b 1), .inl (cI, 206, .inl (flatS tt uu))), ((b 2), .inl (cI, 206, .inl (flatS t u)))]) S hK hN hA hP hD hS (c_X7_reached l D tys cI ht0 b kn le sp ik bb fo op ha st tt uu m1_8 e_m1_8 htt hot) (cwV 0 hts gX7_tries_X7_reached rfl rfl rfl hdv_X7_reached ⟨Nat.le_of_ble_eq_true rfl, Nat.le_of_ble_eq_true rfl⟩) [0, 1] [some 0, some 1] [(b 0), (b 1)] rfl (by decide +kernel) ⟨rfl, rfl⟩ rfl (by decide +kernel) 0 7 rfl rfl rfl rfl hl.1 (Nat.le_of_ble_eq_true rfl) dX7_tries_89 ⟨Nat.zero_le _, Nat.zero_le _⟩ (fun H locs hP hD hS => ?_)
              show W p9 l e9 (eR 5 118) s9 m9 a9 b9 t9 c9 H locs 0 0 Q (F0 m9 92 ls (.int (nI m1_8) :: []))
              refine lv_istore (lv' := [(5, .int (nI m1_8)), (0, .ref (b 0)), (1, .int (nI k)), (2, .int h), (3, .int (nI j)), (4, .int w)]) hx hb dX7_tries_92 hl (by decide) rfl (fun ls hl => ?_)
              refine lv_aload_n hx hb dX7_tries_94 rfl (lv_at hl 1 rfl) ?_
              refine va_get (D := D) (ci := 7) (v := .ref (b 2)) (C := RX7) (T := TX7) (N := 17) hx hb hts iX7 hown hK hP 0 rfl rfl 1 (Nat.le_of_ble_eq_true rfl) (hts (.fieldLink RX7 13 "BentPinsModel" "aside" "[I") (List.mem_of_getElem? (i := 2) rfl)) (fun _ h9 => h9) rfl dX7_tries_95 ?_
              refine lv_iconst (v := 0) hx hb dX7_tries_98 (by decide) ?_
              refine lv_aload_n hx hb dX7_tries_99 rfl (lv_at hl 1 rfl) ?_
              refine va_get (D := D) (ci := 7) (v := .ref (b 1)) (C := RX7) (T := TX7) (N := 17) hx hb hts iX7 hown hK hP 0 rfl rfl 0 (Nat.le_of_ble_eq_true rfl) (hts (.fieldLink RX7 7 "BentPinsModel" "s" "[I") (List.mem_of_getElem? (i := 1) rfl)) (fun _ h9 => h9) rfl dX7_tries_100 ?_
              refine lv_iconst (v := 0) hx hb dX7_tries_103 (by decide) ?_
              refine ej_S (As := [.ref (b 2), .int 0, .ref (b 1), .int 0]) (rest := []) (w' := [((b 0), .inr (7, [.ref (b 1), .ref (b 2), .ref (b 3), .int (nI kn), .ref (b 4), .int ik, .ref (b 5), .int (nI le), .int bb, .int (nI sp), .int fo, .int op, .int ha, .int st, .ref (b 6), .ref (b 7), .ref (b 8)])), ((b 1), .inl (cI, 206, .inl (cpyG (flatS t u) (flatS tt uu) 0 0 206))), ((b 2), .inl (cI, 206, .inl (flatS t u)))]) S hK hN hA hP hD hS (c_X7_copies l D tys cI ht0 (b 2) (b 1) 206 206 (flatS t u) (flatS tt uu) 0 0 (by omega) (by omega) (by omega) (by omega)) (va_cwS 4 hts gX7_tries_X7_copies rfl rfl rfl hds_X7_copies ⟨Nat.le_of_ble_eq_true rfl, Nat.le_of_ble_eq_true rfl⟩) [2, 1] [none, some 1, some 0] [(b 2), (b 1)] rfl (by decide +kernel) ⟨rfl, rfl⟩ rfl (by decide +kernel) rfl rfl hl.1 (Nat.le_of_ble_eq_true rfl) dX7_tries_104 ⟨Nat.zero_le _, Nat.zero_le _⟩ (fun H locs hP hD hS => ?_)
              show W p9 l e9 (eR 5 118) s9 m9 a9 b9 t9 c9 H locs 0 0 Q (F0 m9 107 ls [])
              have hP := ej_row (q := 1) (a := (b 1)) (cI := cI) (n := 206) (flatS t u) hP rfl (fun j9 hj9 => cpy_all _ _ hj9)
              have hD := ej_rowD (q := 1) (a := (b 1)) (cI := cI) (n := 206) (flatS t u) hD rfl
              have hP : va_P D vwCl ([((b 0), .inr (7, [.ref (b 1), .ref (b 2), .ref (b 3), .int (nI kn), .ref (b 4), .int ik, .ref (b 5), .int (nI le), .int bb, .int (nI sp), .int fo, .int op, .int ha, .int st, .ref (b 6), .ref (b 7), .ref (b 8)])), ((b 1), .inl (cI, 206, .inl (flatS t u))), ((b 2), .inl (cI, 206, .inl (flatS t u)))]) _ := hP
              have hD : va_D A ([((b 0), .inr (7, [.ref (b 1), .ref (b 2), .ref (b 3), .int (nI kn), .ref (b 4), .int ik, .ref (b 5), .int (nI le), .int bb, .int (nI sp), .int fo, .int op, .int ha, .int st, .ref (b 6), .ref (b 7), .ref (b 8)])), ((b 1), .inl (cI, 206, .inl (flatS t u))), ((b 2), .inl (cI, 206, .inl (flatS t u)))]) := hD
              refine lv_iload hx hb dX7_tries_107 (lv_at hl 0 rfl) ?_
              have f_be1 : bb = be1 := by rw [e_be1]; rw [show j = i + (j - i) by omega, tbG_stop (by rw [← euu]; exact d_5) (j - i), ← ebb]
              have f_r1 : (nI m1_8) = r1 := by rw [e_r1]; rw [show j = i + (j - i) by omega, ifG_stop (by rw [← euu]; exact d_5) (j - i), ifR, ← ett, ← euu, e_m1_8, cm_fwd]; simp only [c_5, c_6, c_7, if_true, if_false, reduceIte]
              subst f_be1
              subst f_r1
              exact hQ _ _ _ _ (nI m1_8) ([((b 0), .inr (7, [.ref (b 1), .ref (b 2), .ref (b 3), .int (nI kn), .ref (b 4), .int ik, .ref (b 5), .int (nI le), .int bb, .int (nI sp), .int fo, .int op, .int ha, .int st, .ref (b 6), .ref (b 7), .ref (b 8)])), ((b 1), .inl (cI, 206, .inl (flatS t u))), ((b 2), .inl (cI, 206, .inl (flatS t u)))]) dX7_tries_109 rfl rfl hP hS
            · refine lv_aload_n hx hb dX7_tries_72 rfl (lv_at hl 0 rfl) ?_
              refine va_get (D := D) (ci := 7) (v := .ref (b 1)) (C := RX7) (T := TX7) (N := 17) hx hb hts iX7 hown hK hP 0 rfl rfl 0 (Nat.le_of_ble_eq_true rfl) (hts (.fieldLink RX7 7 "BentPinsModel" "s" "[I") (List.mem_of_getElem? (i := 1) rfl)) (fun _ h9 => h9) rfl dX7_tries_73 ?_
              refine lv_iconst (v := 2) hx hb dX7_tries_76 (by decide) ?_
              refine va_iald (i := 2) hx hb hK hP 1 0 rfl ht0 (vp_in_nI (n := 2) (N := 206) (by omega) (by omega)) dX7_tries_77 ?_
              refine ej_topi (show (flatS tt uu) (nI 2).toNatClampNeg = (flatS tt uu) 2 from congrArg (flatS tt uu) (nI_clamp (n := 2) (by omega))) ?_
              refine ej_topi (show (flatS tt uu) 2 = T_lo uu from rfl) ?_
              refine lv_aload_n hx hb dX7_tries_78 rfl (lv_at hl 0 rfl) ?_
              refine va_get (D := D) (ci := 7) (v := .ref (b 2)) (C := RX7) (T := TX7) (N := 17) hx hb hts iX7 hown hK hP 0 rfl rfl 1 (Nat.le_of_ble_eq_true rfl) (hts (.fieldLink RX7 13 "BentPinsModel" "aside" "[I") (List.mem_of_getElem? (i := 2) rfl)) (fun _ h9 => h9) rfl dX7_tries_79 ?_
              refine lv_iconst (v := 2) hx hb dX7_tries_82 (by decide) ?_
              refine va_iald (i := 2) hx hb hK hP 2 0 rfl ht0 (vp_in_nI (n := 2) (N := 206) (by omega) (by omega)) dX7_tries_83 ?_
              refine ej_topi (show (flatS t u) (nI 2).toNatClampNeg = (flatS t u) 2 from congrArg (flatS t u) (nI_clamp (n := 2) (by omega))) ?_
              refine ej_topi (show (flatS t u) 2 = T_lo u from rfl) ?_
              refine lv_isub hx hb dX7_tries_84 ?_
              refine lv_goto (tgt := 92) hx hb dX7_tries_85 (by decide) ?_
              refine lv_istore (lv' := [(5, .int ((T_lo uu) - (T_lo u))), (0, .ref (b 0)), (1, .int (nI k)), (2, .int h), (3, .int (nI j)), (4, .int w)]) hx hb dX7_tries_92 hl (by decide) rfl (fun ls hl => ?_)
              refine lv_aload_n hx hb dX7_tries_94 rfl (lv_at hl 1 rfl) ?_
              refine va_get (D := D) (ci := 7) (v := .ref (b 2)) (C := RX7) (T := TX7) (N := 17) hx hb hts iX7 hown hK hP 0 rfl rfl 1 (Nat.le_of_ble_eq_true rfl) (hts (.fieldLink RX7 13 "BentPinsModel" "aside" "[I") (List.mem_of_getElem? (i := 2) rfl)) (fun _ h9 => h9) rfl dX7_tries_95 ?_
              refine lv_iconst (v := 0) hx hb dX7_tries_98 (by decide) ?_
              refine lv_aload_n hx hb dX7_tries_99 rfl (lv_at hl 1 rfl) ?_
              refine va_get (D := D) (ci := 7) (v := .ref (b 1)) (C := RX7) (T := TX7) (N := 17) hx hb hts iX7 hown hK hP 0 rfl rfl 0 (Nat.le_of_ble_eq_true rfl) (hts (.fieldLink RX7 7 "BentPinsModel" "s" "[I") (List.mem_of_getElem? (i := 1) rfl)) (fun _ h9 => h9) rfl dX7_tries_100 ?_
              refine lv_iconst (v := 0) hx hb dX7_tries_103 (by decide) ?_
              refine ej_S (As := [.ref (b 2), .int 0, .ref (b 1), .int 0]) (rest := []) (w' := [((b 0), .inr (7, [.ref (b 1), .ref (b 2), .ref (b 3), .int (nI kn), .ref (b 4), .int ik, .ref (b 5), .int (nI le), .int bb, .int (nI sp), .int fo, .int op, .int ha, .int st, .ref (b 6), .ref (b 7), .ref (b 8)])), ((b 1), .inl (cI, 206, .inl (cpyG (flatS t u) (flatS tt uu) 0 0 206))), ((b 2), .inl (cI, 206, .inl (flatS t u)))]) S hK hN hA hP hD hS (c_X7_copies l D tys cI ht0 (b 2) (b 1) 206 206 (flatS t u) (flatS tt uu) 0 0 (by omega) (by omega) (by omega) (by omega)) (va_cwS 4 hts gX7_tries_X7_copies rfl rfl rfl hds_X7_copies ⟨Nat.le_of_ble_eq_true rfl, Nat.le_of_ble_eq_true rfl⟩) [2, 1] [none, some 1, some 0] [(b 2), (b 1)] rfl (by decide +kernel) ⟨rfl, rfl⟩ rfl (by decide +kernel) rfl rfl hl.1 (Nat.le_of_ble_eq_true rfl) dX7_tries_104 ⟨Nat.zero_le _, Nat.zero_le _⟩ (fun H locs hP hD hS => ?_)
              show W p9 l e9 (eR 5 118) s9 m9 a9 b9 t9 c9 H locs 0 0 Q (F0 m9 107 ls [])
              have hP := ej_row (q := 1) (a := (b 1)) (cI := cI) (n := 206) (flatS t u) hP rfl (fun j9 hj9 => cpy_all _ _ hj9)
              have hD := ej_rowD (q := 1) (a := (b 1)) (cI := cI) (n := 206) (flatS t u) hD rfl
              have hP : va_P D vwCl ([((b 0), .inr (7, [.ref (b 1), .ref (b 2), .ref (b 3), .int (nI kn), .ref (b 4), .int ik, .ref (b 5), .int (nI le), .int bb, .int (nI sp), .int fo, .int op, .int ha, .int st, .ref (b 6), .ref (b 7), .ref (b 8)])), ((b 1), .inl (cI, 206, .inl (flatS t u))), ((b 2), .inl (cI, 206, .inl (flatS t u)))]) _ := hP
              have hD : va_D A ([((b 0), .inr (7, [.ref (b 1), .ref (b 2), .ref (b 3), .int (nI kn), .ref (b 4), .int ik, .ref (b 5), .int (nI le), .int bb, .int (nI sp), .int fo, .int op, .int ha, .int st, .ref (b 6), .ref (b 7), .ref (b 8)])), ((b 1), .inl (cI, 206, .inl (flatS t u))), ((b 2), .inl (cI, 206, .inl (flatS t u)))]) := hD
              refine lv_iload hx hb dX7_tries_107 (lv_at hl 0 rfl) ?_
              have f_be1 : bb = be1 := by rw [e_be1]; rw [show j = i + (j - i) by omega, tbG_stop (by rw [← euu]; exact d_5) (j - i), ← ebb]
              have f_r1 : ((T_lo uu) - (T_lo u)) = r1 := by rw [e_r1]; rw [show j = i + (j - i) by omega, ifG_stop (by rw [← euu]; exact d_5) (j - i), ifR, ← ett, ← euu]; simp only [c_5, c_6, eq_true c_7, if_true, if_false, reduceIte]
              subst f_be1
              subst f_r1
              exact hQ _ _ _ _ ((T_lo uu) - (T_lo u)) ([((b 0), .inr (7, [.ref (b 1), .ref (b 2), .ref (b 3), .int (nI kn), .ref (b 4), .int ik, .ref (b 5), .int (nI le), .int bb, .int (nI sp), .int fo, .int op, .int ha, .int st, .ref (b 6), .ref (b 7), .ref (b 8)])), ((b 1), .inl (cI, 206, .inl (flatS t u))), ((b 2), .inl (cI, 206, .inl (flatS t u)))]) dX7_tries_109 rfl rfl hP hS
          · refine lv_aload_n hx hb dX7_tries_50 rfl (lv_at hl 0 rfl) ?_
            refine va_get (D := D) (ci := 7) (v := .ref (b 1)) (C := RX7) (T := TX7) (N := 17) hx hb hts iX7 hown hK hP 0 rfl rfl 0 (Nat.le_of_ble_eq_true rfl) (hts (.fieldLink RX7 7 "BentPinsModel" "s" "[I") (List.mem_of_getElem? (i := 1) rfl)) (fun _ h9 => h9) rfl dX7_tries_51 ?_
            refine lv_iconst (v := 0) hx hb dX7_tries_54 (by decide) ?_
            refine va_iald (i := 0) hx hb hK hP 1 0 rfl ht0 (vp_in_nI (n := 0) (N := 206) (by omega) (by omega)) dX7_tries_55 ?_
            refine ej_topi (show (flatS tt uu) (nI 0).toNatClampNeg = (flatS tt uu) 0 from congrArg (flatS tt uu) (nI_clamp (n := 0) (by omega))) ?_
            refine ej_topi (show (flatS tt uu) 0 = T_po uu from rfl) ?_
            refine lv_aload_n hx hb dX7_tries_56 rfl (lv_at hl 0 rfl) ?_
            refine va_get (D := D) (ci := 7) (v := .ref (b 2)) (C := RX7) (T := TX7) (N := 17) hx hb hts iX7 hown hK hP 0 rfl rfl 1 (Nat.le_of_ble_eq_true rfl) (hts (.fieldLink RX7 13 "BentPinsModel" "aside" "[I") (List.mem_of_getElem? (i := 2) rfl)) (fun _ h9 => h9) rfl dX7_tries_57 ?_
            refine lv_iconst (v := 0) hx hb dX7_tries_60 (by decide) ?_
            refine va_iald (i := 0) hx hb hK hP 2 0 rfl ht0 (vp_in_nI (n := 0) (N := 206) (by omega) (by omega)) dX7_tries_61 ?_
            refine ej_topi (show (flatS t u) (nI 0).toNatClampNeg = (flatS t u) 0 from congrArg (flatS t u) (nI_clamp (n := 0) (by omega))) ?_
            refine ej_topi (show (flatS t u) 0 = T_po u from rfl) ?_
            refine lv_isub hx hb dX7_tries_62 ?_
            refine lv_goto (tgt := 92) hx hb dX7_tries_63 (by decide) ?_
            refine lv_istore (lv' := [(5, .int ((T_po uu) - (T_po u))), (0, .ref (b 0)), (1, .int (nI k)), (2, .int h), (3, .int (nI j)), (4, .int w)]) hx hb dX7_tries_92 hl (by decide) rfl (fun ls hl => ?_)
            refine lv_aload_n hx hb dX7_tries_94 rfl (lv_at hl 1 rfl) ?_
            refine va_get (D := D) (ci := 7) (v := .ref (b 2)) (C := RX7) (T := TX7) (N := 17) hx hb hts iX7 hown hK hP 0 rfl rfl 1 (Nat.le_of_ble_eq_true rfl) (hts (.fieldLink RX7 13 "BentPinsModel" "aside" "[I") (List.mem_of_getElem? (i := 2) rfl)) (fun _ h9 => h9) rfl dX7_tries_95 ?_
            refine lv_iconst (v := 0) hx hb dX7_tries_98 (by decide) ?_
            refine lv_aload_n hx hb dX7_tries_99 rfl (lv_at hl 1 rfl) ?_
            refine va_get (D := D) (ci := 7) (v := .ref (b 1)) (C := RX7) (T := TX7) (N := 17) hx hb hts iX7 hown hK hP 0 rfl rfl 0 (Nat.le_of_ble_eq_true rfl) (hts (.fieldLink RX7 7 "BentPinsModel" "s" "[I") (List.mem_of_getElem? (i := 1) rfl)) (fun _ h9 => h9) rfl dX7_tries_100 ?_
            refine lv_iconst (v := 0) hx hb dX7_tries_103 (by decide) ?_
            refine ej_S (As := [.ref (b 2), .int 0, .ref (b 1), .int 0]) (rest := []) (w' := [((b 0), .inr (7, [.ref (b 1), .ref (b 2), .ref (b 3), .int (nI kn), .ref (b 4), .int ik, .ref (b 5), .int (nI le), .int bb, .int (nI sp), .int fo, .int op, .int ha, .int st, .ref (b 6), .ref (b 7), .ref (b 8)])), ((b 1), .inl (cI, 206, .inl (cpyG (flatS t u) (flatS tt uu) 0 0 206))), ((b 2), .inl (cI, 206, .inl (flatS t u)))]) S hK hN hA hP hD hS (c_X7_copies l D tys cI ht0 (b 2) (b 1) 206 206 (flatS t u) (flatS tt uu) 0 0 (by omega) (by omega) (by omega) (by omega)) (va_cwS 4 hts gX7_tries_X7_copies rfl rfl rfl hds_X7_copies ⟨Nat.le_of_ble_eq_true rfl, Nat.le_of_ble_eq_true rfl⟩) [2, 1] [none, some 1, some 0] [(b 2), (b 1)] rfl (by decide +kernel) ⟨rfl, rfl⟩ rfl (by decide +kernel) rfl rfl hl.1 (Nat.le_of_ble_eq_true rfl) dX7_tries_104 ⟨Nat.zero_le _, Nat.zero_le _⟩ (fun H locs hP hD hS => ?_)
            show W p9 l e9 (eR 5 118) s9 m9 a9 b9 t9 c9 H locs 0 0 Q (F0 m9 107 ls [])
            have hP := ej_row (q := 1) (a := (b 1)) (cI := cI) (n := 206) (flatS t u) hP rfl (fun j9 hj9 => cpy_all _ _ hj9)
            have hD := ej_rowD (q := 1) (a := (b 1)) (cI := cI) (n := 206) (flatS t u) hD rfl
            have hP : va_P D vwCl ([((b 0), .inr (7, [.ref (b 1), .ref (b 2), .ref (b 3), .int (nI kn), .ref (b 4), .int ik, .ref (b 5), .int (nI le), .int bb, .int (nI sp), .int fo, .int op, .int ha, .int st, .ref (b 6), .ref (b 7), .ref (b 8)])), ((b 1), .inl (cI, 206, .inl (flatS t u))), ((b 2), .inl (cI, 206, .inl (flatS t u)))]) _ := hP
            have hD : va_D A ([((b 0), .inr (7, [.ref (b 1), .ref (b 2), .ref (b 3), .int (nI kn), .ref (b 4), .int ik, .ref (b 5), .int (nI le), .int bb, .int (nI sp), .int fo, .int op, .int ha, .int st, .ref (b 6), .ref (b 7), .ref (b 8)])), ((b 1), .inl (cI, 206, .inl (flatS t u))), ((b 2), .inl (cI, 206, .inl (flatS t u)))]) := hD
            refine lv_iload hx hb dX7_tries_107 (lv_at hl 0 rfl) ?_
            have f_be1 : bb = be1 := by rw [e_be1]; rw [show j = i + (j - i) by omega, tbG_stop (by rw [← euu]; exact d_5) (j - i), ← ebb]
            have f_r1 : ((T_po uu) - (T_po u)) = r1 := by rw [e_r1]; rw [show j = i + (j - i) by omega, ifG_stop (by rw [← euu]; exact d_5) (j - i), ifR, ← ett, ← euu]; simp only [c_5, eq_true c_6, if_true, if_false, reduceIte]
            subst f_be1
            subst f_r1
            exact hQ _ _ _ _ ((T_po uu) - (T_po u)) ([((b 0), .inr (7, [.ref (b 1), .ref (b 2), .ref (b 3), .int (nI kn), .ref (b 4), .int ik, .ref (b 5), .int (nI le), .int bb, .int (nI sp), .int fo, .int op, .int ha, .int st, .ref (b 6), .ref (b 7), .ref (b 8)])), ((b 1), .inl (cI, 206, .inl (flatS t u))), ((b 2), .inl (cI, 206, .inl (flatS t u)))]) dX7_tries_109 rfl rfl hP hS
        · have d_5 := ej_xd c_5
          refine lv_aload_n hx hb dX7_tries_31 rfl (lv_at hl 0 rfl) ?_
          refine lv_iload_n hx hb dX7_tries_32 rfl (lv_at hl 1 rfl) ?_
          refine lv_iload_n hx hb dX7_tries_33 rfl (lv_at hl 2 rfl) ?_
          obtain ⟨t1_9, e_t1_9⟩ : ∃ z9 : Pn, z9 = shP tt uu k h := ⟨_, rfl⟩
          obtain ⟨u1_10, e_u1_10⟩ : ∃ z9 : Tr, z9 = shU tt uu k h := ⟨_, rfl⟩
          obtain ⟨be1_11, e_be1_11⟩ : ∃ z9 : Int32, z9 = if 0 < T_le uu then P_ri (rollT tt k h 5).1 - P_ri tt else bb := ⟨_, rfl⟩
          obtain ⟨r1_12, e_r1_12⟩ : ∃ z9 : Int32, z9 = shR tt uu k h := ⟨_, rfl⟩
          refine ej_V (As := [.int (nI k), .int h]) (rest := []) (w' := [((b 0), .inr (7, [.ref (b 1), .ref (b 2), .ref (b 3), .int (nI kn), .ref (b 4), .int ik, .ref (b 5), .int (nI le), .int be1_11, .int (nI sp), .int fo, .int op, .int ha, .int st, .ref (b 6), .ref (b 7), .ref (b 8)])), ((b 1), .inl (cI, 206, .inl (flatS t1_9 u1_10))), ((b 2), .inl (cI, 206, .inl (flatS t u)))]) S hK hN hA hP hD hS (c_X7_goShoot l D tys cI ht0 b kn le sp ik bb fo op ha st tt uu k h t1_9 e_t1_9 u1_10 e_u1_10 be1_11 e_be1_11 r1_12 e_r1_12 hk htt hot (okU_le hoo)) (cwV 2 hts gX7_tries_X7_goShoot rfl rfl rfl hdv_X7_goShoot ⟨Nat.le_of_ble_eq_true rfl, Nat.le_of_ble_eq_true rfl⟩) [0, 1] [some 0, some 1] [(b 0), (b 1)] rfl (by decide +kernel) ⟨rfl, rfl⟩ rfl (by decide +kernel) 0 7 rfl rfl rfl rfl hl.1 (Nat.le_of_ble_eq_true rfl) dX7_tries_34 ⟨Nat.zero_le _, Nat.zero_le _⟩ (fun H locs hP hD hS => ?_)
          show W p9 l e9 (eR 5 118) s9 m9 a9 b9 t9 c9 H locs 0 0 Q (F0 m9 37 ls (.int r1_12 :: []))
          refine lv_istore (lv' := [(6, .int r1_12), (0, .ref (b 0)), (1, .int (nI k)), (2, .int h), (3, .int (nI j)), (4, .int w), (5, .int (nI i))]) hx hb dX7_tries_37 hl (by decide) rfl (fun ls hl => ?_)
          refine lv_iinc (v := nI (i + 1)) (lv' := [(5, .int (nI (i + 1))), (6, .int r1_12), (0, .ref (b 0)), (1, .int (nI k)), (2, .int h), (3, .int (nI j)), (4, .int w)]) hx hb dX7_tries_39 hl (k := 6) rfl (nI_add i 1) (by decide) rfl (fun ls hl => ?_)
          refine lv_goto (tgt := 16) hx hb dX7_tries_42 (by decide) ?_
          exact ih16  (i + 1) t1_9 u1_10 be1_11 (by omega) (by omega) (by rw [e_t1_9, ifG, ← euu, ← ett, if_pos d_5]) (by rw [e_u1_10, ifG, ← euu, ← ett, if_pos d_5]) (by rw [e_be1_11, tbG, ← euu, ← ett, if_pos d_5, if_pos d_5]) _ _ _ hP hD hS (lv_sub hl [2, 3, 4, 5, 6, 0] rfl)
  exact lp16 ((j - 0) + 1) 0 t u be (by omega) (by omega) rfl rfl rfl _ _ _ hP hD hS (lv_sub hl [1, 2, 3, 4, 5, 0] rfl)
