set_option maxHeartbeats 4000000 in
set_option maxRecDepth 100000 in
theorem c_X7_goEmpty (l : Launch) (D : va_G) (tys : eT) (cI : ClassId) (ht0 : tys[0]? = some (cI, .int)) (b : Nat → Nat) (kn le sp : Nat) (ik be fo op ha st : Int32) (t : Pn) (u : Tr) (u1 : Tr) (e_u1 : u1 = empU u) (r1 : Int32) (e_r1 : r1 = T_le (empU u))  : fc l D tys yX7_goEmpty wsX7_goEmpty (eR 1 23) [.ref (b 0)] ([((b 0), .inr (7, [.ref (b 1), .ref (b 2), .ref (b 3), .int (nI kn), .ref (b 4), .int ik, .ref (b 5), .int (nI le), .int be, .int (nI sp), .int fo, .int op, .int ha, .int st, .ref (b 6), .ref (b 7), .ref (b 8)])), ((b 1), .inl (cI, 206, .inl (flatS t u)))]) (some (.int r1)) ([((b 0), .inr (7, [.ref (b 1), .ref (b 2), .ref (b 3), .int (nI kn), .ref (b 4), .int ik, .ref (b 5), .int (nI le), .int be, .int (nI sp), .int fo, .int op, .int ha, .int st, .ref (b 6), .ref (b 7), .ref (b 8)])), ((b 1), .inl (cI, 206, .inl (flatS t u1)))]) := by
  refine fc_int cX7_goEmpty 2 (by decide +kernel) rfl (rfl) (Nat.le_of_ble_eq_true rfl) ?_
  intro p9 e9 s9 m9 a9 b9 t9 c9 H0 A Q ls S hK hN hA hP hD hS hl hQ
  have S : CallFix p9 m9 c9 cX7_goEmpty 2 s9 a9 wsX7_goEmpty RX7 := S
  obtain ⟨hx, hb, hml, hown, hts⟩ := id S
  have iX7 : ∀ w ∈ wsX70, w ∈ wsX7_goEmpty := fun w h => List.mem_cons_of_mem _ (List.mem_append_right _ (h))
  have hP : va_P D vwCl ([((b 0), .inr (7, [.ref (b 1), .ref (b 2), .ref (b 3), .int (nI kn), .ref (b 4), .int ik, .ref (b 5), .int (nI le), .int be, .int (nI sp), .int fo, .int op, .int ha, .int st, .ref (b 6), .ref (b 7), .ref (b 8)])), ((b 1), .inl (cI, 206, .inl (flatS t u)))]) H0 := hP
  have hD : va_D A ([((b 0), .inr (7, [.ref (b 1), .ref (b 2), .ref (b 3), .int (nI kn), .ref (b 4), .int ik, .ref (b 5), .int (nI le), .int be, .int (nI sp), .int fo, .int op, .int ha, .int st, .ref (b 6), .ref (b 7), .ref (b 8)])), ((b 1), .inl (cI, 206, .inl (flatS t u)))]) := hD
  have hl : lv_has ls 2 [(0, .ref (b 0))] := hl
  refine lv_aload_n hx hb dX7_goEmpty_0 rfl (lv_at hl 0 rfl) ?_
  refine va_get (D := D) (ci := 7) (v := .ref (b 1)) (C := RX7) (T := TX7) (N := 17) hx hb hts iX7 hown hK hP 0 rfl rfl 0 (Nat.le_of_ble_eq_true rfl) (hts (.fieldLink RX7 7 "BentPinsModel" "s" "[I") (List.mem_of_getElem? (i := 1) rfl)) (fun _ h9 => h9) rfl dX7_goEmpty_1 ?_
  refine lv_iconst (v := 1) hx hb dX7_goEmpty_4 (by decide) ?_
  refine lv_dup2_11 hx hb dX7_goEmpty_5 rfl rfl ?_
  refine va_iald (i := 1) hx hb hK hP 1 0 rfl ht0 (vp_in_nI (n := 1) (N := 206) (by omega) (by omega)) dX7_goEmpty_6 ?_
  refine ej_topi (show (flatS t u) (nI 1).toNatClampNeg = (flatS t u) 1 from congrArg (flatS t u) (nI_clamp (n := 1) (by omega))) ?_
  refine ej_topi (show (flatS t u) 1 = T_le u from rfl) ?_
  refine lv_aload_n hx hb dX7_goEmpty_7 rfl (lv_at hl 0 rfl) ?_
  refine va_get (D := D) (ci := 7) (v := .ref (b 1)) (C := RX7) (T := TX7) (N := 17) hx hb hts iX7 hown hK hP 0 rfl rfl 0 (Nat.le_of_ble_eq_true rfl) (hts (.fieldLink RX7 7 "BentPinsModel" "s" "[I") (List.mem_of_getElem? (i := 1) rfl)) (fun _ h9 => h9) rfl dX7_goEmpty_8 ?_
  refine lv_iconst (v := 2) hx hb dX7_goEmpty_11 (by decide) ?_
  refine va_iald (i := 2) hx hb hK hP 1 0 rfl ht0 (vp_in_nI (n := 2) (N := 206) (by omega) (by omega)) dX7_goEmpty_12 ?_
  refine ej_topi (show (flatS t u) (nI 2).toNatClampNeg = (flatS t u) 2 from congrArg (flatS t u) (nI_clamp (n := 2) (by omega))) ?_
  refine ej_topi (show (flatS t u) 2 = T_lo u from rfl) ?_
  refine lv_iadd hx hb dX7_goEmpty_13 ?_
  refine va_iast (i := 1) hx hb hK hP hD hS 1 0 rfl ht0 (vp_in_nI (n := 1) (N := 206) (by omega) (by omega)) dX7_goEmpty_14 (fun H locs hP hD hS => ?_)
  rw [show (1 : Int32).toNatClampNeg = 1 from by decide] at hP hD
  have hP := ej_row (q := 1) (a := (b 1)) (cI := cI) (n := 206) (flatS t (T_wo u, T_he u, T_en u, T_fu u, (T_le u) + (T_lo u), T_lo u, T_po u, T_sh u, T_ha u, T_re u)) hP rfl (fun j9 _ => congrFun (flC_1 t u ((T_le u) + (T_lo u))) j9)
  have hD := ej_rowD (q := 1) (a := (b 1)) (cI := cI) (n := 206) (flatS t (T_wo u, T_he u, T_en u, T_fu u, (T_le u) + (T_lo u), T_lo u, T_po u, T_sh u, T_ha u, T_re u)) hD rfl
  have hP : va_P D vwCl ([((b 0), .inr (7, [.ref (b 1), .ref (b 2), .ref (b 3), .int (nI kn), .ref (b 4), .int ik, .ref (b 5), .int (nI le), .int be, .int (nI sp), .int fo, .int op, .int ha, .int st, .ref (b 6), .ref (b 7), .ref (b 8)])), ((b 1), .inl (cI, 206, .inl (flatS t (T_wo u, T_he u, T_en u, T_fu u, (T_le u) + (T_lo u), T_lo u, T_po u, T_sh u, T_ha u, T_re u))))]) _ := hP
  have hD : va_D A ([((b 0), .inr (7, [.ref (b 1), .ref (b 2), .ref (b 3), .int (nI kn), .ref (b 4), .int ik, .ref (b 5), .int (nI le), .int be, .int (nI sp), .int fo, .int op, .int ha, .int st, .ref (b 6), .ref (b 7), .ref (b 8)])), ((b 1), .inl (cI, 206, .inl (flatS t (T_wo u, T_he u, T_en u, T_fu u, (T_le u) + (T_lo u), T_lo u, T_po u, T_sh u, T_ha u, T_re u))))]) := hD
  have hP : va_P D vwCl ([((b 0), .inr (7, [.ref (b 1), .ref (b 2), .ref (b 3), .int (nI kn), .ref (b 4), .int ik, .ref (b 5), .int (nI le), .int be, .int (nI sp), .int fo, .int op, .int ha, .int st, .ref (b 6), .ref (b 7), .ref (b 8)])), ((b 1), .inl (cI, 206, .inl (flatS t (T_wo u, T_he u, T_en u, T_fu u, (T_le u) + (T_lo u), T_lo u, T_po u, T_sh u, T_ha u, T_re u))))]) H := hP
  have hD : va_D A ([((b 0), .inr (7, [.ref (b 1), .ref (b 2), .ref (b 3), .int (nI kn), .ref (b 4), .int ik, .ref (b 5), .int (nI le), .int be, .int (nI sp), .int fo, .int op, .int ha, .int st, .ref (b 6), .ref (b 7), .ref (b 8)])), ((b 1), .inl (cI, 206, .inl (flatS t (T_wo u, T_he u, T_en u, T_fu u, (T_le u) + (T_lo u), T_lo u, T_po u, T_sh u, T_ha u, T_re u))))]) := hD
  refine lv_aload_n hx hb dX7_goEmpty_15 rfl (lv_at hl 0 rfl) ?_
  refine va_get (D := D) (ci := 7) (v := .ref (b 1)) (C := RX7) (T := TX7) (N := 17) hx hb hts iX7 hown hK hP 0 rfl rfl 0 (Nat.le_of_ble_eq_true rfl) (hts (.fieldLink RX7 7 "BentPinsModel" "s" "[I") (List.mem_of_getElem? (i := 1) rfl)) (fun _ h9 => h9) rfl dX7_goEmpty_16 ?_
  refine lv_iconst (v := 2) hx hb dX7_goEmpty_19 (by decide) ?_
  refine lv_iconst (v := 0) hx hb dX7_goEmpty_20 (by decide) ?_
  refine va_iast (i := 2) hx hb hK hP hD hS 1 0 rfl ht0 (vp_in_nI (n := 2) (N := 206) (by omega) (by omega)) dX7_goEmpty_21 (fun H locs hP hD hS => ?_)
  rw [show (2 : Int32).toNatClampNeg = 2 from by decide] at hP hD
  have hP := ej_row (q := 1) (a := (b 1)) (cI := cI) (n := 206) (flatS t (T_wo u, T_he u, T_en u, T_fu u, (T_le u) + (T_lo u), 0, T_po u, T_sh u, T_ha u, T_re u)) hP rfl (fun j9 _ => congrFun (flC_2 t (T_wo u, T_he u, T_en u, T_fu u, (T_le u) + (T_lo u), T_lo u, T_po u, T_sh u, T_ha u, T_re u) 0) j9)
  have hD := ej_rowD (q := 1) (a := (b 1)) (cI := cI) (n := 206) (flatS t (T_wo u, T_he u, T_en u, T_fu u, (T_le u) + (T_lo u), 0, T_po u, T_sh u, T_ha u, T_re u)) hD rfl
  have hP : va_P D vwCl ([((b 0), .inr (7, [.ref (b 1), .ref (b 2), .ref (b 3), .int (nI kn), .ref (b 4), .int ik, .ref (b 5), .int (nI le), .int be, .int (nI sp), .int fo, .int op, .int ha, .int st, .ref (b 6), .ref (b 7), .ref (b 8)])), ((b 1), .inl (cI, 206, .inl (flatS t (T_wo u, T_he u, T_en u, T_fu u, (T_le u) + (T_lo u), 0, T_po u, T_sh u, T_ha u, T_re u))))]) _ := hP
  have hD : va_D A ([((b 0), .inr (7, [.ref (b 1), .ref (b 2), .ref (b 3), .int (nI kn), .ref (b 4), .int ik, .ref (b 5), .int (nI le), .int be, .int (nI sp), .int fo, .int op, .int ha, .int st, .ref (b 6), .ref (b 7), .ref (b 8)])), ((b 1), .inl (cI, 206, .inl (flatS t (T_wo u, T_he u, T_en u, T_fu u, (T_le u) + (T_lo u), 0, T_po u, T_sh u, T_ha u, T_re u))))]) := hD
  have hP : va_P D vwCl ([((b 0), .inr (7, [.ref (b 1), .ref (b 2), .ref (b 3), .int (nI kn), .ref (b 4), .int ik, .ref (b 5), .int (nI le), .int be, .int (nI sp), .int fo, .int op, .int ha, .int st, .ref (b 6), .ref (b 7), .ref (b 8)])), ((b 1), .inl (cI, 206, .inl (flatS t (T_wo u, T_he u, T_en u, T_fu u, (T_le u) + (T_lo u), 0, T_po u, T_sh u, T_ha u, T_re u))))]) H := hP
  have hD : va_D A ([((b 0), .inr (7, [.ref (b 1), .ref (b 2), .ref (b 3), .int (nI kn), .ref (b 4), .int ik, .ref (b 5), .int (nI le), .int be, .int (nI sp), .int fo, .int op, .int ha, .int st, .ref (b 6), .ref (b 7), .ref (b 8)])), ((b 1), .inl (cI, 206, .inl (flatS t (T_wo u, T_he u, T_en u, T_fu u, (T_le u) + (T_lo u), 0, T_po u, T_sh u, T_ha u, T_re u))))]) := hD
  refine lv_iconst (v := 0) hx hb dX7_goEmpty_22 (by decide) ?_
  refine lv_istore_n (lv' := [(1, .int 0), (0, .ref (b 0))]) hx hb dX7_goEmpty_23 rfl hl (by decide) rfl (fun ls hl => ?_)
  have lp24 : ∀ (n24 : Nat) (i : Nat) (uu : Tr), 7 - i < n24 → (i ≤ 7) → (uu = empG u i) → ∀ (H : Heap) (locs : List Loc) (ls : Array Slot), va_P D vwCl ([((b 0), .inr (7, [.ref (b 1), .ref (b 2), .ref (b 3), .int (nI kn), .ref (b 4), .int ik, .ref (b 5), .int (nI le), .int be, .int (nI sp), .int fo, .int op, .int ha, .int st, .ref (b 6), .ref (b 7), .ref (b 8)])), ((b 1), .inl (cI, 206, .inl (flatS t uu)))]) H → va_D A ([((b 0), .inr (7, [.ref (b 1), .ref (b 2), .ref (b 3), .int (nI kn), .ref (b 4), .int ik, .ref (b 5), .int (nI le), .int be, .int (nI sp), .int fo, .int op, .int ha, .int st, .ref (b 6), .ref (b 7), .ref (b 8)])), ((b 1), .inl (cI, 206, .inl (flatS t uu)))]) → va_S A H0 H locs → lv_has ls 2 [(0, .ref (b 0)), (1, .int (nI i))] → W p9 l e9 (eR 1 23) s9 m9 a9 b9 t9 c9 H locs 0 0 Q (F0 m9 24 ls []) := by
    intro n24
    induction n24 with
    | zero => intro i uu hm9; exact absurd hm9 (Nat.not_lt_zero _)
    | succ n24 ih24 =>
      intro i uu hm24 hi euu H locs ls hP hD hS hl
      refine lv_iload_n hx hb dX7_goEmpty_24 rfl (lv_at hl 1 rfl) ?_
      refine lv_bipush (v := 7) hx hb dX7_goEmpty_25 (by decide) ?_
      refine lv_icmp_ge (tgt := 64) hx hb dX7_goEmpty_27 (by decide) (fun c_1 => ?_) (fun c_1 => ?_)
      · have n_1 : 7 ≤ i := ej_tle (a := 7) (b := i) (by omega) (by omega) c_1
        refine lv_aload_n hx hb dX7_goEmpty_64 rfl (lv_at hl 0 rfl) ?_
        refine va_get (D := D) (ci := 7) (v := .ref (b 1)) (C := RX7) (T := TX7) (N := 17) hx hb hts iX7 hown hK hP 0 rfl rfl 0 (Nat.le_of_ble_eq_true rfl) (hts (.fieldLink RX7 7 "BentPinsModel" "s" "[I") (List.mem_of_getElem? (i := 1) rfl)) (fun _ h9 => h9) rfl dX7_goEmpty_65 ?_
        refine lv_iconst (v := 1) hx hb dX7_goEmpty_68 (by decide) ?_
        refine va_iald (i := 1) hx hb hK hP 1 0 rfl ht0 (vp_in_nI (n := 1) (N := 206) (by omega) (by omega)) dX7_goEmpty_69 ?_
        refine ej_topi (show (flatS t uu) (nI 1).toNatClampNeg = (flatS t uu) 1 from congrArg (flatS t uu) (nI_clamp (n := 1) (by omega))) ?_
        refine ej_topi (show (flatS t uu) 1 = T_le uu from rfl) ?_
        have hP := ej_row (q := 1) (a := (b 1)) (cI := cI) (n := 206) (flatS t (empU u)) hP rfl (fun j9 hj9 => by rw [euu, show i = 7 by omega]; exact empG_fl t u hj9)
        have hD := ej_rowD (q := 1) (a := (b 1)) (cI := cI) (n := 206) (flatS t (empU u)) hD rfl
        have hP : va_P D vwCl ([((b 0), .inr (7, [.ref (b 1), .ref (b 2), .ref (b 3), .int (nI kn), .ref (b 4), .int ik, .ref (b 5), .int (nI le), .int be, .int (nI sp), .int fo, .int op, .int ha, .int st, .ref (b 6), .ref (b 7), .ref (b 8)])), ((b 1), .inl (cI, 206, .inl (flatS t (empU u))))]) _ := hP
        have hD : va_D A ([((b 0), .inr (7, [.ref (b 1), .ref (b 2), .ref (b 3), .int (nI kn), .ref (b 4), .int ik, .ref (b 5), .int (nI le), .int be, .int (nI sp), .int fo, .int op, .int ha, .int st, .ref (b 6), .ref (b 7), .ref (b 8)])), ((b 1), .inl (cI, 206, .inl (flatS t (empU u))))]) := hD
        have f_u1 : (empU u) = u1 := by rw [e_u1]; skip
        have f_r1 : (T_le uu) = r1 := by rw [e_r1]; rw [euu, show i = 7 by omega]; exact empG_le u
        subst f_u1
        subst f_r1
        exact hQ _ _ _ _ (T_le uu) ([((b 0), .inr (7, [.ref (b 1), .ref (b 2), .ref (b 3), .int (nI kn), .ref (b 4), .int ik, .ref (b 5), .int (nI le), .int be, .int (nI sp), .int fo, .int op, .int ha, .int st, .ref (b 6), .ref (b 7), .ref (b 8)])), ((b 1), .inl (cI, 206, .inl (flatS t (empU u))))]) dX7_goEmpty_70 rfl rfl hP hS
      · have n_1 : i < 7 := ej_tnle (a := 7) (b := i) (by omega) (by omega) c_1
        refine lv_aload_n hx hb dX7_goEmpty_30 rfl (lv_at hl 0 rfl) ?_
        refine va_get (D := D) (ci := 7) (v := .ref (b 1)) (C := RX7) (T := TX7) (N := 17) hx hb hts iX7 hown hK hP 0 rfl rfl 0 (Nat.le_of_ble_eq_true rfl) (hts (.fieldLink RX7 7 "BentPinsModel" "s" "[I") (List.mem_of_getElem? (i := 1) rfl)) (fun _ h9 => h9) rfl dX7_goEmpty_31 ?_
        refine lv_iconst (v := 1) hx hb dX7_goEmpty_34 (by decide) ?_
        refine lv_dup2_11 hx hb dX7_goEmpty_35 rfl rfl ?_
        refine va_iald (i := 1) hx hb hK hP 1 0 rfl ht0 (vp_in_nI (n := 1) (N := 206) (by omega) (by omega)) dX7_goEmpty_36 ?_
        refine ej_topi (show (flatS t uu) (nI 1).toNatClampNeg = (flatS t uu) 1 from congrArg (flatS t uu) (nI_clamp (n := 1) (by omega))) ?_
        refine ej_topi (show (flatS t uu) 1 = T_le uu from rfl) ?_
        refine lv_aload_n hx hb dX7_goEmpty_37 rfl (lv_at hl 0 rfl) ?_
        refine lv_iload_n hx hb dX7_goEmpty_38 rfl (lv_at hl 1 rfl) ?_
        refine lv_iconst (v := 1) hx hb dX7_goEmpty_39 (by decide) ?_
        refine ej_V (As := [.int (nI i), .int 1]) (rest := [.int (T_le uu), .int 1, .ref (b 1)]) (w' := [((b 0), .inr (7, [.ref (b 1), .ref (b 2), .ref (b 3), .int (nI kn), .ref (b 4), .int ik, .ref (b 5), .int (nI le), .int be, .int (nI sp), .int fo, .int op, .int ha, .int st, .ref (b 6), .ref (b 7), .ref (b 8)])), ((b 1), .inl (cI, 206, .inl (flatS t uu)))]) S hK hN hA hP hD hS (c_X7_inPocket l D tys cI ht0 b kn le sp ik be fo op ha st (flatS t uu) i 1 (by omega) (by omega)) (cwV 2 hts gX7_goEmpty_X7_inPocket rfl rfl rfl hdv_X7_inPocket ⟨Nat.le_of_ble_eq_true rfl, Nat.le_of_ble_eq_true rfl⟩) [0, 1] [some 0, some 1] [(b 0), (b 1)] rfl (by decide +kernel) ⟨rfl, rfl⟩ rfl (by decide +kernel) 0 7 rfl rfl rfl rfl hl.1 (Nat.le_of_ble_eq_true rfl) dX7_goEmpty_40 ⟨Nat.zero_le _, Nat.zero_le _⟩ (fun H locs hP hD hS => ?_)
        show W p9 l e9 (eR 1 23) s9 m9 a9 b9 t9 c9 H locs 0 0 Q (F0 m9 43 ls (.int ((flatS t uu) (185 + 3 * i + 1)) :: [.int (T_le uu), .int 1, .ref (b 1)]))
        refine ej_topi (show ((flatS t uu) (185 + 3 * i + 1)) = T_he uu i from flP_1 t uu i) ?_
        refine lv_iadd hx hb dX7_goEmpty_43 ?_
        refine va_iast (i := 1) hx hb hK hP hD hS 1 0 rfl ht0 (vp_in_nI (n := 1) (N := 206) (by omega) (by omega)) dX7_goEmpty_44 (fun H locs hP hD hS => ?_)
        rw [show (1 : Int32).toNatClampNeg = 1 from by decide] at hP hD
        have hP := ej_row (q := 1) (a := (b 1)) (cI := cI) (n := 206) (flatS t (T_wo uu, T_he uu, T_en uu, T_fu uu, (T_le uu) + (T_he uu i), T_lo uu, T_po uu, T_sh uu, T_ha uu, T_re uu)) hP rfl (fun j9 _ => congrFun (flC_1 t uu ((T_le uu) + (T_he uu i))) j9)
        have hD := ej_rowD (q := 1) (a := (b 1)) (cI := cI) (n := 206) (flatS t (T_wo uu, T_he uu, T_en uu, T_fu uu, (T_le uu) + (T_he uu i), T_lo uu, T_po uu, T_sh uu, T_ha uu, T_re uu)) hD rfl
        have hP : va_P D vwCl ([((b 0), .inr (7, [.ref (b 1), .ref (b 2), .ref (b 3), .int (nI kn), .ref (b 4), .int ik, .ref (b 5), .int (nI le), .int be, .int (nI sp), .int fo, .int op, .int ha, .int st, .ref (b 6), .ref (b 7), .ref (b 8)])), ((b 1), .inl (cI, 206, .inl (flatS t (T_wo uu, T_he uu, T_en uu, T_fu uu, (T_le uu) + (T_he uu i), T_lo uu, T_po uu, T_sh uu, T_ha uu, T_re uu))))]) _ := hP
        have hD : va_D A ([((b 0), .inr (7, [.ref (b 1), .ref (b 2), .ref (b 3), .int (nI kn), .ref (b 4), .int ik, .ref (b 5), .int (nI le), .int be, .int (nI sp), .int fo, .int op, .int ha, .int st, .ref (b 6), .ref (b 7), .ref (b 8)])), ((b 1), .inl (cI, 206, .inl (flatS t (T_wo uu, T_he uu, T_en uu, T_fu uu, (T_le uu) + (T_he uu i), T_lo uu, T_po uu, T_sh uu, T_ha uu, T_re uu))))]) := hD
        have hP : va_P D vwCl ([((b 0), .inr (7, [.ref (b 1), .ref (b 2), .ref (b 3), .int (nI kn), .ref (b 4), .int ik, .ref (b 5), .int (nI le), .int be, .int (nI sp), .int fo, .int op, .int ha, .int st, .ref (b 6), .ref (b 7), .ref (b 8)])), ((b 1), .inl (cI, 206, .inl (flatS t (T_wo uu, T_he uu, T_en uu, T_fu uu, (T_le uu) + (T_he uu i), T_lo uu, T_po uu, T_sh uu, T_ha uu, T_re uu))))]) H := hP
        have hD : va_D A ([((b 0), .inr (7, [.ref (b 1), .ref (b 2), .ref (b 3), .int (nI kn), .ref (b 4), .int ik, .ref (b 5), .int (nI le), .int be, .int (nI sp), .int fo, .int op, .int ha, .int st, .ref (b 6), .ref (b 7), .ref (b 8)])), ((b 1), .inl (cI, 206, .inl (flatS t (T_wo uu, T_he uu, T_en uu, T_fu uu, (T_le uu) + (T_he uu i), T_lo uu, T_po uu, T_sh uu, T_ha uu, T_re uu))))]) := hD
        refine lv_aload_n hx hb dX7_goEmpty_45 rfl (lv_at hl 0 rfl) ?_
        refine lv_iload_n hx hb dX7_goEmpty_46 rfl (lv_at hl 1 rfl) ?_
        refine lv_iconst (v := 1) hx hb dX7_goEmpty_47 (by decide) ?_
        refine lv_aload_n hx hb dX7_goEmpty_48 rfl (lv_at hl 0 rfl) ?_
        refine lv_iload_n hx hb dX7_goEmpty_49 rfl (lv_at hl 1 rfl) ?_
        refine lv_iconst (v := 1) hx hb dX7_goEmpty_50 (by decide) ?_
        refine ej_V (As := [.int (nI i), .int 1]) (rest := [.int 1, .int (nI i), .ref (b 0)]) (w' := [((b 0), .inr (7, [.ref (b 1), .ref (b 2), .ref (b 3), .int (nI kn), .ref (b 4), .int ik, .ref (b 5), .int (nI le), .int be, .int (nI sp), .int fo, .int op, .int ha, .int st, .ref (b 6), .ref (b 7), .ref (b 8)])), ((b 1), .inl (cI, 206, .inl (flatS t (T_wo uu, T_he uu, T_en uu, T_fu uu, (T_le uu) + (T_he uu i), T_lo uu, T_po uu, T_sh uu, T_ha uu, T_re uu))))]) S hK hN hA hP hD hS (c_X7_inPocket l D tys cI ht0 b kn le sp ik be fo op ha st (flatS t (T_wo uu, T_he uu, T_en uu, T_fu uu, (T_le uu) + (T_he uu i), T_lo uu, T_po uu, T_sh uu, T_ha uu, T_re uu)) i 1 (by omega) (by omega)) (cwV 2 hts gX7_goEmpty_X7_inPocket rfl rfl rfl hdv_X7_inPocket ⟨Nat.le_of_ble_eq_true rfl, Nat.le_of_ble_eq_true rfl⟩) [0, 1] [some 0, some 1] [(b 0), (b 1)] rfl (by decide +kernel) ⟨rfl, rfl⟩ rfl (by decide +kernel) 0 7 rfl rfl rfl rfl hl.1 (Nat.le_of_ble_eq_true rfl) dX7_goEmpty_51 ⟨Nat.zero_le _, Nat.zero_le _⟩ (fun H locs hP hD hS => ?_)
        show W p9 l e9 (eR 1 23) s9 m9 a9 b9 t9 c9 H locs 0 0 Q (F0 m9 54 ls (.int ((flatS t (T_wo uu, T_he uu, T_en uu, T_fu uu, (T_le uu) + (T_he uu i), T_lo uu, T_po uu, T_sh uu, T_ha uu, T_re uu)) (185 + 3 * i + 1)) :: [.int 1, .int (nI i), .ref (b 0)]))
        refine ej_topi (show ((flatS t (T_wo uu, T_he uu, T_en uu, T_fu uu, (T_le uu) + (T_he uu i), T_lo uu, T_po uu, T_sh uu, T_ha uu, T_re uu)) (185 + 3 * i + 1)) = (T_he uu) i from flP_1 t (T_wo uu, T_he uu, T_en uu, T_fu uu, (T_le uu) + (T_he uu i), T_lo uu, T_po uu, T_sh uu, T_ha uu, T_re uu) i) ?_
        refine lv_ineg hx hb dX7_goEmpty_54 ?_
        refine ej_V (As := [.int (nI i), .int 1, .int (-((T_he uu) i))]) (rest := []) (w' := [((b 0), .inr (7, [.ref (b 1), .ref (b 2), .ref (b 3), .int (nI kn), .ref (b 4), .int ik, .ref (b 5), .int (nI le), .int be, .int (nI sp), .int fo, .int op, .int ha, .int st, .ref (b 6), .ref (b 7), .ref (b 8)])), ((b 1), .inl (cI, 206, .inl (upd (flatS t (T_wo uu, T_he uu, T_en uu, T_fu uu, (T_le uu) + (T_he uu i), T_lo uu, T_po uu, T_sh uu, T_ha uu, T_re uu)) (185 + 3 * i + 1) ((flatS t (T_wo uu, T_he uu, T_en uu, T_fu uu, (T_le uu) + (T_he uu i), T_lo uu, T_po uu, T_sh uu, T_ha uu, T_re uu)) (185 + 3 * i + 1) + (-((T_he uu) i))))))]) S hK hN hA hP hD hS (c_X7_adds l D tys cI ht0 b kn le sp ik be fo op ha st (flatS t (T_wo uu, T_he uu, T_en uu, T_fu uu, (T_le uu) + (T_he uu i), T_lo uu, T_po uu, T_sh uu, T_ha uu, T_re uu)) i 1 (-((T_he uu) i)) (by omega) (by omega)) (cwV 3 hts gX7_goEmpty_X7_adds rfl rfl rfl hdv_X7_adds ⟨Nat.le_of_ble_eq_true rfl, Nat.le_of_ble_eq_true rfl⟩) [0, 1] [some 0, some 1] [(b 0), (b 1)] rfl (by decide +kernel) ⟨rfl, rfl⟩ rfl (by decide +kernel) 0 7 rfl rfl rfl rfl hl.1 (Nat.le_of_ble_eq_true rfl) dX7_goEmpty_55 ⟨Nat.zero_le _, Nat.zero_le _⟩ (fun H locs hP hD hS => ?_)
        show W p9 l e9 (eR 1 23) s9 m9 a9 b9 t9 c9 H locs 0 0 Q (F0 m9 58 ls [])
        have hP := ej_row (q := 1) (a := (b 1)) (cI := cI) (n := 206) (flatS t (T_wo uu, upd (T_he uu) i ((T_he uu) i + (-((T_he uu) i))), T_en uu, T_fu uu, (T_le uu) + (T_he uu i), T_lo uu, T_po uu, T_sh uu, T_ha uu, T_re uu)) hP rfl (fun j9 _ => congrFun (flA_1 t (T_wo uu, T_he uu, T_en uu, T_fu uu, (T_le uu) + (T_he uu i), T_lo uu, T_po uu, T_sh uu, T_ha uu, T_re uu) i (-((T_he uu) i))) j9)
        have hD := ej_rowD (q := 1) (a := (b 1)) (cI := cI) (n := 206) (flatS t (T_wo uu, upd (T_he uu) i ((T_he uu) i + (-((T_he uu) i))), T_en uu, T_fu uu, (T_le uu) + (T_he uu i), T_lo uu, T_po uu, T_sh uu, T_ha uu, T_re uu)) hD rfl
        have hP : va_P D vwCl ([((b 0), .inr (7, [.ref (b 1), .ref (b 2), .ref (b 3), .int (nI kn), .ref (b 4), .int ik, .ref (b 5), .int (nI le), .int be, .int (nI sp), .int fo, .int op, .int ha, .int st, .ref (b 6), .ref (b 7), .ref (b 8)])), ((b 1), .inl (cI, 206, .inl (flatS t (T_wo uu, upd (T_he uu) i ((T_he uu) i + (-((T_he uu) i))), T_en uu, T_fu uu, (T_le uu) + (T_he uu i), T_lo uu, T_po uu, T_sh uu, T_ha uu, T_re uu))))]) _ := hP
        have hD : va_D A ([((b 0), .inr (7, [.ref (b 1), .ref (b 2), .ref (b 3), .int (nI kn), .ref (b 4), .int ik, .ref (b 5), .int (nI le), .int be, .int (nI sp), .int fo, .int op, .int ha, .int st, .ref (b 6), .ref (b 7), .ref (b 8)])), ((b 1), .inl (cI, 206, .inl (flatS t (T_wo uu, upd (T_he uu) i ((T_he uu) i + (-((T_he uu) i))), T_en uu, T_fu uu, (T_le uu) + (T_he uu i), T_lo uu, T_po uu, T_sh uu, T_ha uu, T_re uu))))]) := hD
        refine lv_iinc (v := nI (i + 1)) (lv' := [(1, .int (nI (i + 1))), (0, .ref (b 0))]) hx hb dX7_goEmpty_58 hl (k := 1) rfl (nI_add i 1) (by decide) rfl (fun ls hl => ?_)
        refine lv_goto (tgt := 24) hx hb dX7_goEmpty_61 (by decide) ?_
        exact ih24  (i + 1) (T_wo uu, upd (T_he uu) i ((T_he uu) i + (-((T_he uu) i))), T_en uu, T_fu uu, (T_le uu) + (T_he uu i), T_lo uu, T_po uu, T_sh uu, T_ha uu, T_re uu) (by omega) (by omega) (by rw [euu]; rfl) _ _ _ hP hD hS (lv_sub hl [1, 0] rfl)
  exact lp24 ((7 - 0) + 1) 0 (T_wo u, T_he u, T_en u, T_fu u, (T_le u) + (T_lo u), 0, T_po u, T_sh u, T_ha u, T_re u) (by omega) (by omega) rfl _ _ _ hP hD hS (lv_sub hl [1, 0] rfl)
