set_option maxHeartbeats 4000000 in
set_option maxRecDepth 100000 in
theorem c_X7_records (l : Launch) (D : va_G) (tys : eT) (cI : ClassId) (ht0 : tys[0]? = some (cI, .int)) (b : Nat → Nat) (kn le sp : Nat) (ik be fo op ha st : Int32) (t : Pn) (u : Tr) (ps : Nat → Pn × Tr) (k1 : Nat) (e_k1 : k1 = recN kn) (ps1 : Nat → Pn × Tr) (e_ps1 : ps1 = recS ps kn (t, u)) (hkn : kn ≤ 4) : fc l D tys yX7_records wsX7_records (eR 1 24) [.ref (b 0)] ([((b 0), .inr (7, [.ref (b 1), .ref (b 2), .ref (b 3), .int (nI kn), .ref (b 4), .int ik, .ref (b 5), .int (nI le), .int be, .int (nI sp), .int fo, .int op, .int ha, .int st, .ref (b 6), .ref (b 7), .ref (b 8)])), ((b 1), .inl (cI, 206, .inl (flatS t u))), ((b 3), .inl (cI, 824, .inl (pastF ps)))]) none ([((b 0), .inr (7, [.ref (b 1), .ref (b 2), .ref (b 3), .int (nI k1), .ref (b 4), .int ik, .ref (b 5), .int (nI le), .int be, .int (nI sp), .int fo, .int op, .int ha, .int st, .ref (b 6), .ref (b 7), .ref (b 8)])), ((b 1), .inl (cI, 206, .inl (flatS t u))), ((b 3), .inl (cI, 824, .inl (pastF ps1)))]) := by
  refine fc_void cX7_records 2 (by decide +kernel) rfl (Nat.le_of_ble_eq_true rfl) ?_
  intro p9 e9 s9 m9 a9 b9 t9 c9 H0 A Q ls S hK hN hA hP hD hS hl hQ
  have S : CallFix p9 m9 c9 cX7_records 2 s9 a9 wsX7_records RX7 := S
  obtain ⟨hx, hb, hml, hown, hts⟩ := id S
  have iX7 : ∀ w ∈ wsX70, w ∈ wsX7_records := fun w h => List.mem_cons_of_mem _ (List.mem_append_right _ (h))
  have hP : va_P D vwCl ([((b 0), .inr (7, [.ref (b 1), .ref (b 2), .ref (b 3), .int (nI kn), .ref (b 4), .int ik, .ref (b 5), .int (nI le), .int be, .int (nI sp), .int fo, .int op, .int ha, .int st, .ref (b 6), .ref (b 7), .ref (b 8)])), ((b 1), .inl (cI, 206, .inl (flatS t u))), ((b 3), .inl (cI, 824, .inl (pastF ps)))]) H0 := hP
  have hD : va_D A ([((b 0), .inr (7, [.ref (b 1), .ref (b 2), .ref (b 3), .int (nI kn), .ref (b 4), .int ik, .ref (b 5), .int (nI le), .int be, .int (nI sp), .int fo, .int op, .int ha, .int st, .ref (b 6), .ref (b 7), .ref (b 8)])), ((b 1), .inl (cI, 206, .inl (flatS t u))), ((b 3), .inl (cI, 824, .inl (pastF ps)))]) := hD
  have hl : lv_has ls 2 [(0, .ref (b 0))] := hl
  refine lv_aload_n hx hb dX7_records_0 rfl (lv_at hl 0 rfl) ?_
  refine va_get (D := D) (ci := 7) (v := .int (nI kn)) (C := RX7) (T := TX7) (N := 17) hx hb hts iX7 hown hK hP 0 rfl rfl 3 (Nat.le_of_ble_eq_true rfl) (hts (.fieldLink RX7 34 "BentPinsModel" "known" "I") (List.mem_of_getElem? (i := 1) rfl)) (fun _ h9 => h9) rfl dX7_records_1 ?_
  refine lv_iconst (v := 4) hx hb dX7_records_4 (by decide) ?_
  refine lv_icmp_ne (tgt := 49) hx hb dX7_records_5 (by decide) (fun c_1 => ?_) (fun c_1 => ?_)
  · have n_1 : kn ≠ 4 := ej_tne (a := kn) (b := 4) (by omega) (by omega) c_1
    refine lv_aload_n hx hb dX7_records_49 rfl (lv_at hl 0 rfl) ?_
    refine va_get (D := D) (ci := 7) (v := .ref (b 1)) (C := RX7) (T := TX7) (N := 17) hx hb hts iX7 hown hK hP 0 rfl rfl 0 (Nat.le_of_ble_eq_true rfl) (hts (.fieldLink RX7 7 "BentPinsModel" "s" "[I") (List.mem_of_getElem? (i := 3) rfl)) (fun _ h9 => h9) rfl dX7_records_50 ?_
    refine lv_iconst (v := 0) hx hb dX7_records_53 (by decide) ?_
    refine lv_aload_n hx hb dX7_records_54 rfl (lv_at hl 0 rfl) ?_
    refine va_get (D := D) (ci := 7) (v := .ref (b 3)) (C := RX7) (T := TX7) (N := 17) hx hb hts iX7 hown hK hP 0 rfl rfl 2 (Nat.le_of_ble_eq_true rfl) (hts (.fieldLink RX7 16 "BentPinsModel" "past" "[I") (List.mem_of_getElem? (i := 2) rfl)) (fun _ h9 => h9) rfl dX7_records_55 ?_
    refine lv_sipush (v := 206) hx hb dX7_records_58 (by decide) ?_
    refine lv_aload_n hx hb dX7_records_61 rfl (lv_at hl 0 rfl) ?_
    refine va_get (D := D) (ci := 7) (v := .int (nI kn)) (C := RX7) (T := TX7) (N := 17) hx hb hts iX7 hown hK hP 0 rfl rfl 3 (Nat.le_of_ble_eq_true rfl) (hts (.fieldLink RX7 34 "BentPinsModel" "known" "I") (List.mem_of_getElem? (i := 1) rfl)) (fun _ h9 => h9) rfl dX7_records_62 ?_
    refine lv_imul hx hb dX7_records_65 ?_
    refine ej_topi (show 206 * (nI kn) = nI (206 * kn) from pk_mul 206 kn) ?_
    refine ej_S (As := [.ref (b 1), .int 0, .ref (b 3), .int (nI (206 * kn))]) (rest := []) (w' := [((b 0), .inr (7, [.ref (b 1), .ref (b 2), .ref (b 3), .int (nI kn), .ref (b 4), .int ik, .ref (b 5), .int (nI le), .int be, .int (nI sp), .int fo, .int op, .int ha, .int st, .ref (b 6), .ref (b 7), .ref (b 8)])), ((b 1), .inl (cI, 206, .inl (flatS t u))), ((b 3), .inl (cI, 824, .inl (cpyG (flatS t u) (pastF ps) 0 (206 * kn) 206)))]) S hK hN hA hP hD hS (c_X7_copies l D tys cI ht0 (b 1) (b 3) 206 824 (flatS t u) (pastF ps) 0 (206 * kn) (by omega) (by omega) (by omega) (by omega)) (va_cwS 4 hts gX7_records_X7_copies rfl rfl rfl hds_X7_copies ⟨Nat.le_of_ble_eq_true rfl, Nat.le_of_ble_eq_true rfl⟩) [1, 2] [none, some 0, some 1] [(b 1), (b 3)] rfl (by decide +kernel) ⟨rfl, rfl⟩ rfl (by decide +kernel) rfl rfl hl.1 (Nat.le_of_ble_eq_true rfl) dX7_records_66 ⟨Nat.zero_le _, Nat.zero_le _⟩ (fun H locs hP hD hS => ?_)
    show W p9 l e9 (eR 1 24) s9 m9 a9 b9 t9 c9 H locs 0 0 Q (F0 m9 69 ls [])
    have hP := ej_row (q := 2) (a := (b 3)) (cI := cI) (n := 824) (pastF (recS ps kn (t, u))) hP rfl (fun j9 _ => rec_B n_1)
    have hD := ej_rowD (q := 2) (a := (b 3)) (cI := cI) (n := 824) (pastF (recS ps kn (t, u))) hD rfl
    have hP : va_P D vwCl ([((b 0), .inr (7, [.ref (b 1), .ref (b 2), .ref (b 3), .int (nI kn), .ref (b 4), .int ik, .ref (b 5), .int (nI le), .int be, .int (nI sp), .int fo, .int op, .int ha, .int st, .ref (b 6), .ref (b 7), .ref (b 8)])), ((b 1), .inl (cI, 206, .inl (flatS t u))), ((b 3), .inl (cI, 824, .inl (pastF (recS ps kn (t, u)))))]) _ := hP
    have hD : va_D A ([((b 0), .inr (7, [.ref (b 1), .ref (b 2), .ref (b 3), .int (nI kn), .ref (b 4), .int ik, .ref (b 5), .int (nI le), .int be, .int (nI sp), .int fo, .int op, .int ha, .int st, .ref (b 6), .ref (b 7), .ref (b 8)])), ((b 1), .inl (cI, 206, .inl (flatS t u))), ((b 3), .inl (cI, 824, .inl (pastF (recS ps kn (t, u)))))]) := hD
    refine lv_aload_n hx hb dX7_records_69 rfl (lv_at hl 0 rfl) ?_
    refine lv_dup hx hb dX7_records_70 rfl ?_
    refine va_get (D := D) (ci := 7) (v := .int (nI kn)) (C := RX7) (T := TX7) (N := 17) hx hb hts iX7 hown hK hP 0 rfl rfl 3 (Nat.le_of_ble_eq_true rfl) (hts (.fieldLink RX7 34 "BentPinsModel" "known" "I") (List.mem_of_getElem? (i := 1) rfl)) (fun _ h9 => h9) rfl dX7_records_71 ?_
    refine lv_iconst (v := 1) hx hb dX7_records_74 (by decide) ?_
    refine lv_iadd hx hb dX7_records_75 ?_
    refine ej_topi (show (nI kn) + 1 = nI (kn + 1) from nI_add kn 1) ?_
    refine va_put (D := D) (ci := 7) (v := .int (nI (kn + 1))) (ty := .int) (C := RX7) (T := TX7) (N := 17) hx hb hts iX7 tyX7 tyX7_ok nmX7 hown hK hP hD hS 0 rfl rfl 3 (Nat.le_of_ble_eq_true rfl) (hts (.fieldLink RX7 34 "BentPinsModel" "known" "I") (List.mem_of_getElem? (i := 1) rfl)) (fun _ h9 => h9) rfl (by decide +kernel) rfl rfl (Nat.le_of_ble_eq_true rfl) dX7_records_76 (fun H locs hP hD hS => ?_)
    have hP : va_P D vwCl ([((b 0), .inr (7, [.ref (b 1), .ref (b 2), .ref (b 3), .int (nI (kn + 1)), .ref (b 4), .int ik, .ref (b 5), .int (nI le), .int be, .int (nI sp), .int fo, .int op, .int ha, .int st, .ref (b 6), .ref (b 7), .ref (b 8)])), ((b 1), .inl (cI, 206, .inl (flatS t u))), ((b 3), .inl (cI, 824, .inl (pastF (recS ps kn (t, u)))))]) H := hP
    have hD : va_D A ([((b 0), .inr (7, [.ref (b 1), .ref (b 2), .ref (b 3), .int (nI (kn + 1)), .ref (b 4), .int ik, .ref (b 5), .int (nI le), .int be, .int (nI sp), .int fo, .int op, .int ha, .int st, .ref (b 6), .ref (b 7), .ref (b 8)])), ((b 1), .inl (cI, 206, .inl (flatS t u))), ((b 3), .inl (cI, 824, .inl (pastF (recS ps kn (t, u)))))]) := hD
    have f_k1 : (kn + 1) = k1 := by rw [e_k1]; unfold recN; split <;> omega
    have f_ps1 : (recS ps kn (t, u)) = ps1 := by rw [e_ps1]; skip
    subst f_k1
    subst f_ps1
    exact hQ _ _ _ _ ([((b 0), .inr (7, [.ref (b 1), .ref (b 2), .ref (b 3), .int (nI (kn + 1)), .ref (b 4), .int ik, .ref (b 5), .int (nI le), .int be, .int (nI sp), .int fo, .int op, .int ha, .int st, .ref (b 6), .ref (b 7), .ref (b 8)])), ((b 1), .inl (cI, 206, .inl (flatS t u))), ((b 3), .inl (cI, 824, .inl (pastF (recS ps kn (t, u)))))]) dX7_records_79 rfl hP hS
  · have n_1 : kn = 4 := ej_teq (a := kn) (b := 4) (by omega) (by omega) c_1
    refine lv_iconst (v := 0) hx hb dX7_records_8 (by decide) ?_
    refine lv_istore_n (lv' := [(1, .int 0), (0, .ref (b 0))]) hx hb dX7_records_9 rfl hl (by decide) rfl (fun ls hl => ?_)
    have lp10 : ∀ (n10 : Nat) (i : Nat) (w : Nat → Int32), 618 - i < n10 → (i ≤ 618) → (w = shiG (pastF ps) i) → ∀ (H : Heap) (locs : List Loc) (ls : Array Slot), va_P D vwCl ([((b 0), .inr (7, [.ref (b 1), .ref (b 2), .ref (b 3), .int (nI kn), .ref (b 4), .int ik, .ref (b 5), .int (nI le), .int be, .int (nI sp), .int fo, .int op, .int ha, .int st, .ref (b 6), .ref (b 7), .ref (b 8)])), ((b 1), .inl (cI, 206, .inl (flatS t u))), ((b 3), .inl (cI, 824, .inl w))]) H → va_D A ([((b 0), .inr (7, [.ref (b 1), .ref (b 2), .ref (b 3), .int (nI kn), .ref (b 4), .int ik, .ref (b 5), .int (nI le), .int be, .int (nI sp), .int fo, .int op, .int ha, .int st, .ref (b 6), .ref (b 7), .ref (b 8)])), ((b 1), .inl (cI, 206, .inl (flatS t u))), ((b 3), .inl (cI, 824, .inl w))]) → va_S A H0 H locs → lv_has ls 2 [(0, .ref (b 0)), (1, .int (nI i))] → W p9 l e9 (eR 1 24) s9 m9 a9 b9 t9 c9 H locs 0 0 Q (F0 m9 10 ls []) := by
      intro n10
      induction n10 with
      | zero => intro i w hm9; exact absurd hm9 (Nat.not_lt_zero _)
      | succ n10 ih10 =>
        intro i w hm10 hi ew H locs ls hP hD hS hl
        refine lv_iload_n hx hb dX7_records_10 rfl (lv_at hl 1 rfl) ?_
        refine lv_sipush (v := 618) hx hb dX7_records_11 (by decide) ?_
        refine lv_icmp_ge (tgt := 39) hx hb dX7_records_14 (by decide) (fun c_2 => ?_) (fun c_2 => ?_)
        · have n_2 : 618 ≤ i := ej_tle (a := 618) (b := i) (by omega) (by omega) c_2
          refine lv_aload_n hx hb dX7_records_39 rfl (lv_at hl 0 rfl) ?_
          refine lv_dup hx hb dX7_records_40 rfl ?_
          refine va_get (D := D) (ci := 7) (v := .int (nI kn)) (C := RX7) (T := TX7) (N := 17) hx hb hts iX7 hown hK hP 0 rfl rfl 3 (Nat.le_of_ble_eq_true rfl) (hts (.fieldLink RX7 34 "BentPinsModel" "known" "I") (List.mem_of_getElem? (i := 1) rfl)) (fun _ h9 => h9) rfl dX7_records_41 ?_
          refine lv_iconst (v := 1) hx hb dX7_records_44 (by decide) ?_
          refine lv_isub hx hb dX7_records_45 ?_
          refine ej_topi (show ((nI kn) - 1) = nI 3 from by rw [n_1]; rfl) ?_
          refine va_put (D := D) (ci := 7) (v := .int (nI 3)) (ty := .int) (C := RX7) (T := TX7) (N := 17) hx hb hts iX7 tyX7 tyX7_ok nmX7 hown hK hP hD hS 0 rfl rfl 3 (Nat.le_of_ble_eq_true rfl) (hts (.fieldLink RX7 34 "BentPinsModel" "known" "I") (List.mem_of_getElem? (i := 1) rfl)) (fun _ h9 => h9) rfl (by decide +kernel) rfl rfl (Nat.le_of_ble_eq_true rfl) dX7_records_46 (fun H locs hP hD hS => ?_)
          have hP : va_P D vwCl ([((b 0), .inr (7, [.ref (b 1), .ref (b 2), .ref (b 3), .int (nI 3), .ref (b 4), .int ik, .ref (b 5), .int (nI le), .int be, .int (nI sp), .int fo, .int op, .int ha, .int st, .ref (b 6), .ref (b 7), .ref (b 8)])), ((b 1), .inl (cI, 206, .inl (flatS t u))), ((b 3), .inl (cI, 824, .inl w))]) H := hP
          have hD : va_D A ([((b 0), .inr (7, [.ref (b 1), .ref (b 2), .ref (b 3), .int (nI 3), .ref (b 4), .int ik, .ref (b 5), .int (nI le), .int be, .int (nI sp), .int fo, .int op, .int ha, .int st, .ref (b 6), .ref (b 7), .ref (b 8)])), ((b 1), .inl (cI, 206, .inl (flatS t u))), ((b 3), .inl (cI, 824, .inl w))]) := hD
          refine lv_aload_n hx hb dX7_records_49 rfl (lv_at hl 0 rfl) ?_
          refine va_get (D := D) (ci := 7) (v := .ref (b 1)) (C := RX7) (T := TX7) (N := 17) hx hb hts iX7 hown hK hP 0 rfl rfl 0 (Nat.le_of_ble_eq_true rfl) (hts (.fieldLink RX7 7 "BentPinsModel" "s" "[I") (List.mem_of_getElem? (i := 3) rfl)) (fun _ h9 => h9) rfl dX7_records_50 ?_
          refine lv_iconst (v := 0) hx hb dX7_records_53 (by decide) ?_
          refine lv_aload_n hx hb dX7_records_54 rfl (lv_at hl 0 rfl) ?_
          refine va_get (D := D) (ci := 7) (v := .ref (b 3)) (C := RX7) (T := TX7) (N := 17) hx hb hts iX7 hown hK hP 0 rfl rfl 2 (Nat.le_of_ble_eq_true rfl) (hts (.fieldLink RX7 16 "BentPinsModel" "past" "[I") (List.mem_of_getElem? (i := 2) rfl)) (fun _ h9 => h9) rfl dX7_records_55 ?_
          refine lv_sipush (v := 206) hx hb dX7_records_58 (by decide) ?_
          refine lv_aload_n hx hb dX7_records_61 rfl (lv_at hl 0 rfl) ?_
          refine va_get (D := D) (ci := 7) (v := .int (nI 3)) (C := RX7) (T := TX7) (N := 17) hx hb hts iX7 hown hK hP 0 rfl rfl 3 (Nat.le_of_ble_eq_true rfl) (hts (.fieldLink RX7 34 "BentPinsModel" "known" "I") (List.mem_of_getElem? (i := 1) rfl)) (fun _ h9 => h9) rfl dX7_records_62 ?_
          refine lv_imul hx hb dX7_records_65 ?_
          refine ej_topi (show 206 * (nI 3) = nI (206 * 3) from pk_mul 206 3) ?_
          refine ej_S (As := [.ref (b 1), .int 0, .ref (b 3), .int (nI (206 * 3))]) (rest := []) (w' := [((b 0), .inr (7, [.ref (b 1), .ref (b 2), .ref (b 3), .int (nI 3), .ref (b 4), .int ik, .ref (b 5), .int (nI le), .int be, .int (nI sp), .int fo, .int op, .int ha, .int st, .ref (b 6), .ref (b 7), .ref (b 8)])), ((b 1), .inl (cI, 206, .inl (flatS t u))), ((b 3), .inl (cI, 824, .inl (cpyG (flatS t u) w 0 (206 * 3) 206)))]) S hK hN hA hP hD hS (c_X7_copies l D tys cI ht0 (b 1) (b 3) 206 824 (flatS t u) w 0 (206 * 3) (by omega) (by omega) (by omega) (by omega)) (va_cwS 4 hts gX7_records_X7_copies rfl rfl rfl hds_X7_copies ⟨Nat.le_of_ble_eq_true rfl, Nat.le_of_ble_eq_true rfl⟩) [1, 2] [none, some 0, some 1] [(b 1), (b 3)] rfl (by decide +kernel) ⟨rfl, rfl⟩ rfl (by decide +kernel) rfl rfl hl.1 (Nat.le_of_ble_eq_true rfl) dX7_records_66 ⟨Nat.zero_le _, Nat.zero_le _⟩ (fun H locs hP hD hS => ?_)
          show W p9 l e9 (eR 1 24) s9 m9 a9 b9 t9 c9 H locs 0 0 Q (F0 m9 69 ls [])
          have hP := ej_row (q := 2) (a := (b 3)) (cI := cI) (n := 824) (pastF (recS ps kn (t, u))) hP rfl (fun j9 hj9 => by rw [ew, show i = 618 by omega]; exact rec_A n_1 hj9)
          have hD := ej_rowD (q := 2) (a := (b 3)) (cI := cI) (n := 824) (pastF (recS ps kn (t, u))) hD rfl
          have hP : va_P D vwCl ([((b 0), .inr (7, [.ref (b 1), .ref (b 2), .ref (b 3), .int (nI 3), .ref (b 4), .int ik, .ref (b 5), .int (nI le), .int be, .int (nI sp), .int fo, .int op, .int ha, .int st, .ref (b 6), .ref (b 7), .ref (b 8)])), ((b 1), .inl (cI, 206, .inl (flatS t u))), ((b 3), .inl (cI, 824, .inl (pastF (recS ps kn (t, u)))))]) _ := hP
          have hD : va_D A ([((b 0), .inr (7, [.ref (b 1), .ref (b 2), .ref (b 3), .int (nI 3), .ref (b 4), .int ik, .ref (b 5), .int (nI le), .int be, .int (nI sp), .int fo, .int op, .int ha, .int st, .ref (b 6), .ref (b 7), .ref (b 8)])), ((b 1), .inl (cI, 206, .inl (flatS t u))), ((b 3), .inl (cI, 824, .inl (pastF (recS ps kn (t, u)))))]) := hD
          refine lv_aload_n hx hb dX7_records_69 rfl (lv_at hl 0 rfl) ?_
          refine lv_dup hx hb dX7_records_70 rfl ?_
          refine va_get (D := D) (ci := 7) (v := .int (nI 3)) (C := RX7) (T := TX7) (N := 17) hx hb hts iX7 hown hK hP 0 rfl rfl 3 (Nat.le_of_ble_eq_true rfl) (hts (.fieldLink RX7 34 "BentPinsModel" "known" "I") (List.mem_of_getElem? (i := 1) rfl)) (fun _ h9 => h9) rfl dX7_records_71 ?_
          refine lv_iconst (v := 1) hx hb dX7_records_74 (by decide) ?_
          refine lv_iadd hx hb dX7_records_75 ?_
          refine ej_topi (show (nI 3) + 1 = nI (3 + 1) from nI_add 3 1) ?_
          refine va_put (D := D) (ci := 7) (v := .int (nI (3 + 1))) (ty := .int) (C := RX7) (T := TX7) (N := 17) hx hb hts iX7 tyX7 tyX7_ok nmX7 hown hK hP hD hS 0 rfl rfl 3 (Nat.le_of_ble_eq_true rfl) (hts (.fieldLink RX7 34 "BentPinsModel" "known" "I") (List.mem_of_getElem? (i := 1) rfl)) (fun _ h9 => h9) rfl (by decide +kernel) rfl rfl (Nat.le_of_ble_eq_true rfl) dX7_records_76 (fun H locs hP hD hS => ?_)
          have hP : va_P D vwCl ([((b 0), .inr (7, [.ref (b 1), .ref (b 2), .ref (b 3), .int (nI (3 + 1)), .ref (b 4), .int ik, .ref (b 5), .int (nI le), .int be, .int (nI sp), .int fo, .int op, .int ha, .int st, .ref (b 6), .ref (b 7), .ref (b 8)])), ((b 1), .inl (cI, 206, .inl (flatS t u))), ((b 3), .inl (cI, 824, .inl (pastF (recS ps kn (t, u)))))]) H := hP
          have hD : va_D A ([((b 0), .inr (7, [.ref (b 1), .ref (b 2), .ref (b 3), .int (nI (3 + 1)), .ref (b 4), .int ik, .ref (b 5), .int (nI le), .int be, .int (nI sp), .int fo, .int op, .int ha, .int st, .ref (b 6), .ref (b 7), .ref (b 8)])), ((b 1), .inl (cI, 206, .inl (flatS t u))), ((b 3), .inl (cI, 824, .inl (pastF (recS ps kn (t, u)))))]) := hD
          have f_k1 : (3 + 1) = k1 := by rw [e_k1]; unfold recN; split <;> omega
          have f_ps1 : (recS ps kn (t, u)) = ps1 := by rw [e_ps1]; skip
          subst f_k1
          subst f_ps1
          exact hQ _ _ _ _ ([((b 0), .inr (7, [.ref (b 1), .ref (b 2), .ref (b 3), .int (nI (3 + 1)), .ref (b 4), .int ik, .ref (b 5), .int (nI le), .int be, .int (nI sp), .int fo, .int op, .int ha, .int st, .ref (b 6), .ref (b 7), .ref (b 8)])), ((b 1), .inl (cI, 206, .inl (flatS t u))), ((b 3), .inl (cI, 824, .inl (pastF (recS ps kn (t, u)))))]) dX7_records_79 rfl hP hS
        · have n_2 : i < 618 := ej_tnle (a := 618) (b := i) (by omega) (by omega) c_2
          refine lv_aload_n hx hb dX7_records_17 rfl (lv_at hl 0 rfl) ?_
          refine va_get (D := D) (ci := 7) (v := .ref (b 3)) (C := RX7) (T := TX7) (N := 17) hx hb hts iX7 hown hK hP 0 rfl rfl 2 (Nat.le_of_ble_eq_true rfl) (hts (.fieldLink RX7 16 "BentPinsModel" "past" "[I") (List.mem_of_getElem? (i := 2) rfl)) (fun _ h9 => h9) rfl dX7_records_18 ?_
          refine lv_iload_n hx hb dX7_records_21 rfl (lv_at hl 1 rfl) ?_
          refine lv_aload_n hx hb dX7_records_22 rfl (lv_at hl 0 rfl) ?_
          refine va_get (D := D) (ci := 7) (v := .ref (b 3)) (C := RX7) (T := TX7) (N := 17) hx hb hts iX7 hown hK hP 0 rfl rfl 2 (Nat.le_of_ble_eq_true rfl) (hts (.fieldLink RX7 16 "BentPinsModel" "past" "[I") (List.mem_of_getElem? (i := 2) rfl)) (fun _ h9 => h9) rfl dX7_records_23 ?_
          refine lv_iload_n hx hb dX7_records_26 rfl (lv_at hl 1 rfl) ?_
          refine lv_sipush (v := 206) hx hb dX7_records_27 (by decide) ?_
          refine lv_iadd hx hb dX7_records_30 ?_
          refine ej_topi (show (nI i) + 206 = nI (i + 206) from nI_add i 206) ?_
          refine va_iald (i := nI (i + 206)) hx hb hK hP 2 0 rfl ht0 (vp_in_nI (n := i + 206) (N := 824) (by omega) (by omega)) dX7_records_31 ?_
          refine ej_topi (show w (nI (i + 206)).toNatClampNeg = w (i + 206) from congrArg w (nI_clamp (n := i + 206) (by omega))) ?_
          refine va_iast (i := nI i) hx hb hK hP hD hS 2 0 rfl ht0 (vp_in_nI (n := i) (N := 824) (by omega) (by omega)) dX7_records_32 (fun H locs hP hD hS => ?_)
          rw [show (nI i).toNatClampNeg = i from nI_clamp (by omega)] at hP hD
          have hP : va_P D vwCl ([((b 0), .inr (7, [.ref (b 1), .ref (b 2), .ref (b 3), .int (nI kn), .ref (b 4), .int ik, .ref (b 5), .int (nI le), .int be, .int (nI sp), .int fo, .int op, .int ha, .int st, .ref (b 6), .ref (b 7), .ref (b 8)])), ((b 1), .inl (cI, 206, .inl (flatS t u))), ((b 3), .inl (cI, 824, .inl (upd w i (w (i + 206)))))]) H := hP
          have hD : va_D A ([((b 0), .inr (7, [.ref (b 1), .ref (b 2), .ref (b 3), .int (nI kn), .ref (b 4), .int ik, .ref (b 5), .int (nI le), .int be, .int (nI sp), .int fo, .int op, .int ha, .int st, .ref (b 6), .ref (b 7), .ref (b 8)])), ((b 1), .inl (cI, 206, .inl (flatS t u))), ((b 3), .inl (cI, 824, .inl (upd w i (w (i + 206)))))]) := hD
          refine lv_iinc (v := nI (i + 1)) (lv' := [(1, .int (nI (i + 1))), (0, .ref (b 0))]) hx hb dX7_records_33 hl (k := 1) rfl (nI_add i 1) (by decide) rfl (fun ls hl => ?_)
          refine lv_goto (tgt := 10) hx hb dX7_records_36 (by decide) ?_
          exact ih10  (i + 1) (upd w i (w (i + 206))) (by omega) (by omega) (by rw [ew]; exact shiG_s (pastF ps) i) _ _ _ hP hD hS (lv_sub hl [1, 0] rfl)
    exact lp10 ((618 - 0) + 1) 0 (pastF ps) (by omega) (by omega) (shiG_0 _) _ _ _ hP hD hS (lv_sub hl [1, 0] rfl)
