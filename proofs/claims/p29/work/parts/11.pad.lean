set_option maxHeartbeats 4000000 in
set_option maxRecDepth 100000 in
theorem c_X1_write (l : Launch) (D : va_G) (tys : eT) (cI : ClassId) (ht0 : tys[0]? = some (cI, .int)) (z : Nat → Nat) (n : Nat) (f : Nat → Int32) (v : Int32)  (hn : n < 60) : fc l D tys yX1_write wsX1_write (eR 1 22) [.ref (z 0), .int v] ([((z 0), .inr (1, [.ref (z 1), .int (nI n)])), ((z 1), .inr (4, [.ref (z 2)])), ((z 2), .inl (cI, 60, .inl f))]) none ([((z 0), .inr (1, [.ref (z 1), .int (nI (n + 1))])), ((z 1), .inr (4, [.ref (z 2)])), ((z 2), .inl (cI, 60, .inl (upd f n v)))]) := by
  refine fc_void cX1_write 2 (by decide +kernel) rfl (Nat.le_of_ble_eq_true rfl) ?_
  intro p9 e9 s9 m9 a9 b9 t9 c9 H0 A Q ls S hK hN hA hP hD hS hl hQ
  have S : CallFix p9 m9 c9 cX1_write 2 s9 a9 wsX1_write RX1 := S
  obtain ⟨hx, hb, hml, hown, hts⟩ := id S
  have iX1 : ∀ w ∈ wsX10, w ∈ wsX1_write := fun w h => List.mem_cons_of_mem _ (List.mem_append_left _ (List.mem_append_right _ (h)))
  have hP : va_P D vwCl ([((z 0), .inr (1, [.ref (z 1), .int (nI n)])), ((z 1), .inr (4, [.ref (z 2)])), ((z 2), .inl (cI, 60, .inl f))]) H0 := hP
  have hD : va_D A ([((z 0), .inr (1, [.ref (z 1), .int (nI n)])), ((z 1), .inr (4, [.ref (z 2)])), ((z 2), .inl (cI, 60, .inl f))]) := hD
  have hl : lv_has ls 2 [(0, .ref (z 0)), (1, .int v)] := hl
  refine lv_aload_n hx hb dX1_write_0 rfl (lv_at hl 0 rfl) ?_
  refine va_get (D := D) (ci := 1) (v := .ref (z 1)) (C := RX1) (T := TX1) (N := 2) hx hb hts iX1 hown hK hP 0 rfl rfl 0 (Nat.le_of_ble_eq_true rfl) (hts (.fieldLink RX1 14 "BentPins$Pad" "codes" "LBentPins$Row;") (List.mem_of_getElem? (i := 1) rfl)) (fun _ h9 => h9) rfl dX1_write_1 ?_
  refine lv_aload_n hx hb dX1_write_4 rfl (lv_at hl 0 rfl) ?_
  refine va_get (D := D) (ci := 1) (v := .int (nI n)) (C := RX1) (T := TX1) (N := 2) hx hb hts iX1 hown hK hP 0 rfl rfl 1 (Nat.le_of_ble_eq_true rfl) (hts (.fieldLink RX1 20 "BentPins$Pad" "length" "I") (List.mem_of_getElem? (i := 2) rfl)) (fun _ h9 => h9) rfl dX1_write_5 ?_
  refine lv_iload_n hx hb dX1_write_8 rfl (lv_at hl 1 rfl) ?_
  refine ej_V (As := [.int (nI n), .int v]) (rest := []) (w' := [((z 0), .inr (1, [.ref (z 1), .int (nI n)])), ((z 1), .inr (4, [.ref (z 2)])), ((z 2), .inl (cI, 60, .inl (upd f n v)))]) S hK hN hA hP hD hS (c_X4_put l D tys cI ht0 (z 1) (z 2) 60 f n v (by omega) (by omega)) (cwV 2 hts gX1_write_X4_put rfl rfl rfl hdv_X4_put ⟨Nat.le_of_ble_eq_true rfl, Nat.le_of_ble_eq_true rfl⟩) [1, 2] [none, some 0, some 1] [(z 1), (z 2)] rfl (by decide +kernel) ⟨rfl, rfl⟩ rfl (by decide +kernel) 1 4 rfl rfl rfl rfl hl.1 (Nat.le_of_ble_eq_true rfl) dX1_write_9 ⟨Nat.zero_le _, Nat.zero_le _⟩ (fun H locs hP hD hS => ?_)
  show W p9 l e9 (eR 1 22) s9 m9 a9 b9 t9 c9 H locs 0 0 Q (F0 m9 12 ls [])
  refine lv_aload_n hx hb dX1_write_12 rfl (lv_at hl 0 rfl) ?_
  refine lv_dup hx hb dX1_write_13 rfl ?_
  refine va_get (D := D) (ci := 1) (v := .int (nI n)) (C := RX1) (T := TX1) (N := 2) hx hb hts iX1 hown hK hP 0 rfl rfl 1 (Nat.le_of_ble_eq_true rfl) (hts (.fieldLink RX1 20 "BentPins$Pad" "length" "I") (List.mem_of_getElem? (i := 2) rfl)) (fun _ h9 => h9) rfl dX1_write_14 ?_
  refine lv_iconst (v := 1) hx hb dX1_write_17 (by decide) ?_
  refine lv_iadd hx hb dX1_write_18 ?_
  refine ej_topi (show (nI n) + 1 = nI (n + 1) from nI_add n 1) ?_
  refine va_put (D := D) (ci := 1) (v := .int (nI (n + 1))) (ty := .int) (C := RX1) (T := TX1) (N := 2) hx hb hts iX1 tyX1 tyX1_ok nmX1 hown hK hP hD hS 0 rfl rfl 1 (Nat.le_of_ble_eq_true rfl) (hts (.fieldLink RX1 20 "BentPins$Pad" "length" "I") (List.mem_of_getElem? (i := 2) rfl)) (fun _ h9 => h9) rfl (by decide +kernel) rfl rfl (Nat.le_of_ble_eq_true rfl) dX1_write_19 (fun H locs hP hD hS => ?_)
  have hP : va_P D vwCl ([((z 0), .inr (1, [.ref (z 1), .int (nI (n + 1))])), ((z 1), .inr (4, [.ref (z 2)])), ((z 2), .inl (cI, 60, .inl (upd f n v)))]) H := hP
  have hD : va_D A ([((z 0), .inr (1, [.ref (z 1), .int (nI (n + 1))])), ((z 1), .inr (4, [.ref (z 2)])), ((z 2), .inl (cI, 60, .inl (upd f n v)))]) := hD
  exact hQ _ _ _ _ ([((z 0), .inr (1, [.ref (z 1), .int (nI (n + 1))])), ((z 1), .inr (4, [.ref (z 2)])), ((z 2), .inl (cI, 60, .inl (upd f n v)))]) dX1_write_22 rfl hP hS
set_option maxHeartbeats 4000000 in
set_option maxRecDepth 100000 in
theorem c_X1_wipe (l : Launch) (D : va_G) (tys : eT) (cI : ClassId) (ht0 : tys[0]? = some (cI, .int)) (z : Nat → Nat) (n : Nat) (f : Nat → Int32)   : fc l D tys yX1_wipe wsX1_wipe (eR 0 0) [.ref (z 0)] ([((z 0), .inr (1, [.ref (z 1), .int (nI n)])), ((z 1), .inr (4, [.ref (z 2)])), ((z 2), .inl (cI, 60, .inl f))]) none ([((z 0), .inr (1, [.ref (z 1), .int (nI 0)])), ((z 1), .inr (4, [.ref (z 2)])), ((z 2), .inl (cI, 60, .inl f))]) := by
  refine fc_void cX1_wipe 1 (by decide +kernel) rfl (Nat.le_of_ble_eq_true rfl) ?_
  intro p9 e9 s9 m9 a9 b9 t9 c9 H0 A Q ls S hK hN hA hP hD hS hl hQ
  have S : CallFix p9 m9 c9 cX1_wipe 1 s9 a9 wsX1_wipe RX1 := S
  obtain ⟨hx, hb, hml, hown, hts⟩ := id S
  have iX1 : ∀ w ∈ wsX10, w ∈ wsX1_wipe := fun w h => List.mem_cons_of_mem _ (List.mem_append_right _ (h))
  have hP : va_P D vwCl ([((z 0), .inr (1, [.ref (z 1), .int (nI n)])), ((z 1), .inr (4, [.ref (z 2)])), ((z 2), .inl (cI, 60, .inl f))]) H0 := hP
  have hD : va_D A ([((z 0), .inr (1, [.ref (z 1), .int (nI n)])), ((z 1), .inr (4, [.ref (z 2)])), ((z 2), .inl (cI, 60, .inl f))]) := hD
  have hl : lv_has ls 1 [(0, .ref (z 0))] := hl
  refine lv_aload_n hx hb dX1_wipe_0 rfl (lv_at hl 0 rfl) ?_
  refine lv_iconst (v := 0) hx hb dX1_wipe_1 (by decide) ?_
  refine va_put (D := D) (ci := 1) (v := .int 0) (ty := .int) (C := RX1) (T := TX1) (N := 2) hx hb hts iX1 tyX1 tyX1_ok nmX1 hown hK hP hD hS 0 rfl rfl 1 (Nat.le_of_ble_eq_true rfl) (hts (.fieldLink RX1 20 "BentPins$Pad" "length" "I") (List.mem_of_getElem? (i := 1) rfl)) (fun _ h9 => h9) rfl (by decide +kernel) rfl rfl (Nat.le_of_ble_eq_true rfl) dX1_wipe_2 (fun H locs hP hD hS => ?_)
  have hP : va_P D vwCl ([((z 0), .inr (1, [.ref (z 1), .int 0])), ((z 1), .inr (4, [.ref (z 2)])), ((z 2), .inl (cI, 60, .inl f))]) H := hP
  have hD : va_D A ([((z 0), .inr (1, [.ref (z 1), .int 0])), ((z 1), .inr (4, [.ref (z 2)])), ((z 2), .inl (cI, 60, .inl f))]) := hD
  exact hQ _ _ _ _ ([((z 0), .inr (1, [.ref (z 1), .int 0])), ((z 1), .inr (4, [.ref (z 2)])), ((z 2), .inl (cI, 60, .inl f))]) dX1_wipe_5 rfl hP hS
set_option maxHeartbeats 4000000 in
set_option maxRecDepth 100000 in
theorem c_X1_codeAt (l : Launch) (D : va_G) (tys : eT) (cI : ClassId) (ht0 : tys[0]? = some (cI, .int)) (z : Nat → Nat) (n : Nat) (f : Nat → Int32) (k : Nat)  (hn : n ≤ 60) (hk : k < 2147483648) : fc l D tys yX1_codeAt wsX1_codeAt (eR 1 21) [.ref (z 0), .int (nI k)] ([((z 0), .inr (1, [.ref (z 1), .int (nI n)])), ((z 1), .inr (4, [.ref (z 2)])), ((z 2), .inl (cI, 60, .inl f))]) (some (.int (codeP n f k))) ([((z 0), .inr (1, [.ref (z 1), .int (nI n)])), ((z 1), .inr (4, [.ref (z 2)])), ((z 2), .inl (cI, 60, .inl f))]) := by
  refine fc_int cX1_codeAt 2 (by decide +kernel) rfl (rfl) (Nat.le_of_ble_eq_true rfl) ?_
  intro p9 e9 s9 m9 a9 b9 t9 c9 H0 A Q ls S hK hN hA hP hD hS hl hQ
  have S : CallFix p9 m9 c9 cX1_codeAt 2 s9 a9 wsX1_codeAt RX1 := S
  obtain ⟨hx, hb, hml, hown, hts⟩ := id S
  have iX1 : ∀ w ∈ wsX10, w ∈ wsX1_codeAt := fun w h => List.mem_cons_of_mem _ (List.mem_append_left _ (List.mem_append_right _ (h)))
  have hP : va_P D vwCl ([((z 0), .inr (1, [.ref (z 1), .int (nI n)])), ((z 1), .inr (4, [.ref (z 2)])), ((z 2), .inl (cI, 60, .inl f))]) H0 := hP
  have hD : va_D A ([((z 0), .inr (1, [.ref (z 1), .int (nI n)])), ((z 1), .inr (4, [.ref (z 2)])), ((z 2), .inl (cI, 60, .inl f))]) := hD
  have hl : lv_has ls 2 [(0, .ref (z 0)), (1, .int (nI k))] := hl
  refine lv_iload_n hx hb dX1_codeAt_0 rfl (lv_at hl 1 rfl) ?_
  refine lv_aload_n hx hb dX1_codeAt_1 rfl (lv_at hl 0 rfl) ?_
  refine va_get (D := D) (ci := 1) (v := .int (nI n)) (C := RX1) (T := TX1) (N := 2) hx hb hts iX1 hown hK hP 0 rfl rfl 1 (Nat.le_of_ble_eq_true rfl) (hts (.fieldLink RX1 20 "BentPins$Pad" "length" "I") (List.mem_of_getElem? (i := 1) rfl)) (fun _ h9 => h9) rfl dX1_codeAt_2 ?_
  refine lv_icmp_ge (tgt := 19) hx hb dX1_codeAt_5 (by decide) (fun c_1 => ?_) (fun c_1 => ?_)
  · have n_1 : n ≤ k := ej_tle (a := n) (b := k) (by omega) (by omega) c_1
    refine lv_iconst (v := 0) hx hb dX1_codeAt_19 (by decide) ?_
    exact hQ _ _ _ _ 0 ([((z 0), .inr (1, [.ref (z 1), .int (nI n)])), ((z 1), .inr (4, [.ref (z 2)])), ((z 2), .inl (cI, 60, .inl f))]) dX1_codeAt_20 (by unfold codeP; first | rw [if_pos (by omega)] | rw [if_neg (by omega)]) rfl hP hS
  · have n_1 : k < n := ej_tnle (a := n) (b := k) (by omega) (by omega) c_1
    refine lv_aload_n hx hb dX1_codeAt_8 rfl (lv_at hl 0 rfl) ?_
    refine va_get (D := D) (ci := 1) (v := .ref (z 1)) (C := RX1) (T := TX1) (N := 2) hx hb hts iX1 hown hK hP 0 rfl rfl 0 (Nat.le_of_ble_eq_true rfl) (hts (.fieldLink RX1 14 "BentPins$Pad" "codes" "LBentPins$Row;") (List.mem_of_getElem? (i := 2) rfl)) (fun _ h9 => h9) rfl dX1_codeAt_9 ?_
    refine lv_iload_n hx hb dX1_codeAt_12 rfl (lv_at hl 1 rfl) ?_
    refine ej_V (As := [.int (nI k)]) (rest := []) (w' := [((z 0), .inr (1, [.ref (z 1), .int (nI n)])), ((z 1), .inr (4, [.ref (z 2)])), ((z 2), .inl (cI, 60, .inl f))]) S hK hN hA hP hD hS (c_X4_at l D tys cI ht0 (z 1) (z 2) 60 f k (by omega) (by omega)) (cwV 1 hts gX1_codeAt_X4_at rfl rfl rfl hdv_X4_at ⟨Nat.le_of_ble_eq_true rfl, Nat.le_of_ble_eq_true rfl⟩) [1, 2] [none, some 0, some 1] [(z 1), (z 2)] rfl (by decide +kernel) ⟨rfl, rfl⟩ rfl (by decide +kernel) 1 4 rfl rfl rfl rfl hl.1 (Nat.le_of_ble_eq_true rfl) dX1_codeAt_13 ⟨Nat.zero_le _, Nat.zero_le _⟩ (fun H locs hP hD hS => ?_)
    show W p9 l e9 (eR 1 21) s9 m9 a9 b9 t9 c9 H locs 0 0 Q (F0 m9 16 ls (.int (f k) :: []))
    refine lv_goto (tgt := 20) hx hb dX1_codeAt_16 (by decide) ?_
    exact hQ _ _ _ _ (f k) ([((z 0), .inr (1, [.ref (z 1), .int (nI n)])), ((z 1), .inr (4, [.ref (z 2)])), ((z 2), .inl (cI, 60, .inl f))]) dX1_codeAt_20 (by unfold codeP; first | rw [if_pos (by omega)] | rw [if_neg (by omega)]) rfl hP hS
set_option maxHeartbeats 4000000 in
set_option maxRecDepth 100000 in
theorem c_X1_isPinSign (l : Launch) (D : va_G) (tys : eT) (cI : ClassId) (ht0 : tys[0]? = some (cI, .int)) (c : Int32)   : fc l D tys yX1_isPinSign wsX1_isPinSign (eR 0 0) [.int c] (([] : va_W)) (some (.int (if pinS c then 1 else 0))) (([] : va_W)) := by
  refine fc_int cX1_isPinSign 1 (by decide +kernel) rfl (ej_narB _) (Nat.le_of_ble_eq_true rfl) ?_
  intro p9 e9 s9 m9 a9 b9 t9 c9 H0 A Q ls S hK hN hA hP hD hS hl hQ
  have S : CallFix p9 m9 c9 cX1_isPinSign 1 s9 a9 wsX1_isPinSign RX1 := S
  obtain ⟨hx, hb, hml, hown, hts⟩ := id S
  have hP : va_P D vwCl (([] : va_W)) H0 := hP
  have hD : va_D A (([] : va_W)) := hD
  have hl : lv_has ls 1 [(0, .int c)] := hl
  refine lv_iload_n hx hb dX1_isPinSign_0 rfl (lv_at hl 0 rfl) ?_
  refine lv_bipush (v := 60) hx hb dX1_isPinSign_1 (by decide) ?_
  refine lv_icmp_eq (tgt := 30) hx hb dX1_isPinSign_3 (by decide) (fun c_1 => ?_) (fun c_1 => ?_)
  · refine lv_iconst (v := 1) hx hb dX1_isPinSign_30 (by decide) ?_
    refine lv_goto (tgt := 35) hx hb dX1_isPinSign_31 (by decide) ?_
    exact hQ _ _ _ _ 1 (([] : va_W)) dX1_isPinSign_35 (by first | (simp only [pinS, eq_true c_1, if_true, if_false, ite_true, ite_false, not_true_eq_false, not_false_eq_true, and_true, true_and, and_false, false_and, and_self, true_or, or_true, or_false, false_or, reduceIte]; done) | rfl | simp [pinS, eq_true c_1]) rfl hP hS
  · refine lv_iload_n hx hb dX1_isPinSign_6 rfl (lv_at hl 0 rfl) ?_
    refine lv_bipush (v := 124) hx hb dX1_isPinSign_7 (by decide) ?_
    refine lv_icmp_eq (tgt := 30) hx hb dX1_isPinSign_9 (by decide) (fun c_2 => ?_) (fun c_2 => ?_)
    · refine lv_iconst (v := 1) hx hb dX1_isPinSign_30 (by decide) ?_
      refine lv_goto (tgt := 35) hx hb dX1_isPinSign_31 (by decide) ?_
      exact hQ _ _ _ _ 1 (([] : va_W)) dX1_isPinSign_35 (by first | (simp only [pinS, c_1, eq_true c_2, if_true, if_false, ite_true, ite_false, not_true_eq_false, not_false_eq_true, and_true, true_and, and_false, false_and, and_self, true_or, or_true, or_false, false_or, reduceIte]; done) | rfl | simp [pinS, c_1, eq_true c_2]) rfl hP hS
    · refine lv_iload_n hx hb dX1_isPinSign_12 rfl (lv_at hl 0 rfl) ?_
      refine lv_bipush (v := 62) hx hb dX1_isPinSign_13 (by decide) ?_
      refine lv_icmp_eq (tgt := 30) hx hb dX1_isPinSign_15 (by decide) (fun c_3 => ?_) (fun c_3 => ?_)
      · refine lv_iconst (v := 1) hx hb dX1_isPinSign_30 (by decide) ?_
        refine lv_goto (tgt := 35) hx hb dX1_isPinSign_31 (by decide) ?_
        exact hQ _ _ _ _ 1 (([] : va_W)) dX1_isPinSign_35 (by first | (simp only [pinS, c_1, c_2, eq_true c_3, if_true, if_false, ite_true, ite_false, not_true_eq_false, not_false_eq_true, and_true, true_and, and_false, false_and, and_self, true_or, or_true, or_false, false_or, reduceIte]; done) | rfl | simp [pinS, c_1, c_2, eq_true c_3]) rfl hP hS
      · refine lv_iload_n hx hb dX1_isPinSign_18 rfl (lv_at hl 0 rfl) ?_
        refine lv_bipush (v := 46) hx hb dX1_isPinSign_19 (by decide) ?_
        refine lv_icmp_eq (tgt := 30) hx hb dX1_isPinSign_21 (by decide) (fun c_4 => ?_) (fun c_4 => ?_)
        · refine lv_iconst (v := 1) hx hb dX1_isPinSign_30 (by decide) ?_
          refine lv_goto (tgt := 35) hx hb dX1_isPinSign_31 (by decide) ?_
          exact hQ _ _ _ _ 1 (([] : va_W)) dX1_isPinSign_35 (by first | (simp only [pinS, c_1, c_2, c_3, eq_true c_4, if_true, if_false, ite_true, ite_false, not_true_eq_false, not_false_eq_true, and_true, true_and, and_false, false_and, and_self, true_or, or_true, or_false, false_or, reduceIte]; done) | rfl | simp [pinS, c_1, c_2, c_3, eq_true c_4]) rfl hP hS
        · refine lv_iload_n hx hb dX1_isPinSign_24 rfl (lv_at hl 0 rfl) ?_
          refine lv_bipush (v := 111) hx hb dX1_isPinSign_25 (by decide) ?_
          refine lv_icmp_ne (tgt := 34) hx hb dX1_isPinSign_27 (by decide) (fun c_5 => ?_) (fun c_5 => ?_)
          · refine lv_iconst (v := 0) hx hb dX1_isPinSign_34 (by decide) ?_
            exact hQ _ _ _ _ 0 (([] : va_W)) dX1_isPinSign_35 (by first | (simp only [pinS, c_1, c_2, c_3, c_4, c_5, if_true, if_false, ite_true, ite_false, not_true_eq_false, not_false_eq_true, and_true, true_and, and_false, false_and, and_self, true_or, or_true, or_false, false_or, reduceIte]; done) | rfl | simp [pinS, c_1, c_2, c_3, c_4, c_5]) rfl hP hS
          · refine lv_iconst (v := 1) hx hb dX1_isPinSign_30 (by decide) ?_
            refine lv_goto (tgt := 35) hx hb dX1_isPinSign_31 (by decide) ?_
            exact hQ _ _ _ _ 1 (([] : va_W)) dX1_isPinSign_35 (by first | (simp only [pinS, c_1, c_2, c_3, c_4, eq_true c_5, if_true, if_false, ite_true, ite_false, not_true_eq_false, not_false_eq_true, and_true, true_and, and_false, false_and, and_self, true_or, or_true, or_false, false_or, reduceIte]; done) | rfl | simp [pinS, c_1, c_2, c_3, c_4, eq_true c_5]) rfl hP hS
set_option maxHeartbeats 4000000 in
set_option maxRecDepth 100000 in
theorem c_X1_isPlace (l : Launch) (D : va_G) (tys : eT) (cI : ClassId) (ht0 : tys[0]? = some (cI, .int)) (c : Int32)   : fc l D tys yX1_isPlace wsX1_isPlace (eR 1 22) [.int c] (([] : va_W)) (some (.int (if plc c then 1 else 0))) (([] : va_W)) := by
  refine fc_int cX1_isPlace 1 (by decide +kernel) rfl (ej_narB _) (Nat.le_of_ble_eq_true rfl) ?_
  intro p9 e9 s9 m9 a9 b9 t9 c9 H0 A Q ls S hK hN hA hP hD hS hl hQ
  have S : CallFix p9 m9 c9 cX1_isPlace 1 s9 a9 wsX1_isPlace RX1 := S
  obtain ⟨hx, hb, hml, hown, hts⟩ := id S
  have hP : va_P D vwCl (([] : va_W)) H0 := hP
  have hD : va_D A (([] : va_W)) := hD
  have hl : lv_has ls 1 [(0, .int c)] := hl
  refine lv_iload_n hx hb dX1_isPlace_0 rfl (lv_at hl 0 rfl) ?_
  refine lv_bipush (v := 48) hx hb dX1_isPlace_1 (by decide) ?_
  refine lv_bipush (v := 54) hx hb dX1_isPlace_3 (by decide) ?_
  refine ej_SN (As := [.int c, .int 48, .int 54]) (rest := []) (w' := ([] : va_W)) S hK hN hA hP hD hS (c_X6_isWithin l D tys cI ht0 c 48 54) ⟨va_cnB 3 hts gX1_isPlace_X6_isWithin_n43 rfl rfl rfl (eN_7 hN) (hts (.initialized RX6) (List.mem_of_getElem? (i := 2) rfl)) hds_X6_isWithin ⟨Nat.le_of_ble_eq_true rfl, Nat.le_of_ble_eq_true rfl⟩, (hts (.static yX6_isWithin) (List.mem_of_getElem? (i := 1) rfl)), trivial⟩ [] [] [] rfl (by decide +kernel) ⟨rfl, rfl⟩ rfl (by decide +kernel) rfl rfl hl.1 (Nat.le_of_ble_eq_true rfl) dX1_isPlace_5 ⟨Nat.zero_le _, Nat.zero_le _⟩ (fun H locs hP hD hS => ?_)
  show W p9 l e9 (eR 1 22) s9 m9 a9 b9 t9 c9 H locs 0 0 Q (F0 m9 8 ls (.int (if ¬ c < 48 ∧ ¬ 54 < c then 1 else 0) :: []))
  exact hQ _ _ _ _ (if ¬ c < 48 ∧ ¬ 54 < c then 1 else 0) (([] : va_W)) dX1_isPlace_8 rfl rfl hP hS
set_option maxHeartbeats 4000000 in
set_option maxRecDepth 100000 in
theorem c_X1_mayFollow (l : Launch) (D : va_G) (tys : eT) (cI : ClassId) (ht0 : tys[0]? = some (cI, .int)) (b c : Int32)   : fc l D tys yX1_mayFollow wsX1_mayFollow (eR 2 42) [.int b, .int c] (([] : va_W)) (some (.int (if mayF b c then 1 else 0))) (([] : va_W)) := by
  refine fc_int cX1_mayFollow 2 (by decide +kernel) rfl (ej_narB _) (Nat.le_of_ble_eq_true rfl) ?_
  intro p9 e9 s9 m9 a9 b9 t9 c9 H0 A Q ls S hK hN hA hP hD hS hl hQ
  have S : CallFix p9 m9 c9 cX1_mayFollow 2 s9 a9 wsX1_mayFollow RX1 := S
  obtain ⟨hx, hb, hml, hown, hts⟩ := id S
  have hP : va_P D vwCl (([] : va_W)) H0 := hP
  have hD : va_D A (([] : va_W)) := hD
  have hl : lv_has ls 2 [(0, .int b), (1, .int c)] := hl
  refine lv_iload_n hx hb dX1_mayFollow_0 rfl (lv_at hl 0 rfl) ?_
  refine lv_bipush (v := 44) hx hb dX1_mayFollow_1 (by decide) ?_
  refine lv_icmp_ne (tgt := 25) hx hb dX1_mayFollow_3 (by decide) (fun c_1 => ?_) (fun c_1 => ?_)
  · refine lv_iload_n hx hb dX1_mayFollow_25 rfl (lv_at hl 1 rfl) ?_
    refine lv_bipush (v := 44) hx hb dX1_mayFollow_26 (by decide) ?_
    refine lv_icmp_eq (tgt := 44) hx hb dX1_mayFollow_28 (by decide) (fun c_2 => ?_) (fun c_2 => ?_)
    · refine lv_iconst (v := 1) hx hb dX1_mayFollow_44 (by decide) ?_
      refine lv_goto (tgt := 49) hx hb dX1_mayFollow_45 (by decide) ?_
      exact hQ _ _ _ _ 1 (([] : va_W)) dX1_mayFollow_49 (by first | (simp only [mayF, c_1, eq_true c_2, if_true, if_false, ite_true, ite_false, not_true_eq_false, not_false_eq_true, and_true, true_and, and_false, false_and, and_self, true_or, or_true, or_false, false_or, reduceIte]; done) | rfl | simp [mayF, c_1, eq_true c_2]) rfl hP hS
    · refine lv_iload_n hx hb dX1_mayFollow_31 rfl (lv_at hl 1 rfl) ?_
      refine lv_bipush (v := 33) hx hb dX1_mayFollow_32 (by decide) ?_
      refine lv_icmp_ne (tgt := 48) hx hb dX1_mayFollow_34 (by decide) (fun c_3 => ?_) (fun c_3 => ?_)
      · refine lv_iconst (v := 0) hx hb dX1_mayFollow_48 (by decide) ?_
        exact hQ _ _ _ _ 0 (([] : va_W)) dX1_mayFollow_49 (by first | (simp only [mayF, c_1, c_2, c_3, if_true, if_false, ite_true, ite_false, not_true_eq_false, not_false_eq_true, and_true, true_and, and_false, false_and, and_self, true_or, or_true, or_false, false_or, reduceIte]; done) | rfl | simp [mayF, c_1, c_2, c_3]) rfl hP hS
      · refine lv_iload_n hx hb dX1_mayFollow_37 rfl (lv_at hl 0 rfl) ?_
        refine ej_S (As := [.int b]) (rest := []) (w' := ([] : va_W)) S hK hN hA hP hD hS (c_X1_isPlace l D tys cI ht0 b) (va_cwS 1 hts gX1_mayFollow_X1_isPlace rfl rfl rfl hds_X1_isPlace ⟨Nat.le_of_ble_eq_true rfl, Nat.le_of_ble_eq_true rfl⟩) [] [] [] rfl (by decide +kernel) ⟨rfl, rfl⟩ rfl (by decide +kernel) rfl rfl hl.1 (Nat.le_of_ble_eq_true rfl) dX1_mayFollow_38 ⟨Nat.zero_le _, Nat.zero_le _⟩ (fun H locs hP hD hS => ?_)
        show W p9 l e9 (eR 2 42) s9 m9 a9 b9 t9 c9 H locs 0 0 Q (F0 m9 41 ls (.int (if plc b then 1 else 0) :: []))
        refine lv_if_eq (tgt := 48) hx hb dX1_mayFollow_41 (by decide) (fun c_4 => ?_) (fun c_4 => ?_)
        · have b_4 : ¬ (plc b) := ej_b0 c_4
          refine lv_iconst (v := 0) hx hb dX1_mayFollow_48 (by decide) ?_
          exact hQ _ _ _ _ 0 (([] : va_W)) dX1_mayFollow_49 (by first | (simp only [mayF, c_1, c_2, eq_true c_3, b_4, if_true, if_false, ite_true, ite_false, not_true_eq_false, not_false_eq_true, and_true, true_and, and_false, false_and, and_self, true_or, or_true, or_false, false_or, reduceIte]; done) | rfl | simp [mayF, c_1, c_2, eq_true c_3, b_4]) rfl hP hS
        · have b_4 : plc b := ej_b1 c_4
          refine lv_iconst (v := 1) hx hb dX1_mayFollow_44 (by decide) ?_
          refine lv_goto (tgt := 49) hx hb dX1_mayFollow_45 (by decide) ?_
          exact hQ _ _ _ _ 1 (([] : va_W)) dX1_mayFollow_49 (by first | (simp only [mayF, c_1, c_2, eq_true c_3, b_4, if_true, if_false, ite_true, ite_false, not_true_eq_false, not_false_eq_true, and_true, true_and, and_false, false_and, and_self, true_or, or_true, or_false, false_or, reduceIte]; done) | rfl | simp [mayF, c_1, c_2, eq_true c_3, b_4]) rfl hP hS
  · refine lv_iload_n hx hb dX1_mayFollow_6 rfl (lv_at hl 1 rfl) ?_
    refine ej_S (As := [.int c]) (rest := []) (w' := ([] : va_W)) S hK hN hA hP hD hS (c_X1_isPlace l D tys cI ht0 c) (va_cwS 1 hts gX1_mayFollow_X1_isPlace rfl rfl rfl hds_X1_isPlace ⟨Nat.le_of_ble_eq_true rfl, Nat.le_of_ble_eq_true rfl⟩) [] [] [] rfl (by decide +kernel) ⟨rfl, rfl⟩ rfl (by decide +kernel) rfl rfl hl.1 (Nat.le_of_ble_eq_true rfl) dX1_mayFollow_7 ⟨Nat.zero_le _, Nat.zero_le _⟩ (fun H locs hP hD hS => ?_)
    show W p9 l e9 (eR 2 42) s9 m9 a9 b9 t9 c9 H locs 0 0 Q (F0 m9 10 ls (.int (if plc c then 1 else 0) :: []))
    refine lv_if_ne (tgt := 19) hx hb dX1_mayFollow_10 (by decide) (fun c_5 => ?_) (fun c_5 => ?_)
    · have b_5 : plc c := ej_b1 c_5
      refine lv_iconst (v := 1) hx hb dX1_mayFollow_19 (by decide) ?_
      refine lv_goto (tgt := 24) hx hb dX1_mayFollow_20 (by decide) ?_
      exact hQ _ _ _ _ 1 (([] : va_W)) dX1_mayFollow_24 (by first | (simp only [mayF, eq_true c_1, b_5, if_true, if_false, ite_true, ite_false, not_true_eq_false, not_false_eq_true, and_true, true_and, and_false, false_and, and_self, true_or, or_true, or_false, false_or, reduceIte]; done) | rfl | simp [mayF, eq_true c_1, b_5]) rfl hP hS
    · have b_5 : ¬ (plc c) := ej_b0 c_5
      refine lv_iload_n hx hb dX1_mayFollow_13 rfl (lv_at hl 1 rfl) ?_
      refine lv_bipush (v := 101) hx hb dX1_mayFollow_14 (by decide) ?_
      refine lv_icmp_ne (tgt := 23) hx hb dX1_mayFollow_16 (by decide) (fun c_6 => ?_) (fun c_6 => ?_)
      · refine lv_iconst (v := 0) hx hb dX1_mayFollow_23 (by decide) ?_
        exact hQ _ _ _ _ 0 (([] : va_W)) dX1_mayFollow_24 (by first | (simp only [mayF, eq_true c_1, b_5, c_6, if_true, if_false, ite_true, ite_false, not_true_eq_false, not_false_eq_true, and_true, true_and, and_false, false_and, and_self, true_or, or_true, or_false, false_or, reduceIte]; done) | rfl | simp [mayF, eq_true c_1, b_5, c_6]) rfl hP hS
      · refine lv_iconst (v := 1) hx hb dX1_mayFollow_19 (by decide) ?_
        refine lv_goto (tgt := 24) hx hb dX1_mayFollow_20 (by decide) ?_
        exact hQ _ _ _ _ 1 (([] : va_W)) dX1_mayFollow_24 (by first | (simp only [mayF, eq_true c_1, b_5, eq_true c_6, if_true, if_false, ite_true, ite_false, not_true_eq_false, not_false_eq_true, and_true, true_and, and_false, false_and, and_self, true_or, or_true, or_false, false_or, reduceIte]; done) | rfl | simp [mayF, eq_true c_1, b_5, eq_true c_6]) rfl hP hS
set_option maxHeartbeats 4000000 in
set_option maxRecDepth 100000 in
theorem c_X1_faultAsBoard (l : Launch) (D : va_G) (tys : eT) (cI : ClassId) (ht0 : tys[0]? = some (cI, .int)) (z : Nat → Nat) (n : Nat) (f : Nat → Int32)  (hn : n ≤ 60) : fc l D tys yX1_faultAsBoard wsX1_faultAsBoard (eR 2 42) [.ref (z 0)] ([((z 0), .inr (1, [.ref (z 1), .int (nI n)])), ((z 1), .inr (4, [.ref (z 2)])), ((z 2), .inl (cI, 60, .inl f))]) (some (.int (fbG n f n 0))) ([((z 0), .inr (1, [.ref (z 1), .int (nI n)])), ((z 1), .inr (4, [.ref (z 2)])), ((z 2), .inl (cI, 60, .inl f))]) := by
  refine fc_int cX1_faultAsBoard 2 (by decide +kernel) rfl (rfl) (Nat.le_of_ble_eq_true rfl) ?_
  intro p9 e9 s9 m9 a9 b9 t9 c9 H0 A Q ls S hK hN hA hP hD hS hl hQ
  have S : CallFix p9 m9 c9 cX1_faultAsBoard 2 s9 a9 wsX1_faultAsBoard RX1 := S
  obtain ⟨hx, hb, hml, hown, hts⟩ := id S
  have iX1 : ∀ w ∈ wsX10, w ∈ wsX1_faultAsBoard := fun w h => List.mem_cons_of_mem _ (List.mem_append_left _ (List.mem_append_right _ (h)))
  have hP : va_P D vwCl ([((z 0), .inr (1, [.ref (z 1), .int (nI n)])), ((z 1), .inr (4, [.ref (z 2)])), ((z 2), .inl (cI, 60, .inl f))]) H0 := hP
  have hD : va_D A ([((z 0), .inr (1, [.ref (z 1), .int (nI n)])), ((z 1), .inr (4, [.ref (z 2)])), ((z 2), .inl (cI, 60, .inl f))]) := hD
  have hl : lv_has ls 2 [(0, .ref (z 0))] := hl
  refine lv_iconst (v := 0) hx hb dX1_faultAsBoard_0 (by decide) ?_
  refine lv_istore_n (lv' := [(1, .int 0), (0, .ref (z 0))]) hx hb dX1_faultAsBoard_1 rfl hl (by decide) rfl (fun ls hl => ?_)
  have lp2 : ∀ (n2 : Nat) (i : Nat), n - i < n2 → (i ≤ n) → (fbG n f (n - i) i = fbG n f n 0) → ∀ (H : Heap) (locs : List Loc) (ls : Array Slot), va_P D vwCl ([((z 0), .inr (1, [.ref (z 1), .int (nI n)])), ((z 1), .inr (4, [.ref (z 2)])), ((z 2), .inl (cI, 60, .inl f))]) H → va_D A ([((z 0), .inr (1, [.ref (z 1), .int (nI n)])), ((z 1), .inr (4, [.ref (z 2)])), ((z 2), .inl (cI, 60, .inl f))]) → va_S A H0 H locs → lv_has ls 2 [(0, .ref (z 0)), (1, .int (nI i))] → W p9 l e9 (eR 2 42) s9 m9 a9 b9 t9 c9 H locs 0 0 Q (F0 m9 2 ls []) := by
    intro n2
    induction n2 with
    | zero => intro i hm9; exact absurd hm9 (Nat.not_lt_zero _)
    | succ n2 ih2 =>
      intro i hm2 hi hv H locs ls hP hD hS hl
      refine lv_iload_n hx hb dX1_faultAsBoard_2 rfl (lv_at hl 1 rfl) ?_
      refine lv_aload_n hx hb dX1_faultAsBoard_3 rfl (lv_at hl 0 rfl) ?_
      refine va_get (D := D) (ci := 1) (v := .int (nI n)) (C := RX1) (T := TX1) (N := 2) hx hb hts iX1 hown hK hP 0 rfl rfl 1 (Nat.le_of_ble_eq_true rfl) (hts (.fieldLink RX1 20 "BentPins$Pad" "length" "I") (List.mem_of_getElem? (i := 1) rfl)) (fun _ h9 => h9) rfl dX1_faultAsBoard_4 ?_
      refine lv_icmp_ge (tgt := 35) hx hb dX1_faultAsBoard_7 (by decide) (fun c_1 => ?_) (fun c_1 => ?_)
      · have n_1 : n ≤ i := ej_tle (a := n) (b := i) (by omega) (by omega) c_1
        refine lv_aload_n hx hb dX1_faultAsBoard_35 rfl (lv_at hl 0 rfl) ?_
        refine va_get (D := D) (ci := 1) (v := .int (nI n)) (C := RX1) (T := TX1) (N := 2) hx hb hts iX1 hown hK hP 0 rfl rfl 1 (Nat.le_of_ble_eq_true rfl) (hts (.fieldLink RX1 20 "BentPins$Pad" "length" "I") (List.mem_of_getElem? (i := 1) rfl)) (fun _ h9 => h9) rfl dX1_faultAsBoard_36 ?_
        refine lv_bipush (v := 35) hx hb dX1_faultAsBoard_39 (by decide) ?_
        refine lv_icmp_ge (tgt := 51) hx hb dX1_faultAsBoard_41 (by decide) (fun c_2 => ?_) (fun c_2 => ?_)
        · have n_2 : 35 ≤ n := ej_tle (a := 35) (b := n) (by omega) (by omega) c_2
          refine lv_bipush (v := (-4)) hx hb dX1_faultAsBoard_51 (by decide) ?_
          exact hQ _ _ _ _ (-4) ([((z 0), .inr (1, [.ref (z 1), .int (nI n)])), ((z 1), .inr (4, [.ref (z 2)])), ((z 2), .inl (cI, 60, .inl f))]) dX1_faultAsBoard_53 (by rw [← hv, show n - i = 0 by omega, fbG]; first | rw [if_pos (by omega)] | rw [if_neg (by omega)]) rfl hP hS
        · have n_2 : n < 35 := ej_tnle (a := 35) (b := n) (by omega) (by omega) c_2
          refine lv_aload_n hx hb dX1_faultAsBoard_44 rfl (lv_at hl 0 rfl) ?_
          refine va_get (D := D) (ci := 1) (v := .int (nI n)) (C := RX1) (T := TX1) (N := 2) hx hb hts iX1 hown hK hP 0 rfl rfl 1 (Nat.le_of_ble_eq_true rfl) (hts (.fieldLink RX1 20 "BentPins$Pad" "length" "I") (List.mem_of_getElem? (i := 1) rfl)) (fun _ h9 => h9) rfl dX1_faultAsBoard_45 ?_
          refine lv_goto (tgt := 53) hx hb dX1_faultAsBoard_48 (by decide) ?_
          exact hQ _ _ _ _ (nI n) ([((z 0), .inr (1, [.ref (z 1), .int (nI n)])), ((z 1), .inr (4, [.ref (z 2)])), ((z 2), .inl (cI, 60, .inl f))]) dX1_faultAsBoard_53 (by rw [← hv, show n - i = 0 by omega, fbG]; first | rw [if_pos (by omega)] | rw [if_neg (by omega)]) rfl hP hS
      · have n_1 : i < n := ej_tnle (a := n) (b := i) (by omega) (by omega) c_1
        refine lv_iload_n hx hb dX1_faultAsBoard_10 rfl (lv_at hl 1 rfl) ?_
        refine lv_bipush (v := 35) hx hb dX1_faultAsBoard_11 (by decide) ?_
        refine lv_icmp_ge (tgt := 27) hx hb dX1_faultAsBoard_13 (by decide) (fun c_3 => ?_) (fun c_3 => ?_)
        · have n_3 : 35 ≤ i := ej_tle (a := 35) (b := i) (by omega) (by omega) c_3
          refine lv_iload_n hx hb dX1_faultAsBoard_27 rfl (lv_at hl 1 rfl) ?_
          exact hQ _ _ _ _ (nI i) ([((z 0), .inr (1, [.ref (z 1), .int (nI n)])), ((z 1), .inr (4, [.ref (z 2)])), ((z 2), .inl (cI, 60, .inl f))]) dX1_faultAsBoard_28 (by rw [← hv, show n - i = (n - (i + 1)) + 1 by omega, fbG, if_neg (fun q9 => absurd q9.1 (by omega))]) rfl hP hS
        · have n_3 : i < 35 := ej_tnle (a := 35) (b := i) (by omega) (by omega) c_3
          refine lv_aload_n hx hb dX1_faultAsBoard_16 rfl (lv_at hl 0 rfl) ?_
          refine lv_iload_n hx hb dX1_faultAsBoard_17 rfl (lv_at hl 1 rfl) ?_
          refine ej_V (As := [.int (nI i)]) (rest := []) (w' := [((z 0), .inr (1, [.ref (z 1), .int (nI n)])), ((z 1), .inr (4, [.ref (z 2)])), ((z 2), .inl (cI, 60, .inl f))]) S hK hN hA hP hD hS (c_X1_codeAt l D tys cI ht0 z n f i (by omega) (by omega)) (cwV 1 hts gX1_faultAsBoard_X1_codeAt rfl rfl rfl hdv_X1_codeAt ⟨Nat.le_of_ble_eq_true rfl, Nat.le_of_ble_eq_true rfl⟩) [0, 1, 2] [some 0, some 1, some 2] [(z 0), (z 1), (z 2)] rfl (by decide +kernel) ⟨rfl, rfl⟩ rfl (by decide +kernel) 0 1 rfl rfl rfl rfl hl.1 (Nat.le_of_ble_eq_true rfl) dX1_faultAsBoard_18 ⟨Nat.zero_le _, Nat.zero_le _⟩ (fun H locs hP hD hS => ?_)
          show W p9 l e9 (eR 2 42) s9 m9 a9 b9 t9 c9 H locs 0 0 Q (F0 m9 21 ls (.int (codeP n f i) :: []))
          refine ej_S (As := [.int (codeP n f i)]) (rest := []) (w' := [((z 0), .inr (1, [.ref (z 1), .int (nI n)])), ((z 1), .inr (4, [.ref (z 2)])), ((z 2), .inl (cI, 60, .inl f))]) S hK hN hA hP hD hS (c_X1_isPinSign l D tys cI ht0 (codeP n f i)) (va_cwS 1 hts gX1_faultAsBoard_X1_isPinSign rfl rfl rfl hds_X1_isPinSign ⟨Nat.le_of_ble_eq_true rfl, Nat.le_of_ble_eq_true rfl⟩) [] [] [] rfl (by decide +kernel) ⟨rfl, rfl⟩ rfl (by decide +kernel) rfl rfl hl.1 (Nat.le_of_ble_eq_true rfl) dX1_faultAsBoard_21 ⟨Nat.zero_le _, Nat.zero_le _⟩ (fun H locs hP hD hS => ?_)
          show W p9 l e9 (eR 2 42) s9 m9 a9 b9 t9 c9 H locs 0 0 Q (F0 m9 24 ls (.int (if pinS (codeP n f i) then 1 else 0) :: []))
          refine lv_if_ne (tgt := 29) hx hb dX1_faultAsBoard_24 (by decide) (fun c_4 => ?_) (fun c_4 => ?_)
          · have b_4 : pinS (codeP n f i) := ej_b1 c_4
            refine lv_iinc (v := nI (i + 1)) (lv' := [(1, .int (nI (i + 1))), (0, .ref (z 0))]) hx hb dX1_faultAsBoard_29 hl (k := 1) rfl (nI_add i 1) (by decide) rfl (fun ls hl => ?_)
            refine lv_goto (tgt := 2) hx hb dX1_faultAsBoard_32 (by decide) ?_
            exact ih2  (i + 1) (by omega) (by omega) (by rw [← hv, show n - i = (n - (i + 1)) + 1 by omega, fbG, if_pos ⟨by omega, b_4⟩]) _ _ _ hP hD hS (lv_sub hl [1, 0] rfl)
          · have b_4 : ¬ (pinS (codeP n f i)) := ej_b0 c_4
            refine lv_iload_n hx hb dX1_faultAsBoard_27 rfl (lv_at hl 1 rfl) ?_
            exact hQ _ _ _ _ (nI i) ([((z 0), .inr (1, [.ref (z 1), .int (nI n)])), ((z 1), .inr (4, [.ref (z 2)])), ((z 2), .inl (cI, 60, .inl f))]) dX1_faultAsBoard_28 (by rw [← hv, show n - i = (n - (i + 1)) + 1 by omega, fbG, if_neg (fun q9 => b_4 q9.2)]) rfl hP hS
  exact lp2 ((n - 0) + 1) 0 (by omega) (by omega) rfl _ _ _ hP hD hS (lv_sub hl [1, 0] rfl)
set_option maxHeartbeats 4000000 in
set_option maxRecDepth 100000 in
theorem c_X1_faultAsShots (l : Launch) (D : va_G) (tys : eT) (cI : ClassId) (ht0 : tys[0]? = some (cI, .int)) (z : Nat → Nat) (n : Nat) (f : Nat → Int32)  (hn : n ≤ 60) : fc l D tys yX1_faultAsShots wsX1_faultAsShots (eR 3 63) [.ref (z 0)] ([((z 0), .inr (1, [.ref (z 1), .int (nI n)])), ((z 1), .inr (4, [.ref (z 2)])), ((z 2), .inl (cI, 60, .inl f))]) (some (.int (fsG n f n 0 44))) ([((z 0), .inr (1, [.ref (z 1), .int (nI n)])), ((z 1), .inr (4, [.ref (z 2)])), ((z 2), .inl (cI, 60, .inl f))]) := by
  refine fc_int cX1_faultAsShots 4 (by decide +kernel) rfl (rfl) (Nat.le_of_ble_eq_true rfl) ?_
  intro p9 e9 s9 m9 a9 b9 t9 c9 H0 A Q ls S hK hN hA hP hD hS hl hQ
  have S : CallFix p9 m9 c9 cX1_faultAsShots 4 s9 a9 wsX1_faultAsShots RX1 := S
  obtain ⟨hx, hb, hml, hown, hts⟩ := id S
  have iX1 : ∀ w ∈ wsX10, w ∈ wsX1_faultAsShots := fun w h => List.mem_cons_of_mem _ (List.mem_append_left _ (List.mem_append_right _ (h)))
  have hP : va_P D vwCl ([((z 0), .inr (1, [.ref (z 1), .int (nI n)])), ((z 1), .inr (4, [.ref (z 2)])), ((z 2), .inl (cI, 60, .inl f))]) H0 := hP
  have hD : va_D A ([((z 0), .inr (1, [.ref (z 1), .int (nI n)])), ((z 1), .inr (4, [.ref (z 2)])), ((z 2), .inl (cI, 60, .inl f))]) := hD
  have hl : lv_has ls 4 [(0, .ref (z 0))] := hl
  refine lv_bipush (v := 44) hx hb dX1_faultAsShots_0 (by decide) ?_
  refine lv_istore_n (lv' := [(1, .int 44), (0, .ref (z 0))]) hx hb dX1_faultAsShots_2 rfl hl (by decide) rfl (fun ls hl => ?_)
  refine lv_iconst (v := 0) hx hb dX1_faultAsShots_3 (by decide) ?_
  refine lv_istore_n (lv' := [(2, .int 0), (1, .int 44), (0, .ref (z 0))]) hx hb dX1_faultAsShots_4 rfl hl (by decide) rfl (fun ls hl => ?_)
  have lp5 : ∀ (n5 : Nat) (i : Nat) (b : Int32), n - i < n5 → (i ≤ n) → (fsG n f (n - i) i b = fsG n f n 0 44) → ∀ (H : Heap) (locs : List Loc) (ls : Array Slot), va_P D vwCl ([((z 0), .inr (1, [.ref (z 1), .int (nI n)])), ((z 1), .inr (4, [.ref (z 2)])), ((z 2), .inl (cI, 60, .inl f))]) H → va_D A ([((z 0), .inr (1, [.ref (z 1), .int (nI n)])), ((z 1), .inr (4, [.ref (z 2)])), ((z 2), .inl (cI, 60, .inl f))]) → va_S A H0 H locs → lv_has ls 4 [(0, .ref (z 0)), (1, .int b), (2, .int (nI i))] → W p9 l e9 (eR 3 63) s9 m9 a9 b9 t9 c9 H locs 0 0 Q (F0 m9 5 ls []) := by
    intro n5
    induction n5 with
    | zero => intro i b hm9; exact absurd hm9 (Nat.not_lt_zero _)
    | succ n5 ih5 =>
      intro i b hm5 hi hv H locs ls hP hD hS hl
      refine lv_iload_n hx hb dX1_faultAsShots_5 rfl (lv_at hl 2 rfl) ?_
      refine lv_aload_n hx hb dX1_faultAsShots_6 rfl (lv_at hl 0 rfl) ?_
      refine va_get (D := D) (ci := 1) (v := .int (nI n)) (C := RX1) (T := TX1) (N := 2) hx hb hts iX1 hown hK hP 0 rfl rfl 1 (Nat.le_of_ble_eq_true rfl) (hts (.fieldLink RX1 20 "BentPins$Pad" "length" "I") (List.mem_of_getElem? (i := 1) rfl)) (fun _ h9 => h9) rfl dX1_faultAsShots_7 ?_
      refine lv_icmp_ge (tgt := 37) hx hb dX1_faultAsShots_10 (by decide) (fun c_1 => ?_) (fun c_1 => ?_)
      · have n_1 : n ≤ i := ej_tle (a := n) (b := i) (by omega) (by omega) c_1
        refine lv_iload_n hx hb dX1_faultAsShots_37 rfl (lv_at hl 1 rfl) ?_
        refine lv_bipush (v := 44) hx hb dX1_faultAsShots_38 (by decide) ?_
        refine lv_icmp_ne (tgt := 50) hx hb dX1_faultAsShots_40 (by decide) (fun c_2 => ?_) (fun c_2 => ?_)
        · refine lv_bipush (v := (-4)) hx hb dX1_faultAsShots_50 (by decide) ?_
          exact hQ _ _ _ _ (-4) ([((z 0), .inr (1, [.ref (z 1), .int (nI n)])), ((z 1), .inr (4, [.ref (z 2)])), ((z 2), .inl (cI, 60, .inl f))]) dX1_faultAsShots_52 (by rw [← hv, show n - i = 0 by omega, fsG]; simp only [c_2, if_true, if_false]) rfl hP hS
        · refine lv_aload_n hx hb dX1_faultAsShots_43 rfl (lv_at hl 0 rfl) ?_
          refine va_get (D := D) (ci := 1) (v := .int (nI n)) (C := RX1) (T := TX1) (N := 2) hx hb hts iX1 hown hK hP 0 rfl rfl 1 (Nat.le_of_ble_eq_true rfl) (hts (.fieldLink RX1 20 "BentPins$Pad" "length" "I") (List.mem_of_getElem? (i := 1) rfl)) (fun _ h9 => h9) rfl dX1_faultAsShots_44 ?_
          refine lv_goto (tgt := 52) hx hb dX1_faultAsShots_47 (by decide) ?_
          exact hQ _ _ _ _ (nI n) ([((z 0), .inr (1, [.ref (z 1), .int (nI n)])), ((z 1), .inr (4, [.ref (z 2)])), ((z 2), .inl (cI, 60, .inl f))]) dX1_faultAsShots_52 (by rw [← hv, show n - i = 0 by omega, fsG]; simp only [eq_true c_2, if_true, if_false]) rfl hP hS
      · have n_1 : i < n := ej_tnle (a := n) (b := i) (by omega) (by omega) c_1
        refine lv_aload_n hx hb dX1_faultAsShots_13 rfl (lv_at hl 0 rfl) ?_
        refine lv_iload_n hx hb dX1_faultAsShots_14 rfl (lv_at hl 2 rfl) ?_
        refine ej_V (As := [.int (nI i)]) (rest := []) (w' := [((z 0), .inr (1, [.ref (z 1), .int (nI n)])), ((z 1), .inr (4, [.ref (z 2)])), ((z 2), .inl (cI, 60, .inl f))]) S hK hN hA hP hD hS (c_X1_codeAt l D tys cI ht0 z n f i (by omega) (by omega)) (cwV 1 hts gX1_faultAsShots_X1_codeAt rfl rfl rfl hdv_X1_codeAt ⟨Nat.le_of_ble_eq_true rfl, Nat.le_of_ble_eq_true rfl⟩) [0, 1, 2] [some 0, some 1, some 2] [(z 0), (z 1), (z 2)] rfl (by decide +kernel) ⟨rfl, rfl⟩ rfl (by decide +kernel) 0 1 rfl rfl rfl rfl hl.1 (Nat.le_of_ble_eq_true rfl) dX1_faultAsShots_15 ⟨Nat.zero_le _, Nat.zero_le _⟩ (fun H locs hP hD hS => ?_)
        show W p9 l e9 (eR 3 63) s9 m9 a9 b9 t9 c9 H locs 0 0 Q (F0 m9 18 ls (.int (codeP n f i) :: []))
        refine lv_istore_n (lv' := [(3, .int (codeP n f i)), (0, .ref (z 0)), (1, .int b), (2, .int (nI i))]) hx hb dX1_faultAsShots_18 rfl hl (by decide) rfl (fun ls hl => ?_)
        refine lv_iload_n hx hb dX1_faultAsShots_19 rfl (lv_at hl 2 rfl) ?_
        refine lv_iload_n hx hb dX1_faultAsShots_20 rfl (lv_at hl 0 rfl) ?_
        refine ej_S (As := [.int b, .int (codeP n f i)]) (rest := []) (w' := [((z 0), .inr (1, [.ref (z 1), .int (nI n)])), ((z 1), .inr (4, [.ref (z 2)])), ((z 2), .inl (cI, 60, .inl f))]) S hK hN hA hP hD hS (c_X1_mayFollow l D tys cI ht0 b (codeP n f i)) (va_cwS 2 hts gX1_faultAsShots_X1_mayFollow rfl rfl rfl hds_X1_mayFollow ⟨Nat.le_of_ble_eq_true rfl, Nat.le_of_ble_eq_true rfl⟩) [] [] [] rfl (by decide +kernel) ⟨rfl, rfl⟩ rfl (by decide +kernel) rfl rfl hl.1 (Nat.le_of_ble_eq_true rfl) dX1_faultAsShots_21 ⟨Nat.zero_le _, Nat.zero_le _⟩ (fun H locs hP hD hS => ?_)
        show W p9 l e9 (eR 3 63) s9 m9 a9 b9 t9 c9 H locs 0 0 Q (F0 m9 24 ls (.int (if mayF b (codeP n f i) then 1 else 0) :: []))
        refine lv_if_ne (tgt := 29) hx hb dX1_faultAsShots_24 (by decide) (fun c_3 => ?_) (fun c_3 => ?_)
        · have b_3 : mayF b (codeP n f i) := ej_b1 c_3
          refine lv_iload_n hx hb dX1_faultAsShots_29 rfl (lv_at hl 0 rfl) ?_
          refine lv_istore_n (lv' := [(1, .int (codeP n f i)), (3, .int (codeP n f i)), (0, .ref (z 0)), (2, .int (nI i))]) hx hb dX1_faultAsShots_30 rfl hl (by decide) rfl (fun ls hl => ?_)
          refine lv_iinc (v := nI (i + 1)) (lv' := [(2, .int (nI (i + 1))), (1, .int (codeP n f i)), (3, .int (codeP n f i)), (0, .ref (z 0))]) hx hb dX1_faultAsShots_31 hl (k := 3) rfl (nI_add i 1) (by decide) rfl (fun ls hl => ?_)
          refine lv_goto (tgt := 5) hx hb dX1_faultAsShots_34 (by decide) ?_
          exact ih5  (i + 1) (codeP n f i) (by omega) (by omega) (by rw [← hv, show n - i = (n - (i + 1)) + 1 by omega, fsG, if_pos b_3]) _ _ _ hP hD hS (lv_sub hl [3, 1, 0] rfl)
        · have b_3 : ¬ (mayF b (codeP n f i)) := ej_b0 c_3
          refine lv_iload_n hx hb dX1_faultAsShots_27 rfl (lv_at hl 3 rfl) ?_
          exact hQ _ _ _ _ (nI i) ([((z 0), .inr (1, [.ref (z 1), .int (nI n)])), ((z 1), .inr (4, [.ref (z 2)])), ((z 2), .inl (cI, 60, .inl f))]) dX1_faultAsShots_28 (by rw [← hv, show n - i = (n - (i + 1)) + 1 by omega, fsG, if_neg b_3]) rfl hP hS
  exact lp5 ((n - 0) + 1) 0 44 (by omega) (by omega) rfl _ _ _ hP hD hS (lv_sub hl [2, 1, 0] rfl)
