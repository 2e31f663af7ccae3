set_option maxHeartbeats 4000000 in
set_option maxRecDepth 100000 in
theorem c_X7_in (l : Launch) (D : va_G) (tys : eT) (cI : ClassId) (ht0 : tys[0]? = some (cI, .int)) (v lo hi : Int32)   : fc l D tys yX7_in wsX7_in (eR 0 0) [.int v, .int lo, .int hi] (([] : va_W)) (some (.int (if ¬ v < lo ∧ ¬ hi < v then 1 else 0))) (([] : va_W)) := by
  refine fc_int cX7_in 3 (by decide +kernel) rfl (ej_narB _) (Nat.le_of_ble_eq_true rfl) ?_
  intro p9 e9 s9 m9 a9 b9 t9 c9 H0 A Q ls S hK hN hA hP hD hS hl hQ
  have S : CallFix p9 m9 c9 cX7_in 3 s9 a9 wsX7_in RX7 := S
  obtain ⟨hx, hb, hml, hown, hts⟩ := id S
  have hP : va_P D vwCl (([] : va_W)) H0 := hP
  have hD : va_D A (([] : va_W)) := hD
  have hl : lv_has ls 3 [(0, .int v), (1, .int lo), (2, .int hi)] := hl
  refine lv_iload_n hx hb dX7_in_0 rfl (lv_at hl 0 rfl) ?_
  refine lv_iload_n hx hb dX7_in_1 rfl (lv_at hl 1 rfl) ?_
  refine lv_icmp_lt (tgt := 14) hx hb dX7_in_2 (by decide) (fun c_1 => ?_) (fun c_1 => ?_)
  · have d_1 := ej_xb c_1
    refine lv_iconst (v := 0) hx hb dX7_in_14 (by decide) ?_
    exact hQ _ _ _ _ 0 (([] : va_W)) dX7_in_15 (by first | (simp only [c_1, d_1, if_true, if_false, ite_true, ite_false, not_true_eq_false, not_false_eq_true, and_true, true_and, and_false, false_and, and_self, true_or, or_true, or_false, false_or, reduceIte]; done) | rfl | simp [c_1, d_1]) rfl hP hS
  · have d_1 := ej_xc c_1
    refine lv_iload_n hx hb dX7_in_5 rfl (lv_at hl 0 rfl) ?_
    refine lv_iload_n hx hb dX7_in_6 rfl (lv_at hl 2 rfl) ?_
    refine lv_icmp_gt (tgt := 14) hx hb dX7_in_7 (by decide) (fun c_2 => ?_) (fun c_2 => ?_)
    · have d_2 := ej_xb c_2
      refine lv_iconst (v := 0) hx hb dX7_in_14 (by decide) ?_
      exact hQ _ _ _ _ 0 (([] : va_W)) dX7_in_15 (by first | (simp only [c_1, d_1, c_2, d_2, if_true, if_false, ite_true, ite_false, not_true_eq_false, not_false_eq_true, and_true, true_and, and_false, false_and, and_self, true_or, or_true, or_false, false_or, reduceIte]; done) | rfl | simp [c_1, d_1, c_2, d_2]) rfl hP hS
    · have d_2 := ej_xc c_2
      refine lv_iconst (v := 1) hx hb dX7_in_10 (by decide) ?_
      refine lv_goto (tgt := 15) hx hb dX7_in_11 (by decide) ?_
      exact hQ _ _ _ _ 1 (([] : va_W)) dX7_in_15 (by first | (simp only [c_1, d_1, c_2, d_2, if_true, if_false, ite_true, ite_false, not_true_eq_false, not_false_eq_true, and_true, true_and, and_false, false_and, and_self, true_or, or_true, or_false, false_or, reduceIte]; done) | rfl | simp [c_1, d_1, c_2, d_2]) rfl hP hS
set_option maxHeartbeats 4000000 in
set_option maxRecDepth 100000 in
theorem c_X7_isPin (l : Launch) (D : va_G) (tys : eT) (cI : ClassId) (ht0 : tys[0]? = some (cI, .int)) (v : Int32)   : fc l D tys yX7_isPin wsX7_isPin (eR 1 22) [.int v] (([] : va_W)) (some (.int (if ¬ v < 0 ∧ ¬ 34 < v then 1 else 0))) (([] : va_W)) := by
  refine fc_int cX7_isPin 1 (by decide +kernel) rfl (ej_narB _) (Nat.le_of_ble_eq_true rfl) ?_
  intro p9 e9 s9 m9 a9 b9 t9 c9 H0 A Q ls S hK hN hA hP hD hS hl hQ
  have S : CallFix p9 m9 c9 cX7_isPin 1 s9 a9 wsX7_isPin RX7 := S
  obtain ⟨hx, hb, hml, hown, hts⟩ := id S
  have hP : va_P D vwCl (([] : va_W)) H0 := hP
  have hD : va_D A (([] : va_W)) := hD
  have hl : lv_has ls 1 [(0, .int v)] := hl
  refine lv_iload_n hx hb dX7_isPin_0 rfl (lv_at hl 0 rfl) ?_
  refine lv_iconst (v := 0) hx hb dX7_isPin_1 (by decide) ?_
  refine lv_bipush (v := 34) hx hb dX7_isPin_2 (by decide) ?_
  refine ej_S (As := [.int v, .int 0, .int 34]) (rest := []) (w' := ([] : va_W)) S hK hN hA hP hD hS (c_X7_in l D tys cI ht0 v 0 34) (va_cwS 3 hts gX7_isPin_X7_in rfl rfl rfl hds_X7_in ⟨Nat.le_of_ble_eq_true rfl, Nat.le_of_ble_eq_true rfl⟩) [] [] [] rfl (by decide +kernel) ⟨rfl, rfl⟩ rfl (by decide +kernel) rfl rfl hl.1 (Nat.le_of_ble_eq_true rfl) dX7_isPin_4 ⟨Nat.zero_le _, Nat.zero_le _⟩ (fun H locs hP hD hS => ?_)
  show W p9 l e9 (eR 1 22) s9 m9 a9 b9 t9 c9 H locs 0 0 Q (F0 m9 7 ls (.int (if ¬ v < 0 ∧ ¬ 34 < v then 1 else 0) :: []))
  exact hQ _ _ _ _ (if ¬ v < 0 ∧ ¬ 34 < v then 1 else 0) (([] : va_W)) dX7_isPin_7 rfl rfl hP hS
set_option maxHeartbeats 4000000 in
set_option maxRecDepth 100000 in
theorem c_X7_isPlace (l : Launch) (D : va_G) (tys : eT) (cI : ClassId) (ht0 : tys[0]? = some (cI, .int)) (v : Int32)   : fc l D tys yX7_isPlace wsX7_isPlace (eR 1 22) [.int v] (([] : va_W)) (some (.int (if ¬ v < 0 ∧ ¬ 6 < v then 1 else 0))) (([] : va_W)) := by
  refine fc_int cX7_isPlace 1 (by decide +kernel) rfl (ej_narB _) (Nat.le_of_ble_eq_true rfl) ?_
  intro p9 e9 s9 m9 a9 b9 t9 c9 H0 A Q ls S hK hN hA hP hD hS hl hQ
  have S : CallFix p9 m9 c9 cX7_isPlace 1 s9 a9 wsX7_isPlace RX7 := S
  obtain ⟨hx, hb, hml, hown, hts⟩ := id S
  have hP : va_P D vwCl (([] : va_W)) H0 := hP
  have hD : va_D A (([] : va_W)) := hD
  have hl : lv_has ls 1 [(0, .int v)] := hl
  refine lv_iload_n hx hb dX7_isPlace_0 rfl (lv_at hl 0 rfl) ?_
  refine lv_iconst (v := 0) hx hb dX7_isPlace_1 (by decide) ?_
  refine lv_bipush (v := 6) hx hb dX7_isPlace_2 (by decide) ?_
  refine ej_S (As := [.int v, .int 0, .int 6]) (rest := []) (w' := ([] : va_W)) S hK hN hA hP hD hS (c_X7_in l D tys cI ht0 v 0 6) (va_cwS 3 hts gX7_isPlace_X7_in rfl rfl rfl hds_X7_in ⟨Nat.le_of_ble_eq_true rfl, Nat.le_of_ble_eq_true rfl⟩) [] [] [] rfl (by decide +kernel) ⟨rfl, rfl⟩ rfl (by decide +kernel) rfl rfl hl.1 (Nat.le_of_ble_eq_true rfl) dX7_isPlace_4 ⟨Nat.zero_le _, Nat.zero_le _⟩ (fun H locs hP hD hS => ?_)
  show W p9 l e9 (eR 1 22) s9 m9 a9 b9 t9 c9 H locs 0 0 Q (F0 m9 7 ls (.int (if ¬ v < 0 ∧ ¬ 6 < v then 1 else 0) :: []))
  exact hQ _ _ _ _ (if ¬ v < 0 ∧ ¬ 6 < v then 1 else 0) (([] : va_W)) dX7_isPlace_7 rfl rfl hP hS
set_option maxHeartbeats 4000000 in
set_option maxRecDepth 100000 in
theorem c_X7_isSign (l : Launch) (D : va_G) (tys : eT) (cI : ClassId) (ht0 : tys[0]? = some (cI, .int)) (c : Int32)   : fc l D tys yX7_isSign wsX7_isSign (eR 0 0) [.int c] (([] : va_W)) (some (.int (if pinS c then 1 else 0))) (([] : va_W)) := by
  refine fc_int cX7_isSign 1 (by decide +kernel) rfl (ej_narB _) (Nat.le_of_ble_eq_true rfl) ?_
  intro p9 e9 s9 m9 a9 b9 t9 c9 H0 A Q ls S hK hN hA hP hD hS hl hQ
  have S : CallFix p9 m9 c9 cX7_isSign 1 s9 a9 wsX7_isSign RX7 := S
  obtain ⟨hx, hb, hml, hown, hts⟩ := id S
  have hP : va_P D vwCl (([] : va_W)) H0 := hP
  have hD : va_D A (([] : va_W)) := hD
  have hl : lv_has ls 1 [(0, .int c)] := hl
  refine lv_iload_n hx hb dX7_isSign_0 rfl (lv_at hl 0 rfl) ?_
  refine lv_bipush (v := 60) hx hb dX7_isSign_1 (by decide) ?_
  refine lv_icmp_eq (tgt := 30) hx hb dX7_isSign_3 (by decide) (fun c_1 => ?_) (fun c_1 => ?_)
  · refine lv_iconst (v := 1) hx hb dX7_isSign_30 (by decide) ?_
    refine lv_goto (tgt := 35) hx hb dX7_isSign_31 (by decide) ?_
    exact hQ _ _ _ _ 1 (([] : va_W)) dX7_isSign_35 (by first | (simp only [pinS, eq_true c_1, if_true, if_false, ite_true, ite_false, not_true_eq_false, not_false_eq_true, and_true, true_and, and_false, false_and, and_self, true_or, or_true, or_false, false_or, reduceIte]; done) | rfl | simp [pinS, eq_true c_1]) rfl hP hS
  · refine lv_iload_n hx hb dX7_isSign_6 rfl (lv_at hl 0 rfl) ?_
    refine lv_bipush (v := 124) hx hb dX7_isSign_7 (by decide) ?_
    refine lv_icmp_eq (tgt := 30) hx hb dX7_isSign_9 (by decide) (fun c_2 => ?_) (fun c_2 => ?_)
    · refine lv_iconst (v := 1) hx hb dX7_isSign_30 (by decide) ?_
      refine lv_goto (tgt := 35) hx hb dX7_isSign_31 (by decide) ?_
      exact hQ _ _ _ _ 1 (([] : va_W)) dX7_isSign_35 (by first | (simp only [pinS, c_1, eq_true c_2, if_true, if_false, ite_true, ite_false, not_true_eq_false, not_false_eq_true, and_true, true_and, and_false, false_and, and_self, true_or, or_true, or_false, false_or, reduceIte]; done) | rfl | simp [pinS, c_1, eq_true c_2]) rfl hP hS
    · refine lv_iload_n hx hb dX7_isSign_12 rfl (lv_at hl 0 rfl) ?_
      refine lv_bipush (v := 62) hx hb dX7_isSign_13 (by decide) ?_
      refine lv_icmp_eq (tgt := 30) hx hb dX7_isSign_15 (by decide) (fun c_3 => ?_) (fun c_3 => ?_)
      · refine lv_iconst (v := 1) hx hb dX7_isSign_30 (by decide) ?_
        refine lv_goto (tgt := 35) hx hb dX7_isSign_31 (by decide) ?_
        exact hQ _ _ _ _ 1 (([] : va_W)) dX7_isSign_35 (by first | (simp only [pinS, c_1, c_2, eq_true c_3, if_true, if_false, ite_true, ite_false, not_true_eq_false, not_false_eq_true, and_true, true_and, and_false, false_and, and_self, true_or, or_true, or_false, false_or, reduceIte]; done) | rfl | simp [pinS, c_1, c_2, eq_true c_3]) rfl hP hS
      · refine lv_iload_n hx hb dX7_isSign_18 rfl (lv_at hl 0 rfl) ?_
        refine lv_bipush (v := 46) hx hb dX7_isSign_19 (by decide) ?_
        refine lv_icmp_eq (tgt := 30) hx hb dX7_isSign_21 (by decide) (fun c_4 => ?_) (fun c_4 => ?_)
        · refine lv_iconst (v := 1) hx hb dX7_isSign_30 (by decide) ?_
          refine lv_goto (tgt := 35) hx hb dX7_isSign_31 (by decide) ?_
          exact hQ _ _ _ _ 1 (([] : va_W)) dX7_isSign_35 (by first | (simp only [pinS, c_1, c_2, c_3, eq_true c_4, if_true, if_false, ite_true, ite_false, not_true_eq_false, not_false_eq_true, and_true, true_and, and_false, false_and, and_self, true_or, or_true, or_false, false_or, reduceIte]; done) | rfl | simp [pinS, c_1, c_2, c_3, eq_true c_4]) rfl hP hS
        · refine lv_iload_n hx hb dX7_isSign_24 rfl (lv_at hl 0 rfl) ?_
          refine lv_bipush (v := 111) hx hb dX7_isSign_25 (by decide) ?_
          refine lv_icmp_ne (tgt := 34) hx hb dX7_isSign_27 (by decide) (fun c_5 => ?_) (fun c_5 => ?_)
          · refine lv_iconst (v := 0) hx hb dX7_isSign_34 (by decide) ?_
            exact hQ _ _ _ _ 0 (([] : va_W)) dX7_isSign_35 (by first | (simp only [pinS, c_1, c_2, c_3, c_4, c_5, if_true, if_false, ite_true, ite_false, not_true_eq_false, not_false_eq_true, and_true, true_and, and_false, false_and, and_self, true_or, or_true, or_false, false_or, reduceIte]; done) | rfl | simp [pinS, c_1, c_2, c_3, c_4, c_5]) rfl hP hS
          · refine lv_iconst (v := 1) hx hb dX7_isSign_30 (by decide) ?_
            refine lv_goto (tgt := 35) hx hb dX7_isSign_31 (by decide) ?_
            exact hQ _ _ _ _ 1 (([] : va_W)) dX7_isSign_35 (by first | (simp only [pinS, c_1, c_2, c_3, c_4, eq_true c_5, if_true, if_false, ite_true, ite_false, not_true_eq_false, not_false_eq_true, and_true, true_and, and_false, false_and, and_self, true_or, or_true, or_false, false_or, reduceIte]; done) | rfl | simp [pinS, c_1, c_2, c_3, c_4, eq_true c_5]) rfl hP hS
set_option maxHeartbeats 4000000 in
set_option maxRecDepth 100000 in
theorem c_X7_moved (l : Launch) (D : va_G) (tys : eT) (cI : ClassId) (ht0 : tys[0]? = some (cI, .int)) (c : Nat) (d : Int32)  (hc : c < 7) (hd : dOK d) : fc l D tys yX7_moved wsX7_moved (eR 1 22) [.int (nI c), .int d] (([] : va_W)) (some (.int (nI (bes c d)))) (([] : va_W)) := by
  refine fc_int cX7_moved 2 (by decide +kernel) rfl (rfl) (Nat.le_of_ble_eq_true rfl) ?_
  intro p9 e9 s9 m9 a9 b9 t9 c9 H0 A Q ls S hK hN hA hP hD hS hl hQ
  have S : CallFix p9 m9 c9 cX7_moved 2 s9 a9 wsX7_moved RX7 := S
  obtain ⟨hx, hb, hml, hown, hts⟩ := id S
  have hP : va_P D vwCl (([] : va_W)) H0 := hP
  have hD : va_D A (([] : va_W)) := hD
  have hl : lv_has ls 2 [(0, .int (nI c)), (1, .int d)] := hl
  refine lv_iload_n hx hb dX7_moved_0 rfl (lv_at hl 0 rfl) ?_
  refine lv_iload_n hx hb dX7_moved_1 rfl (lv_at hl 1 rfl) ?_
  refine lv_iadd hx hb dX7_moved_2 ?_
  refine lv_iconst (v := 0) hx hb dX7_moved_3 (by decide) ?_
  refine lv_bipush (v := 6) hx hb dX7_moved_4 (by decide) ?_
  refine ej_S (As := [.int ((nI c) + d), .int 0, .int 6]) (rest := []) (w' := ([] : va_W)) S hK hN hA hP hD hS (c_X7_in l D tys cI ht0 ((nI c) + d) 0 6) (va_cwS 3 hts gX7_moved_X7_in rfl rfl rfl hds_X7_in ⟨Nat.le_of_ble_eq_true rfl, Nat.le_of_ble_eq_true rfl⟩) [] [] [] rfl (by decide +kernel) ⟨rfl, rfl⟩ rfl (by decide +kernel) rfl rfl hl.1 (Nat.le_of_ble_eq_true rfl) dX7_moved_6 ⟨Nat.zero_le _, Nat.zero_le _⟩ (fun H locs hP hD hS => ?_)
  show W p9 l e9 (eR 1 22) s9 m9 a9 b9 t9 c9 H locs 0 0 Q (F0 m9 9 ls (.int (if ¬ ((nI c) + d) < 0 ∧ ¬ 6 < ((nI c) + d) then 1 else 0) :: []))
  refine lv_if_eq (tgt := 18) hx hb dX7_moved_9 (by decide) (fun c_1 => ?_) (fun c_1 => ?_)
  · have b_1 : ¬ (¬ ((nI c) + d) < 0 ∧ ¬ 6 < ((nI c) + d)) := ej_b0 c_1
    refine lv_iload_n hx hb dX7_moved_18 rfl (lv_at hl 0 rfl) ?_
    exact hQ _ _ _ _ (nI c) (([] : va_W)) dX7_moved_19 (by first | exact mv_in hc hd b_1 | exact mv_out hc hd b_1) rfl hP hS
  · have b_1 : ¬ ((nI c) + d) < 0 ∧ ¬ 6 < ((nI c) + d) := ej_b1 c_1
    refine lv_iload_n hx hb dX7_moved_12 rfl (lv_at hl 0 rfl) ?_
    refine lv_iload_n hx hb dX7_moved_13 rfl (lv_at hl 1 rfl) ?_
    refine lv_iadd hx hb dX7_moved_14 ?_
    refine lv_goto (tgt := 19) hx hb dX7_moved_15 (by decide) ?_
    exact hQ _ _ _ _ ((nI c) + d) (([] : va_W)) dX7_moved_19 (by first | exact mv_in hc hd b_1 | exact mv_out hc hd b_1) rfl hP hS
set_option maxHeartbeats 4000000 in
set_option maxRecDepth 100000 in
theorem c_X7_ones (l : Launch) (D : va_G) (tys : eT) (cI : ClassId) (ht0 : tys[0]? = some (cI, .int)) (m : Nat)  (hm : m < 128) : fc l D tys yX7_ones wsX7_ones (eR 0 0) [.int (nI m)] (([] : va_W)) (some (.int (nI (popc m)))) (([] : va_W)) := by
  refine fc_int cX7_ones 3 (by decide +kernel) rfl (rfl) (Nat.le_of_ble_eq_true rfl) ?_
  intro p9 e9 s9 m9 a9 b9 t9 c9 H0 A Q ls S hK hN hA hP hD hS hl hQ
  have S : CallFix p9 m9 c9 cX7_ones 3 s9 a9 wsX7_ones RX7 := S
  obtain ⟨hx, hb, hml, hown, hts⟩ := id S
  have hP : va_P D vwCl (([] : va_W)) H0 := hP
  have hD : va_D A (([] : va_W)) := hD
  have hl : lv_has ls 3 [(0, .int (nI m))] := hl
  refine lv_iconst (v := 0) hx hb dX7_ones_0 (by decide) ?_
  refine lv_istore_n (lv' := [(1, .int 0), (0, .int (nI m))]) hx hb dX7_ones_1 rfl hl (by decide) rfl (fun ls hl => ?_)
  refine lv_iconst (v := 0) hx hb dX7_ones_2 (by decide) ?_
  refine lv_istore_n (lv' := [(2, .int 0), (1, .int 0), (0, .int (nI m))]) hx hb dX7_ones_3 rfl hl (by decide) rfl (fun ls hl => ?_)
  have lp4 : ∀ (n4 : Nat) (i : Nat), 7 - i < n4 → (i ≤ 7) → ∀ (H : Heap) (locs : List Loc) (ls : Array Slot), va_P D vwCl (([] : va_W)) H → va_D A (([] : va_W)) → va_S A H0 H locs → lv_has ls 3 [(0, .int (nI m)), (1, .int (sumI (fun k => (nI m >>> (nI k &&& 31)) &&& 1) i)), (2, .int (nI i))] → W p9 l e9 (eR 0 0) s9 m9 a9 b9 t9 c9 H locs 0 0 Q (F0 m9 4 ls []) := by
    intro n4
    induction n4 with
    | zero => intro i hm9; exact absurd hm9 (Nat.not_lt_zero _)
    | succ n4 ih4 =>
      intro i hm4 hi H locs ls hP hD hS hl
      refine lv_iload_n hx hb dX7_ones_4 rfl (lv_at hl 2 rfl) ?_
      refine lv_bipush (v := 7) hx hb dX7_ones_5 (by decide) ?_
      refine lv_icmp_ge (tgt := 24) hx hb dX7_ones_7 (by decide) (fun c_1 => ?_) (fun c_1 => ?_)
      · have n_1 : 7 ≤ i := ej_tle (a := 7) (b := i) (by omega) (by omega) c_1
        refine lv_iload_n hx hb dX7_ones_24 rfl (lv_at hl 1 rfl) ?_
        exact hQ _ _ _ _ (sumI (fun k => (nI m >>> (nI k &&& 31)) &&& 1) i) (([] : va_W)) dX7_ones_25 (by rw [show i = 7 by omega]; exact ones_ok m hm) rfl hP hS
      · have n_1 : i < 7 := ej_tnle (a := 7) (b := i) (by omega) (by omega) c_1
        refine lv_iload_n hx hb dX7_ones_10 rfl (lv_at hl 1 rfl) ?_
        refine lv_iload_n hx hb dX7_ones_11 rfl (lv_at hl 0 rfl) ?_
        refine lv_iload_n hx hb dX7_ones_12 rfl (lv_at hl 2 rfl) ?_
        refine lv_ishr hx hb dX7_ones_13 ?_
        refine lv_iconst (v := 1) hx hb dX7_ones_14 (by decide) ?_
        refine lv_iand hx hb dX7_ones_15 ?_
        refine ej_topi (show (((nI m) >>> ((nI i) &&& 31)) &&& 1) = (nI m >>> (nI i &&& 31)) &&& 1 from rfl) ?_
        refine lv_iadd hx hb dX7_ones_16 ?_
        refine lv_istore_n (lv' := [(1, .int ((sumI (fun k => (nI m >>> (nI k &&& 31)) &&& 1) i) + ((nI m >>> (nI i &&& 31)) &&& 1))), (0, .int (nI m)), (2, .int (nI i))]) hx hb dX7_ones_17 rfl hl (by decide) rfl (fun ls hl => ?_)
        refine lv_iinc (v := nI (i + 1)) (lv' := [(2, .int (nI (i + 1))), (1, .int ((sumI (fun k => (nI m >>> (nI k &&& 31)) &&& 1) i) + ((nI m >>> (nI i &&& 31)) &&& 1))), (0, .int (nI m))]) hx hb dX7_ones_18 hl (k := 2) rfl (nI_add i 1) (by decide) rfl (fun ls hl => ?_)
        refine lv_goto (tgt := 4) hx hb dX7_ones_21 (by decide) ?_
        exact ih4  (i + 1) (by omega) (by omega) _ _ _ hP hD hS (lv_sub hl [2, 1, 0] rfl)
  exact lp4 ((7 - 0) + 1) 0 (by omega) (by omega) _ _ _ hP hD hS (lv_sub hl [2, 1, 0] rfl)
set_option maxHeartbeats 4000000 in
set_option maxRecDepth 100000 in
theorem c_X7_copies (l : Launch) (D : va_G) (tys : eT) (cI : ClassId) (ht0 : tys[0]? = some (cI, .int)) (h1 h2 : Nat) (n1 n2 : Nat) (f g : Nat → Int32) (x y : Nat)  (hx1 : x + 206 ≤ n1) (hy1 : y + 206 ≤ n2) (hn1 : n1 < 2147483648) (hn2 : n2 < 2147483648) : fc l D tys yX7_copies wsX7_copies (eR 0 0) [.ref h1, .int (nI x), .ref h2, .int (nI y)] ([(h1, .inl (cI, n1, .inl f)), (h2, .inl (cI, n2, .inl g))]) none ([(h1, .inl (cI, n1, .inl f)), (h2, .inl (cI, n2, .inl (cpyG f g x y 206)))]) := by
  refine fc_void cX7_copies 5 (by decide +kernel) rfl (Nat.le_of_ble_eq_true rfl) ?_
  intro p9 e9 s9 m9 a9 b9 t9 c9 H0 A Q ls S hK hN hA hP hD hS hl hQ
  have S : CallFix p9 m9 c9 cX7_copies 5 s9 a9 wsX7_copies RX7 := S
  obtain ⟨hx, hb, hml, hown, hts⟩ := id S
  have hP : va_P D vwCl ([(h1, .inl (cI, n1, .inl f)), (h2, .inl (cI, n2, .inl g))]) H0 := hP
  have hD : va_D A ([(h1, .inl (cI, n1, .inl f)), (h2, .inl (cI, n2, .inl g))]) := hD
  have hl : lv_has ls 5 [(0, .ref h1), (1, .int (nI x)), (2, .ref h2), (3, .int (nI y))] := hl
  refine lv_iconst (v := 0) hx hb dX7_copies_0 (by decide) ?_
  refine lv_istore (lv' := [(4, .int 0), (0, .ref h1), (1, .int (nI x)), (2, .ref h2), (3, .int (nI y))]) hx hb dX7_copies_1 hl (by decide) rfl (fun ls hl => ?_)
  have lp3 : ∀ (n3 : Nat) (i : Nat) (w : Nat → Int32), 206 - i < n3 → (i ≤ 206) → (w = cpyG f g x y i) → ∀ (H : Heap) (locs : List Loc) (ls : Array Slot), va_P D vwCl ([(h1, .inl (cI, n1, .inl f)), (h2, .inl (cI, n2, .inl w))]) H → va_D A ([(h1, .inl (cI, n1, .inl f)), (h2, .inl (cI, n2, .inl w))]) → va_S A H0 H locs → lv_has ls 5 [(0, .ref h1), (1, .int (nI x)), (2, .ref h2), (3, .int (nI y)), (4, .int (nI i))] → W p9 l e9 (eR 0 0) s9 m9 a9 b9 t9 c9 H locs 0 0 Q (F0 m9 3 ls []) := by
    intro n3
    induction n3 with
    | zero => intro i w hm9; exact absurd hm9 (Nat.not_lt_zero _)
    | succ n3 ih3 =>
      intro i w hm3 hi ew H locs ls hP hD hS hl
      refine lv_iload hx hb dX7_copies_3 (lv_at hl 4 rfl) ?_
      refine lv_sipush (v := 206) hx hb dX7_copies_5 (by decide) ?_
      refine lv_icmp_ge (tgt := 29) hx hb dX7_copies_8 (by decide) (fun c_1 => ?_) (fun c_1 => ?_)
      · have n_1 : 206 ≤ i := ej_tle (a := 206) (b := i) (by omega) (by omega) c_1
        exact hQ _ _ _ _ ([(h1, .inl (cI, n1, .inl f)), (h2, .inl (cI, n2, .inl w))]) dX7_copies_29 (by rw [ew, show i = 206 by omega]) hP hS
      · have n_1 : i < 206 := ej_tnle (a := 206) (b := i) (by omega) (by omega) c_1
        refine lv_aload_n hx hb dX7_copies_11 rfl (lv_at hl 2 rfl) ?_
        refine lv_iload_n hx hb dX7_copies_12 rfl (lv_at hl 3 rfl) ?_
        refine lv_iload hx hb dX7_copies_13 (lv_at hl 4 rfl) ?_
        refine lv_iadd hx hb dX7_copies_15 ?_
        refine ej_topi (show (nI y) + (nI i) = nI (y + i) from nI_add y i) ?_
        refine lv_aload_n hx hb dX7_copies_16 rfl (lv_at hl 0 rfl) ?_
        refine lv_iload_n hx hb dX7_copies_17 rfl (lv_at hl 1 rfl) ?_
        refine lv_iload hx hb dX7_copies_18 (lv_at hl 4 rfl) ?_
        refine lv_iadd hx hb dX7_copies_20 ?_
        refine ej_topi (show (nI x) + (nI i) = nI (x + i) from nI_add x i) ?_
        refine va_iald (i := nI (x + i)) hx hb hK hP 0 0 rfl ht0 (vp_in_nI (n := x + i) (N := n1) (by omega) (by omega)) dX7_copies_21 ?_
        refine ej_topi (show f (nI (x + i)).toNatClampNeg = f (x + i) from congrArg f (nI_clamp (n := x + i) (by omega))) ?_
        refine va_iast (i := nI (y + i)) hx hb hK hP hD hS 1 0 rfl ht0 (vp_in_nI (n := y + i) (N := n2) (by omega) (by omega)) dX7_copies_22 (fun H locs hP hD hS => ?_)
        rw [show (nI (y + i)).toNatClampNeg = y + i from nI_clamp (by omega)] at hP hD
        have hP : va_P D vwCl ([(h1, .inl (cI, n1, .inl f)), (h2, .inl (cI, n2, .inl (upd w (y + i) (f (x + i)))))]) H := hP
        have hD : va_D A ([(h1, .inl (cI, n1, .inl f)), (h2, .inl (cI, n2, .inl (upd w (y + i) (f (x + i)))))]) := hD
        refine lv_iinc (v := nI (i + 1)) (lv' := [(4, .int (nI (i + 1))), (0, .ref h1), (1, .int (nI x)), (2, .ref h2), (3, .int (nI y))]) hx hb dX7_copies_23 hl (k := 4) rfl (nI_add i 1) (by decide) rfl (fun ls hl => ?_)
        refine lv_goto (tgt := 3) hx hb dX7_copies_26 (by decide) ?_
        exact ih3  (i + 1) (upd w (y + i) (f (x + i))) (by omega) (by omega) (by rw [ew]; exact cpyG_s f g x y i) _ _ _ hP hD hS (lv_sub hl [1, 2, 3, 4, 0] rfl)
  exact lp3 ((206 - 0) + 1) 0 g (by omega) (by omega) (cpyG_0 f g x y) _ _ _ hP hD hS (lv_sub hl [1, 2, 3, 4, 0] rfl)
set_option maxHeartbeats 4000000 in
set_option maxRecDepth 100000 in
theorem c_X7_of (l : Launch) (D : va_G) (tys : eT) (cI : ClassId) (ht0 : tys[0]? = some (cI, .int)) (b : Nat → Nat) (kn le sp : Nat) (ik be fo op ha st : Int32) (F : Nat → Int32) (k w : Nat)  (hk : k < 35) (hw : w < 5) : fc l D tys yX7_of wsX7_of (eR 0 0) [.ref (b 0), .int (nI k), .int (nI w)] ([((b 0), .inr (7, [.ref (b 1), .ref (b 2), .ref (b 3), .int (nI kn), .ref (b 4), .int ik, .ref (b 5), .int (nI le), .int be, .int (nI sp), .int fo, .int op, .int ha, .int st, .ref (b 6), .ref (b 7), .ref (b 8)])), ((b 1), .inl (cI, 206, .inl F))]) (some (.int (F (10 + 5 * k + w)))) ([((b 0), .inr (7, [.ref (b 1), .ref (b 2), .ref (b 3), .int (nI kn), .ref (b 4), .int ik, .ref (b 5), .int (nI le), .int be, .int (nI sp), .int fo, .int op, .int ha, .int st, .ref (b 6), .ref (b 7), .ref (b 8)])), ((b 1), .inl (cI, 206, .inl F))]) := by
  refine fc_int cX7_of 3 (by decide +kernel) rfl (rfl) (Nat.le_of_ble_eq_true rfl) ?_
  intro p9 e9 s9 m9 a9 b9 t9 c9 H0 A Q ls S hK hN hA hP hD hS hl hQ
  have S : CallFix p9 m9 c9 cX7_of 3 s9 a9 wsX7_of RX7 := S
  obtain ⟨hx, hb, hml, hown, hts⟩ := id S
  have iX7 : ∀ w ∈ wsX70, w ∈ wsX7_of := fun w h => List.mem_cons_of_mem _ (List.mem_append_right _ (h))
  have hP : va_P D vwCl ([((b 0), .inr (7, [.ref (b 1), .ref (b 2), .ref (b 3), .int (nI kn), .ref (b 4), .int ik, .ref (b 5), .int (nI le), .int be, .int (nI sp), .int fo, .int op, .int ha, .int st, .ref (b 6), .ref (b 7), .ref (b 8)])), ((b 1), .inl (cI, 206, .inl F))]) H0 := hP
  have hD : va_D A ([((b 0), .inr (7, [.ref (b 1), .ref (b 2), .ref (b 3), .int (nI kn), .ref (b 4), .int ik, .ref (b 5), .int (nI le), .int be, .int (nI sp), .int fo, .int op, .int ha, .int st, .ref (b 6), .ref (b 7), .ref (b 8)])), ((b 1), .inl (cI, 206, .inl F))]) := hD
  have hl : lv_has ls 3 [(0, .ref (b 0)), (1, .int (nI k)), (2, .int (nI w))] := hl
  refine lv_aload_n hx hb dX7_of_0 rfl (lv_at hl 0 rfl) ?_
  refine va_get (D := D) (ci := 7) (v := .ref (b 1)) (C := RX7) (T := TX7) (N := 17) hx hb hts iX7 hown hK hP 0 rfl rfl 0 (Nat.le_of_ble_eq_true rfl) (hts (.fieldLink RX7 7 "BentPinsModel" "s" "[I") (List.mem_of_getElem? (i := 1) rfl)) (fun _ h9 => h9) rfl dX7_of_1 ?_
  refine lv_bipush (v := 10) hx hb dX7_of_4 (by decide) ?_
  refine lv_iconst (v := 5) hx hb dX7_of_6 (by decide) ?_
  refine lv_iload_n hx hb dX7_of_7 rfl (lv_at hl 1 rfl) ?_
  refine lv_imul hx hb dX7_of_8 ?_
  refine ej_topi (show 5 * (nI k) = nI (5 * k) from pk_mul 5 k) ?_
  refine lv_iadd hx hb dX7_of_9 ?_
  refine ej_topi (show 10 + (nI (5 * k)) = nI (10 + (5 * k)) from nI_add 10 (5 * k)) ?_
  refine lv_iload_n hx hb dX7_of_10 rfl (lv_at hl 2 rfl) ?_
  refine lv_iadd hx hb dX7_of_11 ?_
  refine ej_topi (show (nI (10 + (5 * k))) + (nI w) = nI ((10 + (5 * k)) + w) from nI_add (10 + (5 * k)) w) ?_
  refine va_iald (i := nI ((10 + (5 * k)) + w)) hx hb hK hP 1 0 rfl ht0 (vp_in_nI (n := (10 + (5 * k)) + w) (N := 206) (by omega) (by omega)) dX7_of_12 ?_
  refine ej_topi (show F (nI ((10 + (5 * k)) + w)).toNatClampNeg = F ((10 + (5 * k)) + w) from congrArg F (nI_clamp (n := (10 + (5 * k)) + w) (by omega))) ?_
  exact hQ _ _ _ _ (F ((10 + (5 * k)) + w)) ([((b 0), .inr (7, [.ref (b 1), .ref (b 2), .ref (b 3), .int (nI kn), .ref (b 4), .int ik, .ref (b 5), .int (nI le), .int be, .int (nI sp), .int fo, .int op, .int ha, .int st, .ref (b 6), .ref (b 7), .ref (b 8)])), ((b 1), .inl (cI, 206, .inl F))]) dX7_of_13 rfl rfl hP hS
set_option maxHeartbeats 4000000 in
set_option maxRecDepth 100000 in
theorem c_X7_lays (l : Launch) (D : va_G) (tys : eT) (cI : ClassId) (ht0 : tys[0]? = some (cI, .int)) (b : Nat → Nat) (kn le sp : Nat) (ik be fo op ha st : Int32) (F : Nat → Int32) (k w : Nat) (v : Int32)  (hk : k < 35) (hw : w < 5) : fc l D tys yX7_lays wsX7_lays (eR 0 0) [.ref (b 0), .int (nI k), .int (nI w), .int v] ([((b 0), .inr (7, [.ref (b 1), .ref (b 2), .ref (b 3), .int (nI kn), .ref (b 4), .int ik, .ref (b 5), .int (nI le), .int be, .int (nI sp), .int fo, .int op, .int ha, .int st, .ref (b 6), .ref (b 7), .ref (b 8)])), ((b 1), .inl (cI, 206, .inl F))]) none ([((b 0), .inr (7, [.ref (b 1), .ref (b 2), .ref (b 3), .int (nI kn), .ref (b 4), .int ik, .ref (b 5), .int (nI le), .int be, .int (nI sp), .int fo, .int op, .int ha, .int st, .ref (b 6), .ref (b 7), .ref (b 8)])), ((b 1), .inl (cI, 206, .inl (upd F (10 + 5 * k + w) v)))]) := by
  refine fc_void cX7_lays 4 (by decide +kernel) rfl (Nat.le_of_ble_eq_true rfl) ?_
  intro p9 e9 s9 m9 a9 b9 t9 c9 H0 A Q ls S hK hN hA hP hD hS hl hQ
  have S : CallFix p9 m9 c9 cX7_lays 4 s9 a9 wsX7_lays RX7 := S
  obtain ⟨hx, hb, hml, hown, hts⟩ := id S
  have iX7 : ∀ w ∈ wsX70, w ∈ wsX7_lays := fun w h => List.mem_cons_of_mem _ (List.mem_append_right _ (h))
  have hP : va_P D vwCl ([((b 0), .inr (7, [.ref (b 1), .ref (b 2), .ref (b 3), .int (nI kn), .ref (b 4), .int ik, .ref (b 5), .int (nI le), .int be, .int (nI sp), .int fo, .int op, .int ha, .int st, .ref (b 6), .ref (b 7), .ref (b 8)])), ((b 1), .inl (cI, 206, .inl F))]) H0 := hP
  have hD : va_D A ([((b 0), .inr (7, [.ref (b 1), .ref (b 2), .ref (b 3), .int (nI kn), .ref (b 4), .int ik, .ref (b 5), .int (nI le), .int be, .int (nI sp), .int fo, .int op, .int ha, .int st, .ref (b 6), .ref (b 7), .ref (b 8)])), ((b 1), .inl (cI, 206, .inl F))]) := hD
  have hl : lv_has ls 4 [(0, .ref (b 0)), (1, .int (nI k)), (2, .int (nI w)), (3, .int v)] := hl
  refine lv_aload_n hx hb dX7_lays_0 rfl (lv_at hl 0 rfl) ?_
  refine va_get (D := D) (ci := 7) (v := .ref (b 1)) (C := RX7) (T := TX7) (N := 17) hx hb hts iX7 hown hK hP 0 rfl rfl 0 (Nat.le_of_ble_eq_true rfl) (hts (.fieldLink RX7 7 "BentPinsModel" "s" "[I") (List.mem_of_getElem? (i := 1) rfl)) (fun _ h9 => h9) rfl dX7_lays_1 ?_
  refine lv_bipush (v := 10) hx hb dX7_lays_4 (by decide) ?_
  refine lv_iconst (v := 5) hx hb dX7_lays_6 (by decide) ?_
  refine lv_iload_n hx hb dX7_lays_7 rfl (lv_at hl 1 rfl) ?_
  refine lv_imul hx hb dX7_lays_8 ?_
  refine ej_topi (show 5 * (nI k) = nI (5 * k) from pk_mul 5 k) ?_
  refine lv_iadd hx hb dX7_lays_9 ?_
  refine ej_topi (show 10 + (nI (5 * k)) = nI (10 + (5 * k)) from nI_add 10 (5 * k)) ?_
  refine lv_iload_n hx hb dX7_lays_10 rfl (lv_at hl 2 rfl) ?_
  refine lv_iadd hx hb dX7_lays_11 ?_
  refine ej_topi (show (nI (10 + (5 * k))) + (nI w) = nI ((10 + (5 * k)) + w) from nI_add (10 + (5 * k)) w) ?_
  refine lv_iload_n hx hb dX7_lays_12 rfl (lv_at hl 3 rfl) ?_
  refine va_iast (i := nI ((10 + (5 * k)) + w)) hx hb hK hP hD hS 1 0 rfl ht0 (vp_in_nI (n := (10 + (5 * k)) + w) (N := 206) (by omega) (by omega)) dX7_lays_13 (fun H locs hP hD hS => ?_)
  rw [show (nI ((10 + (5 * k)) + w)).toNatClampNeg = (10 + (5 * k)) + w from nI_clamp (by omega)] at hP hD
  have hP : va_P D vwCl ([((b 0), .inr (7, [.ref (b 1), .ref (b 2), .ref (b 3), .int (nI kn), .ref (b 4), .int ik, .ref (b 5), .int (nI le), .int be, .int (nI sp), .int fo, .int op, .int ha, .int st, .ref (b 6), .ref (b 7), .ref (b 8)])), ((b 1), .inl (cI, 206, .inl (upd F ((10 + (5 * k)) + w) v)))]) H := hP
  have hD : va_D A ([((b 0), .inr (7, [.ref (b 1), .ref (b 2), .ref (b 3), .int (nI kn), .ref (b 4), .int ik, .ref (b 5), .int (nI le), .int be, .int (nI sp), .int fo, .int op, .int ha, .int st, .ref (b 6), .ref (b 7), .ref (b 8)])), ((b 1), .inl (cI, 206, .inl (upd F ((10 + (5 * k)) + w) v)))]) := hD
  exact hQ _ _ _ _ ([((b 0), .inr (7, [.ref (b 1), .ref (b 2), .ref (b 3), .int (nI kn), .ref (b 4), .int ik, .ref (b 5), .int (nI le), .int be, .int (nI sp), .int fo, .int op, .int ha, .int st, .ref (b 6), .ref (b 7), .ref (b 8)])), ((b 1), .inl (cI, 206, .inl (upd F ((10 + (5 * k)) + w) v)))]) dX7_lays_14 rfl hP hS
set_option maxHeartbeats 4000000 in
set_option maxRecDepth 100000 in
theorem c_X7_inPocket (l : Launch) (D : va_G) (tys : eT) (cI : ClassId) (ht0 : tys[0]? = some (cI, .int)) (b : Nat → Nat) (kn le sp : Nat) (ik be fo op ha st : Int32) (F : Nat → Int32) (k w : Nat)  (hk : k < 7) (hw : w < 3) : fc l D tys yX7_inPocket wsX7_inPocket (eR 0 0) [.ref (b 0), .int (nI k), .int (nI w)] ([((b 0), .inr (7, [.ref (b 1), .ref (b 2), .ref (b 3), .int (nI kn), .ref (b 4), .int ik, .ref (b 5), .int (nI le), .int be, .int (nI sp), .int fo, .int op, .int ha, .int st, .ref (b 6), .ref (b 7), .ref (b 8)])), ((b 1), .inl (cI, 206, .inl F))]) (some (.int (F (185 + 3 * k + w)))) ([((b 0), .inr (7, [.ref (b 1), .ref (b 2), .ref (b 3), .int (nI kn), .ref (b 4), .int ik, .ref (b 5), .int (nI le), .int be, .int (nI sp), .int fo, .int op, .int ha, .int st, .ref (b 6), .ref (b 7), .ref (b 8)])), ((b 1), .inl (cI, 206, .inl F))]) := by
  refine fc_int cX7_inPocket 3 (by decide +kernel) rfl (rfl) (Nat.le_of_ble_eq_true rfl) ?_
  intro p9 e9 s9 m9 a9 b9 t9 c9 H0 A Q ls S hK hN hA hP hD hS hl hQ
  have S : CallFix p9 m9 c9 cX7_inPocket 3 s9 a9 wsX7_inPocket RX7 := S
  obtain ⟨hx, hb, hml, hown, hts⟩ := id S
  have iX7 : ∀ w ∈ wsX70, w ∈ wsX7_inPocket := fun w h => List.mem_cons_of_mem _ (List.mem_append_right _ (h))
  have hP : va_P D vwCl ([((b 0), .inr (7, [.ref (b 1), .ref (b 2), .ref (b 3), .int (nI kn), .ref (b 4), .int ik, .ref (b 5), .int (nI le), .int be, .int (nI sp), .int fo, .int op, .int ha, .int st, .ref (b 6), .ref (b 7), .ref (b 8)])), ((b 1), .inl (cI, 206, .inl F))]) H0 := hP
  have hD : va_D A ([((b 0), .inr (7, [.ref (b 1), .ref (b 2), .ref (b 3), .int (nI kn), .ref (b 4), .int ik, .ref (b 5), .int (nI le), .int be, .int (nI sp), .int fo, .int op, .int ha, .int st, .ref (b 6), .ref (b 7), .ref (b 8)])), ((b 1), .inl (cI, 206, .inl F))]) := hD
  have hl : lv_has ls 3 [(0, .ref (b 0)), (1, .int (nI k)), (2, .int (nI w))] := hl
  refine lv_aload_n hx hb dX7_inPocket_0 rfl (lv_at hl 0 rfl) ?_
  refine va_get (D := D) (ci := 7) (v := .ref (b 1)) (C := RX7) (T := TX7) (N := 17) hx hb hts iX7 hown hK hP 0 rfl rfl 0 (Nat.le_of_ble_eq_true rfl) (hts (.fieldLink RX7 7 "BentPinsModel" "s" "[I") (List.mem_of_getElem? (i := 1) rfl)) (fun _ h9 => h9) rfl dX7_inPocket_1 ?_
  refine lv_sipush (v := 185) hx hb dX7_inPocket_4 (by decide) ?_
  refine lv_iconst (v := 3) hx hb dX7_inPocket_7 (by decide) ?_
  refine lv_iload_n hx hb dX7_inPocket_8 rfl (lv_at hl 1 rfl) ?_
  refine lv_imul hx hb dX7_inPocket_9 ?_
  refine ej_topi (show 3 * (nI k) = nI (3 * k) from pk_mul 3 k) ?_
  refine lv_iadd hx hb dX7_inPocket_10 ?_
  refine ej_topi (show 185 + (nI (3 * k)) = nI (185 + (3 * k)) from nI_add 185 (3 * k)) ?_
  refine lv_iload_n hx hb dX7_inPocket_11 rfl (lv_at hl 2 rfl) ?_
  refine lv_iadd hx hb dX7_inPocket_12 ?_
  refine ej_topi (show (nI (185 + (3 * k))) + (nI w) = nI ((185 + (3 * k)) + w) from nI_add (185 + (3 * k)) w) ?_
  refine va_iald (i := nI ((185 + (3 * k)) + w)) hx hb hK hP 1 0 rfl ht0 (vp_in_nI (n := (185 + (3 * k)) + w) (N := 206) (by omega) (by omega)) dX7_inPocket_13 ?_
  refine ej_topi (show F (nI ((185 + (3 * k)) + w)).toNatClampNeg = F ((185 + (3 * k)) + w) from congrArg F (nI_clamp (n := (185 + (3 * k)) + w) (by omega))) ?_
  exact hQ _ _ _ _ (F ((185 + (3 * k)) + w)) ([((b 0), .inr (7, [.ref (b 1), .ref (b 2), .ref (b 3), .int (nI kn), .ref (b 4), .int ik, .ref (b 5), .int (nI le), .int be, .int (nI sp), .int fo, .int op, .int ha, .int st, .ref (b 6), .ref (b 7), .ref (b 8)])), ((b 1), .inl (cI, 206, .inl F))]) dX7_inPocket_14 rfl rfl hP hS
set_option maxHeartbeats 4000000 in
set_option maxRecDepth 100000 in
theorem c_X7_adds (l : Launch) (D : va_G) (tys : eT) (cI : ClassId) (ht0 : tys[0]? = some (cI, .int)) (b : Nat → Nat) (kn le sp : Nat) (ik be fo op ha st : Int32) (F : Nat → Int32) (k w : Nat) (v : Int32)  (hk : k < 7) (hw : w < 3) : fc l D tys yX7_adds wsX7_adds (eR 0 0) [.ref (b 0), .int (nI k), .int (nI w), .int v] ([((b 0), .inr (7, [.ref (b 1), .ref (b 2), .ref (b 3), .int (nI kn), .ref (b 4), .int ik, .ref (b 5), .int (nI le), .int be, .int (nI sp), .int fo, .int op, .int ha, .int st, .ref (b 6), .ref (b 7), .ref (b 8)])), ((b 1), .inl (cI, 206, .inl F))]) none ([((b 0), .inr (7, [.ref (b 1), .ref (b 2), .ref (b 3), .int (nI kn), .ref (b 4), .int ik, .ref (b 5), .int (nI le), .int be, .int (nI sp), .int fo, .int op, .int ha, .int st, .ref (b 6), .ref (b 7), .ref (b 8)])), ((b 1), .inl (cI, 206, .inl (upd F (185 + 3 * k + w) (F (185 + 3 * k + w) + v))))]) := by
  refine fc_void cX7_adds 4 (by decide +kernel) rfl (Nat.le_of_ble_eq_true rfl) ?_
  intro p9 e9 s9 m9 a9 b9 t9 c9 H0 A Q ls S hK hN hA hP hD hS hl hQ
  have S : CallFix p9 m9 c9 cX7_adds 4 s9 a9 wsX7_adds RX7 := S
  obtain ⟨hx, hb, hml, hown, hts⟩ := id S
  have iX7 : ∀ w ∈ wsX70, w ∈ wsX7_adds := fun w h => List.mem_cons_of_mem _ (List.mem_append_right _ (h))
  have hP : va_P D vwCl ([((b 0), .inr (7, [.ref (b 1), .ref (b 2), .ref (b 3), .int (nI kn), .ref (b 4), .int ik, .ref (b 5), .int (nI le), .int be, .int (nI sp), .int fo, .int op, .int ha, .int st, .ref (b 6), .ref (b 7), .ref (b 8)])), ((b 1), .inl (cI, 206, .inl F))]) H0 := hP
  have hD : va_D A ([((b 0), .inr (7, [.ref (b 1), .ref (b 2), .ref (b 3), .int (nI kn), .ref (b 4), .int ik, .ref (b 5), .int (nI le), .int be, .int (nI sp), .int fo, .int op, .int ha, .int st, .ref (b 6), .ref (b 7), .ref (b 8)])), ((b 1), .inl (cI, 206, .inl F))]) := hD
  have hl : lv_has ls 4 [(0, .ref (b 0)), (1, .int (nI k)), (2, .int (nI w)), (3, .int v)] := hl
  refine lv_aload_n hx hb dX7_adds_0 rfl (lv_at hl 0 rfl) ?_
  refine va_get (D := D) (ci := 7) (v := .ref (b 1)) (C := RX7) (T := TX7) (N := 17) hx hb hts iX7 hown hK hP 0 rfl rfl 0 (Nat.le_of_ble_eq_true rfl) (hts (.fieldLink RX7 7 "BentPinsModel" "s" "[I") (List.mem_of_getElem? (i := 1) rfl)) (fun _ h9 => h9) rfl dX7_adds_1 ?_
  refine lv_sipush (v := 185) hx hb dX7_adds_4 (by decide) ?_
  refine lv_iconst (v := 3) hx hb dX7_adds_7 (by decide) ?_
  refine lv_iload_n hx hb dX7_adds_8 rfl (lv_at hl 1 rfl) ?_
  refine lv_imul hx hb dX7_adds_9 ?_
  refine ej_topi (show 3 * (nI k) = nI (3 * k) from pk_mul 3 k) ?_
  refine lv_iadd hx hb dX7_adds_10 ?_
  refine ej_topi (show 185 + (nI (3 * k)) = nI (185 + (3 * k)) from nI_add 185 (3 * k)) ?_
  refine lv_iload_n hx hb dX7_adds_11 rfl (lv_at hl 2 rfl) ?_
  refine lv_iadd hx hb dX7_adds_12 ?_
  refine ej_topi (show (nI (185 + (3 * k))) + (nI w) = nI ((185 + (3 * k)) + w) from nI_add (185 + (3 * k)) w) ?_
  refine lv_dup2_11 hx hb dX7_adds_13 rfl rfl ?_
  refine va_iald (i := nI ((185 + (3 * k)) + w)) hx hb hK hP 1 0 rfl ht0 (vp_in_nI (n := (185 + (3 * k)) + w) (N := 206) (by omega) (by omega)) dX7_adds_14 ?_
  refine ej_topi (show F (nI ((185 + (3 * k)) + w)).toNatClampNeg = F ((185 + (3 * k)) + w) from congrArg F (nI_clamp (n := (185 + (3 * k)) + w) (by omega))) ?_
  refine lv_iload_n hx hb dX7_adds_15 rfl (lv_at hl 3 rfl) ?_
  refine lv_iadd hx hb dX7_adds_16 ?_
  refine va_iast (i := nI ((185 + (3 * k)) + w)) hx hb hK hP hD hS 1 0 rfl ht0 (vp_in_nI (n := (185 + (3 * k)) + w) (N := 206) (by omega) (by omega)) dX7_adds_17 (fun H locs hP hD hS => ?_)
  rw [show (nI ((185 + (3 * k)) + w)).toNatClampNeg = (185 + (3 * k)) + w from nI_clamp (by omega)] at hP hD
  have hP : va_P D vwCl ([((b 0), .inr (7, [.ref (b 1), .ref (b 2), .ref (b 3), .int (nI kn), .ref (b 4), .int ik, .ref (b 5), .int (nI le), .int be, .int (nI sp), .int fo, .int op, .int ha, .int st, .ref (b 6), .ref (b 7), .ref (b 8)])), ((b 1), .inl (cI, 206, .inl (upd F ((185 + (3 * k)) + w) ((F ((185 + (3 * k)) + w)) + v))))]) H := hP
  have hD : va_D A ([((b 0), .inr (7, [.ref (b 1), .ref (b 2), .ref (b 3), .int (nI kn), .ref (b 4), .int ik, .ref (b 5), .int (nI le), .int be, .int (nI sp), .int fo, .int op, .int ha, .int st, .ref (b 6), .ref (b 7), .ref (b 8)])), ((b 1), .inl (cI, 206, .inl (upd F ((185 + (3 * k)) + w) ((F ((185 + (3 * k)) + w)) + v))))]) := hD
  exact hQ _ _ _ _ ([((b 0), .inr (7, [.ref (b 1), .ref (b 2), .ref (b 3), .int (nI kn), .ref (b 4), .int ik, .ref (b 5), .int (nI le), .int be, .int (nI sp), .int fo, .int op, .int ha, .int st, .ref (b 6), .ref (b 7), .ref (b 8)])), ((b 1), .inl (cI, 206, .inl (upd F ((185 + (3 * k)) + w) ((F ((185 + (3 * k)) + w)) + v))))]) dX7_adds_18 rfl hP hS
set_option maxHeartbeats 4000000 in
set_option maxRecDepth 100000 in
theorem c_X7_isFull (l : Launch) (D : va_G) (tys : eT) (cI : ClassId) (ht0 : tys[0]? = some (cI, .int)) (b : Nat → Nat) (kn le sp : Nat) (ik be fo op ha st : Int32) (t : Pn) (u : Tr) (k : Nat)  (hk : k < 7) : fc l D tys yX7_isFull wsX7_isFull (eR 1 22) [.ref (b 0), .int (nI k)] ([((b 0), .inr (7, [.ref (b 1), .ref (b 2), .ref (b 3), .int (nI kn), .ref (b 4), .int ik, .ref (b 5), .int (nI le), .int be, .int (nI sp), .int fo, .int op, .int ha, .int st, .ref (b 6), .ref (b 7), .ref (b 8)])), ((b 1), .inl (cI, 206, .inl (flatS t u)))]) (some (.int (if ¬ T_he u k < T_fu u then 1 else 0))) ([((b 0), .inr (7, [.ref (b 1), .ref (b 2), .ref (b 3), .int (nI kn), .ref (b 4), .int ik, .ref (b 5), .int (nI le), .int be, .int (nI sp), .int fo, .int op, .int ha, .int st, .ref (b 6), .ref (b 7), .ref (b 8)])), ((b 1), .inl (cI, 206, .inl (flatS t u)))]) := by
  refine fc_int cX7_isFull 2 (by decide +kernel) rfl (ej_narB _) (Nat.le_of_ble_eq_true rfl) ?_
  intro p9 e9 s9 m9 a9 b9 t9 c9 H0 A Q ls S hK hN hA hP hD hS hl hQ
  have S : CallFix p9 m9 c9 cX7_isFull 2 s9 a9 wsX7_isFull RX7 := S
  obtain ⟨hx, hb, hml, hown, hts⟩ := id S
  have iX7 : ∀ w ∈ wsX70, w ∈ wsX7_isFull := fun w h => List.mem_cons_of_mem _ (List.mem_append_right _ (h))
  have hP : va_P D vwCl ([((b 0), .inr (7, [.ref (b 1), .ref (b 2), .ref (b 3), .int (nI kn), .ref (b 4), .int ik, .ref (b 5), .int (nI le), .int be, .int (nI sp), .int fo, .int op, .int ha, .int st, .ref (b 6), .ref (b 7), .ref (b 8)])), ((b 1), .inl (cI, 206, .inl (flatS t u)))]) H0 := hP
  have hD : va_D A ([((b 0), .inr (7, [.ref (b 1), .ref (b 2), .ref (b 3), .int (nI kn), .ref (b 4), .int ik, .ref (b 5), .int (nI le), .int be, .int (nI sp), .int fo, .int op, .int ha, .int st, .ref (b 6), .ref (b 7), .ref (b 8)])), ((b 1), .inl (cI, 206, .inl (flatS t u)))]) := hD
  have hl : lv_has ls 2 [(0, .ref (b 0)), (1, .int (nI k))] := hl
  refine lv_aload_n hx hb dX7_isFull_0 rfl (lv_at hl 0 rfl) ?_
  refine lv_iload_n hx hb dX7_isFull_1 rfl (lv_at hl 1 rfl) ?_
  refine lv_iconst (v := 1) hx hb dX7_isFull_2 (by decide) ?_
  refine ej_V (As := [.int (nI k), .int 1]) (rest := []) (w' := [((b 0), .inr (7, [.ref (b 1), .ref (b 2), .ref (b 3), .int (nI kn), .ref (b 4), .int ik, .ref (b 5), .int (nI le), .int be, .int (nI sp), .int fo, .int op, .int ha, .int st, .ref (b 6), .ref (b 7), .ref (b 8)])), ((b 1), .inl (cI, 206, .inl (flatS t u)))]) S hK hN hA hP hD hS (c_X7_inPocket l D tys cI ht0 b kn le sp ik be fo op ha st (flatS t u) k 1 (by omega) (by omega)) (cwV 2 hts gX7_isFull_X7_inPocket rfl rfl rfl hdv_X7_inPocket ⟨Nat.le_of_ble_eq_true rfl, Nat.le_of_ble_eq_true rfl⟩) [0, 1] [some 0, some 1] [(b 0), (b 1)] rfl (by decide +kernel) ⟨rfl, rfl⟩ rfl (by decide +kernel) 0 7 rfl rfl rfl rfl hl.1 (Nat.le_of_ble_eq_true rfl) dX7_isFull_3 ⟨Nat.zero_le _, Nat.zero_le _⟩ (fun H locs hP hD hS => ?_)
  show W p9 l e9 (eR 1 22) s9 m9 a9 b9 t9 c9 H locs 0 0 Q (F0 m9 6 ls (.int ((flatS t u) (185 + 3 * k + 1)) :: []))
  refine ej_topi (show ((flatS t u) (185 + 3 * k + 1)) = T_he u k from flP_1 t u k) ?_
  refine lv_aload_n hx hb dX7_isFull_6 rfl (lv_at hl 0 rfl) ?_
  refine va_get (D := D) (ci := 7) (v := .ref (b 1)) (C := RX7) (T := TX7) (N := 17) hx hb hts iX7 hown hK hP 0 rfl rfl 0 (Nat.le_of_ble_eq_true rfl) (hts (.fieldLink RX7 7 "BentPinsModel" "s" "[I") (List.mem_of_getElem? (i := 1) rfl)) (fun _ h9 => h9) rfl dX7_isFull_7 ?_
  refine lv_bipush (v := 9) hx hb dX7_isFull_10 (by decide) ?_
  refine va_iald (i := 9) hx hb hK hP 1 0 rfl ht0 (vp_in_nI (n := 9) (N := 206) (by omega) (by omega)) dX7_isFull_12 ?_
  refine ej_topi (show (flatS t u) (nI 9).toNatClampNeg = (flatS t u) 9 from congrArg (flatS t u) (nI_clamp (n := 9) (by omega))) ?_
  refine ej_topi (show (flatS t u) 9 = T_fu u from rfl) ?_
  refine lv_icmp_lt (tgt := 20) hx hb dX7_isFull_13 (by decide) (fun c_1 => ?_) (fun c_1 => ?_)
  · have d_1 := ej_xb c_1
    refine lv_iconst (v := 0) hx hb dX7_isFull_20 (by decide) ?_
    exact hQ _ _ _ _ 0 ([((b 0), .inr (7, [.ref (b 1), .ref (b 2), .ref (b 3), .int (nI kn), .ref (b 4), .int ik, .ref (b 5), .int (nI le), .int be, .int (nI sp), .int fo, .int op, .int ha, .int st, .ref (b 6), .ref (b 7), .ref (b 8)])), ((b 1), .inl (cI, 206, .inl (flatS t u)))]) dX7_isFull_21 (by first | (simp only [c_1, d_1, if_true, if_false, ite_true, ite_false, not_true_eq_false, not_false_eq_true, and_true, true_and, and_false, false_and, and_self, true_or, or_true, or_false, false_or, reduceIte]; done) | rfl | simp [c_1, d_1]) rfl hP hS
  · have d_1 := ej_xc c_1
    refine lv_iconst (v := 1) hx hb dX7_isFull_16 (by decide) ?_
    refine lv_goto (tgt := 21) hx hb dX7_isFull_17 (by decide) ?_
    exact hQ _ _ _ _ 1 ([((b 0), .inr (7, [.ref (b 1), .ref (b 2), .ref (b 3), .int (nI kn), .ref (b 4), .int ik, .ref (b 5), .int (nI le), .int be, .int (nI sp), .int fo, .int op, .int ha, .int st, .ref (b 6), .ref (b 7), .ref (b 8)])), ((b 1), .inl (cI, 206, .inl (flatS t u)))]) dX7_isFull_21 (by first | (simp only [c_1, d_1, if_true, if_false, ite_true, ite_false, not_true_eq_false, not_false_eq_true, and_true, true_and, and_false, false_and, and_self, true_or, or_true, or_false, false_or, reduceIte]; done) | rfl | simp [c_1, d_1]) rfl hP hS
set_option maxHeartbeats 4000000 in
set_option maxRecDepth 100000 in
theorem c_X7_sends (l : Launch) (D : va_G) (tys : eT) (cI : ClassId) (ht0 : tys[0]? = some (cI, .int)) (b : Nat → Nat) (kn le sp : Nat) (ik be fo op ha st : Int32) (t : Pn) (u : Tr) (k : Nat)  (hk : k < 35) : fc l D tys yX7_sends wsX7_sends (eR 1 22) [.ref (b 0), .int (nI k)] ([((b 0), .inr (7, [.ref (b 1), .ref (b 2), .ref (b 3), .int (nI kn), .ref (b 4), .int ik, .ref (b 5), .int (nI le), .int be, .int (nI sp), .int fo, .int op, .int ha, .int st, .ref (b 6), .ref (b 7), .ref (b 8)])), ((b 1), .inl (cI, 206, .inl (flatS t u)))]) (some (.int (leanT t k))) ([((b 0), .inr (7, [.ref (b 1), .ref (b 2), .ref (b 3), .int (nI kn), .ref (b 4), .int ik, .ref (b 5), .int (nI le), .int be, .int (nI sp), .int fo, .int op, .int ha, .int st, .ref (b 6), .ref (b 7), .ref (b 8)])), ((b 1), .inl (cI, 206, .inl (flatS t u)))]) := by
  refine fc_int cX7_sends 3 (by decide +kernel) rfl (rfl) (Nat.le_of_ble_eq_true rfl) ?_
  intro p9 e9 s9 m9 a9 b9 t9 c9 H0 A Q ls S hK hN hA hP hD hS hl hQ
  have S : CallFix p9 m9 c9 cX7_sends 3 s9 a9 wsX7_sends RX7 := S
  obtain ⟨hx, hb, hml, hown, hts⟩ := id S
  have iX7 : ∀ w ∈ wsX70, w ∈ wsX7_sends := fun w h => List.mem_cons_of_mem _ (List.mem_append_right _ (h))
  have hP : va_P D vwCl ([((b 0), .inr (7, [.ref (b 1), .ref (b 2), .ref (b 3), .int (nI kn), .ref (b 4), .int ik, .ref (b 5), .int (nI le), .int be, .int (nI sp), .int fo, .int op, .int ha, .int st, .ref (b 6), .ref (b 7), .ref (b 8)])), ((b 1), .inl (cI, 206, .inl (flatS t u)))]) H0 := hP
  have hD : va_D A ([((b 0), .inr (7, [.ref (b 1), .ref (b 2), .ref (b 3), .int (nI kn), .ref (b 4), .int ik, .ref (b 5), .int (nI le), .int be, .int (nI sp), .int fo, .int op, .int ha, .int st, .ref (b 6), .ref (b 7), .ref (b 8)])), ((b 1), .inl (cI, 206, .inl (flatS t u)))]) := hD
  have hl : lv_has ls 3 [(0, .ref (b 0)), (1, .int (nI k))] := hl
  refine lv_aload_n hx hb dX7_sends_0 rfl (lv_at hl 0 rfl) ?_
  refine lv_iload_n hx hb dX7_sends_1 rfl (lv_at hl 1 rfl) ?_
  refine lv_iconst (v := 0) hx hb dX7_sends_2 (by decide) ?_
  refine ej_V (As := [.int (nI k), .int 0]) (rest := []) (w' := [((b 0), .inr (7, [.ref (b 1), .ref (b 2), .ref (b 3), .int (nI kn), .ref (b 4), .int ik, .ref (b 5), .int (nI le), .int be, .int (nI sp), .int fo, .int op, .int ha, .int st, .ref (b 6), .ref (b 7), .ref (b 8)])), ((b 1), .inl (cI, 206, .inl (flatS t u)))]) S hK hN hA hP hD hS (c_X7_of l D tys cI ht0 b kn le sp ik be fo op ha st (flatS t u) k 0 (by omega) (by omega)) (cwV 2 hts gX7_sends_X7_of rfl rfl rfl hdv_X7_of ⟨Nat.le_of_ble_eq_true rfl, Nat.le_of_ble_eq_true rfl⟩) [0, 1] [some 0, some 1] [(b 0), (b 1)] rfl (by decide +kernel) ⟨rfl, rfl⟩ rfl (by decide +kernel) 0 7 rfl rfl rfl rfl hl.1 (Nat.le_of_ble_eq_true rfl) dX7_sends_3 ⟨Nat.zero_le _, Nat.zero_le _⟩ (fun H locs hP hD hS => ?_)
  show W p9 l e9 (eR 1 22) s9 m9 a9 b9 t9 c9 H locs 0 0 Q (F0 m9 6 ls (.int ((flatS t u) (10 + 5 * k + 0)) :: []))
  refine ej_topi (show ((flatS t u) (10 + 5 * k + 0)) = P_be t k from flS_0 t u (by omega)) ?_
  refine lv_istore_n (lv' := [(2, .int (P_be t k)), (0, .ref (b 0)), (1, .int (nI k))]) hx hb dX7_sends_6 rfl hl (by decide) rfl (fun ls hl => ?_)
  refine lv_iload_n hx hb dX7_sends_7 rfl (lv_at hl 0 rfl) ?_
  refine lv_if_ge (tgt := 15) hx hb dX7_sends_8 (by decide) (fun c_1 => ?_) (fun c_1 => ?_)
  · have d_1 := ej_xa c_1
    refine lv_iload_n hx hb dX7_sends_15 rfl (lv_at hl 0 rfl) ?_
    refine lv_if_le (tgt := 23) hx hb dX7_sends_16 (by decide) (fun c_2 => ?_) (fun c_2 => ?_)
    · have d_2 := ej_xa c_2
      refine lv_aload_n hx hb dX7_sends_23 rfl (lv_at hl 1 rfl) ?_
      refine va_get (D := D) (ci := 7) (v := .ref (b 1)) (C := RX7) (T := TX7) (N := 17) hx hb hts iX7 hown hK hP 0 rfl rfl 0 (Nat.le_of_ble_eq_true rfl) (hts (.fieldLink RX7 7 "BentPinsModel" "s" "[I") (List.mem_of_getElem? (i := 1) rfl)) (fun _ h9 => h9) rfl dX7_sends_24 ?_
      refine lv_bipush (v := 8) hx hb dX7_sends_27 (by decide) ?_
      refine va_iald (i := 8) hx hb hK hP 1 0 rfl ht0 (vp_in_nI (n := 8) (N := 206) (by omega) (by omega)) dX7_sends_29 ?_
      refine ej_topi (show (flatS t u) (nI 8).toNatClampNeg = (flatS t u) 8 from congrArg (flatS t u) (nI_clamp (n := 8) (by omega))) ?_
      refine ej_topi (show (flatS t u) 8 = P_ti t from rfl) ?_
      refine lv_iconst (v := 1) hx hb dX7_sends_30 (by decide) ?_
      refine lv_isub hx hb dX7_sends_31 ?_
      exact hQ _ _ _ _ ((P_ti t) - 1) ([((b 0), .inr (7, [.ref (b 1), .ref (b 2), .ref (b 3), .int (nI kn), .ref (b 4), .int ik, .ref (b 5), .int (nI le), .int be, .int (nI sp), .int fo, .int op, .int ha, .int st, .ref (b 6), .ref (b 7), .ref (b 8)])), ((b 1), .inl (cI, 206, .inl (flatS t u)))]) dX7_sends_32 (by first | (simp only [leanT, c_1, d_1, c_2, d_2, if_true, if_false, ite_true, ite_false, not_true_eq_false, not_false_eq_true, and_true, true_and, and_false, false_and, and_self, true_or, or_true, or_false, false_or, reduceIte]; done) | rfl | simp [leanT, c_1, d_1, c_2, d_2]) rfl hP hS
    · have d_2 := ej_xd c_2
      refine lv_iconst (v := 1) hx hb dX7_sends_19 (by decide) ?_
      refine lv_goto (tgt := 32) hx hb dX7_sends_20 (by decide) ?_
      exact hQ _ _ _ _ 1 ([((b 0), .inr (7, [.ref (b 1), .ref (b 2), .ref (b 3), .int (nI kn), .ref (b 4), .int ik, .ref (b 5), .int (nI le), .int be, .int (nI sp), .int fo, .int op, .int ha, .int st, .ref (b 6), .ref (b 7), .ref (b 8)])), ((b 1), .inl (cI, 206, .inl (flatS t u)))]) dX7_sends_32 (by first | (simp only [leanT, c_1, d_1, c_2, d_2, if_true, if_false, ite_true, ite_false, not_true_eq_false, not_false_eq_true, and_true, true_and, and_false, false_and, and_self, true_or, or_true, or_false, false_or, reduceIte]; done) | rfl | simp [leanT, c_1, d_1, c_2, d_2]) rfl hP hS
  · have d_1 := ej_xd c_1
    refine lv_iconst (v := (-1)) hx hb dX7_sends_11 (by decide) ?_
    refine lv_goto (tgt := 32) hx hb dX7_sends_12 (by decide) ?_
    exact hQ _ _ _ _ (-1) ([((b 0), .inr (7, [.ref (b 1), .ref (b 2), .ref (b 3), .int (nI kn), .ref (b 4), .int ik, .ref (b 5), .int (nI le), .int be, .int (nI sp), .int fo, .int op, .int ha, .int st, .ref (b 6), .ref (b 7), .ref (b 8)])), ((b 1), .inl (cI, 206, .inl (flatS t u)))]) dX7_sends_32 (by first | (simp only [leanT, c_1, d_1, if_true, if_false, ite_true, ite_false, not_true_eq_false, not_false_eq_true, and_true, true_and, and_false, false_and, and_self, true_or, or_true, or_false, false_or, reduceIte]; done) | rfl | simp [leanT, c_1, d_1]) rfl hP hS
set_option maxHeartbeats 4000000 in
set_option maxRecDepth 100000 in
theorem c_X7_bends (l : Launch) (D : va_G) (tys : eT) (cI : ClassId) (ht0 : tys[0]? = some (cI, .int)) (b : Nat → Nat) (kn le sp : Nat) (ik be fo op ha st : Int32) (t : Pn) (u : Tr) (k : Nat) (d : Int32) (t1 : Pn) (e_t1 : t1 = bndT t k d) (hk : k < 35) : fc l D tys yX7_bends wsX7_bends (eR 1 23) [.ref (b 0), .int (nI k), .int d] ([((b 0), .inr (7, [.ref (b 1), .ref (b 2), .ref (b 3), .int (nI kn), .ref (b 4), .int ik, .ref (b 5), .int (nI le), .int be, .int (nI sp), .int fo, .int op, .int ha, .int st, .ref (b 6), .ref (b 7), .ref (b 8)])), ((b 1), .inl (cI, 206, .inl (flatS t u)))]) none ([((b 0), .inr (7, [.ref (b 1), .ref (b 2), .ref (b 3), .int (nI kn), .ref (b 4), .int ik, .ref (b 5), .int (nI le), .int be, .int (nI sp), .int fo, .int op, .int ha, .int st, .ref (b 6), .ref (b 7), .ref (b 8)])), ((b 1), .inl (cI, 206, .inl (flatS t1 u)))]) := by
  refine fc_void cX7_bends 4 (by decide +kernel) rfl (Nat.le_of_ble_eq_true rfl) ?_
  intro p9 e9 s9 m9 a9 b9 t9 c9 H0 A Q ls S hK hN hA hP hD hS hl hQ
  have S : CallFix p9 m9 c9 cX7_bends 4 s9 a9 wsX7_bends RX7 := S
  obtain ⟨hx, hb, hml, hown, hts⟩ := id S
  have iX7 : ∀ w ∈ wsX70, w ∈ wsX7_bends := fun w h => List.mem_cons_of_mem _ (List.mem_append_right _ (h))
  have hP : va_P D vwCl ([((b 0), .inr (7, [.ref (b 1), .ref (b 2), .ref (b 3), .int (nI kn), .ref (b 4), .int ik, .ref (b 5), .int (nI le), .int be, .int (nI sp), .int fo, .int op, .int ha, .int st, .ref (b 6), .ref (b 7), .ref (b 8)])), ((b 1), .inl (cI, 206, .inl (flatS t u)))]) H0 := hP
  have hD : va_D A ([((b 0), .inr (7, [.ref (b 1), .ref (b 2), .ref (b 3), .int (nI kn), .ref (b 4), .int ik, .ref (b 5), .int (nI le), .int be, .int (nI sp), .int fo, .int op, .int ha, .int st, .ref (b 6), .ref (b 7), .ref (b 8)])), ((b 1), .inl (cI, 206, .inl (flatS t u)))]) := hD
  have hl : lv_has ls 4 [(0, .ref (b 0)), (1, .int (nI k)), (2, .int d)] := hl
  refine lv_aload_n hx hb dX7_bends_0 rfl (lv_at hl 0 rfl) ?_
  refine lv_iload_n hx hb dX7_bends_1 rfl (lv_at hl 1 rfl) ?_
  refine lv_iconst (v := 0) hx hb dX7_bends_2 (by decide) ?_
  refine ej_V (As := [.int (nI k), .int 0]) (rest := []) (w' := [((b 0), .inr (7, [.ref (b 1), .ref (b 2), .ref (b 3), .int (nI kn), .ref (b 4), .int ik, .ref (b 5), .int (nI le), .int be, .int (nI sp), .int fo, .int op, .int ha, .int st, .ref (b 6), .ref (b 7), .ref (b 8)])), ((b 1), .inl (cI, 206, .inl (flatS t u)))]) S hK hN hA hP hD hS (c_X7_of l D tys cI ht0 b kn le sp ik be fo op ha st (flatS t u) k 0 (by omega) (by omega)) (cwV 2 hts gX7_bends_X7_of rfl rfl rfl hdv_X7_of ⟨Nat.le_of_ble_eq_true rfl, Nat.le_of_ble_eq_true rfl⟩) [0, 1] [some 0, some 1] [(b 0), (b 1)] rfl (by decide +kernel) ⟨rfl, rfl⟩ rfl (by decide +kernel) 0 7 rfl rfl rfl rfl hl.1 (Nat.le_of_ble_eq_true rfl) dX7_bends_3 ⟨Nat.zero_le _, Nat.zero_le _⟩ (fun H locs hP hD hS => ?_)
  show W p9 l e9 (eR 1 23) s9 m9 a9 b9 t9 c9 H locs 0 0 Q (F0 m9 6 ls (.int ((flatS t u) (10 + 5 * k + 0)) :: []))
  refine ej_topi (show ((flatS t u) (10 + 5 * k + 0)) = P_be t k from flS_0 t u (by omega)) ?_
  refine lv_iload_n hx hb dX7_bends_6 rfl (lv_at hl 2 rfl) ?_
  refine lv_iadd hx hb dX7_bends_7 ?_
  refine lv_istore_n (lv' := [(3, .int ((P_be t k) + d)), (0, .ref (b 0)), (1, .int (nI k)), (2, .int d)]) hx hb dX7_bends_8 rfl hl (by decide) rfl (fun ls hl => ?_)
  refine lv_iload_n hx hb dX7_bends_9 rfl (lv_at hl 0 rfl) ?_
  refine lv_bipush (v := (-3)) hx hb dX7_bends_10 (by decide) ?_
  refine lv_iconst (v := 3) hx hb dX7_bends_12 (by decide) ?_
  refine ej_S (As := [.int ((P_be t k) + d), .int (-3), .int 3]) (rest := []) (w' := [((b 0), .inr (7, [.ref (b 1), .ref (b 2), .ref (b 3), .int (nI kn), .ref (b 4), .int ik, .ref (b 5), .int (nI le), .int be, .int (nI sp), .int fo, .int op, .int ha, .int st, .ref (b 6), .ref (b 7), .ref (b 8)])), ((b 1), .inl (cI, 206, .inl (flatS t u)))]) S hK hN hA hP hD hS (c_X7_in l D tys cI ht0 ((P_be t k) + d) (-3) 3) (va_cwS 3 hts gX7_bends_X7_in rfl rfl rfl hds_X7_in ⟨Nat.le_of_ble_eq_true rfl, Nat.le_of_ble_eq_true rfl⟩) [] [] [] rfl (by decide +kernel) ⟨rfl, rfl⟩ rfl (by decide +kernel) rfl rfl hl.1 (Nat.le_of_ble_eq_true rfl) dX7_bends_13 ⟨Nat.zero_le _, Nat.zero_le _⟩ (fun H locs hP hD hS => ?_)
  show W p9 l e9 (eR 1 23) s9 m9 a9 b9 t9 c9 H locs 0 0 Q (F0 m9 16 ls (.int (if ¬ ((P_be t k) + d) < (-3) ∧ ¬ 3 < ((P_be t k) + d) then 1 else 0) :: []))
  refine lv_if_eq (tgt := 37) hx hb dX7_bends_16 (by decide) (fun c_1 => ?_) (fun c_1 => ?_)
  · have b_1 : ¬ (¬ ((P_be t k) + d) < (-3) ∧ ¬ 3 < ((P_be t k) + d)) := ej_b0 c_1
    have f_t1 : t = t1 := by rw [e_t1]; first | (simp only [bndT, b_1, if_true, if_false, ite_true, ite_false, not_true_eq_false, not_false_eq_true, and_true, true_and, and_false, false_and, and_self, reduceIte]; done) | (simp only [bndT, b_1, if_true, if_false, ite_true, ite_false, not_true_eq_false, not_false_eq_true, and_true, true_and, and_false, false_and, and_self, reduceIte]; rfl) | rfl
    subst f_t1
    exact hQ _ _ _ _ ([((b 0), .inr (7, [.ref (b 1), .ref (b 2), .ref (b 3), .int (nI kn), .ref (b 4), .int ik, .ref (b 5), .int (nI le), .int be, .int (nI sp), .int fo, .int op, .int ha, .int st, .ref (b 6), .ref (b 7), .ref (b 8)])), ((b 1), .inl (cI, 206, .inl (flatS t u)))]) dX7_bends_37 rfl hP hS
  · have b_1 : ¬ ((P_be t k) + d) < (-3) ∧ ¬ 3 < ((P_be t k) + d) := ej_b1 c_1
    refine lv_aload_n hx hb dX7_bends_19 rfl (lv_at hl 1 rfl) ?_
    refine lv_iload_n hx hb dX7_bends_20 rfl (lv_at hl 2 rfl) ?_
    refine lv_iconst (v := 0) hx hb dX7_bends_21 (by decide) ?_
    refine lv_iload_n hx hb dX7_bends_22 rfl (lv_at hl 0 rfl) ?_
    refine ej_V (As := [.int (nI k), .int 0, .int ((P_be t k) + d)]) (rest := []) (w' := [((b 0), .inr (7, [.ref (b 1), .ref (b 2), .ref (b 3), .int (nI kn), .ref (b 4), .int ik, .ref (b 5), .int (nI le), .int be, .int (nI sp), .int fo, .int op, .int ha, .int st, .ref (b 6), .ref (b 7), .ref (b 8)])), ((b 1), .inl (cI, 206, .inl (upd (flatS t u) (10 + 5 * k + 0) ((P_be t k) + d))))]) S hK hN hA hP hD hS (c_X7_lays l D tys cI ht0 b kn le sp ik be fo op ha st (flatS t u) k 0 ((P_be t k) + d) (by omega) (by omega)) (cwV 3 hts gX7_bends_X7_lays rfl rfl rfl hdv_X7_lays ⟨Nat.le_of_ble_eq_true rfl, Nat.le_of_ble_eq_true rfl⟩) [0, 1] [some 0, some 1] [(b 0), (b 1)] rfl (by decide +kernel) ⟨rfl, rfl⟩ rfl (by decide +kernel) 0 7 rfl rfl rfl rfl hl.1 (Nat.le_of_ble_eq_true rfl) dX7_bends_23 ⟨Nat.zero_le _, Nat.zero_le _⟩ (fun H locs hP hD hS => ?_)
    show W p9 l e9 (eR 1 23) s9 m9 a9 b9 t9 c9 H locs 0 0 Q (F0 m9 26 ls [])
    have hP := ej_row (q := 1) (a := (b 1)) (cI := cI) (n := 206) (flatS (upd (P_be t) k ((P_be t k) + d), P_ou t, P_bl t, P_si t, P_vi t, P_ti t, P_ri t, P_bb t) u) hP rfl (fun j9 _ => congrFun (flU_0 t u k ((P_be t k) + d) (by omega)) j9)
    have hD := ej_rowD (q := 1) (a := (b 1)) (cI := cI) (n := 206) (flatS (upd (P_be t) k ((P_be t k) + d), P_ou t, P_bl t, P_si t, P_vi t, P_ti t, P_ri t, P_bb t) u) hD rfl
    have hP : va_P D vwCl ([((b 0), .inr (7, [.ref (b 1), .ref (b 2), .ref (b 3), .int (nI kn), .ref (b 4), .int ik, .ref (b 5), .int (nI le), .int be, .int (nI sp), .int fo, .int op, .int ha, .int st, .ref (b 6), .ref (b 7), .ref (b 8)])), ((b 1), .inl (cI, 206, .inl (flatS (upd (P_be t) k ((P_be t k) + d), P_ou t, P_bl t, P_si t, P_vi t, P_ti t, P_ri t, P_bb t) u)))]) _ := hP
    have hD : va_D A ([((b 0), .inr (7, [.ref (b 1), .ref (b 2), .ref (b 3), .int (nI kn), .ref (b 4), .int ik, .ref (b 5), .int (nI le), .int be, .int (nI sp), .int fo, .int op, .int ha, .int st, .ref (b 6), .ref (b 7), .ref (b 8)])), ((b 1), .inl (cI, 206, .inl (flatS (upd (P_be t) k ((P_be t k) + d), P_ou t, P_bl t, P_si t, P_vi t, P_ti t, P_ri t, P_bb t) u)))]) := hD
    refine lv_aload_n hx hb dX7_bends_26 rfl (lv_at hl 1 rfl) ?_
    refine va_get (D := D) (ci := 7) (v := .ref (b 1)) (C := RX7) (T := TX7) (N := 17) hx hb hts iX7 hown hK hP 0 rfl rfl 0 (Nat.le_of_ble_eq_true rfl) (hts (.fieldLink RX7 7 "BentPinsModel" "s" "[I") (List.mem_of_getElem? (i := 1) rfl)) (fun _ h9 => h9) rfl dX7_bends_27 ?_
    refine lv_bipush (v := 6) hx hb dX7_bends_30 (by decide) ?_
    refine lv_dup2_11 hx hb dX7_bends_32 rfl rfl ?_
    refine va_iald (i := 6) hx hb hK hP 1 0 rfl ht0 (vp_in_nI (n := 6) (N := 206) (by omega) (by omega)) dX7_bends_33 ?_
    refine ej_topi (show (flatS (upd (P_be t) k ((P_be t k) + d), P_ou t, P_bl t, P_si t, P_vi t, P_ti t, P_ri t, P_bb t) u) (nI 6).toNatClampNeg = (flatS (upd (P_be t) k ((P_be t k) + d), P_ou t, P_bl t, P_si t, P_vi t, P_ti t, P_ri t, P_bb t) u) 6 from congrArg (flatS (upd (P_be t) k ((P_be t k) + d), P_ou t, P_bl t, P_si t, P_vi t, P_ti t, P_ri t, P_bb t) u) (nI_clamp (n := 6) (by omega))) ?_
    refine ej_topi (show (flatS (upd (P_be t) k ((P_be t k) + d), P_ou t, P_bl t, P_si t, P_vi t, P_ti t, P_ri t, P_bb t) u) 6 = (P_bb t) from rfl) ?_
    refine lv_iconst (v := 1) hx hb dX7_bends_34 (by decide) ?_
    refine lv_iadd hx hb dX7_bends_35 ?_
    refine va_iast (i := 6) hx hb hK hP hD hS 1 0 rfl ht0 (vp_in_nI (n := 6) (N := 206) (by omega) (by omega)) dX7_bends_36 (fun H locs hP hD hS => ?_)
    rw [show (6 : Int32).toNatClampNeg = 6 from by decide] at hP hD
    have hP := ej_row (q := 1) (a := (b 1)) (cI := cI) (n := 206) (flatS (upd (P_be t) k ((P_be t k) + d), P_ou t, P_bl t, P_si t, P_vi t, P_ti t, P_ri t, (P_bb t) + 1) u) hP rfl (fun j9 _ => congrFun (flC_6 (upd (P_be t) k ((P_be t k) + d), P_ou t, P_bl t, P_si t, P_vi t, P_ti t, P_ri t, P_bb t) u ((P_bb t) + 1)) j9)
    have hD := ej_rowD (q := 1) (a := (b 1)) (cI := cI) (n := 206) (flatS (upd (P_be t) k ((P_be t k) + d), P_ou t, P_bl t, P_si t, P_vi t, P_ti t, P_ri t, (P_bb t) + 1) u) hD rfl
    have hP : va_P D vwCl ([((b 0), .inr (7, [.ref (b 1), .ref (b 2), .ref (b 3), .int (nI kn), .ref (b 4), .int ik, .ref (b 5), .int (nI le), .int be, .int (nI sp), .int fo, .int op, .int ha, .int st, .ref (b 6), .ref (b 7), .ref (b 8)])), ((b 1), .inl (cI, 206, .inl (flatS (upd (P_be t) k ((P_be t k) + d), P_ou t, P_bl t, P_si t, P_vi t, P_ti t, P_ri t, (P_bb t) + 1) u)))]) _ := hP
    have hD : va_D A ([((b 0), .inr (7, [.ref (b 1), .ref (b 2), .ref (b 3), .int (nI kn), .ref (b 4), .int ik, .ref (b 5), .int (nI le), .int be, .int (nI sp), .int fo, .int op, .int ha, .int st, .ref (b 6), .ref (b 7), .ref (b 8)])), ((b 1), .inl (cI, 206, .inl (flatS (upd (P_be t) k ((P_be t k) + d), P_ou t, P_bl t, P_si t, P_vi t, P_ti t, P_ri t, (P_bb t) + 1) u)))]) := hD
    have hP : va_P D vwCl ([((b 0), .inr (7, [.ref (b 1), .ref (b 2), .ref (b 3), .int (nI kn), .ref (b 4), .int ik, .ref (b 5), .int (nI le), .int be, .int (nI sp), .int fo, .int op, .int ha, .int st, .ref (b 6), .ref (b 7), .ref (b 8)])), ((b 1), .inl (cI, 206, .inl (flatS (upd (P_be t) k ((P_be t k) + d), P_ou t, P_bl t, P_si t, P_vi t, P_ti t, P_ri t, (P_bb t) + 1) u)))]) H := hP
    have hD : va_D A ([((b 0), .inr (7, [.ref (b 1), .ref (b 2), .ref (b 3), .int (nI kn), .ref (b 4), .int ik, .ref (b 5), .int (nI le), .int be, .int (nI sp), .int fo, .int op, .int ha, .int st, .ref (b 6), .ref (b 7), .ref (b 8)])), ((b 1), .inl (cI, 206, .inl (flatS (upd (P_be t) k ((P_be t k) + d), P_ou t, P_bl t, P_si t, P_vi t, P_ti t, P_ri t, (P_bb t) + 1) u)))]) := hD
    have f_t1 : (upd (P_be t) k ((P_be t k) + d), P_ou t, P_bl t, P_si t, P_vi t, P_ti t, P_ri t, (P_bb t) + 1) = t1 := by rw [e_t1]; first | (simp only [bndT, b_1, if_true, if_false, ite_true, ite_false, not_true_eq_false, not_false_eq_true, and_true, true_and, and_false, false_and, and_self, reduceIte]; done) | (simp only [bndT, b_1, if_true, if_false, ite_true, ite_false, not_true_eq_false, not_false_eq_true, and_true, true_and, and_false, false_and, and_self, reduceIte]; rfl) | rfl
    subst f_t1
    exact hQ _ _ _ _ ([((b 0), .inr (7, [.ref (b 1), .ref (b 2), .ref (b 3), .int (nI kn), .ref (b 4), .int ik, .ref (b 5), .int (nI le), .int be, .int (nI sp), .int fo, .int op, .int ha, .int st, .ref (b 6), .ref (b 7), .ref (b 8)])), ((b 1), .inl (cI, 206, .inl (flatS (upd (P_be t) k ((P_be t k) + d), P_ou t, P_bl t, P_si t, P_vi t, P_ti t, P_ri t, (P_bb t) + 1) u)))]) dX7_bends_37 rfl hP hS
