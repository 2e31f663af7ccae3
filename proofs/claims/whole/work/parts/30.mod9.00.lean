set_option maxHeartbeats 4000000 in
set_option maxRecDepth 100000 in
theorem c_X7_straightOnes (l : Launch) (D : va_G) (tys : eT) (cI : ClassId) (ht0 : tys[0]? = some (cI, .int)) (b : Nat → Nat) (kn le sp : Nat) (ik be fo op ha st : Int32) (t : Pn) (u : Tr) (r1 : Int32) (e_r1 : r1 = sumI (fun p => if P_ou t p = 0 ∧ P_be t p = 0 then 1 else 0) 35)  : fc l D tys yX7_straightOnes wsX7_straightOnes (eR 1 22) [.ref (b 0)] ([((b 0), .inr (7, [.ref (b 1), .ref (b 2), .ref (b 3), .int (nI kn), .ref (b 4), .int ik, .ref (b 5), .int (nI le), .int be, .int (nI sp), .int fo, .int op, .int ha, .int st, .ref (b 6), .ref (b 7), .ref (b 8)])), ((b 1), .inl (cI, 206, .inl (flatS t u)))]) (some (.int r1)) ([((b 0), .inr (7, [.ref (b 1), .ref (b 2), .ref (b 3), .int (nI kn), .ref (b 4), .int ik, .ref (b 5), .int (nI le), .int be, .int (nI sp), .int fo, .int op, .int ha, .int st, .ref (b 6), .ref (b 7), .ref (b 8)])), ((b 1), .inl (cI, 206, .inl (flatS t u)))]) := by
  refine fc_int cX7_straightOnes 3 (by decide +kernel) rfl (rfl) (Nat.le_of_ble_eq_true rfl) ?_
  intro p9 e9 s9 m9 a9 b9 t9 c9 H0 A Q ls S hK hN hA hP hD hS hl hQ
  have S : CallFix p9 m9 c9 cX7_straightOnes 3 s9 a9 wsX7_straightOnes RX7 := S
  obtain ⟨hx, hb, hml, hown, hts⟩ := id S
  have hP : va_P D vwCl ([((b 0), .inr (7, [.ref (b 1), .ref (b 2), .ref (b 3), .int (nI kn), .ref (b 4), .int ik, .ref (b 5), .int (nI le), .int be, .int (nI sp), .int fo, .int op, .int ha, .int st, .ref (b 6), .ref (b 7), .ref (b 8)])), ((b 1), .inl (cI, 206, .inl (flatS t u)))]) H0 := hP
  have hD : va_D A ([((b 0), .inr (7, [.ref (b 1), .ref (b 2), .ref (b 3), .int (nI kn), .ref (b 4), .int ik, .ref (b 5), .int (nI le), .int be, .int (nI sp), .int fo, .int op, .int ha, .int st, .ref (b 6), .ref (b 7), .ref (b 8)])), ((b 1), .inl (cI, 206, .inl (flatS t u)))]) := hD
  have hl : lv_has ls 3 [(0, .ref (b 0))] := hl
  refine lv_iconst (v := 0) hx hb dX7_straightOnes_0 (by decide) ?_
  refine lv_istore_n (lv' := [(1, .int 0), (0, .ref (b 0))]) hx hb dX7_straightOnes_1 rfl hl (by decide) rfl (fun ls hl => ?_)
  refine lv_iconst (v := 0) hx hb dX7_straightOnes_2 (by decide) ?_
  refine lv_istore_n (lv' := [(2, .int 0), (1, .int 0), (0, .ref (b 0))]) hx hb dX7_straightOnes_3 rfl hl (by decide) rfl (fun ls hl => ?_)
  have lp4 : ∀ (n4 : Nat) (i : Nat) (x : Int32), 35 - i < n4 → (i ≤ 35) → (x = sumI (fun p => if P_ou t p = 0 ∧ P_be t p = 0 then 1 else 0) i) → ∀ (H : Heap) (locs : List Loc) (ls : Array Slot), va_P D vwCl ([((b 0), .inr (7, [.ref (b 1), .ref (b 2), .ref (b 3), .int (nI kn), .ref (b 4), .int ik, .ref (b 5), .int (nI le), .int be, .int (nI sp), .int fo, .int op, .int ha, .int st, .ref (b 6), .ref (b 7), .ref (b 8)])), ((b 1), .inl (cI, 206, .inl (flatS t u)))]) H → va_D A ([((b 0), .inr (7, [.ref (b 1), .ref (b 2), .ref (b 3), .int (nI kn), .ref (b 4), .int ik, .ref (b 5), .int (nI le), .int be, .int (nI sp), .int fo, .int op, .int ha, .int st, .ref (b 6), .ref (b 7), .ref (b 8)])), ((b 1), .inl (cI, 206, .inl (flatS t u)))]) → va_S A H0 H locs → lv_has ls 3 [(0, .ref (b 0)), (1, .int x), (2, .int (nI i))] → W p9 l e9 (eR 1 22) s9 m9 a9 b9 t9 c9 H locs 0 0 Q (F0 m9 4 ls []) := by
    intro n4
    induction n4 with
    | zero => intro i x hm9; exact absurd hm9 (Nat.not_lt_zero _)
    | succ n4 ih4 =>
      intro i x hm4 hi ex H locs ls hP hD hS hl
      refine lv_iload_n hx hb dX7_straightOnes_4 rfl (lv_at hl 2 rfl) ?_
      refine lv_bipush (v := 35) hx hb dX7_straightOnes_5 (by decide) ?_
      refine lv_icmp_ge (tgt := 42) hx hb dX7_straightOnes_7 (by decide) (fun c_1 => ?_) (fun c_1 => ?_)
      · have n_1 : 35 ≤ i := ej_tle (a := 35) (b := i) (by omega) (by omega) c_1
        refine lv_iload_n hx hb dX7_straightOnes_42 rfl (lv_at hl 1 rfl) ?_
        have f_r1 : x = r1 := by rw [e_r1]; rw [ex, show i = 35 by omega]
        subst f_r1
        exact hQ _ _ _ _ x ([((b 0), .inr (7, [.ref (b 1), .ref (b 2), .ref (b 3), .int (nI kn), .ref (b 4), .int ik, .ref (b 5), .int (nI le), .int be, .int (nI sp), .int fo, .int op, .int ha, .int st, .ref (b 6), .ref (b 7), .ref (b 8)])), ((b 1), .inl (cI, 206, .inl (flatS t u)))]) dX7_straightOnes_43 rfl rfl hP hS
      · have n_1 : i < 35 := ej_tnle (a := 35) (b := i) (by omega) (by omega) c_1
        refine lv_iload_n hx hb dX7_straightOnes_10 rfl (lv_at hl 1 rfl) ?_
        refine lv_aload_n hx hb dX7_straightOnes_11 rfl (lv_at hl 0 rfl) ?_
        refine lv_iload_n hx hb dX7_straightOnes_12 rfl (lv_at hl 2 rfl) ?_
        refine lv_iconst (v := 1) hx hb dX7_straightOnes_13 (by decide) ?_
        refine ej_V (As := [.int (nI i), .int 1]) (rest := [.int x]) (w' := [((b 0), .inr (7, [.ref (b 1), .ref (b 2), .ref (b 3), .int (nI kn), .ref (b 4), .int ik, .ref (b 5), .int (nI le), .int be, .int (nI sp), .int fo, .int op, .int ha, .int st, .ref (b 6), .ref (b 7), .ref (b 8)])), ((b 1), .inl (cI, 206, .inl (flatS t u)))]) S hK hN hA hP hD hS (c_X7_of l D tys cI ht0 b kn le sp ik be fo op ha st (flatS t u) i 1 (by omega) (by omega)) (cwV 2 hts gX7_straightOnes_X7_of rfl rfl rfl hdv_X7_of ⟨Nat.le_of_ble_eq_true rfl, Nat.le_of_ble_eq_true rfl⟩) [0, 1] [some 0, some 1] [(b 0), (b 1)] rfl (by decide +kernel) ⟨rfl, rfl⟩ rfl (by decide +kernel) 0 7 rfl rfl rfl rfl hl.1 (Nat.le_of_ble_eq_true rfl) dX7_straightOnes_14 ⟨Nat.zero_le _, Nat.zero_le _⟩ (fun H locs hP hD hS => ?_)
        show W p9 l e9 (eR 1 22) s9 m9 a9 b9 t9 c9 H locs 0 0 Q (F0 m9 17 ls (.int ((flatS t u) (10 + 5 * i + 1)) :: [.int x]))
        refine ej_topi (show ((flatS t u) (10 + 5 * i + 1)) = P_ou t i from flS_1 t u (by omega)) ?_
        refine lv_if_ne (tgt := 33) hx hb dX7_straightOnes_17 (by decide) (fun c_2 => ?_) (fun c_2 => ?_)
        · refine lv_iconst (v := 0) hx hb dX7_straightOnes_33 (by decide) ?_
          refine lv_iadd hx hb dX7_straightOnes_34 ?_
          refine lv_istore_n (lv' := [(1, .int (x + 0)), (0, .ref (b 0)), (2, .int (nI i))]) hx hb dX7_straightOnes_35 rfl hl (by decide) rfl (fun ls hl => ?_)
          refine lv_iinc (v := nI (i + 1)) (lv' := [(2, .int (nI (i + 1))), (1, .int (x + 0)), (0, .ref (b 0))]) hx hb dX7_straightOnes_36 hl (k := 2) rfl (nI_add i 1) (by decide) rfl (fun ls hl => ?_)
          refine lv_goto (tgt := 4) hx hb dX7_straightOnes_39 (by decide) ?_
          exact ih4  (i + 1) (x + 0) (by omega) (by omega) (by rw [sumI, ← ex]; simp only [c_1, c_2, if_true, if_false, ite_true, ite_false, not_true_eq_false, not_false_eq_true, and_true, true_and, and_false, false_and, and_self, reduceIte]) _ _ _ hP hD hS (lv_sub hl [2, 1, 0] rfl)
        · refine lv_aload_n hx hb dX7_straightOnes_20 rfl (lv_at hl 0 rfl) ?_
          refine lv_iload_n hx hb dX7_straightOnes_21 rfl (lv_at hl 2 rfl) ?_
          refine lv_iconst (v := 0) hx hb dX7_straightOnes_22 (by decide) ?_
          refine ej_V (As := [.int (nI i), .int 0]) (rest := [.int x]) (w' := [((b 0), .inr (7, [.ref (b 1), .ref (b 2), .ref (b 3), .int (nI kn), .ref (b 4), .int ik, .ref (b 5), .int (nI le), .int be, .int (nI sp), .int fo, .int op, .int ha, .int st, .ref (b 6), .ref (b 7), .ref (b 8)])), ((b 1), .inl (cI, 206, .inl (flatS t u)))]) S hK hN hA hP hD hS (c_X7_of l D tys cI ht0 b kn le sp ik be fo op ha st (flatS t u) i 0 (by omega) (by omega)) (cwV 2 hts gX7_straightOnes_X7_of rfl rfl rfl hdv_X7_of ⟨Nat.le_of_ble_eq_true rfl, Nat.le_of_ble_eq_true rfl⟩) [0, 1] [some 0, some 1] [(b 0), (b 1)] rfl (by decide +kernel) ⟨rfl, rfl⟩ rfl (by decide +kernel) 0 7 rfl rfl rfl rfl hl.1 (Nat.le_of_ble_eq_true rfl) dX7_straightOnes_23 ⟨Nat.zero_le _, Nat.zero_le _⟩ (fun H locs hP hD hS => ?_)
          show W p9 l e9 (eR 1 22) s9 m9 a9 b9 t9 c9 H locs 0 0 Q (F0 m9 26 ls (.int ((flatS t u) (10 + 5 * i + 0)) :: [.int x]))
          refine ej_topi (show ((flatS t u) (10 + 5 * i + 0)) = P_be t i from flS_0 t u (by omega)) ?_
          refine lv_if_ne (tgt := 33) hx hb dX7_straightOnes_26 (by decide) (fun c_3 => ?_) (fun c_3 => ?_)
          · refine lv_iconst (v := 0) hx hb dX7_straightOnes_33 (by decide) ?_
            refine lv_iadd hx hb dX7_straightOnes_34 ?_
            refine lv_istore_n (lv' := [(1, .int (x + 0)), (0, .ref (b 0)), (2, .int (nI i))]) hx hb dX7_straightOnes_35 rfl hl (by decide) rfl (fun ls hl => ?_)
            refine lv_iinc (v := nI (i + 1)) (lv' := [(2, .int (nI (i + 1))), (1, .int (x + 0)), (0, .ref (b 0))]) hx hb dX7_straightOnes_36 hl (k := 2) rfl (nI_add i 1) (by decide) rfl (fun ls hl => ?_)
            refine lv_goto (tgt := 4) hx hb dX7_straightOnes_39 (by decide) ?_
            exact ih4  (i + 1) (x + 0) (by omega) (by omega) (by rw [sumI, ← ex]; simp only [c_1, eq_true c_2, c_3, if_true, if_false, ite_true, ite_false, not_true_eq_false, not_false_eq_true, and_true, true_and, and_false, false_and, and_self, reduceIte]) _ _ _ hP hD hS (lv_sub hl [2, 1, 0] rfl)
          · refine lv_iconst (v := 1) hx hb dX7_straightOnes_29 (by decide) ?_
            refine lv_goto (tgt := 34) hx hb dX7_straightOnes_30 (by decide) ?_
            refine lv_iadd hx hb dX7_straightOnes_34 ?_
            refine lv_istore_n (lv' := [(1, .int (x + 1)), (0, .ref (b 0)), (2, .int (nI i))]) hx hb dX7_straightOnes_35 rfl hl (by decide) rfl (fun ls hl => ?_)
            refine lv_iinc (v := nI (i + 1)) (lv' := [(2, .int (nI (i + 1))), (1, .int (x + 1)), (0, .ref (b 0))]) hx hb dX7_straightOnes_36 hl (k := 2) rfl (nI_add i 1) (by decide) rfl (fun ls hl => ?_)
            refine lv_goto (tgt := 4) hx hb dX7_straightOnes_39 (by decide) ?_
            exact ih4  (i + 1) (x + 1) (by omega) (by omega) (by rw [sumI, ← ex]; simp only [c_1, eq_true c_2, eq_true c_3, if_true, if_false, ite_true, ite_false, not_true_eq_false, not_false_eq_true, and_true, true_and, and_false, false_and, and_self, reduceIte]) _ _ _ hP hD hS (lv_sub hl [2, 1, 0] rfl)
  exact lp4 ((35 - 0) + 1) 0 0 (by omega) (by omega) rfl _ _ _ hP hD hS (lv_sub hl [2, 1, 0] rfl)
