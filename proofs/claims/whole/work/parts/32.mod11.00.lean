set_option maxHeartbeats 4000000 in
set_option maxRecDepth 100000 in
theorem c_X7_allBends (l : Launch) (D : va_G) (tys : eT) (cI : ClassId) (ht0 : tys[0]? = some (cI, .int)) (b : Nat → Nat) (kn le sp : Nat) (ik be fo op ha st : Int32) (t : Pn) (u : Tr) (r1 : Int32) (e_r1 : r1 = sumI (fun p => if P_ou t p = 0 then (if 0 ≤ P_be t p then P_be t p else -(P_be t p)) else 0) 35) (htl : tilOK t) (hout : outOK t) : fc l D tys yX7_allBends wsX7_allBends (eR 1 22) [.ref (b 0)] ([((b 0), .inr (7, [.ref (b 1), .ref (b 2), .ref (b 3), .int (nI kn), .ref (b 4), .int ik, .ref (b 5), .int (nI le), .int be, .int (nI sp), .int fo, .int op, .int ha, .int st, .ref (b 6), .ref (b 7), .ref (b 8)])), ((b 1), .inl (cI, 206, .inl (flatS t u)))]) (some (.int r1)) ([((b 0), .inr (7, [.ref (b 1), .ref (b 2), .ref (b 3), .int (nI kn), .ref (b 4), .int ik, .ref (b 5), .int (nI le), .int be, .int (nI sp), .int fo, .int op, .int ha, .int st, .ref (b 6), .ref (b 7), .ref (b 8)])), ((b 1), .inl (cI, 206, .inl (flatS t u)))]) := by
  refine fc_int cX7_allBends 4 (by decide +kernel) rfl (rfl) (Nat.le_of_ble_eq_true rfl) ?_
  intro p9 e9 s9 m9 a9 b9 t9 c9 H0 A Q ls S hK hN hA hP hD hS hl hQ
  have S : CallFix p9 m9 c9 cX7_allBends 4 s9 a9 wsX7_allBends RX7 := S
  obtain ⟨hx, hb, hml, hown, hts⟩ := id S
  have hP : va_P D vwCl ([((b 0), .inr (7, [.ref (b 1), .ref (b 2), .ref (b 3), .int (nI kn), .ref (b 4), .int ik, .ref (b 5), .int (nI le), .int be, .int (nI sp), .int fo, .int op, .int ha, .int st, .ref (b 6), .ref (b 7), .ref (b 8)])), ((b 1), .inl (cI, 206, .inl (flatS t u)))]) H0 := hP
  have hD : va_D A ([((b 0), .inr (7, [.ref (b 1), .ref (b 2), .ref (b 3), .int (nI kn), .ref (b 4), .int ik, .ref (b 5), .int (nI le), .int be, .int (nI sp), .int fo, .int op, .int ha, .int st, .ref (b 6), .ref (b 7), .ref (b 8)])), ((b 1), .inl (cI, 206, .inl (flatS t u)))]) := hD
  have hl : lv_has ls 4 [(0, .ref (b 0))] := hl
  refine lv_iconst (v := 0) hx hb dX7_allBends_0 (by decide) ?_
  refine lv_istore_n (lv' := [(1, .int 0), (0, .ref (b 0))]) hx hb dX7_allBends_1 rfl hl (by decide) rfl (fun ls hl => ?_)
  refine lv_iconst (v := 0) hx hb dX7_allBends_2 (by decide) ?_
  refine lv_istore_n (lv' := [(2, .int 0), (1, .int 0), (0, .ref (b 0))]) hx hb dX7_allBends_3 rfl hl (by decide) rfl (fun ls hl => ?_)
  have lp4 : ∀ (n4 : Nat) (i : Nat) (x : Int32), 35 - i < n4 → (i ≤ 35) → (x = sumI (fun p => if P_ou t p = 0 then (if 0 ≤ P_be t p then P_be t p else -(P_be t p)) else 0) i) → ∀ (H : Heap) (locs : List Loc) (ls : Array Slot), va_P D vwCl ([((b 0), .inr (7, [.ref (b 1), .ref (b 2), .ref (b 3), .int (nI kn), .ref (b 4), .int ik, .ref (b 5), .int (nI le), .int be, .int (nI sp), .int fo, .int op, .int ha, .int st, .ref (b 6), .ref (b 7), .ref (b 8)])), ((b 1), .inl (cI, 206, .inl (flatS t u)))]) H → va_D A ([((b 0), .inr (7, [.ref (b 1), .ref (b 2), .ref (b 3), .int (nI kn), .ref (b 4), .int ik, .ref (b 5), .int (nI le), .int be, .int (nI sp), .int fo, .int op, .int ha, .int st, .ref (b 6), .ref (b 7), .ref (b 8)])), ((b 1), .inl (cI, 206, .inl (flatS t u)))]) → va_S A H0 H locs → lv_has ls 4 [(0, .ref (b 0)), (1, .int x), (2, .int (nI i))] → W p9 l e9 (eR 1 22) s9 m9 a9 b9 t9 c9 H locs 0 0 Q (F0 m9 4 ls []) := by
    intro n4
    induction n4 with
    | zero => intro i x hm9; exact absurd hm9 (Nat.not_lt_zero _)
    | succ n4 ih4 =>
      intro i x hm4 hi ex H locs ls hP hD hS hl
      refine lv_iload_n hx hb dX7_allBends_4 rfl (lv_at hl 2 rfl) ?_
      refine lv_bipush (v := 35) hx hb dX7_allBends_5 (by decide) ?_
      refine lv_icmp_ge (tgt := 50) hx hb dX7_allBends_7 (by decide) (fun c_1 => ?_) (fun c_1 => ?_)
      · have n_1 : 35 ≤ i := ej_tle (a := 35) (b := i) (by omega) (by omega) c_1
        refine lv_iload_n hx hb dX7_allBends_50 rfl (lv_at hl 1 rfl) ?_
        have f_r1 : x = r1 := by rw [e_r1]; rw [ex, show i = 35 by omega]
        subst f_r1
        exact hQ _ _ _ _ x ([((b 0), .inr (7, [.ref (b 1), .ref (b 2), .ref (b 3), .int (nI kn), .ref (b 4), .int ik, .ref (b 5), .int (nI le), .int be, .int (nI sp), .int fo, .int op, .int ha, .int st, .ref (b 6), .ref (b 7), .ref (b 8)])), ((b 1), .inl (cI, 206, .inl (flatS t u)))]) dX7_allBends_51 rfl rfl hP hS
      · have n_1 : i < 35 := ej_tnle (a := 35) (b := i) (by omega) (by omega) c_1
        refine lv_aload_n hx hb dX7_allBends_10 rfl (lv_at hl 0 rfl) ?_
        refine lv_iload_n hx hb dX7_allBends_11 rfl (lv_at hl 2 rfl) ?_
        refine lv_iconst (v := 1) hx hb dX7_allBends_12 (by decide) ?_
        refine ej_V (As := [.int (nI i), .int 1]) (rest := []) (w' := [((b 0), .inr (7, [.ref (b 1), .ref (b 2), .ref (b 3), .int (nI kn), .ref (b 4), .int ik, .ref (b 5), .int (nI le), .int be, .int (nI sp), .int fo, .int op, .int ha, .int st, .ref (b 6), .ref (b 7), .ref (b 8)])), ((b 1), .inl (cI, 206, .inl (flatS t u)))]) S hK hN hA hP hD hS (c_X7_of l D tys cI ht0 b kn le sp ik be fo op ha st (flatS t u) i 1 (by omega) (by omega)) (cwV 2 hts gX7_allBends_X7_of rfl rfl rfl hdv_X7_of ⟨Nat.le_of_ble_eq_true rfl, Nat.le_of_ble_eq_true rfl⟩) [0, 1] [some 0, some 1] [(b 0), (b 1)] rfl (by decide +kernel) ⟨rfl, rfl⟩ rfl (by decide +kernel) 0 7 rfl rfl rfl rfl hl.1 (Nat.le_of_ble_eq_true rfl) dX7_allBends_13 ⟨Nat.zero_le _, Nat.zero_le _⟩ (fun H locs hP hD hS => ?_)
        show W p9 l e9 (eR 1 22) s9 m9 a9 b9 t9 c9 H locs 0 0 Q (F0 m9 16 ls (.int ((flatS t u) (10 + 5 * i + 1)) :: []))
        refine ej_topi (show ((flatS t u) (10 + 5 * i + 1)) = P_ou t i from flS_1 t u (by omega)) ?_
        refine lv_iconst (v := 1) hx hb dX7_allBends_16 (by decide) ?_
        refine lv_icmp_ne (tgt := 24) hx hb dX7_allBends_17 (by decide) (fun c_2 => ?_) (fun c_2 => ?_)
        · have o_2 : P_ou t i = 0 := (hout i (by omega)).resolve_right c_2
          refine lv_aload_n hx hb dX7_allBends_24 rfl (lv_at hl 0 rfl) ?_
          refine lv_iload_n hx hb dX7_allBends_25 rfl (lv_at hl 2 rfl) ?_
          refine lv_iconst (v := 0) hx hb dX7_allBends_26 (by decide) ?_
          refine ej_V (As := [.int (nI i), .int 0]) (rest := []) (w' := [((b 0), .inr (7, [.ref (b 1), .ref (b 2), .ref (b 3), .int (nI kn), .ref (b 4), .int ik, .ref (b 5), .int (nI le), .int be, .int (nI sp), .int fo, .int op, .int ha, .int st, .ref (b 6), .ref (b 7), .ref (b 8)])), ((b 1), .inl (cI, 206, .inl (flatS t u)))]) S hK hN hA hP hD hS (c_X7_of l D tys cI ht0 b kn le sp ik be fo op ha st (flatS t u) i 0 (by omega) (by omega)) (cwV 2 hts gX7_allBends_X7_of rfl rfl rfl hdv_X7_of ⟨Nat.le_of_ble_eq_true rfl, Nat.le_of_ble_eq_true rfl⟩) [0, 1] [some 0, some 1] [(b 0), (b 1)] rfl (by decide +kernel) ⟨rfl, rfl⟩ rfl (by decide +kernel) 0 7 rfl rfl rfl rfl hl.1 (Nat.le_of_ble_eq_true rfl) dX7_allBends_27 ⟨Nat.zero_le _, Nat.zero_le _⟩ (fun H locs hP hD hS => ?_)
          show W p9 l e9 (eR 1 22) s9 m9 a9 b9 t9 c9 H locs 0 0 Q (F0 m9 30 ls (.int ((flatS t u) (10 + 5 * i + 0)) :: []))
          refine ej_topi (show ((flatS t u) (10 + 5 * i + 0)) = P_be t i from flS_0 t u (by omega)) ?_
          refine lv_istore_n (lv' := [(3, .int (P_be t i)), (0, .ref (b 0)), (1, .int x), (2, .int (nI i))]) hx hb dX7_allBends_30 rfl hl (by decide) rfl (fun ls hl => ?_)
          refine lv_iload_n hx hb dX7_allBends_31 rfl (lv_at hl 2 rfl) ?_
          refine lv_iload_n hx hb dX7_allBends_32 rfl (lv_at hl 0 rfl) ?_
          refine lv_if_ge (tgt := 41) hx hb dX7_allBends_33 (by decide) (fun c_3 => ?_) (fun c_3 => ?_)
          · have d_3 := ej_xa c_3
            refine lv_iload_n hx hb dX7_allBends_41 rfl (lv_at hl 0 rfl) ?_
            refine lv_iadd hx hb dX7_allBends_42 ?_
            refine lv_istore_n (lv' := [(1, .int (x + (P_be t i))), (3, .int (P_be t i)), (0, .ref (b 0)), (2, .int (nI i))]) hx hb dX7_allBends_43 rfl hl (by decide) rfl (fun ls hl => ?_)
            refine lv_iinc (v := nI (i + 1)) (lv' := [(2, .int (nI (i + 1))), (1, .int (x + (P_be t i))), (3, .int (P_be t i)), (0, .ref (b 0))]) hx hb dX7_allBends_44 hl (k := 3) rfl (nI_add i 1) (by decide) rfl (fun ls hl => ?_)
            refine lv_goto (tgt := 4) hx hb dX7_allBends_47 (by decide) ?_
            exact ih4  (i + 1) (x + (P_be t i)) (by omega) (by omega) (by rw [sumI, ← ex]; simp only [c_1, c_2, eq_true o_2, c_3, d_3, if_true, if_false, ite_true, ite_false, not_true_eq_false, not_false_eq_true, and_true, true_and, and_false, false_and, and_self, reduceIte]) _ _ _ hP hD hS (lv_sub hl [3, 1, 0] rfl)
          · have d_3 := ej_xd c_3
            refine lv_iload_n hx hb dX7_allBends_36 rfl (lv_at hl 0 rfl) ?_
            refine lv_ineg hx hb dX7_allBends_37 ?_
            refine lv_goto (tgt := 42) hx hb dX7_allBends_38 (by decide) ?_
            refine lv_iadd hx hb dX7_allBends_42 ?_
            refine lv_istore_n (lv' := [(1, .int (x + (-(P_be t i)))), (3, .int (P_be t i)), (0, .ref (b 0)), (2, .int (nI i))]) hx hb dX7_allBends_43 rfl hl (by decide) rfl (fun ls hl => ?_)
            refine lv_iinc (v := nI (i + 1)) (lv' := [(2, .int (nI (i + 1))), (1, .int (x + (-(P_be t i)))), (3, .int (P_be t i)), (0, .ref (b 0))]) hx hb dX7_allBends_44 hl (k := 3) rfl (nI_add i 1) (by decide) rfl (fun ls hl => ?_)
            refine lv_goto (tgt := 4) hx hb dX7_allBends_47 (by decide) ?_
            exact ih4  (i + 1) (x + (-(P_be t i))) (by omega) (by omega) (by rw [sumI, ← ex]; simp only [c_1, c_2, eq_true o_2, c_3, d_3, if_true, if_false, ite_true, ite_false, not_true_eq_false, not_false_eq_true, and_true, true_and, and_false, false_and, and_self, reduceIte]) _ _ _ hP hD hS (lv_sub hl [3, 1, 0] rfl)
        · have o_2 : ¬ P_ou t i = 0 := by rw [c_2]; decide
          refine lv_iconst (v := 0) hx hb dX7_allBends_20 (by decide) ?_
          refine lv_goto (tgt := 30) hx hb dX7_allBends_21 (by decide) ?_
          refine lv_istore_n (lv' := [(3, .int 0), (0, .ref (b 0)), (1, .int x), (2, .int (nI i))]) hx hb dX7_allBends_30 rfl hl (by decide) rfl (fun ls hl => ?_)
          refine lv_iload_n hx hb dX7_allBends_31 rfl (lv_at hl 2 rfl) ?_
          refine lv_iload_n hx hb dX7_allBends_32 rfl (lv_at hl 0 rfl) ?_
          refine lv_if_ge (tgt := 41) hx hb dX7_allBends_33 (by decide) (fun _ => ?_) (fun h9 => absurd (show (0 : Int32) ≤ 0 from by decide) h9)
          refine lv_iload_n hx hb dX7_allBends_41 rfl (lv_at hl 0 rfl) ?_
          refine lv_iadd hx hb dX7_allBends_42 ?_
          refine lv_istore_n (lv' := [(1, .int (x + 0)), (3, .int 0), (0, .ref (b 0)), (2, .int (nI i))]) hx hb dX7_allBends_43 rfl hl (by decide) rfl (fun ls hl => ?_)
          refine lv_iinc (v := nI (i + 1)) (lv' := [(2, .int (nI (i + 1))), (1, .int (x + 0)), (3, .int 0), (0, .ref (b 0))]) hx hb dX7_allBends_44 hl (k := 3) rfl (nI_add i 1) (by decide) rfl (fun ls hl => ?_)
          refine lv_goto (tgt := 4) hx hb dX7_allBends_47 (by decide) ?_
          exact ih4  (i + 1) (x + 0) (by omega) (by omega) (by rw [sumI, ← ex]; simp only [c_1, eq_true c_2, o_2, if_true, if_false, ite_true, ite_false, not_true_eq_false, not_false_eq_true, and_true, true_and, and_false, false_and, and_self, reduceIte]) _ _ _ hP hD hS (lv_sub hl [3, 1, 0] rfl)
  exact lp4 ((35 - 0) + 1) 0 0 (by omega) (by omega) rfl _ _ _ hP hD hS (lv_sub hl [2, 1, 0] rfl)
