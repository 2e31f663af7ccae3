set_option maxHeartbeats 4000000 in
set_option maxRecDepth 100000 in
theorem c_X7_inPockets (l : Launch) (D : va_G) (tys : eT) (cI : ClassId) (ht0 : tys[0]? = some (cI, .int)) (b : Nat → Nat) (kn le sp : Nat) (ik be fo op ha st : Int32) (t : Pn) (u : Tr)   : fc l D tys yX7_inPockets wsX7_inPockets (eR 1 22) [.ref (b 0)] ([((b 0), .inr (7, [.ref (b 1), .ref (b 2), .ref (b 3), .int (nI kn), .ref (b 4), .int ik, .ref (b 5), .int (nI le), .int be, .int (nI sp), .int fo, .int op, .int ha, .int st, .ref (b 6), .ref (b 7), .ref (b 8)])), ((b 1), .inl (cI, 206, .inl (flatS t u)))]) (some (.int (sumI (T_he u) 7))) ([((b 0), .inr (7, [.ref (b 1), .ref (b 2), .ref (b 3), .int (nI kn), .ref (b 4), .int ik, .ref (b 5), .int (nI le), .int be, .int (nI sp), .int fo, .int op, .int ha, .int st, .ref (b 6), .ref (b 7), .ref (b 8)])), ((b 1), .inl (cI, 206, .inl (flatS t u)))]) := by
  refine fc_int cX7_inPockets 3 (by decide +kernel) rfl (rfl) (Nat.le_of_ble_eq_true rfl) ?_
  intro p9 e9 s9 m9 a9 b9 t9 c9 H0 A Q ls S hK hN hA hP hD hS hl hQ
  have S : CallFix p9 m9 c9 cX7_inPockets 3 s9 a9 wsX7_inPockets RX7 := S
  obtain ⟨hx, hb, hml, hown, hts⟩ := id S
  have hP : va_P D vwCl ([((b 0), .inr (7, [.ref (b 1), .ref (b 2), .ref (b 3), .int (nI kn), .ref (b 4), .int ik, .ref (b 5), .int (nI le), .int be, .int (nI sp), .int fo, .int op, .int ha, .int st, .ref (b 6), .ref (b 7), .ref (b 8)])), ((b 1), .inl (cI, 206, .inl (flatS t u)))]) H0 := hP
  have hD : va_D A ([((b 0), .inr (7, [.ref (b 1), .ref (b 2), .ref (b 3), .int (nI kn), .ref (b 4), .int ik, .ref (b 5), .int (nI le), .int be, .int (nI sp), .int fo, .int op, .int ha, .int st, .ref (b 6), .ref (b 7), .ref (b 8)])), ((b 1), .inl (cI, 206, .inl (flatS t u)))]) := hD
  have hl : lv_has ls 3 [(0, .ref (b 0))] := hl
  refine lv_iconst (v := 0) hx hb dX7_inPockets_0 (by decide) ?_
  refine lv_istore_n (lv' := [(1, .int 0), (0, .ref (b 0))]) hx hb dX7_inPockets_1 rfl hl (by decide) rfl (fun ls hl => ?_)
  refine lv_iconst (v := 0) hx hb dX7_inPockets_2 (by decide) ?_
  refine lv_istore_n (lv' := [(2, .int 0), (1, .int 0), (0, .ref (b 0))]) hx hb dX7_inPockets_3 rfl hl (by decide) rfl (fun ls hl => ?_)
  have lp4 : ∀ (n4 : Nat) (i : Nat), 7 - i < n4 → (i ≤ 7) → ∀ (H : Heap) (locs : List Loc) (ls : Array Slot), va_P D vwCl ([((b 0), .inr (7, [.ref (b 1), .ref (b 2), .ref (b 3), .int (nI kn), .ref (b 4), .int ik, .ref (b 5), .int (nI le), .int be, .int (nI sp), .int fo, .int op, .int ha, .int st, .ref (b 6), .ref (b 7), .ref (b 8)])), ((b 1), .inl (cI, 206, .inl (flatS t u)))]) H → va_D A ([((b 0), .inr (7, [.ref (b 1), .ref (b 2), .ref (b 3), .int (nI kn), .ref (b 4), .int ik, .ref (b 5), .int (nI le), .int be, .int (nI sp), .int fo, .int op, .int ha, .int st, .ref (b 6), .ref (b 7), .ref (b 8)])), ((b 1), .inl (cI, 206, .inl (flatS t u)))]) → va_S A H0 H locs → lv_has ls 3 [(0, .ref (b 0)), (1, .int (sumI (T_he u) i)), (2, .int (nI i))] → W p9 l e9 (eR 1 22) s9 m9 a9 b9 t9 c9 H locs 0 0 Q (F0 m9 4 ls []) := by
    intro n4
    induction n4 with
    | zero => intro i hm9; exact absurd hm9 (Nat.not_lt_zero _)
    | succ n4 ih4 =>
      intro i hm4 hi H locs ls hP hD hS hl
      refine lv_iload_n hx hb dX7_inPockets_4 rfl (lv_at hl 2 rfl) ?_
      refine lv_bipush (v := 7) hx hb dX7_inPockets_5 (by decide) ?_
      refine lv_icmp_ge (tgt := 25) hx hb dX7_inPockets_7 (by decide) (fun c_1 => ?_) (fun c_1 => ?_)
      · have n_1 : 7 ≤ i := ej_tle (a := 7) (b := i) (by omega) (by omega) c_1
        refine lv_iload_n hx hb dX7_inPockets_25 rfl (lv_at hl 1 rfl) ?_
        exact hQ _ _ _ _ (sumI (T_he u) i) ([((b 0), .inr (7, [.ref (b 1), .ref (b 2), .ref (b 3), .int (nI kn), .ref (b 4), .int ik, .ref (b 5), .int (nI le), .int be, .int (nI sp), .int fo, .int op, .int ha, .int st, .ref (b 6), .ref (b 7), .ref (b 8)])), ((b 1), .inl (cI, 206, .inl (flatS t u)))]) dX7_inPockets_26 (by rw [show i = 7 by omega]) rfl hP hS
      · have n_1 : i < 7 := ej_tnle (a := 7) (b := i) (by omega) (by omega) c_1
        refine lv_iload_n hx hb dX7_inPockets_10 rfl (lv_at hl 1 rfl) ?_
        refine lv_aload_n hx hb dX7_inPockets_11 rfl (lv_at hl 0 rfl) ?_
        refine lv_iload_n hx hb dX7_inPockets_12 rfl (lv_at hl 2 rfl) ?_
        refine lv_iconst (v := 1) hx hb dX7_inPockets_13 (by decide) ?_
        refine ej_V (As := [.int (nI i), .int 1]) (rest := [.int (sumI (T_he u) i)]) (w' := [((b 0), .inr (7, [.ref (b 1), .ref (b 2), .ref (b 3), .int (nI kn), .ref (b 4), .int ik, .ref (b 5), .int (nI le), .int be, .int (nI sp), .int fo, .int op, .int ha, .int st, .ref (b 6), .ref (b 7), .ref (b 8)])), ((b 1), .inl (cI, 206, .inl (flatS t u)))]) S hK hN hA hP hD hS (c_X7_inPocket l D tys cI ht0 b kn le sp ik be fo op ha st (flatS t u) i 1 (by omega) (by omega)) (cwV 2 hts gX7_inPockets_X7_inPocket rfl rfl rfl hdv_X7_inPocket ⟨Nat.le_of_ble_eq_true rfl, Nat.le_of_ble_eq_true rfl⟩) [0, 1] [some 0, some 1] [(b 0), (b 1)] rfl (by decide +kernel) ⟨rfl, rfl⟩ rfl (by decide +kernel) 0 7 rfl rfl rfl rfl hl.1 (Nat.le_of_ble_eq_true rfl) dX7_inPockets_14 ⟨Nat.zero_le _, Nat.zero_le _⟩ (fun H locs hP hD hS => ?_)
        show W p9 l e9 (eR 1 22) s9 m9 a9 b9 t9 c9 H locs 0 0 Q (F0 m9 17 ls (.int ((flatS t u) (185 + 3 * i + 1)) :: [.int (sumI (T_he u) i)]))
        refine ej_topi (show ((flatS t u) (185 + 3 * i + 1)) = T_he u i from flP_1 t u i) ?_
        refine lv_iadd hx hb dX7_inPockets_17 ?_
        refine lv_istore_n (lv' := [(1, .int ((sumI (T_he u) i) + (T_he u i))), (0, .ref (b 0)), (2, .int (nI i))]) hx hb dX7_inPockets_18 rfl hl (by decide) rfl (fun ls hl => ?_)
        refine lv_iinc (v := nI (i + 1)) (lv' := [(2, .int (nI (i + 1))), (1, .int ((sumI (T_he u) i) + (T_he u i))), (0, .ref (b 0))]) hx hb dX7_inPockets_19 hl (k := 2) rfl (nI_add i 1) (by decide) rfl (fun ls hl => ?_)
        refine lv_goto (tgt := 4) hx hb dX7_inPockets_22 (by decide) ?_
        exact ih4  (i + 1) (by omega) (by omega) _ _ _ hP hD hS (lv_sub hl [2, 1, 0] rfl)
  exact lp4 ((7 - 0) + 1) 0 (by omega) (by omega) _ _ _ hP hD hS (lv_sub hl [2, 1, 0] rfl)
