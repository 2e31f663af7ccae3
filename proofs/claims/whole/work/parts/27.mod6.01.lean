set_option maxHeartbeats 4000000 in
set_option maxRecDepth 100000 in
theorem c_X7_comesTo (l : Launch) (D : va_G) (tys : eT) (cI : ClassId) (ht0 : tys[0]? = some (cI, .int)) (b : Nat → Nat) (kn le sp : Nat) (ik be fo op ha st : Int32) (t : Pn) (u : Tr) (m w : Nat) (m1 : Nat) (e_m1 : m1 = cmG t m w) (hm : m < 128) (hw : w ≤ 5) (htl : tilOK t) (hout : outOK t) : fc l D tys yX7_comesTo wsX7_comesTo (eR 3 67) [.ref (b 0), .int (nI m), .int (nI w)] ([((b 0), .inr (7, [.ref (b 1), .ref (b 2), .ref (b 3), .int (nI kn), .ref (b 4), .int ik, .ref (b 5), .int (nI le), .int be, .int (nI sp), .int fo, .int op, .int ha, .int st, .ref (b 6), .ref (b 7), .ref (b 8)])), ((b 1), .inl (cI, 206, .inl (flatS t u)))]) (some (.int (nI m1))) ([((b 0), .inr (7, [.ref (b 1), .ref (b 2), .ref (b 3), .int (nI kn), .ref (b 4), .int ik, .ref (b 5), .int (nI le), .int be, .int (nI sp), .int fo, .int op, .int ha, .int st, .ref (b 6), .ref (b 7), .ref (b 8)])), ((b 1), .inl (cI, 206, .inl (flatS t u)))]) := by
  refine fc_int cX7_comesTo 7 (by decide +kernel) rfl (rfl) (Nat.le_of_ble_eq_true rfl) ?_
  intro p9 e9 s9 m9 a9 b9 t9 c9 H0 A Q ls S hK hN hA hP hD hS hl hQ
  have S : CallFix p9 m9 c9 cX7_comesTo 7 s9 a9 wsX7_comesTo RX7 := S
  obtain ⟨hx, hb, hml, hown, hts⟩ := id S
  have hP : va_P D vwCl ([((b 0), .inr (7, [.ref (b 1), .ref (b 2), .ref (b 3), .int (nI kn), .ref (b 4), .int ik, .ref (b 5), .int (nI le), .int be, .int (nI sp), .int fo, .int op, .int ha, .int st, .ref (b 6), .ref (b 7), .ref (b 8)])), ((b 1), .inl (cI, 206, .inl (flatS t u)))]) H0 := hP
  have hD : va_D A ([((b 0), .inr (7, [.ref (b 1), .ref (b 2), .ref (b 3), .int (nI kn), .ref (b 4), .int ik, .ref (b 5), .int (nI le), .int be, .int (nI sp), .int fo, .int op, .int ha, .int st, .ref (b 6), .ref (b 7), .ref (b 8)])), ((b 1), .inl (cI, 206, .inl (flatS t u)))]) := hD
  have hl : lv_has ls 7 [(0, .ref (b 0)), (1, .int (nI m)), (2, .int (nI w))] := hl
  refine lv_iload_n hx hb dX7_comesTo_0 rfl (lv_at hl 1 rfl) ?_
  refine lv_istore_n (lv' := [(3, .int (nI m)), (0, .ref (b 0)), (1, .int (nI m)), (2, .int (nI w))]) hx hb dX7_comesTo_1 rfl hl (by decide) rfl (fun ls hl => ?_)
  refine lv_iconst (v := 0) hx hb dX7_comesTo_2 (by decide) ?_
  refine lv_istore (lv' := [(4, .int 0), (3, .int (nI m)), (0, .ref (b 0)), (1, .int (nI m)), (2, .int (nI w))]) hx hb dX7_comesTo_3 hl (by decide) rfl (fun ls hl => ?_)
  have lp5 : ∀ (n5 : Nat) (i : Nat) (x : Nat), w - i < n5 → (i ≤ w) → (x = cmG t m i) → (x < 128) → ∀ (H : Heap) (locs : List Loc) (ls : Array Slot), va_P D vwCl ([((b 0), .inr (7, [.ref (b 1), .ref (b 2), .ref (b 3), .int (nI kn), .ref (b 4), .int ik, .ref (b 5), .int (nI le), .int be, .int (nI sp), .int fo, .int op, .int ha, .int st, .ref (b 6), .ref (b 7), .ref (b 8)])), ((b 1), .inl (cI, 206, .inl (flatS t u)))]) H → va_D A ([((b 0), .inr (7, [.ref (b 1), .ref (b 2), .ref (b 3), .int (nI kn), .ref (b 4), .int ik, .ref (b 5), .int (nI le), .int be, .int (nI sp), .int fo, .int op, .int ha, .int st, .ref (b 6), .ref (b 7), .ref (b 8)])), ((b 1), .inl (cI, 206, .inl (flatS t u)))]) → va_S A H0 H locs → lv_has ls 7 [(0, .ref (b 0)), (1, .int (nI m)), (2, .int (nI w)), (3, .int (nI x)), (4, .int (nI i))] → W p9 l e9 (eR 3 67) s9 m9 a9 b9 t9 c9 H locs 0 0 Q (F0 m9 5 ls []) := by
    intro n5
    induction n5 with
    | zero => intro i x hm9; exact absurd hm9 (Nat.not_lt_zero _)
    | succ n5 ih5 =>
      intro i x hm5 hi ex hx9 H locs ls hP hD hS hl
      refine lv_iload hx hb dX7_comesTo_5 (lv_at hl 4 rfl) ?_
      refine lv_iload_n hx hb dX7_comesTo_7 rfl (lv_at hl 2 rfl) ?_
      refine lv_icmp_ge (tgt := 72) hx hb dX7_comesTo_8 (by decide) (fun c_1 => ?_) (fun c_1 => ?_)
      · have n_1 : w ≤ i := ej_tle (a := w) (b := i) (by omega) (by omega) c_1
        refine lv_iload_n hx hb dX7_comesTo_72 rfl (lv_at hl 3 rfl) ?_
        have f_m1 : x = m1 := by rw [e_m1]; rw [ex, show i = w by omega]
        subst f_m1
        exact hQ _ _ _ _ (nI x) ([((b 0), .inr (7, [.ref (b 1), .ref (b 2), .ref (b 3), .int (nI kn), .ref (b 4), .int ik, .ref (b 5), .int (nI le), .int be, .int (nI sp), .int fo, .int op, .int ha, .int st, .ref (b 6), .ref (b 7), .ref (b 8)])), ((b 1), .inl (cI, 206, .inl (flatS t u)))]) dX7_comesTo_73 rfl rfl hP hS
      · have n_1 : i < w := ej_tnle (a := w) (b := i) (by omega) (by omega) c_1
        refine lv_iconst (v := 0) hx hb dX7_comesTo_11 (by decide) ?_
        refine lv_istore (lv' := [(5, .int 0), (0, .ref (b 0)), (1, .int (nI m)), (2, .int (nI w)), (3, .int (nI x)), (4, .int (nI i))]) hx hb dX7_comesTo_12 hl (by decide) rfl (fun ls hl => ?_)
        refine lv_iconst (v := 0) hx hb dX7_comesTo_14 (by decide) ?_
        refine lv_istore (lv' := [(6, .int 0), (5, .int 0), (0, .ref (b 0)), (1, .int (nI m)), (2, .int (nI w)), (3, .int (nI x)), (4, .int (nI i))]) hx hb dX7_comesTo_15 hl (by decide) rfl (fun ls hl => ?_)
        have lp17 : ∀ (n17 : Nat) (j : Nat) (y : Nat), 7 - j < n17 → (j ≤ 7) → (y = belG t i x j) → ∀ (H : Heap) (locs : List Loc) (ls : Array Slot), va_P D vwCl ([((b 0), .inr (7, [.ref (b 1), .ref (b 2), .ref (b 3), .int (nI kn), .ref (b 4), .int ik, .ref (b 5), .int (nI le), .int be, .int (nI sp), .int fo, .int op, .int ha, .int st, .ref (b 6), .ref (b 7), .ref (b 8)])), ((b 1), .inl (cI, 206, .inl (flatS t u)))]) H → va_D A ([((b 0), .inr (7, [.ref (b 1), .ref (b 2), .ref (b 3), .int (nI kn), .ref (b 4), .int ik, .ref (b 5), .int (nI le), .int be, .int (nI sp), .int fo, .int op, .int ha, .int st, .ref (b 6), .ref (b 7), .ref (b 8)])), ((b 1), .inl (cI, 206, .inl (flatS t u)))]) → va_S A H0 H locs → lv_has ls 7 [(0, .ref (b 0)), (1, .int (nI m)), (2, .int (nI w)), (3, .int (nI x)), (4, .int (nI i)), (5, .int (nI y)), (6, .int (nI j))] → W p9 l e9 (eR 3 67) s9 m9 a9 b9 t9 c9 H locs 0 0 Q (F0 m9 17 ls []) := by
          intro n17
          induction n17 with
          | zero => intro j y hm9; exact absurd hm9 (Nat.not_lt_zero _)
          | succ n17 ih17 =>
            intro j y hm17 hj ey H locs ls hP hD hS hl
            refine lv_iload hx hb dX7_comesTo_17 (lv_at hl 6 rfl) ?_
            refine lv_bipush (v := 7) hx hb dX7_comesTo_19 (by decide) ?_
            refine lv_icmp_ge (tgt := 63) hx hb dX7_comesTo_21 (by decide) (fun c_2 => ?_) (fun c_2 => ?_)
            · have n_2 : 7 ≤ j := ej_tle (a := 7) (b := j) (by omega) (by omega) c_2
              refine lv_iload hx hb dX7_comesTo_63 (lv_at hl 5 rfl) ?_
              refine lv_istore_n (lv' := [(3, .int (nI y)), (0, .ref (b 0)), (1, .int (nI m)), (2, .int (nI w)), (4, .int (nI i)), (5, .int (nI y)), (6, .int (nI j))]) hx hb dX7_comesTo_65 rfl hl (by decide) rfl (fun ls hl => ?_)
              refine lv_iinc (v := nI (i + 1)) (lv' := [(4, .int (nI (i + 1))), (3, .int (nI y)), (0, .ref (b 0)), (1, .int (nI m)), (2, .int (nI w)), (5, .int (nI y)), (6, .int (nI j))]) hx hb dX7_comesTo_66 hl (k := 4) rfl (nI_add i 1) (by decide) rfl (fun ls hl => ?_)
              refine lv_goto (tgt := 5) hx hb dX7_comesTo_69 (by decide) ?_
              exact ih5  (i + 1) y (by omega) (by omega) (by rw [cmG, ← ex, ey, show j = 7 by omega]) (by rw [ey]; exact belG_lt t i x j) _ _ _ hP hD hS (lv_sub hl [2, 3, 4, 1, 0] rfl)
            · have n_2 : j < 7 := ej_tnle (a := 7) (b := j) (by omega) (by omega) c_2
              refine lv_iload hx hb dX7_comesTo_24 (lv_at hl 5 rfl) ?_
              refine lv_iload_n hx hb dX7_comesTo_26 rfl (lv_at hl 3 rfl) ?_
              refine lv_iload hx hb dX7_comesTo_27 (lv_at hl 6 rfl) ?_
              refine lv_ishr hx hb dX7_comesTo_29 ?_
              refine lv_iconst (v := 1) hx hb dX7_comesTo_30 (by decide) ?_
              refine lv_iand hx hb dX7_comesTo_31 ?_
              refine ej_topi (show (((nI x) >>> ((nI j) &&& 31)) &&& 1) = if x.testBit j = true then 1 else 0 from bit_ok x hx9 j (by omega)) ?_
              refine lv_iconst (v := 1) hx hb dX7_comesTo_32 (by decide) ?_
              refine lv_icmp_ne (tgt := 53) hx hb dX7_comesTo_33 (by decide) (fun c_3 => ?_) (fun c_3 => ?_)
              · have b_3 := ej_p0 c_3
                refine lv_iconst (v := 0) hx hb dX7_comesTo_53 (by decide) ?_
                refine lv_ior hx hb dX7_comesTo_54 ?_
                refine ej_topi (show (nI y) ||| 0 = nI (y ||| 0) from fa_or y 0) ?_
                refine lv_istore (lv' := [(5, .int (nI (y ||| 0))), (0, .ref (b 0)), (1, .int (nI m)), (2, .int (nI w)), (3, .int (nI x)), (4, .int (nI i)), (6, .int (nI j))]) hx hb dX7_comesTo_55 hl (by decide) rfl (fun ls hl => ?_)
                refine lv_iinc (v := nI (j + 1)) (lv' := [(6, .int (nI (j + 1))), (5, .int (nI (y ||| 0))), (0, .ref (b 0)), (1, .int (nI m)), (2, .int (nI w)), (3, .int (nI x)), (4, .int (nI i))]) hx hb dX7_comesTo_57 hl (k := 6) rfl (nI_add j 1) (by decide) rfl (fun ls hl => ?_)
                refine lv_goto (tgt := 17) hx hb dX7_comesTo_60 (by decide) ?_
                exact ih17  (j + 1) (y ||| 0) (by omega) (by omega) (by rw [belG, if_neg b_3, Nat.or_zero]; exact ey) _ _ _ hP hD hS (lv_sub hl [2, 3, 4, 5, 6, 1, 0] rfl)
              · have b_3 := ej_p1 c_3
                refine lv_aload_n hx hb dX7_comesTo_36 rfl (lv_at hl 0 rfl) ?_
                refine lv_bipush (v := 7) hx hb dX7_comesTo_37 (by decide) ?_
                refine lv_iload hx hb dX7_comesTo_39 (lv_at hl 4 rfl) ?_
                refine lv_imul hx hb dX7_comesTo_41 ?_
                refine ej_topi (show 7 * (nI i) = nI (7 * i) from pk_mul 7 i) ?_
                refine lv_iload hx hb dX7_comesTo_42 (lv_at hl 6 rfl) ?_
                refine lv_iadd hx hb dX7_comesTo_44 ?_
                refine ej_topi (show (nI (7 * i)) + (nI j) = nI ((7 * i) + j) from nI_add (7 * i) j) ?_
                refine lv_iload hx hb dX7_comesTo_45 (lv_at hl 6 rfl) ?_
                obtain ⟨m1_4, e_m1_4⟩ : ∃ z9 : Nat, z9 = nextM t ((7 * i) + j) := ⟨_, rfl⟩
                refine ej_V (As := [.int (nI ((7 * i) + j)), .int (nI j)]) (rest := [.int (nI y)]) (w' := [((b 0), .inr (7, [.ref (b 1), .ref (b 2), .ref (b 3), .int (nI kn), .ref (b 4), .int ik, .ref (b 5), .int (nI le), .int be, .int (nI sp), .int fo, .int op, .int ha, .int st, .ref (b 6), .ref (b 7), .ref (b 8)])), ((b 1), .inl (cI, 206, .inl (flatS t u)))]) S hK hN hA hP hD hS (c_X7_nextOf l D tys cI ht0 b kn le sp ik be fo op ha st t u ((7 * i) + j) j m1_4 e_m1_4 (by omega) (by omega) (by omega) (by omega)) (cwV 2 hts gX7_comesTo_X7_nextOf rfl rfl rfl hdv_X7_nextOf ⟨Nat.le_of_ble_eq_true rfl, Nat.le_of_ble_eq_true rfl⟩) [0, 1] [some 0, some 1] [(b 0), (b 1)] rfl (by decide +kernel) ⟨rfl, rfl⟩ rfl (by decide +kernel) 0 7 rfl rfl rfl rfl hl.1 (Nat.le_of_ble_eq_true rfl) dX7_comesTo_47 ⟨Nat.zero_le _, Nat.zero_le _⟩ (fun H locs hP hD hS => ?_)
                show W p9 l e9 (eR 3 67) s9 m9 a9 b9 t9 c9 H locs 0 0 Q (F0 m9 50 ls (.int (nI m1_4) :: [.int (nI y)]))
                refine lv_goto (tgt := 54) hx hb dX7_comesTo_50 (by decide) ?_
                refine lv_ior hx hb dX7_comesTo_54 ?_
                refine ej_topi (show (nI y) ||| (nI m1_4) = nI (y ||| m1_4) from fa_or y m1_4) ?_
                refine lv_istore (lv' := [(5, .int (nI (y ||| m1_4))), (0, .ref (b 0)), (1, .int (nI m)), (2, .int (nI w)), (3, .int (nI x)), (4, .int (nI i)), (6, .int (nI j))]) hx hb dX7_comesTo_55 hl (by decide) rfl (fun ls hl => ?_)
                refine lv_iinc (v := nI (j + 1)) (lv' := [(6, .int (nI (j + 1))), (5, .int (nI (y ||| m1_4))), (0, .ref (b 0)), (1, .int (nI m)), (2, .int (nI w)), (3, .int (nI x)), (4, .int (nI i))]) hx hb dX7_comesTo_57 hl (k := 6) rfl (nI_add j 1) (by decide) rfl (fun ls hl => ?_)
                refine lv_goto (tgt := 17) hx hb dX7_comesTo_60 (by decide) ?_
                exact ih17  (j + 1) (y ||| m1_4) (by omega) (by omega) (by rw [e_m1_4, belG, if_pos b_3, ey]) _ _ _ hP hD hS (lv_sub hl [2, 3, 4, 5, 6, 1, 0] rfl)
        exact lp17 ((7 - 0) + 1) 0 0 (by omega) (by omega) rfl _ _ _ hP hD hS (lv_sub hl [2, 3, 4, 5, 6, 1, 0] rfl)
  exact lp5 ((w - 0) + 1) 0 m (by omega) (by omega) rfl hm _ _ _ hP hD hS (lv_sub hl [2, 3, 4, 1, 0] rfl)
