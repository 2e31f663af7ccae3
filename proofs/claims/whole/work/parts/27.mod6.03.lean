set_option maxHeartbeats 4000000 in
set_option maxRecDepth 100000 in
theorem c_X7_startsOf (l : Launch) (D : va_G) (tys : eT) (cI : ClassId) (ht0 : tys[0]? = some (cI, .int)) (b : Nat → Nat) (kn le sp : Nat) (ik be fo op ha st : Int32) (t : Pn) (u : Tr) (k : Nat) (r1 : Int32) (e_r1 : r1 = sumI (fun c => if (cmG t (2 ^ c) 5).testBit k = true then 1 else 0) 7) (hk : k < 7) (htl : tilOK t) (hout : outOK t) : fc l D tys yX7_startsOf wsX7_startsOf (eR 4 93) [.ref (b 0), .int (nI k)] ([((b 0), .inr (7, [.ref (b 1), .ref (b 2), .ref (b 3), .int (nI kn), .ref (b 4), .int ik, .ref (b 5), .int (nI le), .int be, .int (nI sp), .int fo, .int op, .int ha, .int st, .ref (b 6), .ref (b 7), .ref (b 8)])), ((b 1), .inl (cI, 206, .inl (flatS t u)))]) (some (.int r1)) ([((b 0), .inr (7, [.ref (b 1), .ref (b 2), .ref (b 3), .int (nI kn), .ref (b 4), .int ik, .ref (b 5), .int (nI le), .int be, .int (nI sp), .int fo, .int op, .int ha, .int st, .ref (b 6), .ref (b 7), .ref (b 8)])), ((b 1), .inl (cI, 206, .inl (flatS t u)))]) := by
  refine fc_int cX7_startsOf 4 (by decide +kernel) rfl (rfl) (Nat.le_of_ble_eq_true rfl) ?_
  intro p9 e9 s9 m9 a9 b9 t9 c9 H0 A Q ls S hK hN hA hP hD hS hl hQ
  have S : CallFix p9 m9 c9 cX7_startsOf 4 s9 a9 wsX7_startsOf RX7 := S
  obtain ⟨hx, hb, hml, hown, hts⟩ := id S
  have hP : va_P D vwCl ([((b 0), .inr (7, [.ref (b 1), .ref (b 2), .ref (b 3), .int (nI kn), .ref (b 4), .int ik, .ref (b 5), .int (nI le), .int be, .int (nI sp), .int fo, .int op, .int ha, .int st, .ref (b 6), .ref (b 7), .ref (b 8)])), ((b 1), .inl (cI, 206, .inl (flatS t u)))]) H0 := hP
  have hD : va_D A ([((b 0), .inr (7, [.ref (b 1), .ref (b 2), .ref (b 3), .int (nI kn), .ref (b 4), .int ik, .ref (b 5), .int (nI le), .int be, .int (nI sp), .int fo, .int op, .int ha, .int st, .ref (b 6), .ref (b 7), .ref (b 8)])), ((b 1), .inl (cI, 206, .inl (flatS t u)))]) := hD
  have hl : lv_has ls 4 [(0, .ref (b 0)), (1, .int (nI k))] := hl
  refine lv_iconst (v := 0) hx hb dX7_startsOf_0 (by decide) ?_
  refine lv_istore_n (lv' := [(2, .int 0), (0, .ref (b 0)), (1, .int (nI k))]) hx hb dX7_startsOf_1 rfl hl (by decide) rfl (fun ls hl => ?_)
  refine lv_iconst (v := 0) hx hb dX7_startsOf_2 (by decide) ?_
  refine lv_istore_n (lv' := [(3, .int 0), (2, .int 0), (0, .ref (b 0)), (1, .int (nI k))]) hx hb dX7_startsOf_3 rfl hl (by decide) rfl (fun ls hl => ?_)
  have lp4 : ∀ (n4 : Nat) (i : Nat), 7 - i < n4 → (i ≤ 7) → ∀ (H : Heap) (locs : List Loc) (ls : Array Slot), va_P D vwCl ([((b 0), .inr (7, [.ref (b 1), .ref (b 2), .ref (b 3), .int (nI kn), .ref (b 4), .int ik, .ref (b 5), .int (nI le), .int be, .int (nI sp), .int fo, .int op, .int ha, .int st, .ref (b 6), .ref (b 7), .ref (b 8)])), ((b 1), .inl (cI, 206, .inl (flatS t u)))]) H → va_D A ([((b 0), .inr (7, [.ref (b 1), .ref (b 2), .ref (b 3), .int (nI kn), .ref (b 4), .int ik, .ref (b 5), .int (nI le), .int be, .int (nI sp), .int fo, .int op, .int ha, .int st, .ref (b 6), .ref (b 7), .ref (b 8)])), ((b 1), .inl (cI, 206, .inl (flatS t u)))]) → va_S A H0 H locs → lv_has ls 4 [(0, .ref (b 0)), (1, .int (nI k)), (2, .int (sumI (fun c => if (cmG t (2 ^ c) 5).testBit k = true then 1 else 0) i)), (3, .int (nI i))] → W p9 l e9 (eR 4 93) s9 m9 a9 b9 t9 c9 H locs 0 0 Q (F0 m9 4 ls []) := by
    intro n4
    induction n4 with
    | zero => intro i hm9; exact absurd hm9 (Nat.not_lt_zero _)
    | succ n4 ih4 =>
      intro i hm4 hi H locs ls hP hD hS hl
      refine lv_iload_n hx hb dX7_startsOf_4 rfl (lv_at hl 3 rfl) ?_
      refine lv_bipush (v := 7) hx hb dX7_startsOf_5 (by decide) ?_
      refine lv_icmp_ge (tgt := 31) hx hb dX7_startsOf_7 (by decide) (fun c_1 => ?_) (fun c_1 => ?_)
      · have n_1 : 7 ≤ i := ej_tle (a := 7) (b := i) (by omega) (by omega) c_1
        refine lv_iload_n hx hb dX7_startsOf_31 rfl (lv_at hl 2 rfl) ?_
        have f_r1 : (sumI (fun c => if (cmG t (2 ^ c) 5).testBit k = true then 1 else 0) i) = r1 := by rw [e_r1]; rw [show i = 7 by omega]
        subst f_r1
        exact hQ _ _ _ _ (sumI (fun c => if (cmG t (2 ^ c) 5).testBit k = true then 1 else 0) i) ([((b 0), .inr (7, [.ref (b 1), .ref (b 2), .ref (b 3), .int (nI kn), .ref (b 4), .int ik, .ref (b 5), .int (nI le), .int be, .int (nI sp), .int fo, .int op, .int ha, .int st, .ref (b 6), .ref (b 7), .ref (b 8)])), ((b 1), .inl (cI, 206, .inl (flatS t u)))]) dX7_startsOf_32 rfl rfl hP hS
      · have n_1 : i < 7 := ej_tnle (a := 7) (b := i) (by omega) (by omega) c_1
        refine lv_iload_n hx hb dX7_startsOf_10 rfl (lv_at hl 2 rfl) ?_
        refine lv_aload_n hx hb dX7_startsOf_11 rfl (lv_at hl 0 rfl) ?_
        refine lv_iconst (v := 1) hx hb dX7_startsOf_12 (by decide) ?_
        refine lv_iload_n hx hb dX7_startsOf_13 rfl (lv_at hl 3 rfl) ?_
        refine lv_ishl hx hb dX7_startsOf_14 ?_
        refine ej_topi (show (1 <<< ((nI i) &&& 31)) = nI (2 ^ i) from ej_shl1 i (by omega)) ?_
        refine lv_iconst (v := 5) hx hb dX7_startsOf_15 (by decide) ?_
        obtain ⟨m1_2, e_m1_2⟩ : ∃ z9 : Nat, z9 = cmG t (2 ^ i) 5 := ⟨_, rfl⟩
        refine ej_V (As := [.int (nI (2 ^ i)), .int 5]) (rest := [.int (sumI (fun c => if (cmG t (2 ^ c) 5).testBit k = true then 1 else 0) i)]) (w' := [((b 0), .inr (7, [.ref (b 1), .ref (b 2), .ref (b 3), .int (nI kn), .ref (b 4), .int ik, .ref (b 5), .int (nI le), .int be, .int (nI sp), .int fo, .int op, .int ha, .int st, .ref (b 6), .ref (b 7), .ref (b 8)])), ((b 1), .inl (cI, 206, .inl (flatS t u)))]) S hK hN hA hP hD hS (c_X7_comesTo l D tys cI ht0 b kn le sp ik be fo op ha st t u (2 ^ i) 5 m1_2 e_m1_2 (pow_ok i (by omega)) (by omega) (by omega) (by omega)) (cwV 2 hts gX7_startsOf_X7_comesTo rfl rfl rfl hdv_X7_comesTo ⟨Nat.le_of_ble_eq_true rfl, Nat.le_of_ble_eq_true rfl⟩) [0, 1] [some 0, some 1] [(b 0), (b 1)] rfl (by decide +kernel) ⟨rfl, rfl⟩ rfl (by decide +kernel) 0 7 rfl rfl rfl rfl hl.1 (Nat.le_of_ble_eq_true rfl) dX7_startsOf_16 ⟨Nat.zero_le _, Nat.zero_le _⟩ (fun H locs hP hD hS => ?_)
        show W p9 l e9 (eR 4 93) s9 m9 a9 b9 t9 c9 H locs 0 0 Q (F0 m9 19 ls (.int (nI m1_2) :: [.int (sumI (fun c => if (cmG t (2 ^ c) 5).testBit k = true then 1 else 0) i)]))
        refine lv_iload_n hx hb dX7_startsOf_19 rfl (lv_at hl 1 rfl) ?_
        refine lv_ishr hx hb dX7_startsOf_20 ?_
        refine lv_iconst (v := 1) hx hb dX7_startsOf_21 (by decide) ?_
        refine lv_iand hx hb dX7_startsOf_22 ?_
        refine ej_topi (show (((nI m1_2) >>> ((nI k) &&& 31)) &&& 1) = if (cmG t (2 ^ i) 5).testBit k = true then 1 else 0 from by rw [e_m1_2]; exact bit_ok _ (cmG_lt t (pow_ok i (by omega)) 5) k hk) ?_
        refine lv_iadd hx hb dX7_startsOf_23 ?_
        refine lv_istore_n (lv' := [(2, .int ((sumI (fun c => if (cmG t (2 ^ c) 5).testBit k = true then 1 else 0) i) + (if (cmG t (2 ^ i) 5).testBit k = true then 1 else 0))), (0, .ref (b 0)), (1, .int (nI k)), (3, .int (nI i))]) hx hb dX7_startsOf_24 rfl hl (by decide) rfl (fun ls hl => ?_)
        refine lv_iinc (v := nI (i + 1)) (lv' := [(3, .int (nI (i + 1))), (2, .int ((sumI (fun c => if (cmG t (2 ^ c) 5).testBit k = true then 1 else 0) i) + (if (cmG t (2 ^ i) 5).testBit k = true then 1 else 0))), (0, .ref (b 0)), (1, .int (nI k))]) hx hb dX7_startsOf_25 hl (k := 3) rfl (nI_add i 1) (by decide) rfl (fun ls hl => ?_)
        refine lv_goto (tgt := 4) hx hb dX7_startsOf_28 (by decide) ?_
        exact ih4  (i + 1) (by omega) (by omega) _ _ _ hP hD hS (lv_sub hl [2, 3, 1, 0] rfl)
  exact lp4 ((7 - 0) + 1) 0 (by omega) (by omega) _ _ _ hP hD hS (lv_sub hl [2, 3, 1, 0] rfl)
