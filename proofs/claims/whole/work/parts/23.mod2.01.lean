set_option maxHeartbeats 4000000 in
set_option maxRecDepth 100000 in
theorem c_X7_fallsAll (l : Launch) (D : va_G) (tys : eT) (cI : ClassId) (ht0 : tys[0]? = some (cI, .int)) (b : Nat → Nat) (kn le sp : Nat) (ik be fo op ha st : Int32) (t : Pn) (u : Tr) (c : Nat) (h : Int32) (t1 : Pn) (e_t1 : t1 = riT (rollT t c h 5).1 (P_ri t)) (be1 : Int32) (e_be1 : be1 = P_ri (rollT t c h 5).1 - P_ri t) (c1 : Nat) (e_c1 : c1 = (rollT t c h 5).2) (hc : c < 7) (htl : tilOK t) (hout : outOK t) : fc l D tys yX7_fallsAll wsX7_fallsAll (eR 3 70) [.ref (b 0), .int (nI c), .int h] ([((b 0), .inr (7, [.ref (b 1), .ref (b 2), .ref (b 3), .int (nI kn), .ref (b 4), .int ik, .ref (b 5), .int (nI le), .int be, .int (nI sp), .int fo, .int op, .int ha, .int st, .ref (b 6), .ref (b 7), .ref (b 8)])), ((b 1), .inl (cI, 206, .inl (flatS t u)))]) (some (.int (nI c1))) ([((b 0), .inr (7, [.ref (b 1), .ref (b 2), .ref (b 3), .int (nI kn), .ref (b 4), .int ik, .ref (b 5), .int (nI le), .int be1, .int (nI sp), .int fo, .int op, .int ha, .int st, .ref (b 6), .ref (b 7), .ref (b 8)])), ((b 1), .inl (cI, 206, .inl (flatS t1 u)))]) := by
  refine fc_int cX7_fallsAll 5 (by decide +kernel) rfl (rfl) (Nat.le_of_ble_eq_true rfl) ?_
  intro p9 e9 s9 m9 a9 b9 t9 c9 H0 A Q ls S hK hN hA hP hD hS hl hQ
  have S : CallFix p9 m9 c9 cX7_fallsAll 5 s9 a9 wsX7_fallsAll RX7 := S
  obtain ⟨hx, hb, hml, hown, hts⟩ := id S
  have iX7 : ∀ w ∈ wsX70, w ∈ wsX7_fallsAll := fun w h => List.mem_cons_of_mem _ (List.mem_append_right _ (h))
  have hP : va_P D vwCl ([((b 0), .inr (7, [.ref (b 1), .ref (b 2), .ref (b 3), .int (nI kn), .ref (b 4), .int ik, .ref (b 5), .int (nI le), .int be, .int (nI sp), .int fo, .int op, .int ha, .int st, .ref (b 6), .ref (b 7), .ref (b 8)])), ((b 1), .inl (cI, 206, .inl (flatS t u)))]) H0 := hP
  have hD : va_D A ([((b 0), .inr (7, [.ref (b 1), .ref (b 2), .ref (b 3), .int (nI kn), .ref (b 4), .int ik, .ref (b 5), .int (nI le), .int be, .int (nI sp), .int fo, .int op, .int ha, .int st, .ref (b 6), .ref (b 7), .ref (b 8)])), ((b 1), .inl (cI, 206, .inl (flatS t u)))]) := hD
  have hl : lv_has ls 5 [(0, .ref (b 0)), (1, .int (nI c)), (2, .int h)] := hl
  refine lv_aload_n hx hb dX7_fallsAll_0 rfl (lv_at hl 0 rfl) ?_
  refine lv_iconst (v := 0) hx hb dX7_fallsAll_1 (by decide) ?_
  refine va_put (D := D) (ci := 7) (v := .int 0) (ty := .int) (C := RX7) (T := TX7) (N := 17) hx hb hts iX7 tyX7 tyX7_ok nmX7 hown hK hP hD hS 0 rfl rfl 8 (Nat.le_of_ble_eq_true rfl) (hts (.fieldLink RX7 57 "BentPinsModel" "bells" "I") (List.mem_of_getElem? (i := 1) rfl)) (fun _ h9 => h9) rfl (by decide +kernel) rfl rfl (Nat.le_of_ble_eq_true rfl) dX7_fallsAll_2 (fun H locs hP hD hS => ?_)
  have hP : va_P D vwCl ([((b 0), .inr (7, [.ref (b 1), .ref (b 2), .ref (b 3), .int (nI kn), .ref (b 4), .int ik, .ref (b 5), .int (nI le), .int 0, .int (nI sp), .int fo, .int op, .int ha, .int st, .ref (b 6), .ref (b 7), .ref (b 8)])), ((b 1), .inl (cI, 206, .inl (flatS t u)))]) H := hP
  have hD : va_D A ([((b 0), .inr (7, [.ref (b 1), .ref (b 2), .ref (b 3), .int (nI kn), .ref (b 4), .int ik, .ref (b 5), .int (nI le), .int 0, .int (nI sp), .int fo, .int op, .int ha, .int st, .ref (b 6), .ref (b 7), .ref (b 8)])), ((b 1), .inl (cI, 206, .inl (flatS t u)))]) := hD
  refine lv_iload_n hx hb dX7_fallsAll_5 rfl (lv_at hl 1 rfl) ?_
  refine lv_istore_n (lv' := [(3, .int (nI c)), (0, .ref (b 0)), (1, .int (nI c)), (2, .int h)]) hx hb dX7_fallsAll_6 rfl hl (by decide) rfl (fun ls hl => ?_)
  refine lv_iconst (v := 0) hx hb dX7_fallsAll_7 (by decide) ?_
  refine lv_istore (lv' := [(4, .int 0), (3, .int (nI c)), (0, .ref (b 0)), (1, .int (nI c)), (2, .int h)]) hx hb dX7_fallsAll_8 hl (by decide) rfl (fun ls hl => ?_)
  have lp10 : ∀ (n10 : Nat) (i : Nat) (cc : Nat) (tt : Pn) (bb : Int32), 5 - i < n10 → (i ≤ 5) → (cc = (rollT t c h i).2) → (tt = riT (rollT t c h i).1 (P_ri t)) → (bb = P_ri (rollT t c h i).1 - P_ri t) → ∀ (H : Heap) (locs : List Loc) (ls : Array Slot), va_P D vwCl ([((b 0), .inr (7, [.ref (b 1), .ref (b 2), .ref (b 3), .int (nI kn), .ref (b 4), .int ik, .ref (b 5), .int (nI le), .int bb, .int (nI sp), .int fo, .int op, .int ha, .int st, .ref (b 6), .ref (b 7), .ref (b 8)])), ((b 1), .inl (cI, 206, .inl (flatS tt u)))]) H → va_D A ([((b 0), .inr (7, [.ref (b 1), .ref (b 2), .ref (b 3), .int (nI kn), .ref (b 4), .int ik, .ref (b 5), .int (nI le), .int bb, .int (nI sp), .int fo, .int op, .int ha, .int st, .ref (b 6), .ref (b 7), .ref (b 8)])), ((b 1), .inl (cI, 206, .inl (flatS tt u)))]) → va_S A H0 H locs → lv_has ls 5 [(0, .ref (b 0)), (1, .int (nI c)), (2, .int h), (3, .int (nI cc)), (4, .int (nI i))] → W p9 l e9 (eR 3 70) s9 m9 a9 b9 t9 c9 H locs 0 0 Q (F0 m9 10 ls []) := by
    intro n10
    induction n10 with
    | zero => intro i cc tt bb hm9; exact absurd hm9 (Nat.not_lt_zero _)
    | succ n10 ih10 =>
      intro i cc tt bb hm10 hi ecc ett ebb H locs ls hP hD hS hl
      have hc7 : cc < 7 := by rw [ecc]; exact rollT_lt t h hc i
      have htt : tilOK tt := by rw [ett]; exact rollT_til c h i htl
      have hot : outOK tt := by rw [ett]; exact rollT_out c h i _ hout
      refine lv_iload hx hb dX7_fallsAll_10 (lv_at hl 4 rfl) ?_
      refine lv_iconst (v := 5) hx hb dX7_fallsAll_12 (by decide) ?_
      refine lv_icmp_ge (tgt := 36) hx hb dX7_fallsAll_13 (by decide) (fun c_1 => ?_) (fun c_1 => ?_)
      · have n_1 : 5 ≤ i := ej_tle (a := 5) (b := i) (by omega) (by omega) c_1
        refine lv_iload_n hx hb dX7_fallsAll_36 rfl (lv_at hl 3 rfl) ?_
        have f_t1 : tt = t1 := by rw [e_t1]; rw [ett, show i = 5 by omega]
        have f_be1 : bb = be1 := by rw [e_be1]; rw [ebb, show i = 5 by omega]
        have f_c1 : cc = c1 := by rw [e_c1]; rw [ecc, show i = 5 by omega]
        subst f_t1
        subst f_be1
        subst f_c1
        exact hQ _ _ _ _ (nI cc) ([((b 0), .inr (7, [.ref (b 1), .ref (b 2), .ref (b 3), .int (nI kn), .ref (b 4), .int ik, .ref (b 5), .int (nI le), .int bb, .int (nI sp), .int fo, .int op, .int ha, .int st, .ref (b 6), .ref (b 7), .ref (b 8)])), ((b 1), .inl (cI, 206, .inl (flatS tt u)))]) dX7_fallsAll_37 rfl rfl hP hS
      · have n_1 : i < 5 := ej_tnle (a := 5) (b := i) (by omega) (by omega) c_1
        refine lv_aload_n hx hb dX7_fallsAll_16 rfl (lv_at hl 0 rfl) ?_
        refine lv_bipush (v := 7) hx hb dX7_fallsAll_17 (by decide) ?_
        refine lv_iload hx hb dX7_fallsAll_19 (lv_at hl 4 rfl) ?_
        refine lv_imul hx hb dX7_fallsAll_21 ?_
        refine ej_topi (show 7 * (nI i) = nI (7 * i) from pk_mul 7 i) ?_
        refine lv_iload_n hx hb dX7_fallsAll_22 rfl (lv_at hl 3 rfl) ?_
        refine lv_iadd hx hb dX7_fallsAll_23 ?_
        refine ej_topi (show (nI (7 * i)) + (nI cc) = nI ((7 * i) + cc) from nI_add (7 * i) cc) ?_
        refine lv_iload_n hx hb dX7_fallsAll_24 rfl (lv_at hl 3 rfl) ?_
        refine lv_iload_n hx hb dX7_fallsAll_25 rfl (lv_at hl 2 rfl) ?_
        obtain ⟨t1_2, e_t1_2⟩ : ∃ z9 : Pn, z9 = fallT tt ((7 * i) + cc) h := ⟨_, rfl⟩
        obtain ⟨be1_3, e_be1_3⟩ : ∃ z9 : Int32, z9 = bb + (if P_ou tt ((7 * i) + cc) = 0 then P_bl tt ((7 * i) + cc) else 0) := ⟨_, rfl⟩
        obtain ⟨c1_4, e_c1_4⟩ : ∃ z9 : Nat, z9 = bes cc (dirT tt ((7 * i) + cc)) := ⟨_, rfl⟩
        refine ej_V (As := [.int (nI ((7 * i) + cc)), .int (nI cc), .int h]) (rest := []) (w' := [((b 0), .inr (7, [.ref (b 1), .ref (b 2), .ref (b 3), .int (nI kn), .ref (b 4), .int ik, .ref (b 5), .int (nI le), .int be1_3, .int (nI sp), .int fo, .int op, .int ha, .int st, .ref (b 6), .ref (b 7), .ref (b 8)])), ((b 1), .inl (cI, 206, .inl (flatS t1_2 u)))]) S hK hN hA hP hD hS (c_X7_falls l D tys cI ht0 b kn le sp ik bb fo op ha st tt u ((7 * i) + cc) cc h t1_2 e_t1_2 be1_3 e_be1_3 c1_4 e_c1_4 (by omega) hc7 htt hot) (cwV 3 hts gX7_fallsAll_X7_falls rfl rfl rfl hdv_X7_falls ⟨Nat.le_of_ble_eq_true rfl, Nat.le_of_ble_eq_true rfl⟩) [0, 1] [some 0, some 1] [(b 0), (b 1)] rfl (by decide +kernel) ⟨rfl, rfl⟩ rfl (by decide +kernel) 0 7 rfl rfl rfl rfl hl.1 (Nat.le_of_ble_eq_true rfl) dX7_fallsAll_26 ⟨Nat.zero_le _, Nat.zero_le _⟩ (fun H locs hP hD hS => ?_)
        show W p9 l e9 (eR 3 70) s9 m9 a9 b9 t9 c9 H locs 0 0 Q (F0 m9 29 ls (.int (nI c1_4) :: []))
        refine lv_istore_n (lv' := [(3, .int (nI c1_4)), (0, .ref (b 0)), (1, .int (nI c)), (2, .int h), (4, .int (nI i))]) hx hb dX7_fallsAll_29 rfl hl (by decide) rfl (fun ls hl => ?_)
        refine lv_iinc (v := nI (i + 1)) (lv' := [(4, .int (nI (i + 1))), (3, .int (nI c1_4)), (0, .ref (b 0)), (1, .int (nI c)), (2, .int h)]) hx hb dX7_fallsAll_30 hl (k := 4) rfl (nI_add i 1) (by decide) rfl (fun ls hl => ?_)
        refine lv_goto (tgt := 10) hx hb dX7_fallsAll_33 (by decide) ?_
        exact ih10  (i + 1) c1_4 t1_2 be1_3 (by omega) (by omega) (by rw [e_c1_4, rollT_2, ← ecc, ett]; rfl) (by rw [e_t1_2, rollT_1, ← ecc, ett, fallT_ri]) (by rw [e_be1_3, rollT_1, ← ecc, meetT_ri, ebb, ett]; exact i32_sw _ _ _) _ _ _ hP hD hS (lv_sub hl [2, 3, 4, 1, 0] rfl)
  exact lp10 ((5 - 0) + 1) 0 c t 0 (by omega) (by omega) rfl rfl (Int32.sub_self _).symm _ _ _ hP hD hS (lv_sub hl [2, 3, 4, 1, 0] rfl)
