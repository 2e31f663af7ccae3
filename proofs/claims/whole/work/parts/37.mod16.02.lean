set_option maxHeartbeats 4000000 in
set_option maxRecDepth 100000 in
theorem c_X7_best (l : Launch) (D : va_G) (tys : eT) (cI : ClassId) (ht0 : tys[0]? = some (cI, .int)) (b : Nat → Nat) (kn le sp : Nat) (ik be fo op ha st : Int32) (t : Pn) (u : Tr) (g : Nat → Int32) (h : Int32) (g1 : Nat → Int32) (e_g1 : g1 = if ¬ T_le u = 0 then flatS t u else g) (be1 : Int32) (e_be1 : be1 = if ¬ T_le u = 0 then bbG t u h be 7 else be) (r1 : Int32) (e_r1 : r1 = if ¬ T_le u = 0 then nI (bmS t u h 7).1 else -2) (htl : tilOK t) (hout : outOK t) (hou : okU u) : fc l D tys yX7_best wsX7_best (eR 6 144) [.ref (b 0), .int h] ([((b 0), .inr (7, [.ref (b 1), .ref (b 2), .ref (b 3), .int (nI kn), .ref (b 4), .int ik, .ref (b 5), .int (nI le), .int be, .int (nI sp), .int fo, .int op, .int ha, .int st, .ref (b 6), .ref (b 7), .ref (b 8)])), ((b 1), .inl (cI, 206, .inl (flatS t u))), ((b 2), .inl (cI, 206, .inl g))]) (some (.int r1)) ([((b 0), .inr (7, [.ref (b 1), .ref (b 2), .ref (b 3), .int (nI kn), .ref (b 4), .int ik, .ref (b 5), .int (nI le), .int be1, .int (nI sp), .int fo, .int op, .int ha, .int st, .ref (b 6), .ref (b 7), .ref (b 8)])), ((b 1), .inl (cI, 206, .inl (flatS t u))), ((b 2), .inl (cI, 206, .inl g1))]) := by
  refine fc_int cX7_best 6 (by decide +kernel) rfl (rfl) (Nat.le_of_ble_eq_true rfl) ?_
  intro p9 e9 s9 m9 a9 b9 t9 c9 H0 A Q ls S hK hN hA hP hD hS hl hQ
  have S : CallFix p9 m9 c9 cX7_best 6 s9 a9 wsX7_best RX7 := S
  obtain ⟨hx, hb, hml, hown, hts⟩ := id S
  have iX7 : ∀ w ∈ wsX70, w ∈ wsX7_best := fun w h => List.mem_cons_of_mem _ (List.mem_append_right _ (h))
  have hP : va_P D vwCl ([((b 0), .inr (7, [.ref (b 1), .ref (b 2), .ref (b 3), .int (nI kn), .ref (b 4), .int ik, .ref (b 5), .int (nI le), .int be, .int (nI sp), .int fo, .int op, .int ha, .int st, .ref (b 6), .ref (b 7), .ref (b 8)])), ((b 1), .inl (cI, 206, .inl (flatS t u))), ((b 2), .inl (cI, 206, .inl g))]) H0 := hP
  have hD : va_D A ([((b 0), .inr (7, [.ref (b 1), .ref (b 2), .ref (b 3), .int (nI kn), .ref (b 4), .int ik, .ref (b 5), .int (nI le), .int be, .int (nI sp), .int fo, .int op, .int ha, .int st, .ref (b 6), .ref (b 7), .ref (b 8)])), ((b 1), .inl (cI, 206, .inl (flatS t u))), ((b 2), .inl (cI, 206, .inl g))]) := hD
  have hl : lv_has ls 6 [(0, .ref (b 0)), (1, .int h)] := hl
  refine lv_aload_n hx hb dX7_best_0 rfl (lv_at hl 0 rfl) ?_
  refine va_get (D := D) (ci := 7) (v := .ref (b 1)) (C := RX7) (T := TX7) (N := 17) hx hb hts iX7 hown hK hP 0 rfl rfl 0 (Nat.le_of_ble_eq_true rfl) (hts (.fieldLink RX7 7 "BentPinsModel" "s" "[I") (List.mem_of_getElem? (i := 1) rfl)) (fun _ h9 => h9) rfl dX7_best_1 ?_
  refine lv_iconst (v := 1) hx hb dX7_best_4 (by decide) ?_
  refine va_iald (i := 1) hx hb hK hP 1 0 rfl ht0 (vp_in_nI (n := 1) (N := 206) (by omega) (by omega)) dX7_best_5 ?_
  refine ej_topi (show (flatS t u) (nI 1).toNatClampNeg = (flatS t u) 1 from congrArg (flatS t u) (nI_clamp (n := 1) (by omega))) ?_
  refine ej_topi (show (flatS t u) 1 = T_le u from rfl) ?_
  refine lv_if_ne (tgt := 12) hx hb dX7_best_6 (by decide) (fun c_1 => ?_) (fun c_1 => ?_)
  · refine lv_iconst (v := 0) hx hb dX7_best_12 (by decide) ?_
    refine lv_istore_n (lv' := [(2, .int 0), (0, .ref (b 0)), (1, .int h)]) hx hb dX7_best_13 rfl hl (by decide) rfl (fun ls hl => ?_)
    refine lv_iconst (v := (-1)) hx hb dX7_best_14 (by decide) ?_
    refine lv_istore_n (lv' := [(3, .int (-1)), (2, .int 0), (0, .ref (b 0)), (1, .int h)]) hx hb dX7_best_15 rfl hl (by decide) rfl (fun ls hl => ?_)
    refine lv_iconst (v := 0) hx hb dX7_best_16 (by decide) ?_
    refine lv_istore (lv' := [(4, .int 0), (3, .int (-1)), (2, .int 0), (0, .ref (b 0)), (1, .int h)]) hx hb dX7_best_17 hl (by decide) rfl (fun ls hl => ?_)
    have lp19 : ∀ (n19 : Nat) (i : Nat) (p : Nat) (y : Int32) (gg : Nat → Int32) (bb : Int32), 7 - i < n19 → (i ≤ 7) → (p = (bmS t u h i).1) → (y = (bmS t u h i).2) → (i = 0 ∨ gg = flatS t u) → (bb = bbG t u h be i) → ∀ (H : Heap) (locs : List Loc) (ls : Array Slot), va_P D vwCl ([((b 0), .inr (7, [.ref (b 1), .ref (b 2), .ref (b 3), .int (nI kn), .ref (b 4), .int ik, .ref (b 5), .int (nI le), .int bb, .int (nI sp), .int fo, .int op, .int ha, .int st, .ref (b 6), .ref (b 7), .ref (b 8)])), ((b 1), .inl (cI, 206, .inl (flatS t u))), ((b 2), .inl (cI, 206, .inl gg))]) H → va_D A ([((b 0), .inr (7, [.ref (b 1), .ref (b 2), .ref (b 3), .int (nI kn), .ref (b 4), .int ik, .ref (b 5), .int (nI le), .int bb, .int (nI sp), .int fo, .int op, .int ha, .int st, .ref (b 6), .ref (b 7), .ref (b 8)])), ((b 1), .inl (cI, 206, .inl (flatS t u))), ((b 2), .inl (cI, 206, .inl gg))]) → va_S A H0 H locs → lv_has ls 6 [(0, .ref (b 0)), (1, .int h), (2, .int (nI p)), (3, .int y), (4, .int (nI i))] → W p9 l e9 (eR 6 144) s9 m9 a9 b9 t9 c9 H locs 0 0 Q (F0 m9 19 ls []) := by
      intro n19
      induction n19 with
      | zero => intro i p y gg bb hm9; exact absurd hm9 (Nat.not_lt_zero _)
      | succ n19 ih19 =>
        intro i p y gg bb hm19 hi ep ey egg ebb H locs ls hP hD hS hl
        refine lv_iload hx hb dX7_best_19 (lv_at hl 4 rfl) ?_
        refine lv_bipush (v := 7) hx hb dX7_best_21 (by decide) ?_
        refine lv_icmp_ge (tgt := 85) hx hb dX7_best_23 (by decide) (fun c_2 => ?_) (fun c_2 => ?_)
        · have n_2 : 7 ≤ i := ej_tle (a := 7) (b := i) (by omega) (by omega) c_2
          refine lv_iload_n hx hb dX7_best_85 rfl (lv_at hl 2 rfl) ?_
          have f_g1 : gg = g1 := by rw [e_g1]; rw [if_pos c_1]; exact egg.resolve_left (by omega)
          have f_be1 : bb = be1 := by rw [e_be1]; rw [if_pos c_1, ebb, show i = 7 by omega]
          have f_r1 : (nI p) = r1 := by rw [e_r1]; rw [if_pos c_1, ep, show i = 7 by omega]
          subst f_g1
          subst f_be1
          subst f_r1
          exact hQ _ _ _ _ (nI p) ([((b 0), .inr (7, [.ref (b 1), .ref (b 2), .ref (b 3), .int (nI kn), .ref (b 4), .int ik, .ref (b 5), .int (nI le), .int bb, .int (nI sp), .int fo, .int op, .int ha, .int st, .ref (b 6), .ref (b 7), .ref (b 8)])), ((b 1), .inl (cI, 206, .inl (flatS t u))), ((b 2), .inl (cI, 206, .inl gg))]) dX7_best_86 rfl rfl hP hS
        · have n_2 : i < 7 := ej_tnle (a := 7) (b := i) (by omega) (by omega) c_2
          refine lv_bipush (v := 10) hx hb dX7_best_26 (by decide) ?_
          refine lv_aload_n hx hb dX7_best_28 rfl (lv_at hl 0 rfl) ?_
          refine lv_iload hx hb dX7_best_29 (lv_at hl 4 rfl) ?_
          refine lv_iload_n hx hb dX7_best_31 rfl (lv_at hl 1 rfl) ?_
          refine lv_iconst (v := 1) hx hb dX7_best_32 (by decide) ?_
          refine lv_iconst (v := 0) hx hb dX7_best_33 (by decide) ?_
          obtain ⟨be1_3, e_be1_3⟩ : ∃ z9 : Int32, z9 = tbG t u i h bb 1 := ⟨_, rfl⟩
          obtain ⟨r1_4, e_r1_4⟩ : ∃ z9 : Int32, z9 = ifR t u (ifG t u i h 1) 0 := ⟨_, rfl⟩
          refine ej_V (As := [.int (nI i), .int h, .int 1, .int 0]) (rest := [.int 10]) (w' := [((b 0), .inr (7, [.ref (b 1), .ref (b 2), .ref (b 3), .int (nI kn), .ref (b 4), .int ik, .ref (b 5), .int (nI le), .int be1_3, .int (nI sp), .int fo, .int op, .int ha, .int st, .ref (b 6), .ref (b 7), .ref (b 8)])), ((b 1), .inl (cI, 206, .inl (flatS t u))), ((b 2), .inl (cI, 206, .inl (flatS t u)))]) S hK hN hA hP hD hS (c_X7_tries l D tys cI ht0 b kn le sp ik bb fo op ha st t u gg i 1 h 0 be1_3 e_be1_3 r1_4 e_r1_4 (by omega) (by omega) (by omega) (by omega) (by omega)) (cwV 4 hts gX7_best_X7_tries rfl rfl rfl hdv_X7_tries ⟨Nat.le_of_ble_eq_true rfl, Nat.le_of_ble_eq_true rfl⟩) [0, 1, 2] [some 0, some 1, some 2] [(b 0), (b 1), (b 2)] rfl (by decide +kernel) ⟨rfl, rfl⟩ rfl (by decide +kernel) 0 7 rfl rfl rfl rfl hl.1 (Nat.le_of_ble_eq_true rfl) dX7_best_34 ⟨Nat.zero_le _, Nat.zero_le _⟩ (fun H locs hP hD hS => ?_)
          show W p9 l e9 (eR 6 144) s9 m9 a9 b9 t9 c9 H locs 0 0 Q (F0 m9 37 ls (.int r1_4 :: [.int 10]))
          refine lv_imul hx hb dX7_best_37 ?_
          refine lv_aload_n hx hb dX7_best_38 rfl (lv_at hl 0 rfl) ?_
          refine lv_iload hx hb dX7_best_39 (lv_at hl 4 rfl) ?_
          refine lv_iload_n hx hb dX7_best_41 rfl (lv_at hl 1 rfl) ?_
          refine lv_iconst (v := 1) hx hb dX7_best_42 (by decide) ?_
          refine lv_iconst (v := 2) hx hb dX7_best_43 (by decide) ?_
          obtain ⟨be1_5, e_be1_5⟩ : ∃ z9 : Int32, z9 = tbG t u i h be1_3 1 := ⟨_, rfl⟩
          obtain ⟨r1_6, e_r1_6⟩ : ∃ z9 : Int32, z9 = ifR t u (ifG t u i h 1) 2 := ⟨_, rfl⟩
          refine ej_V (As := [.int (nI i), .int h, .int 1, .int 2]) (rest := [.int (10 * r1_4)]) (w' := [((b 0), .inr (7, [.ref (b 1), .ref (b 2), .ref (b 3), .int (nI kn), .ref (b 4), .int ik, .ref (b 5), .int (nI le), .int be1_5, .int (nI sp), .int fo, .int op, .int ha, .int st, .ref (b 6), .ref (b 7), .ref (b 8)])), ((b 1), .inl (cI, 206, .inl (flatS t u))), ((b 2), .inl (cI, 206, .inl (flatS t u)))]) S hK hN hA hP hD hS (c_X7_tries l D tys cI ht0 b kn le sp ik be1_3 fo op ha st t u (flatS t u) i 1 h 2 be1_5 e_be1_5 r1_6 e_r1_6 (by omega) (by omega) (by omega) (by omega) (by omega)) (cwV 4 hts gX7_best_X7_tries rfl rfl rfl hdv_X7_tries ⟨Nat.le_of_ble_eq_true rfl, Nat.le_of_ble_eq_true rfl⟩) [0, 1, 2] [some 0, some 1, some 2] [(b 0), (b 1), (b 2)] rfl (by decide +kernel) ⟨rfl, rfl⟩ rfl (by decide +kernel) 0 7 rfl rfl rfl rfl hl.1 (Nat.le_of_ble_eq_true rfl) dX7_best_44 ⟨Nat.zero_le _, Nat.zero_le _⟩ (fun H locs hP hD hS => ?_)
          show W p9 l e9 (eR 6 144) s9 m9 a9 b9 t9 c9 H locs 0 0 Q (F0 m9 47 ls (.int r1_6 :: [.int (10 * r1_4)]))
          refine ej_topi (show r1_6 = nI (fwdM (ifG t u i h 1).1 5) from by rw [e_r1_6]; unfold ifR; rw [if_neg (by decide), if_neg (by decide)]) ?_
          refine ej_S (As := [.int (nI (fwdM (ifG t u i h 1).1 5))]) (rest := [.int (10 * r1_4)]) (w' := [((b 0), .inr (7, [.ref (b 1), .ref (b 2), .ref (b 3), .int (nI kn), .ref (b 4), .int ik, .ref (b 5), .int (nI le), .int be1_5, .int (nI sp), .int fo, .int op, .int ha, .int st, .ref (b 6), .ref (b 7), .ref (b 8)])), ((b 1), .inl (cI, 206, .inl (flatS t u))), ((b 2), .inl (cI, 206, .inl (flatS t u)))]) S hK hN hA hP hD hS (c_X7_ones l D tys cI ht0 (fwdM (ifG t u i h 1).1 5) (fwdM_lt _ 5)) (va_cwS 1 hts gX7_best_X7_ones rfl rfl rfl hds_X7_ones ⟨Nat.le_of_ble_eq_true rfl, Nat.le_of_ble_eq_true rfl⟩) [] [] [] rfl (by decide +kernel) ⟨rfl, rfl⟩ rfl (by decide +kernel) rfl rfl hl.1 (Nat.le_of_ble_eq_true rfl) dX7_best_47 ⟨Nat.zero_le _, Nat.zero_le _⟩ (fun H locs hP hD hS => ?_)
          show W p9 l e9 (eR 6 144) s9 m9 a9 b9 t9 c9 H locs 0 0 Q (F0 m9 50 ls (.int (nI (popc (fwdM (ifG t u i h 1).1 5))) :: [.int (10 * r1_4)]))
          refine lv_iadd hx hb dX7_best_50 ?_
          refine ej_topi (show ((10 * r1_4) + (nI (popc (fwdM (ifG t u i h 1).1 5)))) = bmG t u h i from by rw [e_r1_4]; rfl) ?_
          refine lv_istore (lv' := [(5, .int (bmG t u h i)), (0, .ref (b 0)), (1, .int h), (2, .int (nI p)), (3, .int y), (4, .int (nI i))]) hx hb dX7_best_51 hl (by decide) rfl (fun ls hl => ?_)
          refine lv_iload hx hb dX7_best_53 (lv_at hl 0 rfl) ?_
          refine lv_iload_n hx hb dX7_best_55 rfl (lv_at hl 4 rfl) ?_
          refine lv_icmp_le (tgt := 64) hx hb dX7_best_56 (by decide) (fun c_7 => ?_) (fun c_7 => ?_)
          · have d_7 := ej_xa c_7
            refine lv_iload_n hx hb dX7_best_64 rfl (lv_at hl 3 rfl) ?_
            refine lv_istore_n (lv' := [(2, .int (nI p)), (5, .int (bmG t u h i)), (0, .ref (b 0)), (1, .int h), (3, .int y), (4, .int (nI i))]) hx hb dX7_best_65 rfl hl (by decide) rfl (fun ls hl => ?_)
            refine lv_iload hx hb dX7_best_66 (lv_at hl 1 rfl) ?_
            refine lv_iload_n hx hb dX7_best_68 rfl (lv_at hl 4 rfl) ?_
            refine lv_icmp_le (tgt := 77) hx hb dX7_best_69 (by decide) (fun _ => ?_) (fun h9 => absurd (c_7) h9)
            refine lv_iload_n hx hb dX7_best_77 rfl (lv_at hl 4 rfl) ?_
            refine lv_istore_n (lv' := [(3, .int y), (2, .int (nI p)), (5, .int (bmG t u h i)), (0, .ref (b 0)), (1, .int h), (4, .int (nI i))]) hx hb dX7_best_78 rfl hl (by decide) rfl (fun ls hl => ?_)
            refine lv_iinc (v := nI (i + 1)) (lv' := [(4, .int (nI (i + 1))), (3, .int y), (2, .int (nI p)), (5, .int (bmG t u h i)), (0, .ref (b 0)), (1, .int h)]) hx hb dX7_best_79 hl (k := 5) rfl (nI_add i 1) (by decide) rfl (fun ls hl => ?_)
            refine lv_goto (tgt := 19) hx hb dX7_best_82 (by decide) ?_
            exact ih19  (i + 1) p y (flatS t u) be1_5 (by omega) (by omega) (by rw [bmS, ← ey]; show _ = (if y < bmG t u h i then _ else _); rw [if_neg d_7]; exact ep) (by rw [bmS, ← ey]; show _ = (if y < bmG t u h i then _ else _); rw [if_neg d_7]) (Or.inr rfl) (by rw [e_be1_5, e_be1_3, bbG, ← ebb]) _ _ _ hP hD hS (lv_sub hl [4, 5, 2, 1, 0] rfl)
          · have d_7 := ej_xd c_7
            refine lv_iload hx hb dX7_best_59 (lv_at hl 5 rfl) ?_
            refine lv_goto (tgt := 65) hx hb dX7_best_61 (by decide) ?_
            refine lv_istore_n (lv' := [(2, .int (nI i)), (5, .int (bmG t u h i)), (0, .ref (b 0)), (1, .int h), (3, .int y), (4, .int (nI i))]) hx hb dX7_best_65 rfl hl (by decide) rfl (fun ls hl => ?_)
            refine lv_iload hx hb dX7_best_66 (lv_at hl 1 rfl) ?_
            refine lv_iload_n hx hb dX7_best_68 rfl (lv_at hl 4 rfl) ?_
            refine lv_icmp_le (tgt := 77) hx hb dX7_best_69 (by decide) (fun h9 => absurd h9 (c_7)) (fun _ => ?_)
            refine lv_iload hx hb dX7_best_72 (lv_at hl 1 rfl) ?_
            refine lv_goto (tgt := 78) hx hb dX7_best_74 (by decide) ?_
            refine lv_istore_n (lv' := [(3, .int (bmG t u h i)), (2, .int (nI i)), (5, .int (bmG t u h i)), (0, .ref (b 0)), (1, .int h), (4, .int (nI i))]) hx hb dX7_best_78 rfl hl (by decide) rfl (fun ls hl => ?_)
            refine lv_iinc (v := nI (i + 1)) (lv' := [(4, .int (nI (i + 1))), (3, .int (bmG t u h i)), (2, .int (nI i)), (5, .int (bmG t u h i)), (0, .ref (b 0)), (1, .int h)]) hx hb dX7_best_79 hl (k := 5) rfl (nI_add i 1) (by decide) rfl (fun ls hl => ?_)
            refine lv_goto (tgt := 19) hx hb dX7_best_82 (by decide) ?_
            exact ih19  (i + 1) i (bmG t u h i) (flatS t u) be1_5 (by omega) (by omega) (by rw [bmS, ← ey]; show _ = (if y < bmG t u h i then _ else _); rw [if_pos d_7]) (by rw [bmS, ← ey]; show _ = (if y < bmG t u h i then _ else _); rw [if_pos d_7]) (Or.inr rfl) (by rw [e_be1_5, e_be1_3, bbG, ← ebb]) _ _ _ hP hD hS (lv_sub hl [4, 5, 2, 1, 0] rfl)
    exact lp19 ((7 - 0) + 1) 0 0 (-1) g be (by omega) (by omega) rfl rfl (Or.inl rfl) rfl _ _ _ hP hD hS (lv_sub hl [3, 4, 2, 1, 0] rfl)
  · refine lv_bipush (v := (-2)) hx hb dX7_best_9 (by decide) ?_
    have f_g1 : g = g1 := by rw [e_g1]; rw [if_neg (fun q9 => q9 c_1)]
    have f_be1 : be = be1 := by rw [e_be1]; rw [if_neg (fun q9 => q9 c_1)]
    have f_r1 : (-2) = r1 := by rw [e_r1]; rw [if_neg (fun q9 => q9 c_1)]
    subst f_g1
    subst f_be1
    subst f_r1
    exact hQ _ _ _ _ (-2) ([((b 0), .inr (7, [.ref (b 1), .ref (b 2), .ref (b 3), .int (nI kn), .ref (b 4), .int ik, .ref (b 5), .int (nI le), .int be, .int (nI sp), .int fo, .int op, .int ha, .int st, .ref (b 6), .ref (b 7), .ref (b 8)])), ((b 1), .inl (cI, 206, .inl (flatS t u))), ((b 2), .inl (cI, 206, .inl g))]) dX7_best_11 rfl rfl hP hS
