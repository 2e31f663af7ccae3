set_option maxHeartbeats 4000000 in
set_option maxRecDepth 100000 in
theorem c_X7_shots (l : Launch) (D : va_G) (tys : eT) (cI : ClassId) (ht0 : tys[0]? = some (cI, .int)) (b : Nat → Nat) (kn le sp : Nat) (ik be fo op ha st : Int32) (t : Pn) (u : Tr) (ps : Nat → Pn × Tr) (f : Nat → Int32) (z3 : Nat → Int32) (k1 : Nat) (e_k1 : k1 = if ¬ (asA le f).2.1 = 0 then recN kn else kn) (ps1 : Nat → Pn × Tr) (e_ps1 : ps1 = if ¬ (asA le f).2.1 = 0 then recS ps kn (t, u) else ps) (q1 : Nat) (e_q1 : q1 = if ¬ (asA le f).2.1 = 0 then 0 else le) (fo1 : Int32) (e_fo1 : fo1 = (asA le f).2.1) (sp1 : Nat) (e_sp1 : sp1 = if ¬ (asA le f).2.1 = 0 then (smG le f le 0 (asA le f).2.2.1 (asA le f).2.2.2 0 0 t u be z3).1 else (asA le f).1) (op1 : Int32) (e_op1 : op1 = if ¬ (asA le f).2.1 = 0 then (smG le f le 0 (asA le f).2.2.1 (asA le f).2.2.2 0 0 t u be z3).2.1 else (asA le f).2.2.1) (ha1 : Int32) (e_ha1 : ha1 = if ¬ (asA le f).2.1 = 0 then (smG le f le 0 (asA le f).2.2.1 (asA le f).2.2.2 0 0 t u be z3).2.2.1 else (asA le f).2.2.2) (st1 : Int32) (e_st1 : st1 = if ¬ (asA le f).2.1 = 0 then (smG le f le 0 (asA le f).2.2.1 (asA le f).2.2.2 0 0 t u be z3).2.2.2.1 else st) (t1 : Pn) (e_t1 : t1 = if ¬ (asA le f).2.1 = 0 then (smG le f le 0 (asA le f).2.2.1 (asA le f).2.2.2 0 0 t u be z3).2.2.2.2.1 else t) (u1 : Tr) (e_u1 : u1 = if ¬ (asA le f).2.1 = 0 then (smG le f le 0 (asA le f).2.2.1 (asA le f).2.2.2 0 0 t u be z3).2.2.2.2.2.1 else u) (be1 : Int32) (e_be1 : be1 = if ¬ (asA le f).2.1 = 0 then (smG le f le 0 (asA le f).2.2.1 (asA le f).2.2.2 0 0 t u be z3).2.2.2.2.2.2.1 else be) (z1 : Nat → Int32) (e_z1 : z1 = if ¬ (asA le f).2.1 = 0 then (smG le f le 0 (asA le f).2.2.1 (asA le f).2.2.2 0 0 t u be z3).2.2.2.2.2.2.2 else z3) (r1 : Int32) (e_r1 : r1 = if ¬ (asA le f).2.1 = 0 then T_po (smG le f le 0 (asA le f).2.2.1 (asA le f).2.2.2 0 0 t u be z3).2.2.2.2.2.1 - T_po u else -2) (hkn : kn ≤ 4) (hq : le ≤ 60) (htl : tilOK t) (hout : outOK t) (hou : okU u) : fc l D tys yX7_shots wsX7_shots (eR 5 118) [.ref (b 0)] ([((b 0), .inr (7, [.ref (b 1), .ref (b 2), .ref (b 3), .int (nI kn), .ref (b 4), .int ik, .ref (b 5), .int (nI le), .int be, .int (nI sp), .int fo, .int op, .int ha, .int st, .ref (b 6), .ref (b 7), .ref (b 8)])), ((b 1), .inl (cI, 206, .inl (flatS t u))), ((b 3), .inl (cI, 824, .inl (pastF ps))), ((b 5), .inl (cI, 60, .inl f)), ((b 6), .inl (cI, 3, .inl z3))]) (some (.int r1)) ([((b 0), .inr (7, [.ref (b 1), .ref (b 2), .ref (b 3), .int (nI k1), .ref (b 4), .int ik, .ref (b 5), .int (nI q1), .int be1, .int (nI sp1), .int fo1, .int op1, .int ha1, .int st1, .ref (b 6), .ref (b 7), .ref (b 8)])), ((b 1), .inl (cI, 206, .inl (flatS t1 u1))), ((b 3), .inl (cI, 824, .inl (pastF ps1))), ((b 5), .inl (cI, 60, .inl f)), ((b 6), .inl (cI, 3, .inl z1))]) := by
  refine fc_int cX7_shots 5 (by decide +kernel) rfl (rfl) (Nat.le_of_ble_eq_true rfl) ?_
  intro p9 e9 s9 m9 a9 b9 t9 c9 H0 A Q ls S hK hN hA hP hD hS hl hQ
  have S : CallFix p9 m9 c9 cX7_shots 5 s9 a9 wsX7_shots RX7 := S
  obtain ⟨hx, hb, hml, hown, hts⟩ := id S
  have iX7 : ∀ w ∈ wsX70, w ∈ wsX7_shots := fun w h => List.mem_cons_of_mem _ (List.mem_append_right _ (h))
  have hP : va_P D vwCl ([((b 0), .inr (7, [.ref (b 1), .ref (b 2), .ref (b 3), .int (nI kn), .ref (b 4), .int ik, .ref (b 5), .int (nI le), .int be, .int (nI sp), .int fo, .int op, .int ha, .int st, .ref (b 6), .ref (b 7), .ref (b 8)])), ((b 1), .inl (cI, 206, .inl (flatS t u))), ((b 3), .inl (cI, 824, .inl (pastF ps))), ((b 5), .inl (cI, 60, .inl f)), ((b 6), .inl (cI, 3, .inl z3))]) H0 := hP
  have hD : va_D A ([((b 0), .inr (7, [.ref (b 1), .ref (b 2), .ref (b 3), .int (nI kn), .ref (b 4), .int ik, .ref (b 5), .int (nI le), .int be, .int (nI sp), .int fo, .int op, .int ha, .int st, .ref (b 6), .ref (b 7), .ref (b 8)])), ((b 1), .inl (cI, 206, .inl (flatS t u))), ((b 3), .inl (cI, 824, .inl (pastF ps))), ((b 5), .inl (cI, 60, .inl f)), ((b 6), .inl (cI, 3, .inl z3))]) := hD
  have hl : lv_has ls 5 [(0, .ref (b 0))] := hl
  refine lv_aload_n hx hb dX7_shots_0 rfl (lv_at hl 0 rfl) ?_
  obtain ⟨op1_1, e_op1_1⟩ : ∃ z9 : Int32, z9 = (asA le f).2.2.1 := ⟨_, rfl⟩
  obtain ⟨fo1_2, e_fo1_2⟩ : ∃ z9 : Int32, z9 = (asA le f).2.1 := ⟨_, rfl⟩
  obtain ⟨ha1_3, e_ha1_3⟩ : ∃ z9 : Int32, z9 = (asA le f).2.2.2 := ⟨_, rfl⟩
  obtain ⟨sp1_4, e_sp1_4⟩ : ∃ z9 : Nat, z9 = (asA le f).1 := ⟨_, rfl⟩
  refine ej_V (As := []) (rest := []) (w' := [((b 0), .inr (7, [.ref (b 1), .ref (b 2), .ref (b 3), .int (nI kn), .ref (b 4), .int ik, .ref (b 5), .int (nI le), .int be, .int (nI sp1_4), .int fo1_2, .int op1_1, .int ha1_3, .int st, .ref (b 6), .ref (b 7), .ref (b 8)])), ((b 1), .inl (cI, 206, .inl (flatS t u))), ((b 3), .inl (cI, 824, .inl (pastF ps))), ((b 5), .inl (cI, 60, .inl f)), ((b 6), .inl (cI, 3, .inl z3))]) S hK hN hA hP hD hS (c_X7_areShots l D tys cI ht0 b kn le sp ik be fo op ha st f op1_1 e_op1_1 fo1_2 e_fo1_2 ha1_3 e_ha1_3 sp1_4 e_sp1_4 (by omega)) (cwV 0 hts gX7_shots_X7_areShots rfl rfl rfl hdv_X7_areShots ⟨Nat.le_of_ble_eq_true rfl, Nat.le_of_ble_eq_true rfl⟩) [0, 3] [some 0, none, none, some 1] [(b 0), (b 5)] rfl (by decide +kernel) ⟨rfl, rfl⟩ rfl (by decide +kernel) 0 7 rfl rfl rfl rfl hl.1 (Nat.le_of_ble_eq_true rfl) dX7_shots_1 ⟨Nat.zero_le _, Nat.zero_le _⟩ (fun H locs hP hD hS => ?_)
  show W p9 l e9 (eR 5 118) s9 m9 a9 b9 t9 c9 H locs 0 0 Q (F0 m9 4 ls (.int (if ¬ (asA le f).2.1 = 0 then 1 else 0) :: []))
  have q_sp1_4 : ((asA le f).1) = sp1_4 := Eq.symm (e_sp1_4)
  subst q_sp1_4
  have q_fo1_2 : ((asA le f).2.1) = fo1_2 := Eq.symm (e_fo1_2)
  subst q_fo1_2
  have q_op1_1 : ((asA le f).2.2.1) = op1_1 := Eq.symm (e_op1_1)
  subst q_op1_1
  have q_ha1_3 : ((asA le f).2.2.2) = ha1_3 := Eq.symm (e_ha1_3)
  subst q_ha1_3
  refine lv_if_ne (tgt := 10) hx hb dX7_shots_4 (by decide) (fun c_5 => ?_) (fun c_5 => ?_)
  · have b_5 : ¬ (asA le f).2.1 = 0 := ej_b1 c_5
    refine lv_aload_n hx hb dX7_shots_10 rfl (lv_at hl 0 rfl) ?_
    obtain ⟨k1_6, e_k1_6⟩ : ∃ z9 : Nat, z9 = recN kn := ⟨_, rfl⟩
    obtain ⟨ps1_7, e_ps1_7⟩ : ∃ z9 : Nat → Pn × Tr, z9 = recS ps kn (t, u) := ⟨_, rfl⟩
    refine ej_V (As := []) (rest := []) (w' := [((b 0), .inr (7, [.ref (b 1), .ref (b 2), .ref (b 3), .int (nI k1_6), .ref (b 4), .int ik, .ref (b 5), .int (nI le), .int be, .int (nI ((asA le f).1)), .int ((asA le f).2.1), .int ((asA le f).2.2.1), .int ((asA le f).2.2.2), .int st, .ref (b 6), .ref (b 7), .ref (b 8)])), ((b 1), .inl (cI, 206, .inl (flatS t u))), ((b 3), .inl (cI, 824, .inl (pastF ps1_7))), ((b 5), .inl (cI, 60, .inl f)), ((b 6), .inl (cI, 3, .inl z3))]) S hK hN hA hP hD hS (c_X7_records l D tys cI ht0 b kn le ((asA le f).1) ik be ((asA le f).2.1) ((asA le f).2.2.1) ((asA le f).2.2.2) st t u ps k1_6 e_k1_6 ps1_7 e_ps1_7 (by omega)) (cwV 0 hts gX7_shots_X7_records rfl rfl rfl hdv_X7_records ⟨Nat.le_of_ble_eq_true rfl, Nat.le_of_ble_eq_true rfl⟩) [0, 1, 2] [some 0, some 1, some 2] [(b 0), (b 1), (b 3)] rfl (by decide +kernel) ⟨rfl, rfl⟩ rfl (by decide +kernel) 0 7 rfl rfl rfl rfl hl.1 (Nat.le_of_ble_eq_true rfl) dX7_shots_11 ⟨Nat.zero_le _, Nat.zero_le _⟩ (fun H locs hP hD hS => ?_)
    show W p9 l e9 (eR 5 118) s9 m9 a9 b9 t9 c9 H locs 0 0 Q (F0 m9 14 ls [])
    refine lv_aload_n hx hb dX7_shots_14 rfl (lv_at hl 0 rfl) ?_
    refine va_get (D := D) (ci := 7) (v := .ref (b 1)) (C := RX7) (T := TX7) (N := 17) hx hb hts iX7 hown hK hP 0 rfl rfl 0 (Nat.le_of_ble_eq_true rfl) (hts (.fieldLink RX7 7 "BentPinsModel" "s" "[I") (List.mem_of_getElem? (i := 1) rfl)) (fun _ h9 => h9) rfl dX7_shots_15 ?_
    refine lv_iconst (v := 0) hx hb dX7_shots_18 (by decide) ?_
    refine va_iald (i := 0) hx hb hK hP 1 0 rfl ht0 (vp_in_nI (n := 0) (N := 206) (by omega) (by omega)) dX7_shots_19 ?_
    refine ej_topi (show (flatS t u) (nI 0).toNatClampNeg = (flatS t u) 0 from congrArg (flatS t u) (nI_clamp (n := 0) (by omega))) ?_
    refine ej_topi (show (flatS t u) 0 = T_po u from rfl) ?_
    refine lv_istore_n (lv' := [(1, .int (T_po u)), (0, .ref (b 0))]) hx hb dX7_shots_20 rfl hl (by decide) rfl (fun ls hl => ?_)
    refine lv_iconst (v := 0) hx hb dX7_shots_21 (by decide) ?_
    refine lv_istore_n (lv' := [(2, .int 0), (1, .int (T_po u)), (0, .ref (b 0))]) hx hb dX7_shots_22 rfl hl (by decide) rfl (fun ls hl => ?_)
    refine lv_aload_n hx hb dX7_shots_23 rfl (lv_at hl 2 rfl) ?_
    refine lv_iconst (v := 0) hx hb dX7_shots_24 (by decide) ?_
    refine va_put (D := D) (ci := 7) (v := .int 0) (ty := .int) (C := RX7) (T := TX7) (N := 17) hx hb hts iX7 tyX7 tyX7_ok nmX7 hown hK hP hD hS 0 rfl rfl 9 (Nat.le_of_ble_eq_true rfl) (hts (.fieldLink RX7 111 "BentPinsModel" "spot" "I") (List.mem_of_getElem? (i := 2) rfl)) (fun _ h9 => h9) rfl (by decide +kernel) rfl rfl (Nat.le_of_ble_eq_true rfl) dX7_shots_25 (fun H locs hP hD hS => ?_)
    have hP : va_P D vwCl ([((b 0), .inr (7, [.ref (b 1), .ref (b 2), .ref (b 3), .int (nI k1_6), .ref (b 4), .int ik, .ref (b 5), .int (nI le), .int be, .int 0, .int ((asA le f).2.1), .int ((asA le f).2.2.1), .int ((asA le f).2.2.2), .int st, .ref (b 6), .ref (b 7), .ref (b 8)])), ((b 1), .inl (cI, 206, .inl (flatS t u))), ((b 3), .inl (cI, 824, .inl (pastF ps1_7))), ((b 5), .inl (cI, 60, .inl f)), ((b 6), .inl (cI, 3, .inl z3))]) H := hP
    have hD : va_D A ([((b 0), .inr (7, [.ref (b 1), .ref (b 2), .ref (b 3), .int (nI k1_6), .ref (b 4), .int ik, .ref (b 5), .int (nI le), .int be, .int 0, .int ((asA le f).2.1), .int ((asA le f).2.2.1), .int ((asA le f).2.2.2), .int st, .ref (b 6), .ref (b 7), .ref (b 8)])), ((b 1), .inl (cI, 206, .inl (flatS t u))), ((b 3), .inl (cI, 824, .inl (pastF ps1_7))), ((b 5), .inl (cI, 60, .inl f)), ((b 6), .inl (cI, 3, .inl z3))]) := hD
    refine lv_aload_n hx hb dX7_shots_28 rfl (lv_at hl 2 rfl) ?_
    refine lv_iconst (v := 0) hx hb dX7_shots_29 (by decide) ?_
    refine va_put (D := D) (ci := 7) (v := .int 0) (ty := .boolean) (C := RX7) (T := TX7) (N := 17) hx hb hts iX7 tyX7 tyX7_ok nmX7 hown hK hP hD hS 0 rfl rfl 13 (Nat.le_of_ble_eq_true rfl) (hts (.fieldLink RX7 144 "BentPinsModel" "isStopped" "Z") (List.mem_of_getElem? (i := 3) rfl)) (fun _ h9 => h9) rfl (by decide +kernel) rfl rfl (Nat.le_of_ble_eq_true rfl) dX7_shots_30 (fun H locs hP hD hS => ?_)
    have hP : va_P D vwCl ([((b 0), .inr (7, [.ref (b 1), .ref (b 2), .ref (b 3), .int (nI k1_6), .ref (b 4), .int ik, .ref (b 5), .int (nI le), .int be, .int 0, .int ((asA le f).2.1), .int ((asA le f).2.2.1), .int ((asA le f).2.2.2), .int 0, .ref (b 6), .ref (b 7), .ref (b 8)])), ((b 1), .inl (cI, 206, .inl (flatS t u))), ((b 3), .inl (cI, 824, .inl (pastF ps1_7))), ((b 5), .inl (cI, 60, .inl f)), ((b 6), .inl (cI, 3, .inl z3))]) H := hP
    have hD : va_D A ([((b 0), .inr (7, [.ref (b 1), .ref (b 2), .ref (b 3), .int (nI k1_6), .ref (b 4), .int ik, .ref (b 5), .int (nI le), .int be, .int 0, .int ((asA le f).2.1), .int ((asA le f).2.2.1), .int ((asA le f).2.2.2), .int 0, .ref (b 6), .ref (b 7), .ref (b 8)])), ((b 1), .inl (cI, 206, .inl (flatS t u))), ((b 3), .inl (cI, 824, .inl (pastF ps1_7))), ((b 5), .inl (cI, 60, .inl f)), ((b 6), .inl (cI, 3, .inl z3))]) := hD
    have lp33 : ∀ (n33 : Nat) (r : Nat) (x : Nat) (y : Int32) (o : Int32) (w : Int32) (s : Int32) (n : Nat) (tt : Pn) (uu : Tr) (bb : Int32) (zz : Nat → Int32), r < n33 → (x ≤ le + 1) → (y = 1) → (x < le → le ≤ x + r) → (x < le → accS le f r x) → (tilOK tt) → (outOK tt) → (okU uu) → (smG le f r x o w s n tt uu bb zz = smG le f le 0 (asA le f).2.2.1 (asA le f).2.2.2 0 0 t u be z3) → ∀ (H : Heap) (locs : List Loc) (ls : Array Slot), va_P D vwCl ([((b 0), .inr (7, [.ref (b 1), .ref (b 2), .ref (b 3), .int (nI k1_6), .ref (b 4), .int ik, .ref (b 5), .int (nI le), .int bb, .int (nI x), .int y, .int o, .int w, .int s, .ref (b 6), .ref (b 7), .ref (b 8)])), ((b 1), .inl (cI, 206, .inl (flatS tt uu))), ((b 3), .inl (cI, 824, .inl (pastF ps1_7))), ((b 5), .inl (cI, 60, .inl f)), ((b 6), .inl (cI, 3, .inl zz))]) H → va_D A ([((b 0), .inr (7, [.ref (b 1), .ref (b 2), .ref (b 3), .int (nI k1_6), .ref (b 4), .int ik, .ref (b 5), .int (nI le), .int bb, .int (nI x), .int y, .int o, .int w, .int s, .ref (b 6), .ref (b 7), .ref (b 8)])), ((b 1), .inl (cI, 206, .inl (flatS tt uu))), ((b 3), .inl (cI, 824, .inl (pastF ps1_7))), ((b 5), .inl (cI, 60, .inl f)), ((b 6), .inl (cI, 3, .inl zz))]) → va_S A H0 H locs → lv_has ls 5 [(0, .ref (b 0)), (1, .int (T_po u)), (2, .int (nI n))] → W p9 l e9 (eR 5 118) s9 m9 a9 b9 t9 c9 H locs 0 0 Q (F0 m9 33 ls []) := by
      intro n33
      induction n33 with
      | zero => intro r x y o w s n tt uu bb zz hm9; exact absurd hm9 (Nat.not_lt_zero _)
      | succ n33 ih33 =>
        intro r x y o w s n tt uu bb zz hm33 hxx hy hr hacc htt hot hou hv H locs ls hP hD hS hl
        refine lv_aload_n hx hb dX7_shots_33 rfl (lv_at hl 0 rfl) ?_
        refine va_get (D := D) (ci := 7) (v := .int s) (C := RX7) (T := TX7) (N := 17) hx hb hts iX7 hown hK hP 0 rfl rfl 13 (Nat.le_of_ble_eq_true rfl) (hts (.fieldLink RX7 144 "BentPinsModel" "isStopped" "Z") (List.mem_of_getElem? (i := 3) rfl)) (fun _ h9 => h9) rfl dX7_shots_34 ?_
        refine lv_if_ne (tgt := 141) hx hb dX7_shots_37 (by decide) (fun c_8 => ?_) (fun c_8 => ?_)
        · refine lv_aload_n hx hb dX7_shots_141 rfl (lv_at hl 0 rfl) ?_
          refine lv_iconst (v := 0) hx hb dX7_shots_142 (by decide) ?_
          refine va_put (D := D) (ci := 7) (v := .int 0) (ty := .int) (C := RX7) (T := TX7) (N := 17) hx hb hts iX7 tyX7 tyX7_ok nmX7 hown hK hP hD hS 0 rfl rfl 7 (Nat.le_of_ble_eq_true rfl) (hts (.fieldLink RX7 108 "BentPinsModel" "length" "I") (List.mem_of_getElem? (i := 4) rfl)) (fun _ h9 => h9) rfl (by decide +kernel) rfl rfl (Nat.le_of_ble_eq_true rfl) dX7_shots_143 (fun H locs hP hD hS => ?_)
          have hP : va_P D vwCl ([((b 0), .inr (7, [.ref (b 1), .ref (b 2), .ref (b 3), .int (nI k1_6), .ref (b 4), .int ik, .ref (b 5), .int 0, .int bb, .int (nI x), .int y, .int o, .int w, .int s, .ref (b 6), .ref (b 7), .ref (b 8)])), ((b 1), .inl (cI, 206, .inl (flatS tt uu))), ((b 3), .inl (cI, 824, .inl (pastF ps1_7))), ((b 5), .inl (cI, 60, .inl f)), ((b 6), .inl (cI, 3, .inl zz))]) H := hP
          have hD : va_D A ([((b 0), .inr (7, [.ref (b 1), .ref (b 2), .ref (b 3), .int (nI k1_6), .ref (b 4), .int ik, .ref (b 5), .int 0, .int bb, .int (nI x), .int y, .int o, .int w, .int s, .ref (b 6), .ref (b 7), .ref (b 8)])), ((b 1), .inl (cI, 206, .inl (flatS tt uu))), ((b 3), .inl (cI, 824, .inl (pastF ps1_7))), ((b 5), .inl (cI, 60, .inl f)), ((b 6), .inl (cI, 3, .inl zz))]) := hD
          refine lv_aload_n hx hb dX7_shots_146 rfl (lv_at hl 0 rfl) ?_
          refine va_get (D := D) (ci := 7) (v := .ref (b 1)) (C := RX7) (T := TX7) (N := 17) hx hb hts iX7 hown hK hP 0 rfl rfl 0 (Nat.le_of_ble_eq_true rfl) (hts (.fieldLink RX7 7 "BentPinsModel" "s" "[I") (List.mem_of_getElem? (i := 1) rfl)) (fun _ h9 => h9) rfl dX7_shots_147 ?_
          refine lv_iconst (v := 0) hx hb dX7_shots_150 (by decide) ?_
          refine va_iald (i := 0) hx hb hK hP 1 0 rfl ht0 (vp_in_nI (n := 0) (N := 206) (by omega) (by omega)) dX7_shots_151 ?_
          refine ej_topi (show (flatS tt uu) (nI 0).toNatClampNeg = (flatS tt uu) 0 from congrArg (flatS tt uu) (nI_clamp (n := 0) (by omega))) ?_
          refine ej_topi (show (flatS tt uu) 0 = T_po uu from rfl) ?_
          refine lv_iload_n hx hb dX7_shots_152 rfl (lv_at hl 1 rfl) ?_
          refine lv_isub hx hb dX7_shots_153 ?_
          have f_k1 : k1_6 = k1 := by rw [e_k1]; rw [if_pos b_5]; exact e_k1_6
          have f_ps1 : ps1_7 = ps1 := by rw [e_ps1]; rw [if_pos b_5]; exact e_ps1_7
          have f_q1 : 0 = q1 := by rw [e_q1]; rw [if_pos b_5]
          have f_fo1 : y = fo1 := by rw [e_fo1]; rw [hy]; exact (asA_1 b_5).symm
          have f_sp1 : x = sp1 := by rw [e_sp1]; first | (rw [if_pos b_5, ← hv, smG_done (fun q9 => c_8 q9.1)]; done) | (rw [if_pos b_5, ← hv, smG_done (fun q9 => c_8 q9.1)]; rfl)
          have f_op1 : o = op1 := by rw [e_op1]; first | (rw [if_pos b_5, ← hv, smG_done (fun q9 => c_8 q9.1)]; done) | (rw [if_pos b_5, ← hv, smG_done (fun q9 => c_8 q9.1)]; rfl)
          have f_ha1 : w = ha1 := by rw [e_ha1]; first | (rw [if_pos b_5, ← hv, smG_done (fun q9 => c_8 q9.1)]; done) | (rw [if_pos b_5, ← hv, smG_done (fun q9 => c_8 q9.1)]; rfl)
          have f_st1 : s = st1 := by rw [e_st1]; first | (rw [if_pos b_5, ← hv, smG_done (fun q9 => c_8 q9.1)]; done) | (rw [if_pos b_5, ← hv, smG_done (fun q9 => c_8 q9.1)]; rfl)
          have f_t1 : tt = t1 := by rw [e_t1]; first | (rw [if_pos b_5, ← hv, smG_done (fun q9 => c_8 q9.1)]; done) | (rw [if_pos b_5, ← hv, smG_done (fun q9 => c_8 q9.1)]; rfl)
          have f_u1 : uu = u1 := by rw [e_u1]; first | (rw [if_pos b_5, ← hv, smG_done (fun q9 => c_8 q9.1)]; done) | (rw [if_pos b_5, ← hv, smG_done (fun q9 => c_8 q9.1)]; rfl)
          have f_be1 : bb = be1 := by rw [e_be1]; first | (rw [if_pos b_5, ← hv, smG_done (fun q9 => c_8 q9.1)]; done) | (rw [if_pos b_5, ← hv, smG_done (fun q9 => c_8 q9.1)]; rfl)
          have f_z1 : zz = z1 := by rw [e_z1]; first | (rw [if_pos b_5, ← hv, smG_done (fun q9 => c_8 q9.1)]; done) | (rw [if_pos b_5, ← hv, smG_done (fun q9 => c_8 q9.1)]; rfl)
          have f_r1 : ((T_po uu) - (T_po u)) = r1 := by rw [e_r1]; first | (rw [if_pos b_5, ← hv, smG_done (fun q9 => c_8 q9.1)]; done) | (rw [if_pos b_5, ← hv, smG_done (fun q9 => c_8 q9.1)]; rfl)
          subst f_k1
          subst f_ps1
          subst f_q1
          subst f_fo1
          subst f_sp1
          subst f_op1
          subst f_ha1
          subst f_st1
          subst f_t1
          subst f_u1
          subst f_be1
          subst f_z1
          subst f_r1
          exact hQ _ _ _ _ ((T_po uu) - (T_po u)) ([((b 0), .inr (7, [.ref (b 1), .ref (b 2), .ref (b 3), .int (nI k1_6), .ref (b 4), .int ik, .ref (b 5), .int 0, .int bb, .int (nI x), .int y, .int o, .int w, .int s, .ref (b 6), .ref (b 7), .ref (b 8)])), ((b 1), .inl (cI, 206, .inl (flatS tt uu))), ((b 3), .inl (cI, 824, .inl (pastF ps1_7))), ((b 5), .inl (cI, 60, .inl f)), ((b 6), .inl (cI, 3, .inl zz))]) dX7_shots_154 rfl rfl hP hS
        · refine lv_aload_n hx hb dX7_shots_40 rfl (lv_at hl 0 rfl) ?_
          refine va_get (D := D) (ci := 7) (v := .int (nI x)) (C := RX7) (T := TX7) (N := 17) hx hb hts iX7 hown hK hP 0 rfl rfl 9 (Nat.le_of_ble_eq_true rfl) (hts (.fieldLink RX7 111 "BentPinsModel" "spot" "I") (List.mem_of_getElem? (i := 2) rfl)) (fun _ h9 => h9) rfl dX7_shots_41 ?_
          refine lv_aload_n hx hb dX7_shots_44 rfl (lv_at hl 0 rfl) ?_
          refine va_get (D := D) (ci := 7) (v := .int (nI le)) (C := RX7) (T := TX7) (N := 17) hx hb hts iX7 hown hK hP 0 rfl rfl 7 (Nat.le_of_ble_eq_true rfl) (hts (.fieldLink RX7 108 "BentPinsModel" "length" "I") (List.mem_of_getElem? (i := 4) rfl)) (fun _ h9 => h9) rfl dX7_shots_45 ?_
          refine lv_icmp_ge (tgt := 141) hx hb dX7_shots_48 (by decide) (fun c_9 => ?_) (fun c_9 => ?_)
          · have n_9 : le ≤ x := ej_tle (a := le) (b := x) (by omega) (by omega) c_9
            refine lv_aload_n hx hb dX7_shots_141 rfl (lv_at hl 0 rfl) ?_
            refine lv_iconst (v := 0) hx hb dX7_shots_142 (by decide) ?_
            refine va_put (D := D) (ci := 7) (v := .int 0) (ty := .int) (C := RX7) (T := TX7) (N := 17) hx hb hts iX7 tyX7 tyX7_ok nmX7 hown hK hP hD hS 0 rfl rfl 7 (Nat.le_of_ble_eq_true rfl) (hts (.fieldLink RX7 108 "BentPinsModel" "length" "I") (List.mem_of_getElem? (i := 4) rfl)) (fun _ h9 => h9) rfl (by decide +kernel) rfl rfl (Nat.le_of_ble_eq_true rfl) dX7_shots_143 (fun H locs hP hD hS => ?_)
            have hP : va_P D vwCl ([((b 0), .inr (7, [.ref (b 1), .ref (b 2), .ref (b 3), .int (nI k1_6), .ref (b 4), .int ik, .ref (b 5), .int 0, .int bb, .int (nI x), .int y, .int o, .int w, .int s, .ref (b 6), .ref (b 7), .ref (b 8)])), ((b 1), .inl (cI, 206, .inl (flatS tt uu))), ((b 3), .inl (cI, 824, .inl (pastF ps1_7))), ((b 5), .inl (cI, 60, .inl f)), ((b 6), .inl (cI, 3, .inl zz))]) H := hP
            have hD : va_D A ([((b 0), .inr (7, [.ref (b 1), .ref (b 2), .ref (b 3), .int (nI k1_6), .ref (b 4), .int ik, .ref (b 5), .int 0, .int bb, .int (nI x), .int y, .int o, .int w, .int s, .ref (b 6), .ref (b 7), .ref (b 8)])), ((b 1), .inl (cI, 206, .inl (flatS tt uu))), ((b 3), .inl (cI, 824, .inl (pastF ps1_7))), ((b 5), .inl (cI, 60, .inl f)), ((b 6), .inl (cI, 3, .inl zz))]) := hD
            refine lv_aload_n hx hb dX7_shots_146 rfl (lv_at hl 0 rfl) ?_
            refine va_get (D := D) (ci := 7) (v := .ref (b 1)) (C := RX7) (T := TX7) (N := 17) hx hb hts iX7 hown hK hP 0 rfl rfl 0 (Nat.le_of_ble_eq_true rfl) (hts (.fieldLink RX7 7 "BentPinsModel" "s" "[I") (List.mem_of_getElem? (i := 1) rfl)) (fun _ h9 => h9) rfl dX7_shots_147 ?_
            refine lv_iconst (v := 0) hx hb dX7_shots_150 (by decide) ?_
            refine va_iald (i := 0) hx hb hK hP 1 0 rfl ht0 (vp_in_nI (n := 0) (N := 206) (by omega) (by omega)) dX7_shots_151 ?_
            refine ej_topi (show (flatS tt uu) (nI 0).toNatClampNeg = (flatS tt uu) 0 from congrArg (flatS tt uu) (nI_clamp (n := 0) (by omega))) ?_
            refine ej_topi (show (flatS tt uu) 0 = T_po uu from rfl) ?_
            refine lv_iload_n hx hb dX7_shots_152 rfl (lv_at hl 1 rfl) ?_
            refine lv_isub hx hb dX7_shots_153 ?_
            have f_k1 : k1_6 = k1 := by rw [e_k1]; rw [if_pos b_5]; exact e_k1_6
            have f_ps1 : ps1_7 = ps1 := by rw [e_ps1]; rw [if_pos b_5]; exact e_ps1_7
            have f_q1 : 0 = q1 := by rw [e_q1]; rw [if_pos b_5]
            have f_fo1 : y = fo1 := by rw [e_fo1]; rw [hy]; exact (asA_1 b_5).symm
            have f_sp1 : x = sp1 := by rw [e_sp1]; first | (rw [if_pos b_5, ← hv, smG_done (fun q9 => absurd q9.2 (by omega))]; done) | (rw [if_pos b_5, ← hv, smG_done (fun q9 => absurd q9.2 (by omega))]; rfl)
            have f_op1 : o = op1 := by rw [e_op1]; first | (rw [if_pos b_5, ← hv, smG_done (fun q9 => absurd q9.2 (by omega))]; done) | (rw [if_pos b_5, ← hv, smG_done (fun q9 => absurd q9.2 (by omega))]; rfl)
            have f_ha1 : w = ha1 := by rw [e_ha1]; first | (rw [if_pos b_5, ← hv, smG_done (fun q9 => absurd q9.2 (by omega))]; done) | (rw [if_pos b_5, ← hv, smG_done (fun q9 => absurd q9.2 (by omega))]; rfl)
            have f_st1 : s = st1 := by rw [e_st1]; first | (rw [if_pos b_5, ← hv, smG_done (fun q9 => absurd q9.2 (by omega))]; done) | (rw [if_pos b_5, ← hv, smG_done (fun q9 => absurd q9.2 (by omega))]; rfl)
            have f_t1 : tt = t1 := by rw [e_t1]; first | (rw [if_pos b_5, ← hv, smG_done (fun q9 => absurd q9.2 (by omega))]; done) | (rw [if_pos b_5, ← hv, smG_done (fun q9 => absurd q9.2 (by omega))]; rfl)
            have f_u1 : uu = u1 := by rw [e_u1]; first | (rw [if_pos b_5, ← hv, smG_done (fun q9 => absurd q9.2 (by omega))]; done) | (rw [if_pos b_5, ← hv, smG_done (fun q9 => absurd q9.2 (by omega))]; rfl)
            have f_be1 : bb = be1 := by rw [e_be1]; first | (rw [if_pos b_5, ← hv, smG_done (fun q9 => absurd q9.2 (by omega))]; done) | (rw [if_pos b_5, ← hv, smG_done (fun q9 => absurd q9.2 (by omega))]; rfl)
            have f_z1 : zz = z1 := by rw [e_z1]; first | (rw [if_pos b_5, ← hv, smG_done (fun q9 => absurd q9.2 (by omega))]; done) | (rw [if_pos b_5, ← hv, smG_done (fun q9 => absurd q9.2 (by omega))]; rfl)
            have f_r1 : ((T_po uu) - (T_po u)) = r1 := by rw [e_r1]; first | (rw [if_pos b_5, ← hv, smG_done (fun q9 => absurd q9.2 (by omega))]; done) | (rw [if_pos b_5, ← hv, smG_done (fun q9 => absurd q9.2 (by omega))]; rfl)
            subst f_k1
            subst f_ps1
            subst f_q1
            subst f_fo1
            subst f_sp1
            subst f_op1
            subst f_ha1
            subst f_st1
            subst f_t1
            subst f_u1
            subst f_be1
            subst f_z1
            subst f_r1
            exact hQ _ _ _ _ ((T_po uu) - (T_po u)) ([((b 0), .inr (7, [.ref (b 1), .ref (b 2), .ref (b 3), .int (nI k1_6), .ref (b 4), .int ik, .ref (b 5), .int 0, .int bb, .int (nI x), .int y, .int o, .int w, .int s, .ref (b 6), .ref (b 7), .ref (b 8)])), ((b 1), .inl (cI, 206, .inl (flatS tt uu))), ((b 3), .inl (cI, 824, .inl (pastF ps1_7))), ((b 5), .inl (cI, 60, .inl f)), ((b 6), .inl (cI, 3, .inl zz))]) dX7_shots_154 rfl rfl hP hS
          · have n_9 : x < le := ej_tnle (a := le) (b := x) (by omega) (by omega) c_9
            obtain ⟨r0, rfl⟩ : ∃ q9 : Nat, r = q9 + 1 := ⟨r - 1, by have := hr n_9; omega⟩
            have ac := hacc n_9
            have as9 := acc_step n_9 (hr n_9) ac
            refine lv_aload_n hx hb dX7_shots_51 rfl (lv_at hl 0 rfl) ?_
            refine va_get (D := D) (ci := 7) (v := .int (nI x)) (C := RX7) (T := TX7) (N := 17) hx hb hts iX7 hown hK hP 0 rfl rfl 9 (Nat.le_of_ble_eq_true rfl) (hts (.fieldLink RX7 111 "BentPinsModel" "spot" "I") (List.mem_of_getElem? (i := 2) rfl)) (fun _ h9 => h9) rfl dX7_shots_52 ?_
            refine lv_istore_n (lv' := [(3, .int (nI x)), (0, .ref (b 0)), (1, .int (T_po u)), (2, .int (nI n))]) hx hb dX7_shots_55 rfl hl (by decide) rfl (fun ls hl => ?_)
            refine lv_aload_n hx hb dX7_shots_56 rfl (lv_at hl 1 rfl) ?_
            obtain ⟨op1_10, e_op1_10⟩ : ∃ z9 : Int32, z9 = tsO le f x := ⟨_, rfl⟩
            obtain ⟨fo1_11, e_fo1_11⟩ : ∃ z9 : Int32, z9 = tsF le f y x := ⟨_, rfl⟩
            obtain ⟨ha1_12, e_ha1_12⟩ : ∃ z9 : Int32, z9 = tsH le f y x := ⟨_, rfl⟩
            obtain ⟨sp1_13, e_sp1_13⟩ : ∃ z9 : Nat, z9 = tsN le f y x := ⟨_, rfl⟩
            refine ej_V (As := []) (rest := []) (w' := [((b 0), .inr (7, [.ref (b 1), .ref (b 2), .ref (b 3), .int (nI k1_6), .ref (b 4), .int ik, .ref (b 5), .int (nI le), .int bb, .int (nI sp1_13), .int fo1_11, .int op1_10, .int ha1_12, .int s, .ref (b 6), .ref (b 7), .ref (b 8)])), ((b 1), .inl (cI, 206, .inl (flatS tt uu))), ((b 3), .inl (cI, 824, .inl (pastF ps1_7))), ((b 5), .inl (cI, 60, .inl f)), ((b 6), .inl (cI, 3, .inl zz))]) S hK hN hA hP hD hS (c_X7_takesShot l D tys cI ht0 b k1_6 le x ik bb y o w s f op1_10 e_op1_10 fo1_11 e_fo1_11 ha1_12 e_ha1_12 sp1_13 e_sp1_13 (by omega) (by omega)) (cwV 0 hts gX7_shots_X7_takesShot rfl rfl rfl hdv_X7_takesShot ⟨Nat.le_of_ble_eq_true rfl, Nat.le_of_ble_eq_true rfl⟩) [0, 3] [some 0, none, none, some 1] [(b 0), (b 5)] rfl (by decide +kernel) ⟨rfl, rfl⟩ rfl (by decide +kernel) 0 7 rfl rfl rfl rfl hl.1 (Nat.le_of_ble_eq_true rfl) dX7_shots_57 ⟨Nat.zero_le _, Nat.zero_le _⟩ (fun H locs hP hD hS => ?_)
            show W p9 l e9 (eR 5 118) s9 m9 a9 b9 t9 c9 H locs 0 0 Q (F0 m9 60 ls [])
            have q_sp1_13 : (tsN le f 1 x) = sp1_13 := Eq.symm (by rw [e_sp1_13]; rw [hy])
            subst q_sp1_13
            have q_fo1_11 : 1 = fo1_11 := Eq.symm (by rw [e_fo1_11]; rw [hy]; exact acc_F ac)
            subst q_fo1_11
            have q_op1_10 : (tsO le f x) = op1_10 := Eq.symm (e_op1_10)
            subst q_op1_10
            have q_ha1_12 : (tsH le f 1 x) = ha1_12 := Eq.symm (by rw [e_ha1_12]; rw [hy])
            subst q_ha1_12
            refine lv_aload_n hx hb dX7_shots_60 rfl (lv_at hl 1 rfl) ?_
            refine lv_dup hx hb dX7_shots_61 rfl ?_
            refine va_get (D := D) (ci := 7) (v := .int (nI (tsN le f 1 x))) (C := RX7) (T := TX7) (N := 17) hx hb hts iX7 hown hK hP 0 rfl rfl 9 (Nat.le_of_ble_eq_true rfl) (hts (.fieldLink RX7 111 "BentPinsModel" "spot" "I") (List.mem_of_getElem? (i := 2) rfl)) (fun _ h9 => h9) rfl dX7_shots_62 ?_
            refine lv_iconst (v := 1) hx hb dX7_shots_65 (by decide) ?_
            refine lv_iadd hx hb dX7_shots_66 ?_
            refine ej_topi (show (nI (tsN le f 1 x)) + 1 = nI ((tsN le f 1 x) + 1) from nI_add (tsN le f 1 x) 1) ?_
            refine va_put (D := D) (ci := 7) (v := .int (nI ((tsN le f 1 x) + 1))) (ty := .int) (C := RX7) (T := TX7) (N := 17) hx hb hts iX7 tyX7 tyX7_ok nmX7 hown hK hP hD hS 0 rfl rfl 9 (Nat.le_of_ble_eq_true rfl) (hts (.fieldLink RX7 111 "BentPinsModel" "spot" "I") (List.mem_of_getElem? (i := 2) rfl)) (fun _ h9 => h9) rfl (by decide +kernel) rfl rfl (Nat.le_of_ble_eq_true rfl) dX7_shots_67 (fun H locs hP hD hS => ?_)
            have hP : va_P D vwCl ([((b 0), .inr (7, [.ref (b 1), .ref (b 2), .ref (b 3), .int (nI k1_6), .ref (b 4), .int ik, .ref (b 5), .int (nI le), .int bb, .int (nI ((tsN le f 1 x) + 1)), .int 1, .int (tsO le f x), .int (tsH le f 1 x), .int s, .ref (b 6), .ref (b 7), .ref (b 8)])), ((b 1), .inl (cI, 206, .inl (flatS tt uu))), ((b 3), .inl (cI, 824, .inl (pastF ps1_7))), ((b 5), .inl (cI, 60, .inl f)), ((b 6), .inl (cI, 3, .inl zz))]) H := hP
            have hD : va_D A ([((b 0), .inr (7, [.ref (b 1), .ref (b 2), .ref (b 3), .int (nI k1_6), .ref (b 4), .int ik, .ref (b 5), .int (nI le), .int bb, .int (nI ((tsN le f 1 x) + 1)), .int 1, .int (tsO le f x), .int (tsH le f 1 x), .int s, .ref (b 6), .ref (b 7), .ref (b 8)])), ((b 1), .inl (cI, 206, .inl (flatS tt uu))), ((b 3), .inl (cI, 824, .inl (pastF ps1_7))), ((b 5), .inl (cI, 60, .inl f)), ((b 6), .inl (cI, 3, .inl zz))]) := hD
            refine lv_aload_n hx hb dX7_shots_70 rfl (lv_at hl 1 rfl) ?_
            refine va_get (D := D) (ci := 7) (v := .int (tsO le f x)) (C := RX7) (T := TX7) (N := 17) hx hb hts iX7 hown hK hP 0 rfl rfl 11 (Nat.le_of_ble_eq_true rfl) (hts (.fieldLink RX7 127 "BentPinsModel" "ofPlace" "I") (List.mem_of_getElem? (i := 5) rfl)) (fun _ h9 => h9) rfl dX7_shots_71 ?_
            refine lv_if_ge (tgt := 87) hx hb dX7_shots_74 (by decide) (fun c_14 => ?_) (fun c_14 => ?_)
            · have d_14 := ej_xa c_14
              refine lv_aload_n hx hb dX7_shots_87 rfl (lv_at hl 1 rfl) ?_
              refine lv_aload_n hx hb dX7_shots_88 rfl (lv_at hl 1 rfl) ?_
              refine va_get (D := D) (ci := 7) (v := .int (tsO le f x)) (C := RX7) (T := TX7) (N := 17) hx hb hts iX7 hown hK hP 0 rfl rfl 11 (Nat.le_of_ble_eq_true rfl) (hts (.fieldLink RX7 127 "BentPinsModel" "ofPlace" "I") (List.mem_of_getElem? (i := 5) rfl)) (fun _ h9 => h9) rfl dX7_shots_89 ?_
              refine ej_topi (show (tsO le f x) = nI ((tsO le f x).toNatClampNeg) from (acc_op ac d_14).1) ?_
              refine lv_aload_n hx hb dX7_shots_92 rfl (lv_at hl 1 rfl) ?_
              refine va_get (D := D) (ci := 7) (v := .int (tsH le f 1 x)) (C := RX7) (T := TX7) (N := 17) hx hb hts iX7 hown hK hP 0 rfl rfl 12 (Nat.le_of_ble_eq_true rfl) (hts (.fieldLink RX7 124 "BentPinsModel" "isHard" "Z") (List.mem_of_getElem? (i := 6) rfl)) (fun _ h9 => h9) rfl dX7_shots_93 ?_
              obtain ⟨t1_15, e_t1_15⟩ : ∃ z9 : Pn, z9 = shP tt uu ((tsO le f x).toNatClampNeg) (tsH le f 1 x) := ⟨_, rfl⟩
              obtain ⟨u1_16, e_u1_16⟩ : ∃ z9 : Tr, z9 = shU tt uu ((tsO le f x).toNatClampNeg) (tsH le f 1 x) := ⟨_, rfl⟩
              obtain ⟨be1_17, e_be1_17⟩ : ∃ z9 : Int32, z9 = if 0 < T_le uu then P_ri (rollT tt ((tsO le f x).toNatClampNeg) (tsH le f 1 x) 5).1 - P_ri tt else bb := ⟨_, rfl⟩
              obtain ⟨r1_18, e_r1_18⟩ : ∃ z9 : Int32, z9 = shR tt uu ((tsO le f x).toNatClampNeg) (tsH le f 1 x) := ⟨_, rfl⟩
              refine ej_V (As := [.int (nI ((tsO le f x).toNatClampNeg)), .int (tsH le f 1 x)]) (rest := []) (w' := [((b 0), .inr (7, [.ref (b 1), .ref (b 2), .ref (b 3), .int (nI k1_6), .ref (b 4), .int ik, .ref (b 5), .int (nI le), .int be1_17, .int (nI ((tsN le f 1 x) + 1)), .int 1, .int (tsO le f x), .int (tsH le f 1 x), .int s, .ref (b 6), .ref (b 7), .ref (b 8)])), ((b 1), .inl (cI, 206, .inl (flatS t1_15 u1_16))), ((b 3), .inl (cI, 824, .inl (pastF ps1_7))), ((b 5), .inl (cI, 60, .inl f)), ((b 6), .inl (cI, 3, .inl zz))]) S hK hN hA hP hD hS (c_X7_goShoot l D tys cI ht0 b k1_6 le ((tsN le f 1 x) + 1) ik bb 1 (tsO le f x) (tsH le f 1 x) s tt uu ((tsO le f x).toNatClampNeg) (tsH le f 1 x) t1_15 e_t1_15 u1_16 e_u1_16 be1_17 e_be1_17 r1_18 e_r1_18 (acc_op ac d_14).2 htt hot (okU_le hou)) (cwV 2 hts gX7_shots_X7_goShoot rfl rfl rfl hdv_X7_goShoot ⟨Nat.le_of_ble_eq_true rfl, Nat.le_of_ble_eq_true rfl⟩) [0, 1] [some 0, some 1] [(b 0), (b 1)] rfl (by decide +kernel) ⟨rfl, rfl⟩ rfl (by decide +kernel) 0 7 rfl rfl rfl rfl hl.1 (Nat.le_of_ble_eq_true rfl) dX7_shots_96 ⟨Nat.zero_le _, Nat.zero_le _⟩ (fun H locs hP hD hS => ?_)
              show W p9 l e9 (eR 5 118) s9 m9 a9 b9 t9 c9 H locs 0 0 Q (F0 m9 99 ls (.int r1_18 :: []))
              have q_t1_15 : (smP tt uu (tsO le f x) (tsH le f 1 x)) = t1_15 := Eq.symm (by rw [e_t1_15]; exact (if_neg d_14).symm)
              subst q_t1_15
              have q_u1_16 : (smU tt uu (tsO le f x) (tsH le f 1 x)) = u1_16 := Eq.symm (by rw [e_u1_16]; exact (if_neg d_14).symm)
              subst q_u1_16
              have q_be1_17 : (smB tt uu bb (tsO le f x) (tsH le f 1 x)) = be1_17 := Eq.symm (by rw [e_be1_17]; exact (if_neg d_14).symm)
              subst q_be1_17
              have q_r1_18 : (smT tt uu (tsO le f x) (tsH le f 1 x)) = r1_18 := Eq.symm (by rw [e_r1_18]; exact (if_neg d_14).symm)
              subst q_r1_18
              refine lv_istore (lv' := [(4, .int (smT tt uu (tsO le f x) (tsH le f 1 x))), (3, .int (nI x)), (0, .ref (b 0)), (1, .int (T_po u)), (2, .int (nI n))]) hx hb dX7_shots_99 hl (by decide) rfl (fun ls hl => ?_)
              refine lv_iload hx hb dX7_shots_101 (lv_at hl 0 rfl) ?_
              refine lv_bipush (v := 10) hx hb dX7_shots_103 (by decide) ?_
              refine lv_icmp_ge (tgt := 135) hx hb dX7_shots_105 (by decide) (fun c_19 => ?_) (fun c_19 => ?_)
              · have d_19 := ej_xa c_19
                refine lv_iinc (v := nI (n + 1)) (lv' := [(2, .int (nI (n + 1))), (4, .int (smT tt uu (tsO le f x) (tsH le f 1 x))), (3, .int (nI x)), (0, .ref (b 0)), (1, .int (T_po u))]) hx hb dX7_shots_135 hl (k := 4) rfl (nI_add n 1) (by decide) rfl (fun ls hl => ?_)
                refine lv_goto (tgt := 33) hx hb dX7_shots_138 (by decide) ?_
                exact ih33  r0 ((tsN le f 1 x) + 1) 1 (tsO le f x) (tsH le f 1 x) s (n + 1) (smP tt uu (tsO le f x) (tsH le f 1 x)) (smU tt uu (tsO le f x) (tsH le f 1 x)) (smB tt uu bb (tsO le f x) (tsH le f 1 x)) zz (by omega) (Nat.succ_le_succ (tsN_le (by omega))) rfl (fun q9 => by have := as9.1; have := hr n_9; omega) (fun q9 => as9.2 q9) (smP_til _ _ _ htt) (smP_out _ _ _ hot) (smU_ok _ _ (fun q9 => (acc_op ac q9).2) hou) (by rw [← hv, smG, if_pos ⟨c_8, n_9⟩, if_pos c_19]) _ _ _ hP hD hS (lv_sub hl [3, 4, 0] rfl)
              · have d_19 := ej_xd c_19
                refine lv_aload_n hx hb dX7_shots_108 rfl (lv_at hl 2 rfl) ?_
                refine lv_iconst (v := 1) hx hb dX7_shots_109 (by decide) ?_
                refine va_put (D := D) (ci := 7) (v := .int 1) (ty := .boolean) (C := RX7) (T := TX7) (N := 17) hx hb hts iX7 tyX7 tyX7_ok nmX7 hown hK hP hD hS 0 rfl rfl 13 (Nat.le_of_ble_eq_true rfl) (hts (.fieldLink RX7 144 "BentPinsModel" "isStopped" "Z") (List.mem_of_getElem? (i := 3) rfl)) (fun _ h9 => h9) rfl (by decide +kernel) rfl rfl (Nat.le_of_ble_eq_true rfl) dX7_shots_110 (fun H locs hP hD hS => ?_)
                have hP : va_P D vwCl ([((b 0), .inr (7, [.ref (b 1), .ref (b 2), .ref (b 3), .int (nI k1_6), .ref (b 4), .int ik, .ref (b 5), .int (nI le), .int (smB tt uu bb (tsO le f x) (tsH le f 1 x)), .int (nI ((tsN le f 1 x) + 1)), .int 1, .int (tsO le f x), .int (tsH le f 1 x), .int 1, .ref (b 6), .ref (b 7), .ref (b 8)])), ((b 1), .inl (cI, 206, .inl (flatS (smP tt uu (tsO le f x) (tsH le f 1 x)) (smU tt uu (tsO le f x) (tsH le f 1 x))))), ((b 3), .inl (cI, 824, .inl (pastF ps1_7))), ((b 5), .inl (cI, 60, .inl f)), ((b 6), .inl (cI, 3, .inl zz))]) H := hP
                have hD : va_D A ([((b 0), .inr (7, [.ref (b 1), .ref (b 2), .ref (b 3), .int (nI k1_6), .ref (b 4), .int ik, .ref (b 5), .int (nI le), .int (smB tt uu bb (tsO le f x) (tsH le f 1 x)), .int (nI ((tsN le f 1 x) + 1)), .int 1, .int (tsO le f x), .int (tsH le f 1 x), .int 1, .ref (b 6), .ref (b 7), .ref (b 8)])), ((b 1), .inl (cI, 206, .inl (flatS (smP tt uu (tsO le f x) (tsH le f 1 x)) (smU tt uu (tsO le f x) (tsH le f 1 x))))), ((b 3), .inl (cI, 824, .inl (pastF ps1_7))), ((b 5), .inl (cI, 60, .inl f)), ((b 6), .inl (cI, 3, .inl zz))]) := hD
                refine lv_aload_n hx hb dX7_shots_113 rfl (lv_at hl 2 rfl) ?_
                refine va_get (D := D) (ci := 7) (v := .ref (b 6)) (C := RX7) (T := TX7) (N := 17) hx hb hts iX7 hown hK hP 0 rfl rfl 14 (Nat.le_of_ble_eq_true rfl) (hts (.fieldLink RX7 25 "BentPinsModel" "stop" "[I") (List.mem_of_getElem? (i := 7) rfl)) (fun _ h9 => h9) rfl dX7_shots_114 ?_
                refine lv_iconst (v := 0) hx hb dX7_shots_117 (by decide) ?_
                refine lv_iload hx hb dX7_shots_118 (lv_at hl 0 rfl) ?_
                refine va_iast (i := 0) hx hb hK hP hD hS 4 0 rfl ht0 (vp_in_nI (n := 0) (N := 3) (by omega) (by omega)) dX7_shots_120 (fun H locs hP hD hS => ?_)
                rw [show (0 : Int32).toNatClampNeg = 0 from by decide] at hP hD
                have hP : va_P D vwCl ([((b 0), .inr (7, [.ref (b 1), .ref (b 2), .ref (b 3), .int (nI k1_6), .ref (b 4), .int ik, .ref (b 5), .int (nI le), .int (smB tt uu bb (tsO le f x) (tsH le f 1 x)), .int (nI ((tsN le f 1 x) + 1)), .int 1, .int (tsO le f x), .int (tsH le f 1 x), .int 1, .ref (b 6), .ref (b 7), .ref (b 8)])), ((b 1), .inl (cI, 206, .inl (flatS (smP tt uu (tsO le f x) (tsH le f 1 x)) (smU tt uu (tsO le f x) (tsH le f 1 x))))), ((b 3), .inl (cI, 824, .inl (pastF ps1_7))), ((b 5), .inl (cI, 60, .inl f)), ((b 6), .inl (cI, 3, .inl (upd zz 0 (smT tt uu (tsO le f x) (tsH le f 1 x)))))]) H := hP
                have hD : va_D A ([((b 0), .inr (7, [.ref (b 1), .ref (b 2), .ref (b 3), .int (nI k1_6), .ref (b 4), .int ik, .ref (b 5), .int (nI le), .int (smB tt uu bb (tsO le f x) (tsH le f 1 x)), .int (nI ((tsN le f 1 x) + 1)), .int 1, .int (tsO le f x), .int (tsH le f 1 x), .int 1, .ref (b 6), .ref (b 7), .ref (b 8)])), ((b 1), .inl (cI, 206, .inl (flatS (smP tt uu (tsO le f x) (tsH le f 1 x)) (smU tt uu (tsO le f x) (tsH le f 1 x))))), ((b 3), .inl (cI, 824, .inl (pastF ps1_7))), ((b 5), .inl (cI, 60, .inl f)), ((b 6), .inl (cI, 3, .inl (upd zz 0 (smT tt uu (tsO le f x) (tsH le f 1 x)))))]) := hD
                refine lv_aload_n hx hb dX7_shots_121 rfl (lv_at hl 2 rfl) ?_
                refine va_get (D := D) (ci := 7) (v := .ref (b 6)) (C := RX7) (T := TX7) (N := 17) hx hb hts iX7 hown hK hP 0 rfl rfl 14 (Nat.le_of_ble_eq_true rfl) (hts (.fieldLink RX7 25 "BentPinsModel" "stop" "[I") (List.mem_of_getElem? (i := 7) rfl)) (fun _ h9 => h9) rfl dX7_shots_122 ?_
                refine lv_iconst (v := 1) hx hb dX7_shots_125 (by decide) ?_
                refine lv_iload_n hx hb dX7_shots_126 rfl (lv_at hl 4 rfl) ?_
                refine va_iast (i := 1) hx hb hK hP hD hS 4 0 rfl ht0 (vp_in_nI (n := 1) (N := 3) (by omega) (by omega)) dX7_shots_127 (fun H locs hP hD hS => ?_)
                rw [show (1 : Int32).toNatClampNeg = 1 from by decide] at hP hD
                have hP : va_P D vwCl ([((b 0), .inr (7, [.ref (b 1), .ref (b 2), .ref (b 3), .int (nI k1_6), .ref (b 4), .int ik, .ref (b 5), .int (nI le), .int (smB tt uu bb (tsO le f x) (tsH le f 1 x)), .int (nI ((tsN le f 1 x) + 1)), .int 1, .int (tsO le f x), .int (tsH le f 1 x), .int 1, .ref (b 6), .ref (b 7), .ref (b 8)])), ((b 1), .inl (cI, 206, .inl (flatS (smP tt uu (tsO le f x) (tsH le f 1 x)) (smU tt uu (tsO le f x) (tsH le f 1 x))))), ((b 3), .inl (cI, 824, .inl (pastF ps1_7))), ((b 5), .inl (cI, 60, .inl f)), ((b 6), .inl (cI, 3, .inl (upd (upd zz 0 (smT tt uu (tsO le f x) (tsH le f 1 x))) 1 (nI n))))]) H := hP
                have hD : va_D A ([((b 0), .inr (7, [.ref (b 1), .ref (b 2), .ref (b 3), .int (nI k1_6), .ref (b 4), .int ik, .ref (b 5), .int (nI le), .int (smB tt uu bb (tsO le f x) (tsH le f 1 x)), .int (nI ((tsN le f 1 x) + 1)), .int 1, .int (tsO le f x), .int (tsH le f 1 x), .int 1, .ref (b 6), .ref (b 7), .ref (b 8)])), ((b 1), .inl (cI, 206, .inl (flatS (smP tt uu (tsO le f x) (tsH le f 1 x)) (smU tt uu (tsO le f x) (tsH le f 1 x))))), ((b 3), .inl (cI, 824, .inl (pastF ps1_7))), ((b 5), .inl (cI, 60, .inl f)), ((b 6), .inl (cI, 3, .inl (upd (upd zz 0 (smT tt uu (tsO le f x) (tsH le f 1 x))) 1 (nI n))))]) := hD
                refine lv_aload_n hx hb dX7_shots_128 rfl (lv_at hl 2 rfl) ?_
                refine va_get (D := D) (ci := 7) (v := .ref (b 6)) (C := RX7) (T := TX7) (N := 17) hx hb hts iX7 hown hK hP 0 rfl rfl 14 (Nat.le_of_ble_eq_true rfl) (hts (.fieldLink RX7 25 "BentPinsModel" "stop" "[I") (List.mem_of_getElem? (i := 7) rfl)) (fun _ h9 => h9) rfl dX7_shots_129 ?_
                refine lv_iconst (v := 2) hx hb dX7_shots_132 (by decide) ?_
                refine lv_iload_n hx hb dX7_shots_133 rfl (lv_at hl 1 rfl) ?_
                refine va_iast (i := 2) hx hb hK hP hD hS 4 0 rfl ht0 (vp_in_nI (n := 2) (N := 3) (by omega) (by omega)) dX7_shots_134 (fun H locs hP hD hS => ?_)
                rw [show (2 : Int32).toNatClampNeg = 2 from by decide] at hP hD
                have hP : va_P D vwCl ([((b 0), .inr (7, [.ref (b 1), .ref (b 2), .ref (b 3), .int (nI k1_6), .ref (b 4), .int ik, .ref (b 5), .int (nI le), .int (smB tt uu bb (tsO le f x) (tsH le f 1 x)), .int (nI ((tsN le f 1 x) + 1)), .int 1, .int (tsO le f x), .int (tsH le f 1 x), .int 1, .ref (b 6), .ref (b 7), .ref (b 8)])), ((b 1), .inl (cI, 206, .inl (flatS (smP tt uu (tsO le f x) (tsH le f 1 x)) (smU tt uu (tsO le f x) (tsH le f 1 x))))), ((b 3), .inl (cI, 824, .inl (pastF ps1_7))), ((b 5), .inl (cI, 60, .inl f)), ((b 6), .inl (cI, 3, .inl (upd (upd (upd zz 0 (smT tt uu (tsO le f x) (tsH le f 1 x))) 1 (nI n)) 2 (nI x))))]) H := hP
                have hD : va_D A ([((b 0), .inr (7, [.ref (b 1), .ref (b 2), .ref (b 3), .int (nI k1_6), .ref (b 4), .int ik, .ref (b 5), .int (nI le), .int (smB tt uu bb (tsO le f x) (tsH le f 1 x)), .int (nI ((tsN le f 1 x) + 1)), .int 1, .int (tsO le f x), .int (tsH le f 1 x), .int 1, .ref (b 6), .ref (b 7), .ref (b 8)])), ((b 1), .inl (cI, 206, .inl (flatS (smP tt uu (tsO le f x) (tsH le f 1 x)) (smU tt uu (tsO le f x) (tsH le f 1 x))))), ((b 3), .inl (cI, 824, .inl (pastF ps1_7))), ((b 5), .inl (cI, 60, .inl f)), ((b 6), .inl (cI, 3, .inl (upd (upd (upd zz 0 (smT tt uu (tsO le f x) (tsH le f 1 x))) 1 (nI n)) 2 (nI x))))]) := hD
                refine lv_iinc (v := nI (n + 1)) (lv' := [(2, .int (nI (n + 1))), (4, .int (smT tt uu (tsO le f x) (tsH le f 1 x))), (3, .int (nI x)), (0, .ref (b 0)), (1, .int (T_po u))]) hx hb dX7_shots_135 hl (k := 4) rfl (nI_add n 1) (by decide) rfl (fun ls hl => ?_)
                refine lv_goto (tgt := 33) hx hb dX7_shots_138 (by decide) ?_
                exact ih33  r0 ((tsN le f 1 x) + 1) 1 (tsO le f x) (tsH le f 1 x) 1 (n + 1) (smP tt uu (tsO le f x) (tsH le f 1 x)) (smU tt uu (tsO le f x) (tsH le f 1 x)) (smB tt uu bb (tsO le f x) (tsH le f 1 x)) (upd (upd (upd zz 0 (smT tt uu (tsO le f x) (tsH le f 1 x))) 1 (nI n)) 2 (nI x)) (by omega) (Nat.succ_le_succ (tsN_le (by omega))) rfl (fun q9 => by have := as9.1; have := hr n_9; omega) (fun q9 => as9.2 q9) (smP_til _ _ _ htt) (smP_out _ _ _ hot) (smU_ok _ _ (fun q9 => (acc_op ac q9).2) hou) (by rw [← hv, smG, if_pos ⟨c_8, n_9⟩, if_neg c_19]) _ _ _ hP hD hS (lv_sub hl [3, 4, 0] rfl)
            · have d_14 := ej_xd c_14
              refine lv_bipush (v := 10) hx hb dX7_shots_77 (by decide) ?_
              refine lv_aload_n hx hb dX7_shots_79 rfl (lv_at hl 1 rfl) ?_
              obtain ⟨u1_20, e_u1_20⟩ : ∃ z9 : Tr, z9 = empU uu := ⟨_, rfl⟩
              obtain ⟨r1_21, e_r1_21⟩ : ∃ z9 : Int32, z9 = T_le (empU uu) := ⟨_, rfl⟩
              refine ej_V (As := []) (rest := [.int 10]) (w' := [((b 0), .inr (7, [.ref (b 1), .ref (b 2), .ref (b 3), .int (nI k1_6), .ref (b 4), .int ik, .ref (b 5), .int (nI le), .int bb, .int (nI ((tsN le f 1 x) + 1)), .int 1, .int (tsO le f x), .int (tsH le f 1 x), .int s, .ref (b 6), .ref (b 7), .ref (b 8)])), ((b 1), .inl (cI, 206, .inl (flatS tt u1_20))), ((b 3), .inl (cI, 824, .inl (pastF ps1_7))), ((b 5), .inl (cI, 60, .inl f)), ((b 6), .inl (cI, 3, .inl zz))]) S hK hN hA hP hD hS (c_X7_goEmpty l D tys cI ht0 b k1_6 le ((tsN le f 1 x) + 1) ik bb 1 (tsO le f x) (tsH le f 1 x) s tt uu u1_20 e_u1_20 r1_21 e_r1_21) (cwV 0 hts gX7_shots_X7_goEmpty rfl rfl rfl hdv_X7_goEmpty ⟨Nat.le_of_ble_eq_true rfl, Nat.le_of_ble_eq_true rfl⟩) [0, 1] [some 0, some 1] [(b 0), (b 1)] rfl (by decide +kernel) ⟨rfl, rfl⟩ rfl (by decide +kernel) 0 7 rfl rfl rfl rfl hl.1 (Nat.le_of_ble_eq_true rfl) dX7_shots_80 ⟨Nat.zero_le _, Nat.zero_le _⟩ (fun H locs hP hD hS => ?_)
              show W p9 l e9 (eR 5 118) s9 m9 a9 b9 t9 c9 H locs 0 0 Q (F0 m9 83 ls (.int r1_21 :: [.int 10]))
              have q_u1_20 : (smU tt uu (tsO le f x) (tsH le f 1 x)) = u1_20 := Eq.symm (by rw [e_u1_20]; exact (if_pos d_14).symm)
              subst q_u1_20
              have q_r1_21 : (T_le (empU uu)) = r1_21 := Eq.symm (e_r1_21)
              subst q_r1_21
              refine lv_iadd hx hb dX7_shots_83 ?_
              refine ej_topi (show (10 + (T_le (empU uu))) = smT tt uu (tsO le f x) (tsH le f 1 x) from (if_pos d_14).symm) ?_
              refine lv_goto (tgt := 99) hx hb dX7_shots_84 (by decide) ?_
              refine lv_istore (lv' := [(4, .int (smT tt uu (tsO le f x) (tsH le f 1 x))), (3, .int (nI x)), (0, .ref (b 0)), (1, .int (T_po u)), (2, .int (nI n))]) hx hb dX7_shots_99 hl (by decide) rfl (fun ls hl => ?_)
              refine lv_iload hx hb dX7_shots_101 (lv_at hl 0 rfl) ?_
              refine lv_bipush (v := 10) hx hb dX7_shots_103 (by decide) ?_
              refine lv_icmp_ge (tgt := 135) hx hb dX7_shots_105 (by decide) (fun c_22 => ?_) (fun c_22 => ?_)
              · have d_22 := ej_xa c_22
                refine lv_iinc (v := nI (n + 1)) (lv' := [(2, .int (nI (n + 1))), (4, .int (smT tt uu (tsO le f x) (tsH le f 1 x))), (3, .int (nI x)), (0, .ref (b 0)), (1, .int (T_po u))]) hx hb dX7_shots_135 hl (k := 4) rfl (nI_add n 1) (by decide) rfl (fun ls hl => ?_)
                refine lv_goto (tgt := 33) hx hb dX7_shots_138 (by decide) ?_
                exact ih33  r0 ((tsN le f 1 x) + 1) 1 (tsO le f x) (tsH le f 1 x) s (n + 1) tt (smU tt uu (tsO le f x) (tsH le f 1 x)) bb zz (by omega) (Nat.succ_le_succ (tsN_le (by omega))) rfl (fun q9 => by have := as9.1; have := hr n_9; omega) (fun q9 => as9.2 q9) htt hot (smU_ok _ _ (fun q9 => (acc_op ac q9).2) hou) (by rw [← hv, smG, if_pos ⟨c_8, n_9⟩, if_pos c_22, show smP tt uu (tsO le f x) (tsH le f 1 x) = tt from if_pos d_14, show smB tt uu bb (tsO le f x) (tsH le f 1 x) = bb from if_pos d_14]) _ _ _ hP hD hS (lv_sub hl [3, 4, 0] rfl)
              · have d_22 := ej_xd c_22
                refine lv_aload_n hx hb dX7_shots_108 rfl (lv_at hl 2 rfl) ?_
                refine lv_iconst (v := 1) hx hb dX7_shots_109 (by decide) ?_
                refine va_put (D := D) (ci := 7) (v := .int 1) (ty := .boolean) (C := RX7) (T := TX7) (N := 17) hx hb hts iX7 tyX7 tyX7_ok nmX7 hown hK hP hD hS 0 rfl rfl 13 (Nat.le_of_ble_eq_true rfl) (hts (.fieldLink RX7 144 "BentPinsModel" "isStopped" "Z") (List.mem_of_getElem? (i := 3) rfl)) (fun _ h9 => h9) rfl (by decide +kernel) rfl rfl (Nat.le_of_ble_eq_true rfl) dX7_shots_110 (fun H locs hP hD hS => ?_)
                have hP : va_P D vwCl ([((b 0), .inr (7, [.ref (b 1), .ref (b 2), .ref (b 3), .int (nI k1_6), .ref (b 4), .int ik, .ref (b 5), .int (nI le), .int bb, .int (nI ((tsN le f 1 x) + 1)), .int 1, .int (tsO le f x), .int (tsH le f 1 x), .int 1, .ref (b 6), .ref (b 7), .ref (b 8)])), ((b 1), .inl (cI, 206, .inl (flatS tt (smU tt uu (tsO le f x) (tsH le f 1 x))))), ((b 3), .inl (cI, 824, .inl (pastF ps1_7))), ((b 5), .inl (cI, 60, .inl f)), ((b 6), .inl (cI, 3, .inl zz))]) H := hP
                have hD : va_D A ([((b 0), .inr (7, [.ref (b 1), .ref (b 2), .ref (b 3), .int (nI k1_6), .ref (b 4), .int ik, .ref (b 5), .int (nI le), .int bb, .int (nI ((tsN le f 1 x) + 1)), .int 1, .int (tsO le f x), .int (tsH le f 1 x), .int 1, .ref (b 6), .ref (b 7), .ref (b 8)])), ((b 1), .inl (cI, 206, .inl (flatS tt (smU tt uu (tsO le f x) (tsH le f 1 x))))), ((b 3), .inl (cI, 824, .inl (pastF ps1_7))), ((b 5), .inl (cI, 60, .inl f)), ((b 6), .inl (cI, 3, .inl zz))]) := hD
                refine lv_aload_n hx hb dX7_shots_113 rfl (lv_at hl 2 rfl) ?_
                refine va_get (D := D) (ci := 7) (v := .ref (b 6)) (C := RX7) (T := TX7) (N := 17) hx hb hts iX7 hown hK hP 0 rfl rfl 14 (Nat.le_of_ble_eq_true rfl) (hts (.fieldLink RX7 25 "BentPinsModel" "stop" "[I") (List.mem_of_getElem? (i := 7) rfl)) (fun _ h9 => h9) rfl dX7_shots_114 ?_
                refine lv_iconst (v := 0) hx hb dX7_shots_117 (by decide) ?_
                refine lv_iload hx hb dX7_shots_118 (lv_at hl 0 rfl) ?_
                refine va_iast (i := 0) hx hb hK hP hD hS 4 0 rfl ht0 (vp_in_nI (n := 0) (N := 3) (by omega) (by omega)) dX7_shots_120 (fun H locs hP hD hS => ?_)
                rw [show (0 : Int32).toNatClampNeg = 0 from by decide] at hP hD
                have hP : va_P D vwCl ([((b 0), .inr (7, [.ref (b 1), .ref (b 2), .ref (b 3), .int (nI k1_6), .ref (b 4), .int ik, .ref (b 5), .int (nI le), .int bb, .int (nI ((tsN le f 1 x) + 1)), .int 1, .int (tsO le f x), .int (tsH le f 1 x), .int 1, .ref (b 6), .ref (b 7), .ref (b 8)])), ((b 1), .inl (cI, 206, .inl (flatS tt (smU tt uu (tsO le f x) (tsH le f 1 x))))), ((b 3), .inl (cI, 824, .inl (pastF ps1_7))), ((b 5), .inl (cI, 60, .inl f)), ((b 6), .inl (cI, 3, .inl (upd zz 0 (smT tt uu (tsO le f x) (tsH le f 1 x)))))]) H := hP
                have hD : va_D A ([((b 0), .inr (7, [.ref (b 1), .ref (b 2), .ref (b 3), .int (nI k1_6), .ref (b 4), .int ik, .ref (b 5), .int (nI le), .int bb, .int (nI ((tsN le f 1 x) + 1)), .int 1, .int (tsO le f x), .int (tsH le f 1 x), .int 1, .ref (b 6), .ref (b 7), .ref (b 8)])), ((b 1), .inl (cI, 206, .inl (flatS tt (smU tt uu (tsO le f x) (tsH le f 1 x))))), ((b 3), .inl (cI, 824, .inl (pastF ps1_7))), ((b 5), .inl (cI, 60, .inl f)), ((b 6), .inl (cI, 3, .inl (upd zz 0 (smT tt uu (tsO le f x) (tsH le f 1 x)))))]) := hD
                refine lv_aload_n hx hb dX7_shots_121 rfl (lv_at hl 2 rfl) ?_
                refine va_get (D := D) (ci := 7) (v := .ref (b 6)) (C := RX7) (T := TX7) (N := 17) hx hb hts iX7 hown hK hP 0 rfl rfl 14 (Nat.le_of_ble_eq_true rfl) (hts (.fieldLink RX7 25 "BentPinsModel" "stop" "[I") (List.mem_of_getElem? (i := 7) rfl)) (fun _ h9 => h9) rfl dX7_shots_122 ?_
                refine lv_iconst (v := 1) hx hb dX7_shots_125 (by decide) ?_
                refine lv_iload_n hx hb dX7_shots_126 rfl (lv_at hl 4 rfl) ?_
                refine va_iast (i := 1) hx hb hK hP hD hS 4 0 rfl ht0 (vp_in_nI (n := 1) (N := 3) (by omega) (by omega)) dX7_shots_127 (fun H locs hP hD hS => ?_)
                rw [show (1 : Int32).toNatClampNeg = 1 from by decide] at hP hD
                have hP : va_P D vwCl ([((b 0), .inr (7, [.ref (b 1), .ref (b 2), .ref (b 3), .int (nI k1_6), .ref (b 4), .int ik, .ref (b 5), .int (nI le), .int bb, .int (nI ((tsN le f 1 x) + 1)), .int 1, .int (tsO le f x), .int (tsH le f 1 x), .int 1, .ref (b 6), .ref (b 7), .ref (b 8)])), ((b 1), .inl (cI, 206, .inl (flatS tt (smU tt uu (tsO le f x) (tsH le f 1 x))))), ((b 3), .inl (cI, 824, .inl (pastF ps1_7))), ((b 5), .inl (cI, 60, .inl f)), ((b 6), .inl (cI, 3, .inl (upd (upd zz 0 (smT tt uu (tsO le f x) (tsH le f 1 x))) 1 (nI n))))]) H := hP
                have hD : va_D A ([((b 0), .inr (7, [.ref (b 1), .ref (b 2), .ref (b 3), .int (nI k1_6), .ref (b 4), .int ik, .ref (b 5), .int (nI le), .int bb, .int (nI ((tsN le f 1 x) + 1)), .int 1, .int (tsO le f x), .int (tsH le f 1 x), .int 1, .ref (b 6), .ref (b 7), .ref (b 8)])), ((b 1), .inl (cI, 206, .inl (flatS tt (smU tt uu (tsO le f x) (tsH le f 1 x))))), ((b 3), .inl (cI, 824, .inl (pastF ps1_7))), ((b 5), .inl (cI, 60, .inl f)), ((b 6), .inl (cI, 3, .inl (upd (upd zz 0 (smT tt uu (tsO le f x) (tsH le f 1 x))) 1 (nI n))))]) := hD
                refine lv_aload_n hx hb dX7_shots_128 rfl (lv_at hl 2 rfl) ?_
                refine va_get (D := D) (ci := 7) (v := .ref (b 6)) (C := RX7) (T := TX7) (N := 17) hx hb hts iX7 hown hK hP 0 rfl rfl 14 (Nat.le_of_ble_eq_true rfl) (hts (.fieldLink RX7 25 "BentPinsModel" "stop" "[I") (List.mem_of_getElem? (i := 7) rfl)) (fun _ h9 => h9) rfl dX7_shots_129 ?_
                refine lv_iconst (v := 2) hx hb dX7_shots_132 (by decide) ?_
                refine lv_iload_n hx hb dX7_shots_133 rfl (lv_at hl 1 rfl) ?_
                refine va_iast (i := 2) hx hb hK hP hD hS 4 0 rfl ht0 (vp_in_nI (n := 2) (N := 3) (by omega) (by omega)) dX7_shots_134 (fun H locs hP hD hS => ?_)
                rw [show (2 : Int32).toNatClampNeg = 2 from by decide] at hP hD
                have hP : va_P D vwCl ([((b 0), .inr (7, [.ref (b 1), .ref (b 2), .ref (b 3), .int (nI k1_6), .ref (b 4), .int ik, .ref (b 5), .int (nI le), .int bb, .int (nI ((tsN le f 1 x) + 1)), .int 1, .int (tsO le f x), .int (tsH le f 1 x), .int 1, .ref (b 6), .ref (b 7), .ref (b 8)])), ((b 1), .inl (cI, 206, .inl (flatS tt (smU tt uu (tsO le f x) (tsH le f 1 x))))), ((b 3), .inl (cI, 824, .inl (pastF ps1_7))), ((b 5), .inl (cI, 60, .inl f)), ((b 6), .inl (cI, 3, .inl (upd (upd (upd zz 0 (smT tt uu (tsO le f x) (tsH le f 1 x))) 1 (nI n)) 2 (nI x))))]) H := hP
                have hD : va_D A ([((b 0), .inr (7, [.ref (b 1), .ref (b 2), .ref (b 3), .int (nI k1_6), .ref (b 4), .int ik, .ref (b 5), .int (nI le), .int bb, .int (nI ((tsN le f 1 x) + 1)), .int 1, .int (tsO le f x), .int (tsH le f 1 x), .int 1, .ref (b 6), .ref (b 7), .ref (b 8)])), ((b 1), .inl (cI, 206, .inl (flatS tt (smU tt uu (tsO le f x) (tsH le f 1 x))))), ((b 3), .inl (cI, 824, .inl (pastF ps1_7))), ((b 5), .inl (cI, 60, .inl f)), ((b 6), .inl (cI, 3, .inl (upd (upd (upd zz 0 (smT tt uu (tsO le f x) (tsH le f 1 x))) 1 (nI n)) 2 (nI x))))]) := hD
                refine lv_iinc (v := nI (n + 1)) (lv' := [(2, .int (nI (n + 1))), (4, .int (smT tt uu (tsO le f x) (tsH le f 1 x))), (3, .int (nI x)), (0, .ref (b 0)), (1, .int (T_po u))]) hx hb dX7_shots_135 hl (k := 4) rfl (nI_add n 1) (by decide) rfl (fun ls hl => ?_)
                refine lv_goto (tgt := 33) hx hb dX7_shots_138 (by decide) ?_
                exact ih33  r0 ((tsN le f 1 x) + 1) 1 (tsO le f x) (tsH le f 1 x) 1 (n + 1) tt (smU tt uu (tsO le f x) (tsH le f 1 x)) bb (upd (upd (upd zz 0 (smT tt uu (tsO le f x) (tsH le f 1 x))) 1 (nI n)) 2 (nI x)) (by omega) (Nat.succ_le_succ (tsN_le (by omega))) rfl (fun q9 => by have := as9.1; have := hr n_9; omega) (fun q9 => as9.2 q9) htt hot (smU_ok _ _ (fun q9 => (acc_op ac q9).2) hou) (by rw [← hv, smG, if_pos ⟨c_8, n_9⟩, if_neg c_22, show smP tt uu (tsO le f x) (tsH le f 1 x) = tt from if_pos d_14, show smB tt uu bb (tsO le f x) (tsH le f 1 x) = bb from if_pos d_14]) _ _ _ hP hD hS (lv_sub hl [3, 4, 0] rfl)
    exact lp33 (le + 1) le 0 ((asA le f).2.1) ((asA le f).2.2.1) ((asA le f).2.2.2) 0 0 t u be z3 (by omega) (Nat.zero_le _) (asA_1 b_5) (fun _ => Nat.le_add_left _ _) (fun _ => b_5) htl hout hou rfl _ _ _ hP hD hS (lv_sub hl [2, 1, 0] rfl)
  · have b_5 : (asA le f).2.1 = 0 := Decidable.not_not.mp (ej_b0 c_5)
    refine lv_bipush (v := (-2)) hx hb dX7_shots_7 (by decide) ?_
    have f_k1 : kn = k1 := by rw [e_k1]; rw [if_neg (fun q9 => q9 b_5)]
    have f_ps1 : ps = ps1 := by rw [e_ps1]; rw [if_neg (fun q9 => q9 b_5)]
    have f_q1 : le = q1 := by rw [e_q1]; rw [if_neg (fun q9 => q9 b_5)]
    have f_fo1 : ((asA le f).2.1) = fo1 := by rw [e_fo1]; skip
    have f_sp1 : ((asA le f).1) = sp1 := by rw [e_sp1]; rw [if_neg (fun q9 => q9 b_5)]
    have f_op1 : ((asA le f).2.2.1) = op1 := by rw [e_op1]; rw [if_neg (fun q9 => q9 b_5)]
    have f_ha1 : ((asA le f).2.2.2) = ha1 := by rw [e_ha1]; rw [if_neg (fun q9 => q9 b_5)]
    have f_st1 : st = st1 := by rw [e_st1]; rw [if_neg (fun q9 => q9 b_5)]
    have f_t1 : t = t1 := by rw [e_t1]; rw [if_neg (fun q9 => q9 b_5)]
    have f_u1 : u = u1 := by rw [e_u1]; rw [if_neg (fun q9 => q9 b_5)]
    have f_be1 : be = be1 := by rw [e_be1]; rw [if_neg (fun q9 => q9 b_5)]
    have f_z1 : z3 = z1 := by rw [e_z1]; rw [if_neg (fun q9 => q9 b_5)]
    have f_r1 : (-2) = r1 := by rw [e_r1]; rw [if_neg (fun q9 => q9 b_5)]
    subst f_k1
    subst f_ps1
    subst f_q1
    subst f_fo1
    subst f_sp1
    subst f_op1
    subst f_ha1
    subst f_st1
    subst f_t1
    subst f_u1
    subst f_be1
    subst f_z1
    subst f_r1
    exact hQ _ _ _ _ (-2) ([((b 0), .inr (7, [.ref (b 1), .ref (b 2), .ref (b 3), .int (nI kn), .ref (b 4), .int ik, .ref (b 5), .int (nI le), .int be, .int (nI ((asA le f).1)), .int ((asA le f).2.1), .int ((asA le f).2.2.1), .int ((asA le f).2.2.2), .int st, .ref (b 6), .ref (b 7), .ref (b 8)])), ((b 1), .inl (cI, 206, .inl (flatS t u))), ((b 3), .inl (cI, 824, .inl (pastF ps))), ((b 5), .inl (cI, 60, .inl f)), ((b 6), .inl (cI, 3, .inl z3))]) dX7_shots_9 rfl rfl hP hS
