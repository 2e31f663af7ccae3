set_option maxHeartbeats 4000000 in
set_option maxRecDepth 100000 in
theorem c_X7_waysTo (l : Launch) (D : va_G) (tys : eT) (cI : ClassId) (ht0 : tys[0]? = some (cI, .int)) (b : Nat → Nat) (kn le sp : Nat) (ik be fo op ha st : Int32) (t : Pn) (u : Tr) (m g : Nat → Int32) (k : Nat)  (hk : k < 7) (htl : tilOK t) (hout : outOK t) : fc l D tys yX7_waysTo wsX7_waysTo (eR 3 69) [.ref (b 0), .int (nI k)] ([((b 0), .inr (7, [.ref (b 1), .ref (b 2), .ref (b 3), .int (nI kn), .ref (b 4), .int ik, .ref (b 5), .int (nI le), .int be, .int (nI sp), .int fo, .int op, .int ha, .int st, .ref (b 6), .ref (b 7), .ref (b 8)])), ((b 1), .inl (cI, 206, .inl (flatS t u))), ((b 7), .inl (cI, 7, .inl m)), ((b 8), .inl (cI, 7, .inl g))]) (some (.int (wmG t 5 k))) ([((b 0), .inr (7, [.ref (b 1), .ref (b 2), .ref (b 3), .int (nI kn), .ref (b 4), .int ik, .ref (b 5), .int (nI le), .int be, .int (nI sp), .int fo, .int op, .int ha, .int st, .ref (b 6), .ref (b 7), .ref (b 8)])), ((b 1), .inl (cI, 206, .inl (flatS t u))), ((b 7), .inl (cI, 7, .inl (wmG t 5))), ((b 8), .inl (cI, 7, .inl (wmG t 5)))]) := by
  refine fc_int cX7_waysTo 3 (by decide +kernel) rfl (rfl) (Nat.le_of_ble_eq_true rfl) ?_
  intro p9 e9 s9 m9 a9 b9 t9 c9 H0 A Q ls S hK hN hA hP hD hS hl hQ
  have S : CallFix p9 m9 c9 cX7_waysTo 3 s9 a9 wsX7_waysTo RX7 := S
  obtain ⟨hx, hb, hml, hown, hts⟩ := id S
  have iX7 : ∀ w ∈ wsX70, w ∈ wsX7_waysTo := fun w h => List.mem_cons_of_mem _ (List.mem_append_right _ (h))
  have hP : va_P D vwCl ([((b 0), .inr (7, [.ref (b 1), .ref (b 2), .ref (b 3), .int (nI kn), .ref (b 4), .int ik, .ref (b 5), .int (nI le), .int be, .int (nI sp), .int fo, .int op, .int ha, .int st, .ref (b 6), .ref (b 7), .ref (b 8)])), ((b 1), .inl (cI, 206, .inl (flatS t u))), ((b 7), .inl (cI, 7, .inl m)), ((b 8), .inl (cI, 7, .inl g))]) H0 := hP
  have hD : va_D A ([((b 0), .inr (7, [.ref (b 1), .ref (b 2), .ref (b 3), .int (nI kn), .ref (b 4), .int ik, .ref (b 5), .int (nI le), .int be, .int (nI sp), .int fo, .int op, .int ha, .int st, .ref (b 6), .ref (b 7), .ref (b 8)])), ((b 1), .inl (cI, 206, .inl (flatS t u))), ((b 7), .inl (cI, 7, .inl m)), ((b 8), .inl (cI, 7, .inl g))]) := hD
  have hl : lv_has ls 3 [(0, .ref (b 0)), (1, .int (nI k))] := hl
  refine lv_iconst (v := 0) hx hb dX7_waysTo_0 (by decide) ?_
  refine lv_istore_n (lv' := [(2, .int 0), (0, .ref (b 0)), (1, .int (nI k))]) hx hb dX7_waysTo_1 rfl hl (by decide) rfl (fun ls hl => ?_)
  have lp2 : ∀ (n2 : Nat) (i : Nat) (w1 : Nat → Int32), 7 - i < n2 → (i ≤ 7) → (w1 = zeG m i 1) → ∀ (H : Heap) (locs : List Loc) (ls : Array Slot), va_P D vwCl ([((b 0), .inr (7, [.ref (b 1), .ref (b 2), .ref (b 3), .int (nI kn), .ref (b 4), .int ik, .ref (b 5), .int (nI le), .int be, .int (nI sp), .int fo, .int op, .int ha, .int st, .ref (b 6), .ref (b 7), .ref (b 8)])), ((b 1), .inl (cI, 206, .inl (flatS t u))), ((b 7), .inl (cI, 7, .inl w1)), ((b 8), .inl (cI, 7, .inl g))]) H → va_D A ([((b 0), .inr (7, [.ref (b 1), .ref (b 2), .ref (b 3), .int (nI kn), .ref (b 4), .int ik, .ref (b 5), .int (nI le), .int be, .int (nI sp), .int fo, .int op, .int ha, .int st, .ref (b 6), .ref (b 7), .ref (b 8)])), ((b 1), .inl (cI, 206, .inl (flatS t u))), ((b 7), .inl (cI, 7, .inl w1)), ((b 8), .inl (cI, 7, .inl g))]) → va_S A H0 H locs → lv_has ls 3 [(0, .ref (b 0)), (1, .int (nI k)), (2, .int (nI i))] → W p9 l e9 (eR 3 69) s9 m9 a9 b9 t9 c9 H locs 0 0 Q (F0 m9 2 ls []) := by
    intro n2
    induction n2 with
    | zero => intro i w1 hm9; exact absurd hm9 (Nat.not_lt_zero _)
    | succ n2 ih2 =>
      intro i w1 hm2 hi ew1 H locs ls hP hD hS hl
      refine lv_iload_n hx hb dX7_waysTo_2 rfl (lv_at hl 2 rfl) ?_
      refine lv_bipush (v := 7) hx hb dX7_waysTo_3 (by decide) ?_
      refine lv_icmp_ge (tgt := 21) hx hb dX7_waysTo_5 (by decide) (fun c_1 => ?_) (fun c_1 => ?_)
      · have n_1 : 7 ≤ i := ej_tle (a := 7) (b := i) (by omega) (by omega) c_1
        have hP := ej_row (q := 2) (a := (b 7)) (cI := cI) (n := 7) (wmG t 0) hP rfl (fun j9 hj9 => by rw [ew1, show i = 7 by omega, zeG, if_pos hj9]; rfl)
        have hD := ej_rowD (q := 2) (a := (b 7)) (cI := cI) (n := 7) (wmG t 0) hD rfl
        have hP : va_P D vwCl ([((b 0), .inr (7, [.ref (b 1), .ref (b 2), .ref (b 3), .int (nI kn), .ref (b 4), .int ik, .ref (b 5), .int (nI le), .int be, .int (nI sp), .int fo, .int op, .int ha, .int st, .ref (b 6), .ref (b 7), .ref (b 8)])), ((b 1), .inl (cI, 206, .inl (flatS t u))), ((b 7), .inl (cI, 7, .inl (wmG t 0))), ((b 8), .inl (cI, 7, .inl g))]) _ := hP
        have hD : va_D A ([((b 0), .inr (7, [.ref (b 1), .ref (b 2), .ref (b 3), .int (nI kn), .ref (b 4), .int ik, .ref (b 5), .int (nI le), .int be, .int (nI sp), .int fo, .int op, .int ha, .int st, .ref (b 6), .ref (b 7), .ref (b 8)])), ((b 1), .inl (cI, 206, .inl (flatS t u))), ((b 7), .inl (cI, 7, .inl (wmG t 0))), ((b 8), .inl (cI, 7, .inl g))]) := hD
        refine lv_iconst (v := 0) hx hb dX7_waysTo_21 (by decide) ?_
        refine lv_istore_n (lv' := [(2, .int 0), (0, .ref (b 0)), (1, .int (nI k))]) hx hb dX7_waysTo_22 rfl hl (by decide) rfl (fun ls hl => ?_)
        have lp23 : ∀ (n23 : Nat) (r : Nat) (w2 : Nat → Int32), 5 - r < n23 → (r ≤ 5) → (r = 0 ∨ w2 = wmG t r) → ∀ (H : Heap) (locs : List Loc) (ls : Array Slot), va_P D vwCl ([((b 0), .inr (7, [.ref (b 1), .ref (b 2), .ref (b 3), .int (nI kn), .ref (b 4), .int ik, .ref (b 5), .int (nI le), .int be, .int (nI sp), .int fo, .int op, .int ha, .int st, .ref (b 6), .ref (b 7), .ref (b 8)])), ((b 1), .inl (cI, 206, .inl (flatS t u))), ((b 7), .inl (cI, 7, .inl (wmG t r))), ((b 8), .inl (cI, 7, .inl w2))]) H → va_D A ([((b 0), .inr (7, [.ref (b 1), .ref (b 2), .ref (b 3), .int (nI kn), .ref (b 4), .int ik, .ref (b 5), .int (nI le), .int be, .int (nI sp), .int fo, .int op, .int ha, .int st, .ref (b 6), .ref (b 7), .ref (b 8)])), ((b 1), .inl (cI, 206, .inl (flatS t u))), ((b 7), .inl (cI, 7, .inl (wmG t r))), ((b 8), .inl (cI, 7, .inl w2))]) → va_S A H0 H locs → lv_has ls 3 [(0, .ref (b 0)), (1, .int (nI k)), (2, .int (nI r))] → W p9 l e9 (eR 3 69) s9 m9 a9 b9 t9 c9 H locs 0 0 Q (F0 m9 23 ls []) := by
          intro n23
          induction n23 with
          | zero => intro r w2 hm9; exact absurd hm9 (Nat.not_lt_zero _)
          | succ n23 ih23 =>
            intro r w2 hm23 hr ew2 H locs ls hP hD hS hl
            refine lv_iload_n hx hb dX7_waysTo_23 rfl (lv_at hl 2 rfl) ?_
            refine lv_iconst (v := 5) hx hb dX7_waysTo_24 (by decide) ?_
            refine lv_icmp_ge (tgt := 39) hx hb dX7_waysTo_25 (by decide) (fun c_2 => ?_) (fun c_2 => ?_)
            · have n_2 : 5 ≤ r := ej_tle (a := 5) (b := r) (by omega) (by omega) c_2
              have hP := ej_row (q := 2) (a := (b 7)) (cI := cI) (n := 7) (wmG t 5) hP rfl (fun j9 _ => by rw [show r = 5 by omega])
              have hD := ej_rowD (q := 2) (a := (b 7)) (cI := cI) (n := 7) (wmG t 5) hD rfl
              have hP : va_P D vwCl ([((b 0), .inr (7, [.ref (b 1), .ref (b 2), .ref (b 3), .int (nI kn), .ref (b 4), .int ik, .ref (b 5), .int (nI le), .int be, .int (nI sp), .int fo, .int op, .int ha, .int st, .ref (b 6), .ref (b 7), .ref (b 8)])), ((b 1), .inl (cI, 206, .inl (flatS t u))), ((b 7), .inl (cI, 7, .inl (wmG t 5))), ((b 8), .inl (cI, 7, .inl w2))]) _ := hP
              have hD : va_D A ([((b 0), .inr (7, [.ref (b 1), .ref (b 2), .ref (b 3), .int (nI kn), .ref (b 4), .int ik, .ref (b 5), .int (nI le), .int be, .int (nI sp), .int fo, .int op, .int ha, .int st, .ref (b 6), .ref (b 7), .ref (b 8)])), ((b 1), .inl (cI, 206, .inl (flatS t u))), ((b 7), .inl (cI, 7, .inl (wmG t 5))), ((b 8), .inl (cI, 7, .inl w2))]) := hD
              have hP := ej_row (q := 3) (a := (b 8)) (cI := cI) (n := 7) (wmG t 5) hP rfl (fun j9 _ => by rw [ew2.resolve_left (by omega), show r = 5 by omega])
              have hD := ej_rowD (q := 3) (a := (b 8)) (cI := cI) (n := 7) (wmG t 5) hD rfl
              have hP : va_P D vwCl ([((b 0), .inr (7, [.ref (b 1), .ref (b 2), .ref (b 3), .int (nI kn), .ref (b 4), .int ik, .ref (b 5), .int (nI le), .int be, .int (nI sp), .int fo, .int op, .int ha, .int st, .ref (b 6), .ref (b 7), .ref (b 8)])), ((b 1), .inl (cI, 206, .inl (flatS t u))), ((b 7), .inl (cI, 7, .inl (wmG t 5))), ((b 8), .inl (cI, 7, .inl (wmG t 5)))]) _ := hP
              have hD : va_D A ([((b 0), .inr (7, [.ref (b 1), .ref (b 2), .ref (b 3), .int (nI kn), .ref (b 4), .int ik, .ref (b 5), .int (nI le), .int be, .int (nI sp), .int fo, .int op, .int ha, .int st, .ref (b 6), .ref (b 7), .ref (b 8)])), ((b 1), .inl (cI, 206, .inl (flatS t u))), ((b 7), .inl (cI, 7, .inl (wmG t 5))), ((b 8), .inl (cI, 7, .inl (wmG t 5)))]) := hD
              refine lv_aload_n hx hb dX7_waysTo_39 rfl (lv_at hl 0 rfl) ?_
              refine va_get (D := D) (ci := 7) (v := .ref (b 7)) (C := RX7) (T := TX7) (N := 17) hx hb hts iX7 hown hK hP 0 rfl rfl 15 (Nat.le_of_ble_eq_true rfl) (hts (.fieldLink RX7 28 "BentPinsModel" "many" "[I") (List.mem_of_getElem? (i := 1) rfl)) (fun _ h9 => h9) rfl dX7_waysTo_40 ?_
              refine lv_iload_n hx hb dX7_waysTo_43 rfl (lv_at hl 1 rfl) ?_
              refine va_iald (i := nI k) hx hb hK hP 2 0 rfl ht0 (vp_in_nI (n := k) (N := 7) (by omega) (by omega)) dX7_waysTo_44 ?_
              refine ej_topi (show (wmG t 5) (nI k).toNatClampNeg = (wmG t 5) k from congrArg (wmG t 5) (nI_clamp (n := k) (by omega))) ?_
              exact hQ _ _ _ _ ((wmG t 5) k) ([((b 0), .inr (7, [.ref (b 1), .ref (b 2), .ref (b 3), .int (nI kn), .ref (b 4), .int ik, .ref (b 5), .int (nI le), .int be, .int (nI sp), .int fo, .int op, .int ha, .int st, .ref (b 6), .ref (b 7), .ref (b 8)])), ((b 1), .inl (cI, 206, .inl (flatS t u))), ((b 7), .inl (cI, 7, .inl (wmG t 5))), ((b 8), .inl (cI, 7, .inl (wmG t 5)))]) dX7_waysTo_45 (by first | (simp only [n_1, c_1, n_2, c_2, if_true, if_false, ite_true, ite_false, not_true_eq_false, not_false_eq_true, and_true, true_and, and_false, false_and, and_self, true_or, or_true, or_false, false_or, reduceIte]; done) | rfl | simp [n_1, c_1, n_2, c_2]) (by first | (simp only [n_1, c_1, n_2, c_2, if_true, if_false, ite_true, ite_false, not_true_eq_false, not_false_eq_true, and_true, true_and, and_false, false_and, and_self, true_or, or_true, or_false, false_or, reduceIte]; done) | rfl | simp [n_1, c_1, n_2, c_2]) hP hS
            · have n_2 : r < 5 := ej_tnle (a := 5) (b := r) (by omega) (by omega) c_2
              refine lv_aload_n hx hb dX7_waysTo_28 rfl (lv_at hl 0 rfl) ?_
              refine lv_iload_n hx hb dX7_waysTo_29 rfl (lv_at hl 2 rfl) ?_
              refine ej_V (As := [.int (nI r)]) (rest := []) (w' := [((b 0), .inr (7, [.ref (b 1), .ref (b 2), .ref (b 3), .int (nI kn), .ref (b 4), .int ik, .ref (b 5), .int (nI le), .int be, .int (nI sp), .int fo, .int op, .int ha, .int st, .ref (b 6), .ref (b 7), .ref (b 8)])), ((b 1), .inl (cI, 206, .inl (flatS t u))), ((b 7), .inl (cI, 7, .inl (spG t r (wmG t r) 7))), ((b 8), .inl (cI, 7, .inl (spG t r (wmG t r) 7)))]) S hK hN hA hP hD hS (c_X7_spreads l D tys cI ht0 b kn le sp ik be fo op ha st t u (wmG t r) w2 r (by omega) (by omega) (by omega)) (cwV 1 hts gX7_waysTo_X7_spreads rfl rfl rfl hdv_X7_spreads ⟨Nat.le_of_ble_eq_true rfl, Nat.le_of_ble_eq_true rfl⟩) [0, 1, 2, 3] [some 0, some 1, some 2, some 3] [(b 0), (b 1), (b 7), (b 8)] rfl (by decide +kernel) ⟨rfl, rfl⟩ rfl (by decide +kernel) 0 7 rfl rfl rfl rfl hl.1 (Nat.le_of_ble_eq_true rfl) dX7_waysTo_30 ⟨Nat.zero_le _, Nat.zero_le _⟩ (fun H locs hP hD hS => ?_)
              show W p9 l e9 (eR 3 69) s9 m9 a9 b9 t9 c9 H locs 0 0 Q (F0 m9 33 ls [])
              have hP := ej_row (q := 2) (a := (b 7)) (cI := cI) (n := 7) (wmG t (r + 1)) hP rfl (fun j9 _ => rfl)
              have hD := ej_rowD (q := 2) (a := (b 7)) (cI := cI) (n := 7) (wmG t (r + 1)) hD rfl
              have hP : va_P D vwCl ([((b 0), .inr (7, [.ref (b 1), .ref (b 2), .ref (b 3), .int (nI kn), .ref (b 4), .int ik, .ref (b 5), .int (nI le), .int be, .int (nI sp), .int fo, .int op, .int ha, .int st, .ref (b 6), .ref (b 7), .ref (b 8)])), ((b 1), .inl (cI, 206, .inl (flatS t u))), ((b 7), .inl (cI, 7, .inl (wmG t (r + 1)))), ((b 8), .inl (cI, 7, .inl (spG t r (wmG t r) 7)))]) _ := hP
              have hD : va_D A ([((b 0), .inr (7, [.ref (b 1), .ref (b 2), .ref (b 3), .int (nI kn), .ref (b 4), .int ik, .ref (b 5), .int (nI le), .int be, .int (nI sp), .int fo, .int op, .int ha, .int st, .ref (b 6), .ref (b 7), .ref (b 8)])), ((b 1), .inl (cI, 206, .inl (flatS t u))), ((b 7), .inl (cI, 7, .inl (wmG t (r + 1)))), ((b 8), .inl (cI, 7, .inl (spG t r (wmG t r) 7)))]) := hD
              have hP := ej_row (q := 3) (a := (b 8)) (cI := cI) (n := 7) (wmG t (r + 1)) hP rfl (fun j9 _ => rfl)
              have hD := ej_rowD (q := 3) (a := (b 8)) (cI := cI) (n := 7) (wmG t (r + 1)) hD rfl
              have hP : va_P D vwCl ([((b 0), .inr (7, [.ref (b 1), .ref (b 2), .ref (b 3), .int (nI kn), .ref (b 4), .int ik, .ref (b 5), .int (nI le), .int be, .int (nI sp), .int fo, .int op, .int ha, .int st, .ref (b 6), .ref (b 7), .ref (b 8)])), ((b 1), .inl (cI, 206, .inl (flatS t u))), ((b 7), .inl (cI, 7, .inl (wmG t (r + 1)))), ((b 8), .inl (cI, 7, .inl (wmG t (r + 1))))]) _ := hP
              have hD : va_D A ([((b 0), .inr (7, [.ref (b 1), .ref (b 2), .ref (b 3), .int (nI kn), .ref (b 4), .int ik, .ref (b 5), .int (nI le), .int be, .int (nI sp), .int fo, .int op, .int ha, .int st, .ref (b 6), .ref (b 7), .ref (b 8)])), ((b 1), .inl (cI, 206, .inl (flatS t u))), ((b 7), .inl (cI, 7, .inl (wmG t (r + 1)))), ((b 8), .inl (cI, 7, .inl (wmG t (r + 1))))]) := hD
              refine lv_iinc (v := nI (r + 1)) (lv' := [(2, .int (nI (r + 1))), (0, .ref (b 0)), (1, .int (nI k))]) hx hb dX7_waysTo_33 hl (k := 2) rfl (nI_add r 1) (by decide) rfl (fun ls hl => ?_)
              refine lv_goto (tgt := 23) hx hb dX7_waysTo_36 (by decide) ?_
              exact ih23  (r + 1) (wmG t (r + 1)) (by omega) (by omega) (Or.inr rfl) _ _ _ hP hD hS (lv_sub hl [1, 2, 0] rfl)
        exact lp23 ((5 - 0) + 1) 0 g (by omega) (by omega) (Or.inl rfl) _ _ _ hP hD hS (lv_sub hl [1, 2, 0] rfl)
      · have n_1 : i < 7 := ej_tnle (a := 7) (b := i) (by omega) (by omega) c_1
        refine lv_aload_n hx hb dX7_waysTo_8 rfl (lv_at hl 0 rfl) ?_
        refine va_get (D := D) (ci := 7) (v := .ref (b 7)) (C := RX7) (T := TX7) (N := 17) hx hb hts iX7 hown hK hP 0 rfl rfl 15 (Nat.le_of_ble_eq_true rfl) (hts (.fieldLink RX7 28 "BentPinsModel" "many" "[I") (List.mem_of_getElem? (i := 1) rfl)) (fun _ h9 => h9) rfl dX7_waysTo_9 ?_
        refine lv_iload_n hx hb dX7_waysTo_12 rfl (lv_at hl 2 rfl) ?_
        refine lv_iconst (v := 1) hx hb dX7_waysTo_13 (by decide) ?_
        refine va_iast (i := nI i) hx hb hK hP hD hS 2 0 rfl ht0 (vp_in_nI (n := i) (N := 7) (by omega) (by omega)) dX7_waysTo_14 (fun H locs hP hD hS => ?_)
        rw [show (nI i).toNatClampNeg = i from nI_clamp (by omega)] at hP hD
        have hP : va_P D vwCl ([((b 0), .inr (7, [.ref (b 1), .ref (b 2), .ref (b 3), .int (nI kn), .ref (b 4), .int ik, .ref (b 5), .int (nI le), .int be, .int (nI sp), .int fo, .int op, .int ha, .int st, .ref (b 6), .ref (b 7), .ref (b 8)])), ((b 1), .inl (cI, 206, .inl (flatS t u))), ((b 7), .inl (cI, 7, .inl (upd w1 i 1))), ((b 8), .inl (cI, 7, .inl g))]) H := hP
        have hD : va_D A ([((b 0), .inr (7, [.ref (b 1), .ref (b 2), .ref (b 3), .int (nI kn), .ref (b 4), .int ik, .ref (b 5), .int (nI le), .int be, .int (nI sp), .int fo, .int op, .int ha, .int st, .ref (b 6), .ref (b 7), .ref (b 8)])), ((b 1), .inl (cI, 206, .inl (flatS t u))), ((b 7), .inl (cI, 7, .inl (upd w1 i 1))), ((b 8), .inl (cI, 7, .inl g))]) := hD
        refine lv_iinc (v := nI (i + 1)) (lv' := [(2, .int (nI (i + 1))), (0, .ref (b 0)), (1, .int (nI k))]) hx hb dX7_waysTo_15 hl (k := 2) rfl (nI_add i 1) (by decide) rfl (fun ls hl => ?_)
        refine lv_goto (tgt := 2) hx hb dX7_waysTo_18 (by decide) ?_
        exact ih2  (i + 1) (upd w1 i 1) (by omega) (by omega) (by rw [ew1]; exact zeG_s _ _ _) _ _ _ hP hD hS (lv_sub hl [1, 2, 0] rfl)
  exact lp2 ((7 - 0) + 1) 0 m (by omega) (by omega) (zeG_0 _ _) _ _ _ hP hD hS (lv_sub hl [1, 2, 0] rfl)
