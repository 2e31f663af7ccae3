set_option maxHeartbeats 4000000 in
set_option maxRecDepth 100000 in
theorem c_X7_spreads (l : Launch) (D : va_G) (tys : eT) (cI : ClassId) (ht0 : tys[0]? = some (cI, .int)) (b : Nat → Nat) (kn le sp : Nat) (ik be fo op ha st : Int32) (t : Pn) (u : Tr) (m g : Nat → Int32) (r : Nat)  (hr : r < 5) (htl : tilOK t) (hout : outOK t) : fc l D tys yX7_spreads wsX7_spreads (eR 2 44) [.ref (b 0), .int (nI r)] ([((b 0), .inr (7, [.ref (b 1), .ref (b 2), .ref (b 3), .int (nI kn), .ref (b 4), .int ik, .ref (b 5), .int (nI le), .int be, .int (nI sp), .int fo, .int op, .int ha, .int st, .ref (b 6), .ref (b 7), .ref (b 8)])), ((b 1), .inl (cI, 206, .inl (flatS t u))), ((b 7), .inl (cI, 7, .inl m)), ((b 8), .inl (cI, 7, .inl g))]) none ([((b 0), .inr (7, [.ref (b 1), .ref (b 2), .ref (b 3), .int (nI kn), .ref (b 4), .int ik, .ref (b 5), .int (nI le), .int be, .int (nI sp), .int fo, .int op, .int ha, .int st, .ref (b 6), .ref (b 7), .ref (b 8)])), ((b 1), .inl (cI, 206, .inl (flatS t u))), ((b 7), .inl (cI, 7, .inl (spG t r m 7))), ((b 8), .inl (cI, 7, .inl (spG t r m 7)))]) := by
  refine fc_void cX7_spreads 6 (by decide +kernel) rfl (Nat.le_of_ble_eq_true rfl) ?_
  intro p9 e9 s9 m9 a9 b9 t9 c9 H0 A Q ls S hK hN hA hP hD hS hl hQ
  have S : CallFix p9 m9 c9 cX7_spreads 6 s9 a9 wsX7_spreads RX7 := S
  obtain ⟨hx, hb, hml, hown, hts⟩ := id S
  have iX7 : ∀ w ∈ wsX70, w ∈ wsX7_spreads := fun w h => List.mem_cons_of_mem _ (List.mem_append_right _ (h))
  have hP : va_P D vwCl ([((b 0), .inr (7, [.ref (b 1), .ref (b 2), .ref (b 3), .int (nI kn), .ref (b 4), .int ik, .ref (b 5), .int (nI le), .int be, .int (nI sp), .int fo, .int op, .int ha, .int st, .ref (b 6), .ref (b 7), .ref (b 8)])), ((b 1), .inl (cI, 206, .inl (flatS t u))), ((b 7), .inl (cI, 7, .inl m)), ((b 8), .inl (cI, 7, .inl g))]) H0 := hP
  have hD : va_D A ([((b 0), .inr (7, [.ref (b 1), .ref (b 2), .ref (b 3), .int (nI kn), .ref (b 4), .int ik, .ref (b 5), .int (nI le), .int be, .int (nI sp), .int fo, .int op, .int ha, .int st, .ref (b 6), .ref (b 7), .ref (b 8)])), ((b 1), .inl (cI, 206, .inl (flatS t u))), ((b 7), .inl (cI, 7, .inl m)), ((b 8), .inl (cI, 7, .inl g))]) := hD
  have hl : lv_has ls 6 [(0, .ref (b 0)), (1, .int (nI r))] := hl
  refine lv_iconst (v := 0) hx hb dX7_spreads_0 (by decide) ?_
  refine lv_istore_n (lv' := [(2, .int 0), (0, .ref (b 0)), (1, .int (nI r))]) hx hb dX7_spreads_1 rfl hl (by decide) rfl (fun ls hl => ?_)
  have lp2 : ∀ (n2 : Nat) (i : Nat) (w1 : Nat → Int32), 7 - i < n2 → (i ≤ 7) → (w1 = zeG g i 0) → ∀ (H : Heap) (locs : List Loc) (ls : Array Slot), va_P D vwCl ([((b 0), .inr (7, [.ref (b 1), .ref (b 2), .ref (b 3), .int (nI kn), .ref (b 4), .int ik, .ref (b 5), .int (nI le), .int be, .int (nI sp), .int fo, .int op, .int ha, .int st, .ref (b 6), .ref (b 7), .ref (b 8)])), ((b 1), .inl (cI, 206, .inl (flatS t u))), ((b 7), .inl (cI, 7, .inl m)), ((b 8), .inl (cI, 7, .inl w1))]) H → va_D A ([((b 0), .inr (7, [.ref (b 1), .ref (b 2), .ref (b 3), .int (nI kn), .ref (b 4), .int ik, .ref (b 5), .int (nI le), .int be, .int (nI sp), .int fo, .int op, .int ha, .int st, .ref (b 6), .ref (b 7), .ref (b 8)])), ((b 1), .inl (cI, 206, .inl (flatS t u))), ((b 7), .inl (cI, 7, .inl m)), ((b 8), .inl (cI, 7, .inl w1))]) → va_S A H0 H locs → lv_has ls 6 [(0, .ref (b 0)), (1, .int (nI r)), (2, .int (nI i))] → W p9 l e9 (eR 2 44) s9 m9 a9 b9 t9 c9 H locs 0 0 Q (F0 m9 2 ls []) := by
    intro n2
    induction n2 with
    | zero => intro i w1 hm9; exact absurd hm9 (Nat.not_lt_zero _)
    | succ n2 ih2 =>
      intro i w1 hm2 hi ew1 H locs ls hP hD hS hl
      refine lv_iload_n hx hb dX7_spreads_2 rfl (lv_at hl 2 rfl) ?_
      refine lv_bipush (v := 7) hx hb dX7_spreads_3 (by decide) ?_
      refine lv_icmp_ge (tgt := 21) hx hb dX7_spreads_5 (by decide) (fun c_1 => ?_) (fun c_1 => ?_)
      · have n_1 : 7 ≤ i := ej_tle (a := 7) (b := i) (by omega) (by omega) c_1
        have hP := ej_row (q := 3) (a := (b 8)) (cI := cI) (n := 7) (fun _ => 0) hP rfl (fun j9 hj9 => by rw [ew1, show i = 7 by omega, zeG, if_pos hj9])
        have hD := ej_rowD (q := 3) (a := (b 8)) (cI := cI) (n := 7) (fun _ => 0) hD rfl
        have hP : va_P D vwCl ([((b 0), .inr (7, [.ref (b 1), .ref (b 2), .ref (b 3), .int (nI kn), .ref (b 4), .int ik, .ref (b 5), .int (nI le), .int be, .int (nI sp), .int fo, .int op, .int ha, .int st, .ref (b 6), .ref (b 7), .ref (b 8)])), ((b 1), .inl (cI, 206, .inl (flatS t u))), ((b 7), .inl (cI, 7, .inl m)), ((b 8), .inl (cI, 7, .inl (fun _ => 0)))]) _ := hP
        have hD : va_D A ([((b 0), .inr (7, [.ref (b 1), .ref (b 2), .ref (b 3), .int (nI kn), .ref (b 4), .int ik, .ref (b 5), .int (nI le), .int be, .int (nI sp), .int fo, .int op, .int ha, .int st, .ref (b 6), .ref (b 7), .ref (b 8)])), ((b 1), .inl (cI, 206, .inl (flatS t u))), ((b 7), .inl (cI, 7, .inl m)), ((b 8), .inl (cI, 7, .inl (fun _ => 0)))]) := hD
        refine lv_iconst (v := 0) hx hb dX7_spreads_21 (by decide) ?_
        refine lv_istore_n (lv' := [(2, .int 0), (0, .ref (b 0)), (1, .int (nI r))]) hx hb dX7_spreads_22 rfl hl (by decide) rfl (fun ls hl => ?_)
        have lp23 : ∀ (n23 : Nat) (c : Nat) (w2 : Nat → Int32), 7 - c < n23 → (c ≤ 7) → (w2 = spG t r m c) → ∀ (H : Heap) (locs : List Loc) (ls : Array Slot), va_P D vwCl ([((b 0), .inr (7, [.ref (b 1), .ref (b 2), .ref (b 3), .int (nI kn), .ref (b 4), .int ik, .ref (b 5), .int (nI le), .int be, .int (nI sp), .int fo, .int op, .int ha, .int st, .ref (b 6), .ref (b 7), .ref (b 8)])), ((b 1), .inl (cI, 206, .inl (flatS t u))), ((b 7), .inl (cI, 7, .inl m)), ((b 8), .inl (cI, 7, .inl w2))]) H → va_D A ([((b 0), .inr (7, [.ref (b 1), .ref (b 2), .ref (b 3), .int (nI kn), .ref (b 4), .int ik, .ref (b 5), .int (nI le), .int be, .int (nI sp), .int fo, .int op, .int ha, .int st, .ref (b 6), .ref (b 7), .ref (b 8)])), ((b 1), .inl (cI, 206, .inl (flatS t u))), ((b 7), .inl (cI, 7, .inl m)), ((b 8), .inl (cI, 7, .inl w2))]) → va_S A H0 H locs → lv_has ls 6 [(0, .ref (b 0)), (1, .int (nI r)), (2, .int (nI c))] → W p9 l e9 (eR 2 44) s9 m9 a9 b9 t9 c9 H locs 0 0 Q (F0 m9 23 ls []) := by
          intro n23
          induction n23 with
          | zero => intro c w2 hm9; exact absurd hm9 (Nat.not_lt_zero _)
          | succ n23 ih23 =>
            intro c w2 hm23 hc ew2 H locs ls hP hD hS hl
            refine lv_iload_n hx hb dX7_spreads_23 rfl (lv_at hl 2 rfl) ?_
            refine lv_bipush (v := 7) hx hb dX7_spreads_24 (by decide) ?_
            refine lv_icmp_ge (tgt := 145) hx hb dX7_spreads_26 (by decide) (fun c_2 => ?_) (fun c_2 => ?_)
            · have n_2 : 7 ≤ c := ej_tle (a := 7) (b := c) (by omega) (by omega) c_2
              refine lv_iconst (v := 0) hx hb dX7_spreads_145 (by decide) ?_
              refine lv_istore_n (lv' := [(2, .int 0), (0, .ref (b 0)), (1, .int (nI r))]) hx hb dX7_spreads_146 rfl hl (by decide) rfl (fun ls hl => ?_)
              have lp147 : ∀ (n147 : Nat) (j : Nat) (w3 : Nat → Int32), 7 - j < n147 → (j ≤ 7) → (w3 = cpyG w2 m 0 0 j) → ∀ (H : Heap) (locs : List Loc) (ls : Array Slot), va_P D vwCl ([((b 0), .inr (7, [.ref (b 1), .ref (b 2), .ref (b 3), .int (nI kn), .ref (b 4), .int ik, .ref (b 5), .int (nI le), .int be, .int (nI sp), .int fo, .int op, .int ha, .int st, .ref (b 6), .ref (b 7), .ref (b 8)])), ((b 1), .inl (cI, 206, .inl (flatS t u))), ((b 7), .inl (cI, 7, .inl w3)), ((b 8), .inl (cI, 7, .inl w2))]) H → va_D A ([((b 0), .inr (7, [.ref (b 1), .ref (b 2), .ref (b 3), .int (nI kn), .ref (b 4), .int ik, .ref (b 5), .int (nI le), .int be, .int (nI sp), .int fo, .int op, .int ha, .int st, .ref (b 6), .ref (b 7), .ref (b 8)])), ((b 1), .inl (cI, 206, .inl (flatS t u))), ((b 7), .inl (cI, 7, .inl w3)), ((b 8), .inl (cI, 7, .inl w2))]) → va_S A H0 H locs → lv_has ls 6 [(0, .ref (b 0)), (1, .int (nI r)), (2, .int (nI j))] → W p9 l e9 (eR 2 44) s9 m9 a9 b9 t9 c9 H locs 0 0 Q (F0 m9 147 ls []) := by
                intro n147
                induction n147 with
                | zero => intro j w3 hm9; exact absurd hm9 (Nat.not_lt_zero _)
                | succ n147 ih147 =>
                  intro j w3 hm147 hj ew3 H locs ls hP hD hS hl
                  refine lv_iload_n hx hb dX7_spreads_147 rfl (lv_at hl 2 rfl) ?_
                  refine lv_bipush (v := 7) hx hb dX7_spreads_148 (by decide) ?_
                  refine lv_icmp_ge (tgt := 171) hx hb dX7_spreads_150 (by decide) (fun c_3 => ?_) (fun c_3 => ?_)
                  · have n_3 : 7 ≤ j := ej_tle (a := 7) (b := j) (by omega) (by omega) c_3
                    have hP := ej_row (q := 2) (a := (b 7)) (cI := cI) (n := 7) (spG t r m 7) hP rfl (fun j9 hj9 => by rw [ew3, show j = 7 by omega, cpyG, if_pos (by omega), ew2, show c = 7 by omega]; congr 1; omega)
                    have hD := ej_rowD (q := 2) (a := (b 7)) (cI := cI) (n := 7) (spG t r m 7) hD rfl
                    have hP : va_P D vwCl ([((b 0), .inr (7, [.ref (b 1), .ref (b 2), .ref (b 3), .int (nI kn), .ref (b 4), .int ik, .ref (b 5), .int (nI le), .int be, .int (nI sp), .int fo, .int op, .int ha, .int st, .ref (b 6), .ref (b 7), .ref (b 8)])), ((b 1), .inl (cI, 206, .inl (flatS t u))), ((b 7), .inl (cI, 7, .inl (spG t r m 7))), ((b 8), .inl (cI, 7, .inl w2))]) _ := hP
                    have hD : va_D A ([((b 0), .inr (7, [.ref (b 1), .ref (b 2), .ref (b 3), .int (nI kn), .ref (b 4), .int ik, .ref (b 5), .int (nI le), .int be, .int (nI sp), .int fo, .int op, .int ha, .int st, .ref (b 6), .ref (b 7), .ref (b 8)])), ((b 1), .inl (cI, 206, .inl (flatS t u))), ((b 7), .inl (cI, 7, .inl (spG t r m 7))), ((b 8), .inl (cI, 7, .inl w2))]) := hD
                    have hP := ej_row (q := 3) (a := (b 8)) (cI := cI) (n := 7) (spG t r m 7) hP rfl (fun j9 _ => by rw [ew2, show c = 7 by omega])
                    have hD := ej_rowD (q := 3) (a := (b 8)) (cI := cI) (n := 7) (spG t r m 7) hD rfl
                    have hP : va_P D vwCl ([((b 0), .inr (7, [.ref (b 1), .ref (b 2), .ref (b 3), .int (nI kn), .ref (b 4), .int ik, .ref (b 5), .int (nI le), .int be, .int (nI sp), .int fo, .int op, .int ha, .int st, .ref (b 6), .ref (b 7), .ref (b 8)])), ((b 1), .inl (cI, 206, .inl (flatS t u))), ((b 7), .inl (cI, 7, .inl (spG t r m 7))), ((b 8), .inl (cI, 7, .inl (spG t r m 7)))]) _ := hP
                    have hD : va_D A ([((b 0), .inr (7, [.ref (b 1), .ref (b 2), .ref (b 3), .int (nI kn), .ref (b 4), .int ik, .ref (b 5), .int (nI le), .int be, .int (nI sp), .int fo, .int op, .int ha, .int st, .ref (b 6), .ref (b 7), .ref (b 8)])), ((b 1), .inl (cI, 206, .inl (flatS t u))), ((b 7), .inl (cI, 7, .inl (spG t r m 7))), ((b 8), .inl (cI, 7, .inl (spG t r m 7)))]) := hD
                    exact hQ _ _ _ _ ([((b 0), .inr (7, [.ref (b 1), .ref (b 2), .ref (b 3), .int (nI kn), .ref (b 4), .int ik, .ref (b 5), .int (nI le), .int be, .int (nI sp), .int fo, .int op, .int ha, .int st, .ref (b 6), .ref (b 7), .ref (b 8)])), ((b 1), .inl (cI, 206, .inl (flatS t u))), ((b 7), .inl (cI, 7, .inl (spG t r m 7))), ((b 8), .inl (cI, 7, .inl (spG t r m 7)))]) dX7_spreads_171 (by first | (simp only [n_1, c_1, n_2, c_2, n_3, c_3, if_true, if_false, ite_true, ite_false, not_true_eq_false, not_false_eq_true, and_true, true_and, and_false, false_and, and_self, true_or, or_true, or_false, false_or, reduceIte]; done) | rfl | simp [n_1, c_1, n_2, c_2, n_3, c_3]) hP hS
                  · have n_3 : j < 7 := ej_tnle (a := 7) (b := j) (by omega) (by omega) c_3
                    refine lv_aload_n hx hb dX7_spreads_153 rfl (lv_at hl 0 rfl) ?_
                    refine va_get (D := D) (ci := 7) (v := .ref (b 7)) (C := RX7) (T := TX7) (N := 17) hx hb hts iX7 hown hK hP 0 rfl rfl 15 (Nat.le_of_ble_eq_true rfl) (hts (.fieldLink RX7 28 "BentPinsModel" "many" "[I") (List.mem_of_getElem? (i := 2) rfl)) (fun _ h9 => h9) rfl dX7_spreads_154 ?_
                    refine lv_iload_n hx hb dX7_spreads_157 rfl (lv_at hl 2 rfl) ?_
                    refine lv_aload_n hx hb dX7_spreads_158 rfl (lv_at hl 0 rfl) ?_
                    refine va_get (D := D) (ci := 7) (v := .ref (b 8)) (C := RX7) (T := TX7) (N := 17) hx hb hts iX7 hown hK hP 0 rfl rfl 16 (Nat.le_of_ble_eq_true rfl) (hts (.fieldLink RX7 31 "BentPinsModel" "then" "[I") (List.mem_of_getElem? (i := 1) rfl)) (fun _ h9 => h9) rfl dX7_spreads_159 ?_
                    refine lv_iload_n hx hb dX7_spreads_162 rfl (lv_at hl 2 rfl) ?_
                    refine va_iald (i := nI j) hx hb hK hP 3 0 rfl ht0 (vp_in_nI (n := j) (N := 7) (by omega) (by omega)) dX7_spreads_163 ?_
                    refine ej_topi (show w2 (nI j).toNatClampNeg = w2 j from congrArg w2 (nI_clamp (n := j) (by omega))) ?_
                    refine va_iast (i := nI j) hx hb hK hP hD hS 2 0 rfl ht0 (vp_in_nI (n := j) (N := 7) (by omega) (by omega)) dX7_spreads_164 (fun H locs hP hD hS => ?_)
                    rw [show (nI j).toNatClampNeg = j from nI_clamp (by omega)] at hP hD
                    have hP : va_P D vwCl ([((b 0), .inr (7, [.ref (b 1), .ref (b 2), .ref (b 3), .int (nI kn), .ref (b 4), .int ik, .ref (b 5), .int (nI le), .int be, .int (nI sp), .int fo, .int op, .int ha, .int st, .ref (b 6), .ref (b 7), .ref (b 8)])), ((b 1), .inl (cI, 206, .inl (flatS t u))), ((b 7), .inl (cI, 7, .inl (upd w3 j (w2 j)))), ((b 8), .inl (cI, 7, .inl w2))]) H := hP
                    have hD : va_D A ([((b 0), .inr (7, [.ref (b 1), .ref (b 2), .ref (b 3), .int (nI kn), .ref (b 4), .int ik, .ref (b 5), .int (nI le), .int be, .int (nI sp), .int fo, .int op, .int ha, .int st, .ref (b 6), .ref (b 7), .ref (b 8)])), ((b 1), .inl (cI, 206, .inl (flatS t u))), ((b 7), .inl (cI, 7, .inl (upd w3 j (w2 j)))), ((b 8), .inl (cI, 7, .inl w2))]) := hD
                    refine lv_iinc (v := nI (j + 1)) (lv' := [(2, .int (nI (j + 1))), (0, .ref (b 0)), (1, .int (nI r))]) hx hb dX7_spreads_165 hl (k := 2) rfl (nI_add j 1) (by decide) rfl (fun ls hl => ?_)
                    refine lv_goto (tgt := 147) hx hb dX7_spreads_168 (by decide) ?_
                    exact ih147  (j + 1) (upd w3 j (w2 j)) (by omega) (by omega) (by rw [ew3]; exact cpS_s _ _ _) _ _ _ hP hD hS (lv_sub hl [1, 2, 0] rfl)
              exact lp147 ((7 - 0) + 1) 0 m (by omega) (by omega) (cpyG_0 _ _ _ _) _ _ _ hP hD hS (lv_sub hl [1, 2, 0] rfl)
            · have n_2 : c < 7 := ej_tnle (a := 7) (b := c) (by omega) (by omega) c_2
              refine lv_bipush (v := 7) hx hb dX7_spreads_29 (by decide) ?_
              refine lv_iload_n hx hb dX7_spreads_31 rfl (lv_at hl 1 rfl) ?_
              refine lv_imul hx hb dX7_spreads_32 ?_
              refine ej_topi (show 7 * (nI r) = nI (7 * r) from pk_mul 7 r) ?_
              refine lv_iload_n hx hb dX7_spreads_33 rfl (lv_at hl 2 rfl) ?_
              refine lv_iadd hx hb dX7_spreads_34 ?_
              refine ej_topi (show (nI (7 * r)) + (nI c) = nI ((7 * r) + c) from nI_add (7 * r) c) ?_
              refine lv_istore_n (lv' := [(3, .int (nI ((7 * r) + c))), (0, .ref (b 0)), (1, .int (nI r)), (2, .int (nI c))]) hx hb dX7_spreads_35 rfl hl (by decide) rfl (fun ls hl => ?_)
              refine lv_aload_n hx hb dX7_spreads_36 rfl (lv_at hl 1 rfl) ?_
              refine lv_iload_n hx hb dX7_spreads_37 rfl (lv_at hl 0 rfl) ?_
              refine lv_iconst (v := 1) hx hb dX7_spreads_38 (by decide) ?_
              refine ej_V (As := [.int (nI ((7 * r) + c)), .int 1]) (rest := []) (w' := [((b 0), .inr (7, [.ref (b 1), .ref (b 2), .ref (b 3), .int (nI kn), .ref (b 4), .int ik, .ref (b 5), .int (nI le), .int be, .int (nI sp), .int fo, .int op, .int ha, .int st, .ref (b 6), .ref (b 7), .ref (b 8)])), ((b 1), .inl (cI, 206, .inl (flatS t u))), ((b 7), .inl (cI, 7, .inl m)), ((b 8), .inl (cI, 7, .inl w2))]) S hK hN hA hP hD hS (c_X7_of l D tys cI ht0 b kn le sp ik be fo op ha st (flatS t u) ((7 * r) + c) 1 (by omega) (by omega)) (cwV 2 hts gX7_spreads_X7_of rfl rfl rfl hdv_X7_of ⟨Nat.le_of_ble_eq_true rfl, Nat.le_of_ble_eq_true rfl⟩) [0, 1] [some 0, some 1] [(b 0), (b 1)] rfl (by decide +kernel) ⟨rfl, rfl⟩ rfl (by decide +kernel) 0 7 rfl rfl rfl rfl hl.1 (Nat.le_of_ble_eq_true rfl) dX7_spreads_39 ⟨Nat.zero_le _, Nat.zero_le _⟩ (fun H locs hP hD hS => ?_)
              show W p9 l e9 (eR 2 44) s9 m9 a9 b9 t9 c9 H locs 0 0 Q (F0 m9 42 ls (.int ((flatS t u) (10 + 5 * ((7 * r) + c) + 1)) :: []))
              refine ej_topi (show ((flatS t u) (10 + 5 * ((7 * r) + c) + 1)) = P_ou t ((7 * r) + c) from flS_1 t u (by omega)) ?_
              refine lv_iconst (v := 1) hx hb dX7_spreads_42 (by decide) ?_
              refine lv_icmp_ne (tgt := 50) hx hb dX7_spreads_43 (by decide) (fun c_4 => ?_) (fun c_4 => ?_)
              · have o_4 : P_ou t (7 * r + c) = 0 := (hout (7 * r + c) (by omega)).resolve_right c_4
                refine lv_aload_n hx hb dX7_spreads_50 rfl (lv_at hl 1 rfl) ?_
                refine lv_iload_n hx hb dX7_spreads_51 rfl (lv_at hl 0 rfl) ?_
                refine ej_V (As := [.int (nI ((7 * r) + c))]) (rest := []) (w' := [((b 0), .inr (7, [.ref (b 1), .ref (b 2), .ref (b 3), .int (nI kn), .ref (b 4), .int ik, .ref (b 5), .int (nI le), .int be, .int (nI sp), .int fo, .int op, .int ha, .int st, .ref (b 6), .ref (b 7), .ref (b 8)])), ((b 1), .inl (cI, 206, .inl (flatS t u))), ((b 7), .inl (cI, 7, .inl m)), ((b 8), .inl (cI, 7, .inl w2))]) S hK hN hA hP hD hS (c_X7_sends l D tys cI ht0 b kn le sp ik be fo op ha st t u ((7 * r) + c) (by omega)) (cwV 1 hts gX7_spreads_X7_sends rfl rfl rfl hdv_X7_sends ⟨Nat.le_of_ble_eq_true rfl, Nat.le_of_ble_eq_true rfl⟩) [0, 1] [some 0, some 1] [(b 0), (b 1)] rfl (by decide +kernel) ⟨rfl, rfl⟩ rfl (by decide +kernel) 0 7 rfl rfl rfl rfl hl.1 (Nat.le_of_ble_eq_true rfl) dX7_spreads_52 ⟨Nat.zero_le _, Nat.zero_le _⟩ (fun H locs hP hD hS => ?_)
                show W p9 l e9 (eR 2 44) s9 m9 a9 b9 t9 c9 H locs 0 0 Q (F0 m9 55 ls (.int (leanT t ((7 * r) + c)) :: []))
                refine lv_istore (lv' := [(4, .int (leanT t ((7 * r) + c))), (3, .int (nI ((7 * r) + c))), (0, .ref (b 0)), (1, .int (nI r)), (2, .int (nI c))]) hx hb dX7_spreads_55 hl (by decide) rfl (fun ls hl => ?_)
                refine lv_aload_n hx hb dX7_spreads_57 rfl (lv_at hl 2 rfl) ?_
                refine lv_iload_n hx hb dX7_spreads_58 rfl (lv_at hl 1 rfl) ?_
                refine lv_iconst (v := 1) hx hb dX7_spreads_59 (by decide) ?_
                refine ej_V (As := [.int (nI ((7 * r) + c)), .int 1]) (rest := []) (w' := [((b 0), .inr (7, [.ref (b 1), .ref (b 2), .ref (b 3), .int (nI kn), .ref (b 4), .int ik, .ref (b 5), .int (nI le), .int be, .int (nI sp), .int fo, .int op, .int ha, .int st, .ref (b 6), .ref (b 7), .ref (b 8)])), ((b 1), .inl (cI, 206, .inl (flatS t u))), ((b 7), .inl (cI, 7, .inl m)), ((b 8), .inl (cI, 7, .inl w2))]) S hK hN hA hP hD hS (c_X7_of l D tys cI ht0 b kn le sp ik be fo op ha st (flatS t u) ((7 * r) + c) 1 (by omega) (by omega)) (cwV 2 hts gX7_spreads_X7_of rfl rfl rfl hdv_X7_of ⟨Nat.le_of_ble_eq_true rfl, Nat.le_of_ble_eq_true rfl⟩) [0, 1] [some 0, some 1] [(b 0), (b 1)] rfl (by decide +kernel) ⟨rfl, rfl⟩ rfl (by decide +kernel) 0 7 rfl rfl rfl rfl hl.1 (Nat.le_of_ble_eq_true rfl) dX7_spreads_60 ⟨Nat.zero_le _, Nat.zero_le _⟩ (fun H locs hP hD hS => ?_)
                show W p9 l e9 (eR 2 44) s9 m9 a9 b9 t9 c9 H locs 0 0 Q (F0 m9 63 ls (.int ((flatS t u) (10 + 5 * ((7 * r) + c) + 1)) :: []))
                refine ej_topi (show ((flatS t u) (10 + 5 * ((7 * r) + c) + 1)) = P_ou t ((7 * r) + c) from flS_1 t u (by omega)) ?_
                refine lv_if_ne (tgt := 75) hx hb dX7_spreads_63 (by decide) (fun h9 => absurd (o_4) h9) (fun _ => ?_)
                refine lv_iload hx hb dX7_spreads_66 (lv_at hl 0 rfl) ?_
                refine lv_if_ne (tgt := 75) hx hb dX7_spreads_68 (by decide) (fun c_5 => ?_) (fun c_5 => ?_)
                · refine lv_iconst (v := 0) hx hb dX7_spreads_75 (by decide) ?_
                  refine lv_istore (lv' := [(5, .int 0), (4, .int (leanT t ((7 * r) + c))), (3, .int (nI ((7 * r) + c))), (0, .ref (b 0)), (1, .int (nI r)), (2, .int (nI c))]) hx hb dX7_spreads_76 hl (by decide) rfl (fun ls hl => ?_)
                  refine lv_aload_n hx hb dX7_spreads_78 rfl (lv_at hl 3 rfl) ?_
                  refine va_get (D := D) (ci := 7) (v := .ref (b 8)) (C := RX7) (T := TX7) (N := 17) hx hb hts iX7 hown hK hP 0 rfl rfl 16 (Nat.le_of_ble_eq_true rfl) (hts (.fieldLink RX7 31 "BentPinsModel" "then" "[I") (List.mem_of_getElem? (i := 1) rfl)) (fun _ h9 => h9) rfl dX7_spreads_79 ?_
                  refine lv_iload hx hb dX7_spreads_82 (lv_at hl 0 rfl) ?_
                  refine lv_if_eq (tgt := 95) hx hb dX7_spreads_84 (by decide) (fun _ => ?_) (fun h9 => absurd (show (0 : Int32) = 0 from by decide) h9)
                  refine lv_iload_n hx hb dX7_spreads_95 rfl (lv_at hl 5 rfl) ?_
                  refine lv_iload hx hb dX7_spreads_96 (lv_at hl 1 rfl) ?_
                  refine ej_S (As := [.int (nI c), .int (leanT t ((7 * r) + c))]) (rest := [.ref (b 8)]) (w' := [((b 0), .inr (7, [.ref (b 1), .ref (b 2), .ref (b 3), .int (nI kn), .ref (b 4), .int ik, .ref (b 5), .int (nI le), .int be, .int (nI sp), .int fo, .int op, .int ha, .int st, .ref (b 6), .ref (b 7), .ref (b 8)])), ((b 1), .inl (cI, 206, .inl (flatS t u))), ((b 7), .inl (cI, 7, .inl m)), ((b 8), .inl (cI, 7, .inl w2))]) S hK hN hA hP hD hS (c_X7_moved l D tys cI ht0 c (leanT t ((7 * r) + c)) (by omega) (leanT_ok htl _)) (va_cwS 2 hts gX7_spreads_X7_moved rfl rfl rfl hds_X7_moved ⟨Nat.le_of_ble_eq_true rfl, Nat.le_of_ble_eq_true rfl⟩) [] [] [] rfl (by decide +kernel) ⟨rfl, rfl⟩ rfl (by decide +kernel) rfl rfl hl.1 (Nat.le_of_ble_eq_true rfl) dX7_spreads_98 ⟨Nat.zero_le _, Nat.zero_le _⟩ (fun H locs hP hD hS => ?_)
                  show W p9 l e9 (eR 2 44) s9 m9 a9 b9 t9 c9 H locs 0 0 Q (F0 m9 101 ls (.int (nI (bes c (leanT t ((7 * r) + c)))) :: [.ref (b 8)]))
                  have hb8 := bes_lt (leanT t ((7 * r) + c)) (show c < 7 by omega)
                  refine lv_dup2_11 hx hb dX7_spreads_101 rfl rfl ?_
                  refine va_iald (i := nI (bes c (leanT t ((7 * r) + c)))) hx hb hK hP 3 0 rfl ht0 (vp_in_nI (n := bes c (leanT t ((7 * r) + c))) (N := 7) (by omega) (by omega)) dX7_spreads_102 ?_
                  refine ej_topi (show w2 (nI (bes c (leanT t ((7 * r) + c)))).toNatClampNeg = w2 (bes c (leanT t ((7 * r) + c))) from congrArg w2 (nI_clamp (n := bes c (leanT t ((7 * r) + c))) (by omega))) ?_
                  refine lv_aload_n hx hb dX7_spreads_103 rfl (lv_at hl 3 rfl) ?_
                  refine va_get (D := D) (ci := 7) (v := .ref (b 7)) (C := RX7) (T := TX7) (N := 17) hx hb hts iX7 hown hK hP 0 rfl rfl 15 (Nat.le_of_ble_eq_true rfl) (hts (.fieldLink RX7 28 "BentPinsModel" "many" "[I") (List.mem_of_getElem? (i := 2) rfl)) (fun _ h9 => h9) rfl dX7_spreads_104 ?_
                  refine lv_iload_n hx hb dX7_spreads_107 rfl (lv_at hl 5 rfl) ?_
                  refine va_iald (i := nI c) hx hb hK hP 2 0 rfl ht0 (vp_in_nI (n := c) (N := 7) (by omega) (by omega)) dX7_spreads_108 ?_
                  refine ej_topi (show m (nI c).toNatClampNeg = m c from congrArg m (nI_clamp (n := c) (by omega))) ?_
                  refine lv_iadd hx hb dX7_spreads_109 ?_
                  refine va_iast (i := nI (bes c (leanT t ((7 * r) + c)))) hx hb hK hP hD hS 3 0 rfl ht0 (vp_in_nI (n := bes c (leanT t ((7 * r) + c))) (N := 7) (by omega) (by omega)) dX7_spreads_110 (fun H locs hP hD hS => ?_)
                  rw [show (nI (bes c (leanT t ((7 * r) + c)))).toNatClampNeg = bes c (leanT t ((7 * r) + c)) from nI_clamp (by omega)] at hP hD
                  have hP : va_P D vwCl ([((b 0), .inr (7, [.ref (b 1), .ref (b 2), .ref (b 3), .int (nI kn), .ref (b 4), .int ik, .ref (b 5), .int (nI le), .int be, .int (nI sp), .int fo, .int op, .int ha, .int st, .ref (b 6), .ref (b 7), .ref (b 8)])), ((b 1), .inl (cI, 206, .inl (flatS t u))), ((b 7), .inl (cI, 7, .inl m)), ((b 8), .inl (cI, 7, .inl (upd w2 (bes c (leanT t ((7 * r) + c))) ((w2 (bes c (leanT t ((7 * r) + c)))) + (m c)))))]) H := hP
                  have hD : va_D A ([((b 0), .inr (7, [.ref (b 1), .ref (b 2), .ref (b 3), .int (nI kn), .ref (b 4), .int ik, .ref (b 5), .int (nI le), .int be, .int (nI sp), .int fo, .int op, .int ha, .int st, .ref (b 6), .ref (b 7), .ref (b 8)])), ((b 1), .inl (cI, 206, .inl (flatS t u))), ((b 7), .inl (cI, 7, .inl m)), ((b 8), .inl (cI, 7, .inl (upd w2 (bes c (leanT t ((7 * r) + c))) ((w2 (bes c (leanT t ((7 * r) + c)))) + (m c)))))]) := hD
                  refine lv_aload_n hx hb dX7_spreads_111 rfl (lv_at hl 3 rfl) ?_
                  refine va_get (D := D) (ci := 7) (v := .ref (b 8)) (C := RX7) (T := TX7) (N := 17) hx hb hts iX7 hown hK hP 0 rfl rfl 16 (Nat.le_of_ble_eq_true rfl) (hts (.fieldLink RX7 31 "BentPinsModel" "then" "[I") (List.mem_of_getElem? (i := 1) rfl)) (fun _ h9 => h9) rfl dX7_spreads_112 ?_
                  refine lv_iload_n hx hb dX7_spreads_115 rfl (lv_at hl 5 rfl) ?_
                  refine lv_iconst (v := 1) hx hb dX7_spreads_116 (by decide) ?_
                  refine ej_S (As := [.int (nI c), .int 1]) (rest := [.ref (b 8)]) (w' := [((b 0), .inr (7, [.ref (b 1), .ref (b 2), .ref (b 3), .int (nI kn), .ref (b 4), .int ik, .ref (b 5), .int (nI le), .int be, .int (nI sp), .int fo, .int op, .int ha, .int st, .ref (b 6), .ref (b 7), .ref (b 8)])), ((b 1), .inl (cI, 206, .inl (flatS t u))), ((b 7), .inl (cI, 7, .inl m)), ((b 8), .inl (cI, 7, .inl (upd w2 (bes c (leanT t ((7 * r) + c))) ((w2 (bes c (leanT t ((7 * r) + c)))) + (m c)))))]) S hK hN hA hP hD hS (c_X7_moved l D tys cI ht0 c 1 (by omega) dOK_p) (va_cwS 2 hts gX7_spreads_X7_moved rfl rfl rfl hds_X7_moved ⟨Nat.le_of_ble_eq_true rfl, Nat.le_of_ble_eq_true rfl⟩) [] [] [] rfl (by decide +kernel) ⟨rfl, rfl⟩ rfl (by decide +kernel) rfl rfl hl.1 (Nat.le_of_ble_eq_true rfl) dX7_spreads_117 ⟨Nat.zero_le _, Nat.zero_le _⟩ (fun H locs hP hD hS => ?_)
                  show W p9 l e9 (eR 2 44) s9 m9 a9 b9 t9 c9 H locs 0 0 Q (F0 m9 120 ls (.int (nI (bes c 1)) :: [.ref (b 8)]))
                  have hb9 := bes_lt 1 (show c < 7 by omega)
                  refine lv_dup2_11 hx hb dX7_spreads_120 rfl rfl ?_
                  refine va_iald (i := nI (bes c 1)) hx hb hK hP 3 0 rfl ht0 (vp_in_nI (n := bes c 1) (N := 7) (by omega) (by omega)) dX7_spreads_121 ?_
                  refine ej_topi (show (upd w2 (bes c (leanT t ((7 * r) + c))) ((w2 (bes c (leanT t ((7 * r) + c)))) + (m c))) (nI (bes c 1)).toNatClampNeg = (upd w2 (bes c (leanT t ((7 * r) + c))) ((w2 (bes c (leanT t ((7 * r) + c)))) + (m c))) (bes c 1) from congrArg (upd w2 (bes c (leanT t ((7 * r) + c))) ((w2 (bes c (leanT t ((7 * r) + c)))) + (m c))) (nI_clamp (n := bes c 1) (by omega))) ?_
                  refine lv_iload hx hb dX7_spreads_122 (lv_at hl 0 rfl) ?_
                  refine lv_if_eq (tgt := 136) hx hb dX7_spreads_124 (by decide) (fun _ => ?_) (fun h9 => absurd (show (0 : Int32) = 0 from by decide) h9)
                  refine lv_iconst (v := 0) hx hb dX7_spreads_136 (by decide) ?_
                  refine lv_iadd hx hb dX7_spreads_137 ?_
                  refine va_iast (i := nI (bes c 1)) hx hb hK hP hD hS 3 0 rfl ht0 (vp_in_nI (n := bes c 1) (N := 7) (by omega) (by omega)) dX7_spreads_138 (fun H locs hP hD hS => ?_)
                  rw [show (nI (bes c 1)).toNatClampNeg = bes c 1 from nI_clamp (by omega)] at hP hD
                  have hP : va_P D vwCl ([((b 0), .inr (7, [.ref (b 1), .ref (b 2), .ref (b 3), .int (nI kn), .ref (b 4), .int ik, .ref (b 5), .int (nI le), .int be, .int (nI sp), .int fo, .int op, .int ha, .int st, .ref (b 6), .ref (b 7), .ref (b 8)])), ((b 1), .inl (cI, 206, .inl (flatS t u))), ((b 7), .inl (cI, 7, .inl m)), ((b 8), .inl (cI, 7, .inl (upd (upd w2 (bes c (leanT t ((7 * r) + c))) ((w2 (bes c (leanT t ((7 * r) + c)))) + (m c))) (bes c 1) (((upd w2 (bes c (leanT t ((7 * r) + c))) ((w2 (bes c (leanT t ((7 * r) + c)))) + (m c))) (bes c 1)) + 0))))]) H := hP
                  have hD : va_D A ([((b 0), .inr (7, [.ref (b 1), .ref (b 2), .ref (b 3), .int (nI kn), .ref (b 4), .int ik, .ref (b 5), .int (nI le), .int be, .int (nI sp), .int fo, .int op, .int ha, .int st, .ref (b 6), .ref (b 7), .ref (b 8)])), ((b 1), .inl (cI, 206, .inl (flatS t u))), ((b 7), .inl (cI, 7, .inl m)), ((b 8), .inl (cI, 7, .inl (upd (upd w2 (bes c (leanT t ((7 * r) + c))) ((w2 (bes c (leanT t ((7 * r) + c)))) + (m c))) (bes c 1) (((upd w2 (bes c (leanT t ((7 * r) + c))) ((w2 (bes c (leanT t ((7 * r) + c)))) + (m c))) (bes c 1)) + 0))))]) := hD
                  refine lv_iinc (v := nI (c + 1)) (lv' := [(2, .int (nI (c + 1))), (5, .int 0), (4, .int (leanT t ((7 * r) + c))), (3, .int (nI ((7 * r) + c))), (0, .ref (b 0)), (1, .int (nI r))]) hx hb dX7_spreads_139 hl (k := 5) rfl (nI_add c 1) (by decide) rfl (fun ls hl => ?_)
                  refine lv_goto (tgt := 23) hx hb dX7_spreads_142 (by decide) ?_
                  exact ih23  (c + 1) (upd (upd w2 (bes c (leanT t ((7 * r) + c))) ((w2 (bes c (leanT t ((7 * r) + c)))) + (m c))) (bes c 1) (((upd w2 (bes c (leanT t ((7 * r) + c))) ((w2 (bes c (leanT t ((7 * r) + c)))) + (m c))) (bes c 1)) + 0)) (by omega) (by omega) (by rw [spG, if_neg (fun q9 => c_5 q9.2), if_pos o_4, ← ew2]; rfl) _ _ _ hP hD hS (lv_sub hl [4, 5, 0] rfl)
                · refine lv_iconst (v := 1) hx hb dX7_spreads_71 (by decide) ?_
                  refine lv_goto (tgt := 76) hx hb dX7_spreads_72 (by decide) ?_
                  refine lv_istore (lv' := [(5, .int 1), (4, .int (leanT t ((7 * r) + c))), (3, .int (nI ((7 * r) + c))), (0, .ref (b 0)), (1, .int (nI r)), (2, .int (nI c))]) hx hb dX7_spreads_76 hl (by decide) rfl (fun ls hl => ?_)
                  refine lv_aload_n hx hb dX7_spreads_78 rfl (lv_at hl 3 rfl) ?_
                  refine va_get (D := D) (ci := 7) (v := .ref (b 8)) (C := RX7) (T := TX7) (N := 17) hx hb hts iX7 hown hK hP 0 rfl rfl 16 (Nat.le_of_ble_eq_true rfl) (hts (.fieldLink RX7 31 "BentPinsModel" "then" "[I") (List.mem_of_getElem? (i := 1) rfl)) (fun _ h9 => h9) rfl dX7_spreads_79 ?_
                  refine lv_iload hx hb dX7_spreads_82 (lv_at hl 0 rfl) ?_
                  refine lv_if_eq (tgt := 95) hx hb dX7_spreads_84 (by decide) (fun h9 => absurd h9 (show ¬ (1 : Int32) = 0 from by decide)) (fun _ => ?_)
                  refine lv_iload_n hx hb dX7_spreads_87 rfl (lv_at hl 5 rfl) ?_
                  refine lv_iconst (v := (-1)) hx hb dX7_spreads_88 (by decide) ?_
                  refine ej_S (As := [.int (nI c), .int (-1)]) (rest := [.ref (b 8)]) (w' := [((b 0), .inr (7, [.ref (b 1), .ref (b 2), .ref (b 3), .int (nI kn), .ref (b 4), .int ik, .ref (b 5), .int (nI le), .int be, .int (nI sp), .int fo, .int op, .int ha, .int st, .ref (b 6), .ref (b 7), .ref (b 8)])), ((b 1), .inl (cI, 206, .inl (flatS t u))), ((b 7), .inl (cI, 7, .inl m)), ((b 8), .inl (cI, 7, .inl w2))]) S hK hN hA hP hD hS (c_X7_moved l D tys cI ht0 c (-1) (by omega) dOK_m) (va_cwS 2 hts gX7_spreads_X7_moved rfl rfl rfl hds_X7_moved ⟨Nat.le_of_ble_eq_true rfl, Nat.le_of_ble_eq_true rfl⟩) [] [] [] rfl (by decide +kernel) ⟨rfl, rfl⟩ rfl (by decide +kernel) rfl rfl hl.1 (Nat.le_of_ble_eq_true rfl) dX7_spreads_89 ⟨Nat.zero_le _, Nat.zero_le _⟩ (fun H locs hP hD hS => ?_)
                  show W p9 l e9 (eR 2 44) s9 m9 a9 b9 t9 c9 H locs 0 0 Q (F0 m9 92 ls (.int (nI (bes c (-1))) :: [.ref (b 8)]))
                  have hb8 := bes_lt (-1) (show c < 7 by omega)
                  refine lv_goto (tgt := 101) hx hb dX7_spreads_92 (by decide) ?_
                  refine lv_dup2_11 hx hb dX7_spreads_101 rfl rfl ?_
                  refine va_iald (i := nI (bes c (-1))) hx hb hK hP 3 0 rfl ht0 (vp_in_nI (n := bes c (-1)) (N := 7) (by omega) (by omega)) dX7_spreads_102 ?_
                  refine ej_topi (show w2 (nI (bes c (-1))).toNatClampNeg = w2 (bes c (-1)) from congrArg w2 (nI_clamp (n := bes c (-1)) (by omega))) ?_
                  refine lv_aload_n hx hb dX7_spreads_103 rfl (lv_at hl 3 rfl) ?_
                  refine va_get (D := D) (ci := 7) (v := .ref (b 7)) (C := RX7) (T := TX7) (N := 17) hx hb hts iX7 hown hK hP 0 rfl rfl 15 (Nat.le_of_ble_eq_true rfl) (hts (.fieldLink RX7 28 "BentPinsModel" "many" "[I") (List.mem_of_getElem? (i := 2) rfl)) (fun _ h9 => h9) rfl dX7_spreads_104 ?_
                  refine lv_iload_n hx hb dX7_spreads_107 rfl (lv_at hl 5 rfl) ?_
                  refine va_iald (i := nI c) hx hb hK hP 2 0 rfl ht0 (vp_in_nI (n := c) (N := 7) (by omega) (by omega)) dX7_spreads_108 ?_
                  refine ej_topi (show m (nI c).toNatClampNeg = m c from congrArg m (nI_clamp (n := c) (by omega))) ?_
                  refine lv_iadd hx hb dX7_spreads_109 ?_
                  refine va_iast (i := nI (bes c (-1))) hx hb hK hP hD hS 3 0 rfl ht0 (vp_in_nI (n := bes c (-1)) (N := 7) (by omega) (by omega)) dX7_spreads_110 (fun H locs hP hD hS => ?_)
                  rw [show (nI (bes c (-1))).toNatClampNeg = bes c (-1) from nI_clamp (by omega)] at hP hD
                  have hP : va_P D vwCl ([((b 0), .inr (7, [.ref (b 1), .ref (b 2), .ref (b 3), .int (nI kn), .ref (b 4), .int ik, .ref (b 5), .int (nI le), .int be, .int (nI sp), .int fo, .int op, .int ha, .int st, .ref (b 6), .ref (b 7), .ref (b 8)])), ((b 1), .inl (cI, 206, .inl (flatS t u))), ((b 7), .inl (cI, 7, .inl m)), ((b 8), .inl (cI, 7, .inl (upd w2 (bes c (-1)) ((w2 (bes c (-1))) + (m c)))))]) H := hP
                  have hD : va_D A ([((b 0), .inr (7, [.ref (b 1), .ref (b 2), .ref (b 3), .int (nI kn), .ref (b 4), .int ik, .ref (b 5), .int (nI le), .int be, .int (nI sp), .int fo, .int op, .int ha, .int st, .ref (b 6), .ref (b 7), .ref (b 8)])), ((b 1), .inl (cI, 206, .inl (flatS t u))), ((b 7), .inl (cI, 7, .inl m)), ((b 8), .inl (cI, 7, .inl (upd w2 (bes c (-1)) ((w2 (bes c (-1))) + (m c)))))]) := hD
                  refine lv_aload_n hx hb dX7_spreads_111 rfl (lv_at hl 3 rfl) ?_
                  refine va_get (D := D) (ci := 7) (v := .ref (b 8)) (C := RX7) (T := TX7) (N := 17) hx hb hts iX7 hown hK hP 0 rfl rfl 16 (Nat.le_of_ble_eq_true rfl) (hts (.fieldLink RX7 31 "BentPinsModel" "then" "[I") (List.mem_of_getElem? (i := 1) rfl)) (fun _ h9 => h9) rfl dX7_spreads_112 ?_
                  refine lv_iload_n hx hb dX7_spreads_115 rfl (lv_at hl 5 rfl) ?_
                  refine lv_iconst (v := 1) hx hb dX7_spreads_116 (by decide) ?_
                  refine ej_S (As := [.int (nI c), .int 1]) (rest := [.ref (b 8)]) (w' := [((b 0), .inr (7, [.ref (b 1), .ref (b 2), .ref (b 3), .int (nI kn), .ref (b 4), .int ik, .ref (b 5), .int (nI le), .int be, .int (nI sp), .int fo, .int op, .int ha, .int st, .ref (b 6), .ref (b 7), .ref (b 8)])), ((b 1), .inl (cI, 206, .inl (flatS t u))), ((b 7), .inl (cI, 7, .inl m)), ((b 8), .inl (cI, 7, .inl (upd w2 (bes c (-1)) ((w2 (bes c (-1))) + (m c)))))]) S hK hN hA hP hD hS (c_X7_moved l D tys cI ht0 c 1 (by omega) dOK_p) (va_cwS 2 hts gX7_spreads_X7_moved rfl rfl rfl hds_X7_moved ⟨Nat.le_of_ble_eq_true rfl, Nat.le_of_ble_eq_true rfl⟩) [] [] [] rfl (by decide +kernel) ⟨rfl, rfl⟩ rfl (by decide +kernel) rfl rfl hl.1 (Nat.le_of_ble_eq_true rfl) dX7_spreads_117 ⟨Nat.zero_le _, Nat.zero_le _⟩ (fun H locs hP hD hS => ?_)
                  show W p9 l e9 (eR 2 44) s9 m9 a9 b9 t9 c9 H locs 0 0 Q (F0 m9 120 ls (.int (nI (bes c 1)) :: [.ref (b 8)]))
                  have hb9 := bes_lt 1 (show c < 7 by omega)
                  refine lv_dup2_11 hx hb dX7_spreads_120 rfl rfl ?_
                  refine va_iald (i := nI (bes c 1)) hx hb hK hP 3 0 rfl ht0 (vp_in_nI (n := bes c 1) (N := 7) (by omega) (by omega)) dX7_spreads_121 ?_
                  refine ej_topi (show (upd w2 (bes c (-1)) ((w2 (bes c (-1))) + (m c))) (nI (bes c 1)).toNatClampNeg = (upd w2 (bes c (-1)) ((w2 (bes c (-1))) + (m c))) (bes c 1) from congrArg (upd w2 (bes c (-1)) ((w2 (bes c (-1))) + (m c))) (nI_clamp (n := bes c 1) (by omega))) ?_
                  refine lv_iload hx hb dX7_spreads_122 (lv_at hl 0 rfl) ?_
                  refine lv_if_eq (tgt := 136) hx hb dX7_spreads_124 (by decide) (fun h9 => absurd h9 (show ¬ (1 : Int32) = 0 from by decide)) (fun _ => ?_)
                  refine lv_aload_n hx hb dX7_spreads_127 rfl (lv_at hl 3 rfl) ?_
                  refine va_get (D := D) (ci := 7) (v := .ref (b 7)) (C := RX7) (T := TX7) (N := 17) hx hb hts iX7 hown hK hP 0 rfl rfl 15 (Nat.le_of_ble_eq_true rfl) (hts (.fieldLink RX7 28 "BentPinsModel" "many" "[I") (List.mem_of_getElem? (i := 2) rfl)) (fun _ h9 => h9) rfl dX7_spreads_128 ?_
                  refine lv_iload_n hx hb dX7_spreads_131 rfl (lv_at hl 5 rfl) ?_
                  refine va_iald (i := nI c) hx hb hK hP 2 0 rfl ht0 (vp_in_nI (n := c) (N := 7) (by omega) (by omega)) dX7_spreads_132 ?_
                  refine ej_topi (show m (nI c).toNatClampNeg = m c from congrArg m (nI_clamp (n := c) (by omega))) ?_
                  refine lv_goto (tgt := 137) hx hb dX7_spreads_133 (by decide) ?_
                  refine lv_iadd hx hb dX7_spreads_137 ?_
                  refine va_iast (i := nI (bes c 1)) hx hb hK hP hD hS 3 0 rfl ht0 (vp_in_nI (n := bes c 1) (N := 7) (by omega) (by omega)) dX7_spreads_138 (fun H locs hP hD hS => ?_)
                  rw [show (nI (bes c 1)).toNatClampNeg = bes c 1 from nI_clamp (by omega)] at hP hD
                  have hP : va_P D vwCl ([((b 0), .inr (7, [.ref (b 1), .ref (b 2), .ref (b 3), .int (nI kn), .ref (b 4), .int ik, .ref (b 5), .int (nI le), .int be, .int (nI sp), .int fo, .int op, .int ha, .int st, .ref (b 6), .ref (b 7), .ref (b 8)])), ((b 1), .inl (cI, 206, .inl (flatS t u))), ((b 7), .inl (cI, 7, .inl m)), ((b 8), .inl (cI, 7, .inl (upd (upd w2 (bes c (-1)) ((w2 (bes c (-1))) + (m c))) (bes c 1) (((upd w2 (bes c (-1)) ((w2 (bes c (-1))) + (m c))) (bes c 1)) + (m c)))))]) H := hP
                  have hD : va_D A ([((b 0), .inr (7, [.ref (b 1), .ref (b 2), .ref (b 3), .int (nI kn), .ref (b 4), .int ik, .ref (b 5), .int (nI le), .int be, .int (nI sp), .int fo, .int op, .int ha, .int st, .ref (b 6), .ref (b 7), .ref (b 8)])), ((b 1), .inl (cI, 206, .inl (flatS t u))), ((b 7), .inl (cI, 7, .inl m)), ((b 8), .inl (cI, 7, .inl (upd (upd w2 (bes c (-1)) ((w2 (bes c (-1))) + (m c))) (bes c 1) (((upd w2 (bes c (-1)) ((w2 (bes c (-1))) + (m c))) (bes c 1)) + (m c)))))]) := hD
                  refine lv_iinc (v := nI (c + 1)) (lv' := [(2, .int (nI (c + 1))), (5, .int 1), (4, .int (leanT t ((7 * r) + c))), (3, .int (nI ((7 * r) + c))), (0, .ref (b 0)), (1, .int (nI r))]) hx hb dX7_spreads_139 hl (k := 5) rfl (nI_add c 1) (by decide) rfl (fun ls hl => ?_)
                  refine lv_goto (tgt := 23) hx hb dX7_spreads_142 (by decide) ?_
                  exact ih23  (c + 1) (upd (upd w2 (bes c (-1)) ((w2 (bes c (-1))) + (m c))) (bes c 1) (((upd w2 (bes c (-1)) ((w2 (bes c (-1))) + (m c))) (bes c 1)) + (m c))) (by omega) (by omega) (by rw [spG, if_pos ⟨o_4, c_5⟩, ← ew2]; rfl) _ _ _ hP hD hS (lv_sub hl [4, 5, 0] rfl)
              · have o_4 : ¬ P_ou t (7 * r + c) = 0 := by rw [c_4]; decide
                refine lv_iconst (v := 0) hx hb dX7_spreads_46 (by decide) ?_
                refine lv_goto (tgt := 55) hx hb dX7_spreads_47 (by decide) ?_
                refine lv_istore (lv' := [(4, .int 0), (3, .int (nI ((7 * r) + c))), (0, .ref (b 0)), (1, .int (nI r)), (2, .int (nI c))]) hx hb dX7_spreads_55 hl (by decide) rfl (fun ls hl => ?_)
                refine lv_aload_n hx hb dX7_spreads_57 rfl (lv_at hl 2 rfl) ?_
                refine lv_iload_n hx hb dX7_spreads_58 rfl (lv_at hl 1 rfl) ?_
                refine lv_iconst (v := 1) hx hb dX7_spreads_59 (by decide) ?_
                refine ej_V (As := [.int (nI ((7 * r) + c)), .int 1]) (rest := []) (w' := [((b 0), .inr (7, [.ref (b 1), .ref (b 2), .ref (b 3), .int (nI kn), .ref (b 4), .int ik, .ref (b 5), .int (nI le), .int be, .int (nI sp), .int fo, .int op, .int ha, .int st, .ref (b 6), .ref (b 7), .ref (b 8)])), ((b 1), .inl (cI, 206, .inl (flatS t u))), ((b 7), .inl (cI, 7, .inl m)), ((b 8), .inl (cI, 7, .inl w2))]) S hK hN hA hP hD hS (c_X7_of l D tys cI ht0 b kn le sp ik be fo op ha st (flatS t u) ((7 * r) + c) 1 (by omega) (by omega)) (cwV 2 hts gX7_spreads_X7_of rfl rfl rfl hdv_X7_of ⟨Nat.le_of_ble_eq_true rfl, Nat.le_of_ble_eq_true rfl⟩) [0, 1] [some 0, some 1] [(b 0), (b 1)] rfl (by decide +kernel) ⟨rfl, rfl⟩ rfl (by decide +kernel) 0 7 rfl rfl rfl rfl hl.1 (Nat.le_of_ble_eq_true rfl) dX7_spreads_60 ⟨Nat.zero_le _, Nat.zero_le _⟩ (fun H locs hP hD hS => ?_)
                show W p9 l e9 (eR 2 44) s9 m9 a9 b9 t9 c9 H locs 0 0 Q (F0 m9 63 ls (.int ((flatS t u) (10 + 5 * ((7 * r) + c) + 1)) :: []))
                refine ej_topi (show ((flatS t u) (10 + 5 * ((7 * r) + c) + 1)) = P_ou t ((7 * r) + c) from flS_1 t u (by omega)) ?_
                refine lv_if_ne (tgt := 75) hx hb dX7_spreads_63 (by decide) (fun _ => ?_) (fun h9 => absurd h9 (o_4))
                refine lv_iconst (v := 0) hx hb dX7_spreads_75 (by decide) ?_
                refine lv_istore (lv' := [(5, .int 0), (4, .int 0), (3, .int (nI ((7 * r) + c))), (0, .ref (b 0)), (1, .int (nI r)), (2, .int (nI c))]) hx hb dX7_spreads_76 hl (by decide) rfl (fun ls hl => ?_)
                refine lv_aload_n hx hb dX7_spreads_78 rfl (lv_at hl 3 rfl) ?_
                refine va_get (D := D) (ci := 7) (v := .ref (b 8)) (C := RX7) (T := TX7) (N := 17) hx hb hts iX7 hown hK hP 0 rfl rfl 16 (Nat.le_of_ble_eq_true rfl) (hts (.fieldLink RX7 31 "BentPinsModel" "then" "[I") (List.mem_of_getElem? (i := 1) rfl)) (fun _ h9 => h9) rfl dX7_spreads_79 ?_
                refine lv_iload hx hb dX7_spreads_82 (lv_at hl 0 rfl) ?_
                refine lv_if_eq (tgt := 95) hx hb dX7_spreads_84 (by decide) (fun _ => ?_) (fun h9 => absurd (show (0 : Int32) = 0 from by decide) h9)
                refine lv_iload_n hx hb dX7_spreads_95 rfl (lv_at hl 5 rfl) ?_
                refine lv_iload hx hb dX7_spreads_96 (lv_at hl 1 rfl) ?_
                refine ej_S (As := [.int (nI c), .int 0]) (rest := [.ref (b 8)]) (w' := [((b 0), .inr (7, [.ref (b 1), .ref (b 2), .ref (b 3), .int (nI kn), .ref (b 4), .int ik, .ref (b 5), .int (nI le), .int be, .int (nI sp), .int fo, .int op, .int ha, .int st, .ref (b 6), .ref (b 7), .ref (b 8)])), ((b 1), .inl (cI, 206, .inl (flatS t u))), ((b 7), .inl (cI, 7, .inl m)), ((b 8), .inl (cI, 7, .inl w2))]) S hK hN hA hP hD hS (c_X7_moved l D tys cI ht0 c 0 (by omega) (Or.inr (Or.inl rfl))) (va_cwS 2 hts gX7_spreads_X7_moved rfl rfl rfl hds_X7_moved ⟨Nat.le_of_ble_eq_true rfl, Nat.le_of_ble_eq_true rfl⟩) [] [] [] rfl (by decide +kernel) ⟨rfl, rfl⟩ rfl (by decide +kernel) rfl rfl hl.1 (Nat.le_of_ble_eq_true rfl) dX7_spreads_98 ⟨Nat.zero_le _, Nat.zero_le _⟩ (fun H locs hP hD hS => ?_)
                show W p9 l e9 (eR 2 44) s9 m9 a9 b9 t9 c9 H locs 0 0 Q (F0 m9 101 ls (.int (nI (bes c 0)) :: [.ref (b 8)]))
                have hb8 := bes_lt 0 (show c < 7 by omega)
                refine lv_dup2_11 hx hb dX7_spreads_101 rfl rfl ?_
                refine va_iald (i := nI (bes c 0)) hx hb hK hP 3 0 rfl ht0 (vp_in_nI (n := bes c 0) (N := 7) (by omega) (by omega)) dX7_spreads_102 ?_
                refine ej_topi (show w2 (nI (bes c 0)).toNatClampNeg = w2 (bes c 0) from congrArg w2 (nI_clamp (n := bes c 0) (by omega))) ?_
                refine lv_aload_n hx hb dX7_spreads_103 rfl (lv_at hl 3 rfl) ?_
                refine va_get (D := D) (ci := 7) (v := .ref (b 7)) (C := RX7) (T := TX7) (N := 17) hx hb hts iX7 hown hK hP 0 rfl rfl 15 (Nat.le_of_ble_eq_true rfl) (hts (.fieldLink RX7 28 "BentPinsModel" "many" "[I") (List.mem_of_getElem? (i := 2) rfl)) (fun _ h9 => h9) rfl dX7_spreads_104 ?_
                refine lv_iload_n hx hb dX7_spreads_107 rfl (lv_at hl 5 rfl) ?_
                refine va_iald (i := nI c) hx hb hK hP 2 0 rfl ht0 (vp_in_nI (n := c) (N := 7) (by omega) (by omega)) dX7_spreads_108 ?_
                refine ej_topi (show m (nI c).toNatClampNeg = m c from congrArg m (nI_clamp (n := c) (by omega))) ?_
                refine lv_iadd hx hb dX7_spreads_109 ?_
                refine va_iast (i := nI (bes c 0)) hx hb hK hP hD hS 3 0 rfl ht0 (vp_in_nI (n := bes c 0) (N := 7) (by omega) (by omega)) dX7_spreads_110 (fun H locs hP hD hS => ?_)
                rw [show (nI (bes c 0)).toNatClampNeg = bes c 0 from nI_clamp (by omega)] at hP hD
                have hP : va_P D vwCl ([((b 0), .inr (7, [.ref (b 1), .ref (b 2), .ref (b 3), .int (nI kn), .ref (b 4), .int ik, .ref (b 5), .int (nI le), .int be, .int (nI sp), .int fo, .int op, .int ha, .int st, .ref (b 6), .ref (b 7), .ref (b 8)])), ((b 1), .inl (cI, 206, .inl (flatS t u))), ((b 7), .inl (cI, 7, .inl m)), ((b 8), .inl (cI, 7, .inl (upd w2 (bes c 0) ((w2 (bes c 0)) + (m c)))))]) H := hP
                have hD : va_D A ([((b 0), .inr (7, [.ref (b 1), .ref (b 2), .ref (b 3), .int (nI kn), .ref (b 4), .int ik, .ref (b 5), .int (nI le), .int be, .int (nI sp), .int fo, .int op, .int ha, .int st, .ref (b 6), .ref (b 7), .ref (b 8)])), ((b 1), .inl (cI, 206, .inl (flatS t u))), ((b 7), .inl (cI, 7, .inl m)), ((b 8), .inl (cI, 7, .inl (upd w2 (bes c 0) ((w2 (bes c 0)) + (m c)))))]) := hD
                refine lv_aload_n hx hb dX7_spreads_111 rfl (lv_at hl 3 rfl) ?_
                refine va_get (D := D) (ci := 7) (v := .ref (b 8)) (C := RX7) (T := TX7) (N := 17) hx hb hts iX7 hown hK hP 0 rfl rfl 16 (Nat.le_of_ble_eq_true rfl) (hts (.fieldLink RX7 31 "BentPinsModel" "then" "[I") (List.mem_of_getElem? (i := 1) rfl)) (fun _ h9 => h9) rfl dX7_spreads_112 ?_
                refine lv_iload_n hx hb dX7_spreads_115 rfl (lv_at hl 5 rfl) ?_
                refine lv_iconst (v := 1) hx hb dX7_spreads_116 (by decide) ?_
                refine ej_S (As := [.int (nI c), .int 1]) (rest := [.ref (b 8)]) (w' := [((b 0), .inr (7, [.ref (b 1), .ref (b 2), .ref (b 3), .int (nI kn), .ref (b 4), .int ik, .ref (b 5), .int (nI le), .int be, .int (nI sp), .int fo, .int op, .int ha, .int st, .ref (b 6), .ref (b 7), .ref (b 8)])), ((b 1), .inl (cI, 206, .inl (flatS t u))), ((b 7), .inl (cI, 7, .inl m)), ((b 8), .inl (cI, 7, .inl (upd w2 (bes c 0) ((w2 (bes c 0)) + (m c)))))]) S hK hN hA hP hD hS (c_X7_moved l D tys cI ht0 c 1 (by omega) dOK_p) (va_cwS 2 hts gX7_spreads_X7_moved rfl rfl rfl hds_X7_moved ⟨Nat.le_of_ble_eq_true rfl, Nat.le_of_ble_eq_true rfl⟩) [] [] [] rfl (by decide +kernel) ⟨rfl, rfl⟩ rfl (by decide +kernel) rfl rfl hl.1 (Nat.le_of_ble_eq_true rfl) dX7_spreads_117 ⟨Nat.zero_le _, Nat.zero_le _⟩ (fun H locs hP hD hS => ?_)
                show W p9 l e9 (eR 2 44) s9 m9 a9 b9 t9 c9 H locs 0 0 Q (F0 m9 120 ls (.int (nI (bes c 1)) :: [.ref (b 8)]))
                have hb9 := bes_lt 1 (show c < 7 by omega)
                refine lv_dup2_11 hx hb dX7_spreads_120 rfl rfl ?_
                refine va_iald (i := nI (bes c 1)) hx hb hK hP 3 0 rfl ht0 (vp_in_nI (n := bes c 1) (N := 7) (by omega) (by omega)) dX7_spreads_121 ?_
                refine ej_topi (show (upd w2 (bes c 0) ((w2 (bes c 0)) + (m c))) (nI (bes c 1)).toNatClampNeg = (upd w2 (bes c 0) ((w2 (bes c 0)) + (m c))) (bes c 1) from congrArg (upd w2 (bes c 0) ((w2 (bes c 0)) + (m c))) (nI_clamp (n := bes c 1) (by omega))) ?_
                refine lv_iload hx hb dX7_spreads_122 (lv_at hl 0 rfl) ?_
                refine lv_if_eq (tgt := 136) hx hb dX7_spreads_124 (by decide) (fun _ => ?_) (fun h9 => absurd (show (0 : Int32) = 0 from by decide) h9)
                refine lv_iconst (v := 0) hx hb dX7_spreads_136 (by decide) ?_
                refine lv_iadd hx hb dX7_spreads_137 ?_
                refine va_iast (i := nI (bes c 1)) hx hb hK hP hD hS 3 0 rfl ht0 (vp_in_nI (n := bes c 1) (N := 7) (by omega) (by omega)) dX7_spreads_138 (fun H locs hP hD hS => ?_)
                rw [show (nI (bes c 1)).toNatClampNeg = bes c 1 from nI_clamp (by omega)] at hP hD
                have hP : va_P D vwCl ([((b 0), .inr (7, [.ref (b 1), .ref (b 2), .ref (b 3), .int (nI kn), .ref (b 4), .int ik, .ref (b 5), .int (nI le), .int be, .int (nI sp), .int fo, .int op, .int ha, .int st, .ref (b 6), .ref (b 7), .ref (b 8)])), ((b 1), .inl (cI, 206, .inl (flatS t u))), ((b 7), .inl (cI, 7, .inl m)), ((b 8), .inl (cI, 7, .inl (upd (upd w2 (bes c 0) ((w2 (bes c 0)) + (m c))) (bes c 1) (((upd w2 (bes c 0) ((w2 (bes c 0)) + (m c))) (bes c 1)) + 0))))]) H := hP
                have hD : va_D A ([((b 0), .inr (7, [.ref (b 1), .ref (b 2), .ref (b 3), .int (nI kn), .ref (b 4), .int ik, .ref (b 5), .int (nI le), .int be, .int (nI sp), .int fo, .int op, .int ha, .int st, .ref (b 6), .ref (b 7), .ref (b 8)])), ((b 1), .inl (cI, 206, .inl (flatS t u))), ((b 7), .inl (cI, 7, .inl m)), ((b 8), .inl (cI, 7, .inl (upd (upd w2 (bes c 0) ((w2 (bes c 0)) + (m c))) (bes c 1) (((upd w2 (bes c 0) ((w2 (bes c 0)) + (m c))) (bes c 1)) + 0))))]) := hD
                refine lv_iinc (v := nI (c + 1)) (lv' := [(2, .int (nI (c + 1))), (5, .int 0), (4, .int 0), (3, .int (nI ((7 * r) + c))), (0, .ref (b 0)), (1, .int (nI r))]) hx hb dX7_spreads_139 hl (k := 5) rfl (nI_add c 1) (by decide) rfl (fun ls hl => ?_)
                refine lv_goto (tgt := 23) hx hb dX7_spreads_142 (by decide) ?_
                exact ih23  (c + 1) (upd (upd w2 (bes c 0) ((w2 (bes c 0)) + (m c))) (bes c 1) (((upd w2 (bes c 0) ((w2 (bes c 0)) + (m c))) (bes c 1)) + 0)) (by omega) (by omega) (by rw [spG, if_neg (fun q9 => o_4 q9.1), if_neg o_4, ← ew2]; rfl) _ _ _ hP hD hS (lv_sub hl [4, 5, 0] rfl)
        exact lp23 ((7 - 0) + 1) 0 (fun _ => 0) (by omega) (by omega) rfl _ _ _ hP hD hS (lv_sub hl [1, 2, 0] rfl)
      · have n_1 : i < 7 := ej_tnle (a := 7) (b := i) (by omega) (by omega) c_1
        refine lv_aload_n hx hb dX7_spreads_8 rfl (lv_at hl 0 rfl) ?_
        refine va_get (D := D) (ci := 7) (v := .ref (b 8)) (C := RX7) (T := TX7) (N := 17) hx hb hts iX7 hown hK hP 0 rfl rfl 16 (Nat.le_of_ble_eq_true rfl) (hts (.fieldLink RX7 31 "BentPinsModel" "then" "[I") (List.mem_of_getElem? (i := 1) rfl)) (fun _ h9 => h9) rfl dX7_spreads_9 ?_
        refine lv_iload_n hx hb dX7_spreads_12 rfl (lv_at hl 2 rfl) ?_
        refine lv_iconst (v := 0) hx hb dX7_spreads_13 (by decide) ?_
        refine va_iast (i := nI i) hx hb hK hP hD hS 3 0 rfl ht0 (vp_in_nI (n := i) (N := 7) (by omega) (by omega)) dX7_spreads_14 (fun H locs hP hD hS => ?_)
        rw [show (nI i).toNatClampNeg = i from nI_clamp (by omega)] at hP hD
        have hP : va_P D vwCl ([((b 0), .inr (7, [.ref (b 1), .ref (b 2), .ref (b 3), .int (nI kn), .ref (b 4), .int ik, .ref (b 5), .int (nI le), .int be, .int (nI sp), .int fo, .int op, .int ha, .int st, .ref (b 6), .ref (b 7), .ref (b 8)])), ((b 1), .inl (cI, 206, .inl (flatS t u))), ((b 7), .inl (cI, 7, .inl m)), ((b 8), .inl (cI, 7, .inl (upd w1 i 0)))]) H := hP
        have hD : va_D A ([((b 0), .inr (7, [.ref (b 1), .ref (b 2), .ref (b 3), .int (nI kn), .ref (b 4), .int ik, .ref (b 5), .int (nI le), .int be, .int (nI sp), .int fo, .int op, .int ha, .int st, .ref (b 6), .ref (b 7), .ref (b 8)])), ((b 1), .inl (cI, 206, .inl (flatS t u))), ((b 7), .inl (cI, 7, .inl m)), ((b 8), .inl (cI, 7, .inl (upd w1 i 0)))]) := hD
        refine lv_iinc (v := nI (i + 1)) (lv' := [(2, .int (nI (i + 1))), (0, .ref (b 0)), (1, .int (nI r))]) hx hb dX7_spreads_15 hl (k := 2) rfl (nI_add i 1) (by decide) rfl (fun ls hl => ?_)
        refine lv_goto (tgt := 2) hx hb dX7_spreads_18 (by decide) ?_
        exact ih2  (i + 1) (upd w1 i 0) (by omega) (by omega) (by rw [ew1]; exact zeG_s _ _ _) _ _ _ hP hD hS (lv_sub hl [1, 2, 0] rfl)
  exact lp2 ((7 - 0) + 1) 0 g (by omega) (by omega) (zeG_0 _ _) _ _ _ hP hD hS (lv_sub hl [1, 2, 0] rfl)
