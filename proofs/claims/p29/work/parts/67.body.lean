set_option maxHeartbeats 4000000 in
set_option maxRecDepth 100000 in
theorem law_body (l : Launch) (D : va_G) (tys : eT) (cI cT : ClassId) (ht0 : tys[0]? = some (cI, .int)) (ht1 : tys[1]? = some (cT, .object RX5)) (o aT aB aS g y z : Nat → Nat) (ad : Nat → Nat → Nat) {p9 : Program} {e9 : Env} {s9 : State} {m9 : MethodId} {a9 : Array Value} {b9 : List Frame} {t9 : Method} {c9 : Code} {A : Nat → Prop} {H0 : Heap} {Q : State → Prop} {bs L : Nat} {xs : Nat → Int32} (S : CallFix p9 m9 c9 cL_law 13 s9 a9 wsL_law RL) (hK : va_K D vwCl tys s9) (hN : eN s9) (hA : ∀ q : Nat, H0.size ≤ q → A q) (hD : va_D A (CWz cI cT o aT aB aS g y z ad)) (hX : va_X bs L xs s9 H0) (hbl : bs < H0.size) (hbA : ¬ A bs) (hL : L ≤ 260)
    (hQ : ∀ (H : Heap) (locs : List Loc) (ls : Array Slot), va_S A H0 H locs → W p9 l e9 room_1 s9 m9 a9 b9 t9 c9 H locs 137 1658 Q (F0 m9 397 ls [.int 1]))
    {q0 : Nat} {f0 : Nat → Int32} {x0 x1 x2 : Int32} {H : Heap} {locs : List Loc} {ls : Array Slot} (hW : SW D cI cT o aT aB aS g y z ad t00 u00 ([]) none q0 f0 x0 x1 x2 H) (hS : va_S A H0 H locs) (hl : lv_has ls 13 [(0, .ref bs), (1, .ref (o 0))]) : W p9 l e9 room_1 s9 m9 a9 b9 t9 c9 H locs 137 1658 Q (F0 m9 8 ls []) := by
  obtain ⟨hx, hb, hml, hown, hts⟩ := id S
  refine lv_aload_n hx hb dL_law_8 rfl (lv_at hl 1 rfl) ?_
  refine ej_L (rest := []) (As := [.ref (o 0)]) S hK hN hA hD hW hS (k_holds l D tys cI cT ht0 ht1 o aT aB aS g y z ad t00 u00 ([]) none q0 f0 x0 x1 x2 (0) (by omega) okS_00.1.1 okS_00) (va_cwS 1 hts gL_law_L_holds rfl rfl rfl hds_L_holds ⟨Nat.le_of_ble_eq_true rfl, Nat.le_of_ble_eq_true rfl⟩) rfl rfl hl.1 (Nat.le_of_ble_eq_true rfl) dL_law_9 ⟨Nat.le_of_ble_eq_true rfl, Nat.le_of_ble_eq_true rfl⟩ (fun r9 t9_ u9_ hs9_ q9_ f9_ x9_0 x9_1 x9_2 H locs hP9 hW hS => ?_)
  obtain ⟨rfl, rfl, rfl, rfl, rfl, rfl, rfl, rfl, rfl⟩ := hP9
  show W p9 l e9 room_1 s9 m9 a9 b9 t9 c9 H locs 137 1658 Q (F0 m9 12 ls [.int 1])
  have hW : SW D cI cT o aT aB aS g y z ad t00 u00 ([]) none q0 f0 x0 x1 x2 H := hW
  refine lv_if_eq (tgt := 52) hx hb dL_law_12 (by decide) (fun h9 => absurd h9 (show ¬ (1 : Int32) = 0 from by decide)) (fun _ => ?_)
  refine lv_aload_n hx hb dL_law_15 rfl (lv_at hl 1 rfl) ?_
  refine lv_iconst (v := 0) hx hb dL_law_16 (by decide) ?_
  refine ej_L (rest := []) (As := [.ref (o 0), .int 0]) S hK hN hA hD hW hS (k_would l D tys cI cT ht0 ht1 o aT aB aS g y z ad t00 u00 ([]) none q0 f0 x0 x1 x2 (0 : Int32) (0) okS_00.1.1 okS_00) (va_cwS 2 hts gL_law_L_would rfl rfl rfl hds_L_would ⟨Nat.le_of_ble_eq_true rfl, Nat.le_of_ble_eq_true rfl⟩) rfl rfl hl.1 (Nat.le_of_ble_eq_true rfl) dL_law_17 ⟨Nat.le_of_ble_eq_true rfl, Nat.le_of_ble_eq_true rfl⟩ (fun r9 t9_ u9_ hs9_ q9_ f9_ x9_0 x9_1 x9_2 H locs hP9 hW hS => ?_)
  obtain ⟨rfl, rfl, rfl, rfl, rfl, rfl, rfl, rfl, rfl⟩ := hP9
  show W p9 l e9 room_1 s9 m9 a9 b9 t9 c9 H locs 137 1658 Q (F0 m9 20 ls [.int 1])
  have hW : SW D cI cT o aT aB aS g y z ad t00 u00 ([]) none q0 f0 x0 x1 x2 H := hW
  refine lv_if_eq (tgt := 52) hx hb dL_law_20 (by decide) (fun h9 => absurd h9 (show ¬ (1 : Int32) = 0 from by decide)) (fun _ => ?_)
  refine lv_aload_n hx hb dL_law_23 rfl (lv_at hl 1 rfl) ?_
  refine lr_undo_no (rest := [])  S hK hN ht0 ht1 hA hD hW hS okS_00.1.1 rfl (cwV 0 hts gL_law_X6_undo rfl rfl rfl hdv_X6_undo ⟨Nat.le_of_ble_eq_true rfl, Nat.le_of_ble_eq_true rfl⟩) rfl hl.1 (Nat.le_of_ble_eq_true rfl) dL_law_24 ⟨Nat.le_of_ble_eq_true rfl, Nat.le_of_ble_eq_true rfl⟩ (fun H locs hW hS => ?_)
  show W p9 l e9 room_1 s9 m9 a9 b9 t9 c9 H locs 137 1658 Q (F0 m9 27 ls [.int (-2)])
  have hW : SW D cI cT o aT aB aS g y z ad t00 u00 ([]) none q0 f0 x0 x1 x2 H := hW
  refine lv_bipush (v := (-2)) hx hb dL_law_27 (by decide) ?_
  refine lv_icmp_ne (tgt := 52) hx hb dL_law_29 (by decide) (fun h9 => absurd (show ((-2) : Int32) = (-2) from by decide) h9) (fun _ => ?_)
  refine lv_aload_n hx hb dL_law_32 rfl (lv_at hl 1 rfl) ?_
  refine lr_restore_no (rest := [])  S hK hN ht0 ht1 hA hD hW hS okS_00.1.1 rfl (cwV 0 hts gL_law_X6_restore rfl rfl rfl hdv_X6_restore ⟨Nat.le_of_ble_eq_true rfl, Nat.le_of_ble_eq_true rfl⟩) rfl hl.1 (Nat.le_of_ble_eq_true rfl) dL_law_33 ⟨Nat.le_of_ble_eq_true rfl, Nat.le_of_ble_eq_true rfl⟩ (fun H locs hW hS => ?_)
  show W p9 l e9 room_1 s9 m9 a9 b9 t9 c9 H locs 137 1658 Q (F0 m9 36 ls [.int (-2)])
  have hW : SW D cI cT o aT aB aS g y z ad t00 u00 ([]) none q0 f0 x0 x1 x2 H := hW
  refine lv_bipush (v := (-2)) hx hb dL_law_36 (by decide) ?_
  refine lv_icmp_ne (tgt := 52) hx hb dL_law_38 (by decide) (fun h9 => absurd (show ((-2) : Int32) = (-2) from by decide) h9) (fun _ => ?_)
  refine lv_aload_n hx hb dL_law_41 rfl (lv_at hl 1 rfl) ?_
  refine lr_save (rest := [])  S hK hN ht0 ht1 hA hD hW hS okS_00.1.1  (cwV 0 hts gL_law_X6_save rfl rfl rfl hdv_X6_save ⟨Nat.le_of_ble_eq_true rfl, Nat.le_of_ble_eq_true rfl⟩) rfl hl.1 (Nat.le_of_ble_eq_true rfl) dL_law_42 ⟨Nat.le_of_ble_eq_true rfl, Nat.le_of_ble_eq_true rfl⟩ (fun H locs hW hS => ?_)
  show W p9 l e9 room_1 s9 m9 a9 b9 t9 c9 H locs 137 1658 Q (F0 m9 45 ls [.int (T_po u00)])
  have hW : SW D cI cT o aT aB aS g y z ad t00 u00 ([]) (some (t00, u00)) q0 f0 x0 x1 x2 H := hW
  refine ej_topi (show (T_po u00) = 0 from rfl) ?_
  refine lv_if_ne (tgt := 52) hx hb dL_law_45 (by decide) (fun h9 => absurd (show (0 : Int32) = 0 from by decide) h9) (fun _ => ?_)
  refine lv_iconst (v := 1) hx hb dL_law_48 (by decide) ?_
  refine lv_goto (tgt := 53) hx hb dL_law_49 (by decide) ?_
  refine lv_istore_n (lv' := [(2, .int 1), (0, .ref bs), (1, .ref (o 0))]) hx hb dL_law_53 rfl hl (by decide) rfl (fun ls hl => ?_)
  refine lv_aload_n hx hb dL_law_54 rfl (lv_at hl 2 rfl) ?_
  refine ej_L (rest := []) (As := [.ref (o 0)]) S hK hN hA hD hW hS (k_look l D tys cI cT ht0 ht1 o aT aB aS g y z ad t00 u00 ([]) (some (t00, u00)) q0 f0 x0 x1 x2 okS_00.1.1) (va_cwS 1 hts gL_law_L_look rfl rfl rfl hds_L_look ⟨Nat.le_of_ble_eq_true rfl, Nat.le_of_ble_eq_true rfl⟩) rfl rfl hl.1 (Nat.le_of_ble_eq_true rfl) dL_law_55 ⟨Nat.le_of_ble_eq_true rfl, Nat.le_of_ble_eq_true rfl⟩ (fun r9 t9_ u9_ hs9_ q9_ f9_ x9_0 x9_1 x9_2 H locs hP9 hW hS => ?_)
  obtain ⟨rfl, rfl, rfl, rfl, rfl, rfl, rfl, rfl, rfl⟩ := hP9
  show W p9 l e9 room_1 s9 m9 a9 b9 t9 c9 H locs 137 1658 Q (F0 m9 58 ls [.long (lookV t00 u00)])
  have hW : SW D cI cT o aT aB aS g y z ad t00 u00 ([]) (some (t00, u00)) q0 f0 x0 x1 x2 H := hW
  refine lv_lstore_n (lv' := [(3, .long (lookV t00 u00)), (2, .int 1), (0, .ref bs), (1, .ref (o 0))]) hx hb dL_law_58 rfl hl (by decide) rfl (fun ls hl => ?_)
  refine lv_iconst (v := 0) hx hb dL_law_59 (by decide) ?_
  refine lv_istore (lv' := [(5, .int 0), (3, .long (lookV t00 u00)), (2, .int 1), (0, .ref bs), (1, .ref (o 0))]) hx hb dL_law_60 hl (by decide) rfl (fun ls hl => ?_)
  have lp62 : ∀ (n62 : Nat) (n : Nat) (t : Pn) (u : Tr) (hs : List (Pn × Tr)) (q : Nat) (f : Nat → Int32) (z0 : Int32) (z1 : Int32) (z2 : Int32) (xs9 : Pn × Tr), 54 - n < n62 → (n ≤ 54) → (LJ (60 * n) t u hs xs9) → ∀ (H : Heap) (locs : List Loc) (ls : Array Slot), SW D cI cT o aT aB aS g y z ad t u hs (some xs9) q f z0 z1 z2 H → va_S A H0 H locs → lv_has ls 13 [(0, .ref bs), (1, .ref (o 0)), (2, .int 1), (3, .long (lookV xs9.1 xs9.2)), (5, .int (nI n))] → W p9 l e9 room_1 s9 m9 a9 b9 t9 c9 H locs 137 1658 Q (F0 m9 62 ls []) := by
    intro n62
    induction n62 with
    | zero => intro n t u hs q f z0 z1 z2 xs9 hm9; exact absurd hm9 (Nat.not_lt_zero _)
    | succ n62 ih62 =>
      intro n t u hs q f z0 z1 z2 xs9 hm62 hn54 hI H locs ls hW hS hl
      have hn4 := SW_len hW
      have hr4 := recN_le4 hn4
      refine lv_iload hx hb dL_law_62 (lv_at hl 4 rfl) ?_
      refine lv_bipush (v := 54) hx hb dL_law_64 (by decide) ?_
      refine lv_icmp_ge (tgt := 381) hx hb dL_law_66 (by decide) (fun c_66 => ?_) (fun c_66 => ?_)
      · have n_66 : 54 ≤ n := ej_tle (a := 54) (b := n) (by omega) (by omega) c_66
        refine lv_iload_n hx hb dL_law_381 rfl (lv_at hl 2 rfl) ?_
        refine lv_if_eq (tgt := 396) hx hb dL_law_382 (by decide) (fun h9 => absurd h9 (show ¬ (1 : Int32) = 0 from by decide)) (fun _ => ?_)
        refine lv_aload_n hx hb dL_law_385 rfl (lv_at hl 1 rfl) ?_
        refine ej_L (rest := []) (As := [.ref (o 0)]) S hK hN hA hD hW hS (k_holds l D tys cI cT ht0 ht1 o aT aB aS g y z ad t u hs (some xs9) q f z0 z1 z2 (60 * n) (by omega) hI.1.1.1 hI.1) (va_cwS 1 hts gL_law_L_holds rfl rfl rfl hds_L_holds ⟨Nat.le_of_ble_eq_true rfl, Nat.le_of_ble_eq_true rfl⟩) rfl rfl hl.1 (Nat.le_of_ble_eq_true rfl) dL_law_386 ⟨Nat.le_of_ble_eq_true rfl, Nat.le_of_ble_eq_true rfl⟩ (fun r9 t9_ u9_ hs9_ q9_ f9_ x9_0 x9_1 x9_2 H locs hP9 hW hS => ?_)
        obtain ⟨rfl, rfl, rfl, rfl, rfl, rfl, rfl, rfl, rfl⟩ := hP9
        show W p9 l e9 room_1 s9 m9 a9 b9 t9 c9 H locs 137 1658 Q (F0 m9 389 ls [.int 1])
        have hW : SW D cI cT o aT aB aS g y z ad t u hs (some xs9) q f z0 z1 z2 H := hW
        refine lv_if_eq (tgt := 396) hx hb dL_law_389 (by decide) (fun h9 => absurd h9 (show ¬ (1 : Int32) = 0 from by decide)) (fun _ => ?_)
        refine lv_iconst (v := 1) hx hb dL_law_392 (by decide) ?_
        refine lv_goto (tgt := 397) hx hb dL_law_393 (by decide) ?_
        exact hQ _ _ _ hS
      · have n_66 : n < 54 := ej_tnle (a := 54) (b := n) (by omega) (by omega) c_66
        refine lv_iload_n hx hb dL_law_69 rfl (lv_at hl 2 rfl) ?_
        refine lv_if_eq (tgt := 381) hx hb dL_law_70 (by decide) (fun h9 => absurd h9 (show ¬ (1 : Int32) = 0 from by decide)) (fun _ => ?_)
        have jp257 : ∀ (t5 : Pn) (u5 : Tr) (hs5 : List (Pn × Tr)) (q5 : Nat) (f5 : Nat → Int32) (y0 y1 y2 : Int32) (H : Heap) (locs : List Loc) (ls : Array Slot), (LJ (60 * (n + 1)) t5 u5 hs5 xs9) → SW D cI cT o aT aB aS g y z ad t5 u5 hs5 (some xs9) q5 f5 y0 y1 y2 H → va_S A H0 H locs → lv_has ls 13 [(0, .ref bs), (1, .ref (o 0)), (2, .int 1), (3, .long (lookV xs9.1 xs9.2)), (5, .int (nI n))] → W p9 l e9 room_1 s9 m9 a9 b9 t9 c9 H locs 137 1658 Q (F0 m9 257 ls []) := by
          intro t5 u5 hs5 q5 f5 y0 y1 y2 H locs ls hJ5 hW hS hl
          have hn5 := SW_len hW
          have jp326 : ∀ (t6 : Pn) (u6 : Tr) (hs6 : List (Pn × Tr)) (q6 : Nat) (f6 : Nat → Int32) (w0 w1 w2 : Int32) (x6 : Pn × Tr) (H : Heap) (locs : List Loc) (ls : Array Slot), (LJ (60 * (n + 1)) t6 u6 hs6 x6) → SW D cI cT o aT aB aS g y z ad t6 u6 hs6 (some x6) q6 f6 w0 w1 w2 H → va_S A H0 H locs → lv_has ls 13 [(0, .ref bs), (1, .ref (o 0)), (2, .int 1), (3, .long (lookV x6.1 x6.2)), (5, .int (nI n))] → W p9 l e9 room_1 s9 m9 a9 b9 t9 c9 H locs 137 1658 Q (F0 m9 326 ls []) := by
            intro t6 u6 hs6 q6 f6 w0 w1 w2 x6 H locs ls hJ6 hW hS hl
            refine lv_iload_n hx hb dL_law_326 rfl (lv_at hl 2 rfl) ?_
            refine lv_if_eq (tgt := 375) hx hb dL_law_327 (by decide) (fun h9 => absurd h9 (show ¬ (1 : Int32) = 0 from by decide)) (fun _ => ?_)
            refine lv_iload hx hb dL_law_330 (lv_at hl 4 rfl) ?_
            refine lv_bipush (v := 11) hx hb dL_law_332 (by decide) ?_
            refine lv_irem hx hb dL_law_334 (by decide) ?_
            refine ej_topi (show (nI n) - (nI n) / 11 * 11 = nI (n % 11) from pk_rem (a := n) (d := 11) (by omega) (by decide) (by decide)) ?_
            refine lv_bipush (v := 10) hx hb dL_law_335 (by decide) ?_
            refine lv_icmp_ne (tgt := 375) hx hb dL_law_337 (by decide) (fun c_337 => ?_) (fun c_337 => ?_)
            · have n_337 : (n % 11) ≠ 10 := ej_tne (a := (n % 11)) (b := 10) (by omega) (by omega) c_337
              refine lv_iinc (v := nI (n + 1)) (lv' := [(5, .int (nI (n + 1))), (0, .ref bs), (1, .ref (o 0)), (2, .int 1), (3, .long (lookV x6.1 x6.2))]) hx hb dL_law_375 hl (k := 4) rfl (nI_add n 1) (by decide) rfl (fun ls hl => ?_)
              refine lv_goto (tgt := 62) hx hb dL_law_378 (by decide) ?_
              exact ih62  (n + 1) t6 u6 hs6 q6 f6 w0 w1 w2 x6 (by omega) (by omega) hJ6 _ _ _ hW hS (lv_sub hl [1, 2, 3, 4, 0] rfl)
            · have n_337 : (n % 11) = 10 := ej_teq (a := (n % 11)) (b := 10) (by omega) (by omega) c_337
              refine lv_aload_n hx hb dL_law_340 rfl (lv_at hl 1 rfl) ?_
              refine lv_bipush (v := 18) hx hb dL_law_341 (by decide) ?_
              refine lr_count (rest := []) (w := 18) S hK hN ht0 ht1 hA hD hW hS hJ6.1.1.1  (cwV 1 hts gL_law_X6_count rfl rfl rfl hdv_X6_count ⟨Nat.le_of_ble_eq_true rfl, Nat.le_of_ble_eq_true rfl⟩) rfl hl.1 (Nat.le_of_ble_eq_true rfl) dL_law_343 ⟨Nat.le_of_ble_eq_true rfl, Nat.le_of_ble_eq_true rfl⟩ (fun H locs hW hS => ?_)
              show W p9 l e9 room_1 s9 m9 a9 b9 t9 c9 H locs 137 1658 Q (F0 m9 346 ls [.int (couA t6 u6 q6 hs6.length 18)])
              have hW : SW D cI cT o aT aB aS g y z ad t6 u6 hs6 (some x6) q6 f6 w0 w1 w2 H := hW
              refine ej_topi (show (couA t6 u6 q6 hs6.length 18) = nI hs6.length from lkc_18 t6 u6 q6 hs6.length) ?_
              refine lv_istore (lv' := [(12, .int (nI hs6.length)), (0, .ref bs), (1, .ref (o 0)), (2, .int 1), (3, .long (lookV x6.1 x6.2)), (5, .int (nI n))]) hx hb dL_law_346 hl (by decide) rfl (fun ls hl => ?_)
              rcases snoc_cases hs6 with he6 | ⟨hs7, y7, he6⟩
              · have hl6 : hs6.length = 0 := by rw [he6]; rfl
                refine lv_aload_n hx hb dL_law_348 rfl (lv_at hl 2 rfl) ?_
                refine lr_undo_no (rest := [])  S hK hN ht0 ht1 hA hD hW hS hJ6.1.1.1 he6 (cwV 0 hts gL_law_X6_undo rfl rfl rfl hdv_X6_undo ⟨Nat.le_of_ble_eq_true rfl, Nat.le_of_ble_eq_true rfl⟩) rfl hl.1 (Nat.le_of_ble_eq_true rfl) dL_law_349 ⟨Nat.le_of_ble_eq_true rfl, Nat.le_of_ble_eq_true rfl⟩ (fun H locs hW hS => ?_)
                show W p9 l e9 room_1 s9 m9 a9 b9 t9 c9 H locs 137 1658 Q (F0 m9 352 ls [.int (-2)])
                have hW : SW D cI cT o aT aB aS g y z ad t6 u6 hs6 (some x6) q6 f6 w0 w1 w2 H := hW
                refine lv_iload hx hb dL_law_352 (lv_at hl 0 rfl) ?_
                refine lv_if_ne (tgt := 362) hx hb dL_law_354 (by decide) (fun h9 => absurd (congrArg nI (show hs6.length = 0 from hl6)) h9) (fun _ => ?_)
                refine lv_bipush (v := (-2)) hx hb dL_law_357 (by decide) ?_
                refine lv_goto (tgt := 366) hx hb dL_law_359 (by decide) ?_
                refine lv_icmp_ne (tgt := 373) hx hb dL_law_366 (by decide) (fun h9 => absurd (show ((-2) : Int32) = (-2) from by decide) h9) (fun _ => ?_)
                refine lv_iconst (v := 1) hx hb dL_law_369 (by decide) ?_
                refine lv_goto (tgt := 374) hx hb dL_law_370 (by decide) ?_
                refine lv_istore_n (lv' := [(2, .int 1), (12, .int (nI hs6.length)), (0, .ref bs), (1, .ref (o 0)), (3, .long (lookV x6.1 x6.2)), (5, .int (nI n))]) hx hb dL_law_374 rfl hl (by decide) rfl (fun ls hl => ?_)
                refine lv_iinc (v := nI (n + 1)) (lv' := [(5, .int (nI (n + 1))), (2, .int 1), (12, .int (nI hs6.length)), (0, .ref bs), (1, .ref (o 0)), (3, .long (lookV x6.1 x6.2))]) hx hb dL_law_375 hl (k := 5) rfl (nI_add n 1) (by decide) rfl (fun ls hl => ?_)
                refine lv_goto (tgt := 62) hx hb dL_law_378 (by decide) ?_
                exact ih62  (n + 1) t6 u6 hs6 q6 f6 w0 w1 w2 x6 (by omega) (by omega) hJ6 _ _ _ hW hS (lv_sub hl [3, 4, 1, 5, 0] rfl)
              · have hn6 := SW_len hW
                have hl6 : hs6.length = hs7.length + 1 := by rw [he6, List.length_append]; rfl
                refine lv_aload_n hx hb dL_law_348 rfl (lv_at hl 2 rfl) ?_
                refine lr_undo (rest := []) (hs0 := hs7) (x := y7) S hK hN ht0 ht1 hA hD hW hS hJ6.1.1.1 he6 (cwV 0 hts gL_law_X6_undo rfl rfl rfl hdv_X6_undo ⟨Nat.le_of_ble_eq_true rfl, Nat.le_of_ble_eq_true rfl⟩) rfl hl.1 (Nat.le_of_ble_eq_true rfl) dL_law_349 ⟨Nat.le_of_ble_eq_true rfl, Nat.le_of_ble_eq_true rfl⟩ (fun H locs hW hS => ?_)
                show W p9 l e9 room_1 s9 m9 a9 b9 t9 c9 H locs 137 1658 Q (F0 m9 352 ls [.int (nI hs7.length)])
                have hW : SW D cI cT o aT aB aS g y z ad y7.1 y7.2 hs7 (some x6) q6 f6 w0 w1 w2 H := hW
                refine lv_iload hx hb dL_law_352 (lv_at hl 0 rfl) ?_
                refine lv_if_ne (tgt := 362) hx hb dL_law_354 (by decide) (fun _ => ?_) (fun h9 => absurd h9 (ej_ne (a := hs6.length) (b := 0) (by omega) (by omega) (show hs6.length ≠ 0 from by omega)))
                refine lv_iload hx hb dL_law_362 (lv_at hl 0 rfl) ?_
                refine lv_iconst (v := 1) hx hb dL_law_364 (by decide) ?_
                refine lv_isub hx hb dL_law_365 ?_
                refine ej_topi (show ((nI hs6.length) - 1) = nI (hs6.length - 1) from pk_sub (a := hs6.length) (b := 1) (by omega)) ?_
                refine lv_icmp_ne (tgt := 373) hx hb dL_law_366 (by decide) (fun h9 => absurd (congrArg nI (show hs7.length = (hs6.length - 1) from by omega)) h9) (fun _ => ?_)
                refine lv_iconst (v := 1) hx hb dL_law_369 (by decide) ?_
                refine lv_goto (tgt := 374) hx hb dL_law_370 (by decide) ?_
                refine lv_istore_n (lv' := [(2, .int 1), (12, .int (nI hs6.length)), (0, .ref bs), (1, .ref (o 0)), (3, .long (lookV x6.1 x6.2)), (5, .int (nI n))]) hx hb dL_law_374 rfl hl (by decide) rfl (fun ls hl => ?_)
                refine lv_iinc (v := nI (n + 1)) (lv' := [(5, .int (nI (n + 1))), (2, .int 1), (12, .int (nI hs6.length)), (0, .ref bs), (1, .ref (o 0)), (3, .long (lookV x6.1 x6.2))]) hx hb dL_law_375 hl (k := 5) rfl (nI_add n 1) (by decide) rfl (fun ls hl => ?_)
                refine lv_goto (tgt := 62) hx hb dL_law_378 (by decide) ?_
                exact ih62  (n + 1) y7.1 y7.2 hs7 q6 f6 w0 w1 w2 x6 (by omega) (by omega) (LJ_undo hJ6 he6) _ _ _ hW hS (lv_sub hl [3, 4, 1, 5, 0] rfl)
          refine lv_iload_n hx hb dL_law_257 rfl (lv_at hl 2 rfl) ?_
          refine lv_if_eq (tgt := 326) hx hb dL_law_258 (by decide) (fun h9 => absurd h9 (show ¬ (1 : Int32) = 0 from by decide)) (fun _ => ?_)
          refine lv_iload hx hb dL_law_261 (lv_at hl 4 rfl) ?_
          refine lv_bipush (v := 15) hx hb dL_law_263 (by decide) ?_
          refine lv_irem hx hb dL_law_265 (by decide) ?_
          refine ej_topi (show (nI n) - (nI n) / 15 * 15 = nI (n % 15) from pk_rem (a := n) (d := 15) (by omega) (by decide) (by decide)) ?_
          refine lv_bipush (v := 14) hx hb dL_law_266 (by decide) ?_
          refine lv_icmp_ne (tgt := 326) hx hb dL_law_268 (by decide) (fun c_268 => ?_) (fun c_268 => ?_)
          · have n_268 : (n % 15) ≠ 14 := ej_tne (a := (n % 15)) (b := 14) (by omega) (by omega) c_268
            exact jp326 t5 u5 hs5 q5 f5 y0 y1 y2 xs9 _ _ _ hJ5 hW hS (lv_sub hl [0, 1, 2, 3, 4] rfl)
          · have n_268 : (n % 15) = 14 := ej_teq (a := (n % 15)) (b := 14) (by omega) (by omega) c_268
            refine lv_aload_n hx hb dL_law_271 rfl (lv_at hl 1 rfl) ?_
            refine lr_restore (rest := []) (x := xs9) S hK hN ht0 ht1 hA hD hW hS hJ5.1.1.1 rfl (cwV 0 hts gL_law_X6_restore rfl rfl rfl hdv_X6_restore ⟨Nat.le_of_ble_eq_true rfl, Nat.le_of_ble_eq_true rfl⟩) rfl hl.1 (Nat.le_of_ble_eq_true rfl) dL_law_272 ⟨Nat.le_of_ble_eq_true rfl, Nat.le_of_ble_eq_true rfl⟩ (fun H locs hW hS => ?_)
            show W p9 l e9 room_1 s9 m9 a9 b9 t9 c9 H locs 137 1658 Q (F0 m9 275 ls [.int (T_po xs9.2)])
            have hW : SW D cI cT o aT aB aS g y z ad xs9.1 xs9.2 (recL hs5 (t5, u5)) (some xs9) q5 f5 y0 y1 y2 H := hW
            refine lv_istore (lv' := [(12, .int (T_po xs9.2)), (0, .ref bs), (1, .ref (o 0)), (2, .int 1), (3, .long (lookV xs9.1 xs9.2)), (5, .int (nI n))]) hx hb dL_law_275 hl (by decide) rfl (fun ls hl => ?_)
            refine lv_iload hx hb dL_law_277 (lv_at hl 0 rfl) ?_
            refine lv_aload_n hx hb dL_law_279 rfl (lv_at hl 2 rfl) ?_
            refine lv_iconst (v := 0) hx hb dL_law_280 (by decide) ?_
            refine lr_count (rest := [.int (T_po xs9.2)]) (w := 0) S hK hN ht0 ht1 hA hD hW hS hJ5.2.2.1.1  (cwV 1 hts gL_law_X6_count rfl rfl rfl hdv_X6_count ⟨Nat.le_of_ble_eq_true rfl, Nat.le_of_ble_eq_true rfl⟩) rfl hl.1 (Nat.le_of_ble_eq_true rfl) dL_law_281 ⟨Nat.le_of_ble_eq_true rfl, Nat.le_of_ble_eq_true rfl⟩ (fun H locs hW hS => ?_)
            show W p9 l e9 room_1 s9 m9 a9 b9 t9 c9 H locs 137 1658 Q (F0 m9 284 ls [.int (couA xs9.1 xs9.2 q5 (recL hs5 (t5, u5)).length 0), .int (T_po xs9.2)])
            have hW : SW D cI cT o aT aB aS g y z ad xs9.1 xs9.2 (recL hs5 (t5, u5)) (some xs9) q5 f5 y0 y1 y2 H := hW
            refine ej_topi (show (couA xs9.1 xs9.2 q5 (recL hs5 (t5, u5)).length 0) = T_po xs9.2 from lkc_0 xs9.1 xs9.2 q5 ((recL hs5 (t5, u5)).length)) ?_
            refine lv_icmp_ne (tgt := 319) hx hb dL_law_284 (by decide) (fun h9 => absurd (rfl) h9) (fun _ => ?_)
            refine lv_aload_n hx hb dL_law_287 rfl (lv_at hl 2 rfl) ?_
            refine ej_L (rest := []) (As := [.ref (o 0)]) S hK hN hA hD hW hS (k_look l D tys cI cT ht0 ht1 o aT aB aS g y z ad xs9.1 xs9.2 (recL hs5 (t5, u5)) (some xs9) q5 f5 y0 y1 y2 hJ5.2.2.1.1) (va_cwS 1 hts gL_law_L_look rfl rfl rfl hds_L_look ⟨Nat.le_of_ble_eq_true rfl, Nat.le_of_ble_eq_true rfl⟩) rfl rfl hl.1 (Nat.le_of_ble_eq_true rfl) dL_law_288 ⟨Nat.le_of_ble_eq_true rfl, Nat.le_of_ble_eq_true rfl⟩ (fun r9 t9_ u9_ hs9_ q9_ f9_ x9_0 x9_1 x9_2 H locs hP9 hW hS => ?_)
            obtain ⟨rfl, rfl, rfl, rfl, rfl, rfl, rfl, rfl, rfl⟩ := hP9
            show W p9 l e9 room_1 s9 m9 a9 b9 t9 c9 H locs 137 1658 Q (F0 m9 291 ls [.long (lookV xs9.1 xs9.2)])
            have hW : SW D cI cT o aT aB aS g y z ad xs9.1 xs9.2 (recL hs5 (t5, u5)) (some xs9) q5 f5 y0 y1 y2 H := hW
            refine lv_lload_n hx hb dL_law_291 rfl (lv_at hl 4 rfl) ?_
            refine W.lcmp hx hb dL_law_292 ?_
            refine ej_topi (show (lg_cmp (lookV xs9.1 xs9.2) (lookV xs9.1 xs9.2)) = 0 from lg_self _) ?_
            refine lv_if_ne (tgt := 319) hx hb dL_law_293 (by decide) (fun h9 => absurd (show (0 : Int32) = 0 from by decide) h9) (fun _ => ?_)
            refine lv_aload_n hx hb dL_law_296 rfl (lv_at hl 2 rfl) ?_
            refine lr_undo (rest := []) (hs0 := if hs5.length = 4 then hs5.drop 1 else hs5) (x := (t5, u5)) S hK hN ht0 ht1 hA hD hW hS hJ5.2.2.1.1 rfl (cwV 0 hts gL_law_X6_undo rfl rfl rfl hdv_X6_undo ⟨Nat.le_of_ble_eq_true rfl, Nat.le_of_ble_eq_true rfl⟩) rfl hl.1 (Nat.le_of_ble_eq_true rfl) dL_law_297 ⟨Nat.le_of_ble_eq_true rfl, Nat.le_of_ble_eq_true rfl⟩ (fun H locs hW hS => ?_)
            show W p9 l e9 room_1 s9 m9 a9 b9 t9 c9 H locs 137 1658 Q (F0 m9 300 ls [.int (nI ((if hs5.length = 4 then hs5.drop 1 else hs5).length))])
            have hW : SW D cI cT o aT aB aS g y z ad ((t5, u5).1) ((t5, u5).2) (if hs5.length = 4 then hs5.drop 1 else hs5) (some xs9) q5 f5 y0 y1 y2 H := hW
            have hW : SW D cI cT o aT aB aS g y z ad t5 u5 (if hs5.length = 4 then hs5.drop 1 else hs5) (some xs9) q5 f5 y0 y1 y2 H := hW
            refine lv_if_lt (tgt := 319) hx hb dL_law_300 (by decide) (fun h9 => absurd h9 ((ej_nlt (a := (if hs5.length = 4 then hs5.drop 1 else hs5).length) (b := 0) (Nat.lt_of_le_of_lt (rec_drop_len hn5) (by decide)) (Nat.zero_le _)))) (fun _ => ?_)
            refine lv_aload_n hx hb dL_law_303 rfl (lv_at hl 2 rfl) ?_
            refine lr_save (rest := [])  S hK hN ht0 ht1 hA hD hW hS hJ5.1.1.1  (cwV 0 hts gL_law_X6_save rfl rfl rfl hdv_X6_save ⟨Nat.le_of_ble_eq_true rfl, Nat.le_of_ble_eq_true rfl⟩) rfl hl.1 (Nat.le_of_ble_eq_true rfl) dL_law_304 ⟨Nat.le_of_ble_eq_true rfl, Nat.le_of_ble_eq_true rfl⟩ (fun H locs hW hS => ?_)
            show W p9 l e9 room_1 s9 m9 a9 b9 t9 c9 H locs 137 1658 Q (F0 m9 307 ls [.int (T_po u5)])
            have hW : SW D cI cT o aT aB aS g y z ad t5 u5 (if hs5.length = 4 then hs5.drop 1 else hs5) (some (t5, u5)) q5 f5 y0 y1 y2 H := hW
            refine lv_aload_n hx hb dL_law_307 rfl (lv_at hl 2 rfl) ?_
            refine lv_iconst (v := 0) hx hb dL_law_308 (by decide) ?_
            refine lr_count (rest := [.int (T_po u5)]) (w := 0) S hK hN ht0 ht1 hA hD hW hS hJ5.1.1.1  (cwV 1 hts gL_law_X6_count rfl rfl rfl hdv_X6_count ⟨Nat.le_of_ble_eq_true rfl, Nat.le_of_ble_eq_true rfl⟩) rfl hl.1 (Nat.le_of_ble_eq_true rfl) dL_law_309 ⟨Nat.le_of_ble_eq_true rfl, Nat.le_of_ble_eq_true rfl⟩ (fun H locs hW hS => ?_)
            show W p9 l e9 room_1 s9 m9 a9 b9 t9 c9 H locs 137 1658 Q (F0 m9 312 ls [.int (couA t5 u5 q5 (if hs5.length = 4 then hs5.drop 1 else hs5).length 0), .int (T_po u5)])
            have hW : SW D cI cT o aT aB aS g y z ad t5 u5 (if hs5.length = 4 then hs5.drop 1 else hs5) (some (t5, u5)) q5 f5 y0 y1 y2 H := hW
            refine ej_topi (show (couA t5 u5 q5 (if hs5.length = 4 then hs5.drop 1 else hs5).length 0) = T_po u5 from lkc_0 t5 u5 q5 ((if hs5.length = 4 then hs5.drop 1 else hs5).length)) ?_
            refine lv_icmp_ne (tgt := 319) hx hb dL_law_312 (by decide) (fun h9 => absurd (rfl) h9) (fun _ => ?_)
            refine lv_iconst (v := 1) hx hb dL_law_315 (by decide) ?_
            refine lv_goto (tgt := 320) hx hb dL_law_316 (by decide) ?_
            refine lv_istore_n (lv' := [(2, .int 1), (12, .int (T_po xs9.2)), (0, .ref bs), (1, .ref (o 0)), (3, .long (lookV xs9.1 xs9.2)), (5, .int (nI n))]) hx hb dL_law_320 rfl hl (by decide) rfl (fun ls hl => ?_)
            refine lv_aload_n hx hb dL_law_321 rfl (lv_at hl 3 rfl) ?_
            refine ej_L (rest := []) (As := [.ref (o 0)]) S hK hN hA hD hW hS (k_look l D tys cI cT ht0 ht1 o aT aB aS g y z ad t5 u5 (if hs5.length = 4 then hs5.drop 1 else hs5) (some (t5, u5)) q5 f5 y0 y1 y2 hJ5.1.1.1) (va_cwS 1 hts gL_law_L_look rfl rfl rfl hds_L_look ⟨Nat.le_of_ble_eq_true rfl, Nat.le_of_ble_eq_true rfl⟩) rfl rfl hl.1 (Nat.le_of_ble_eq_true rfl) dL_law_322 ⟨Nat.le_of_ble_eq_true rfl, Nat.le_of_ble_eq_true rfl⟩ (fun r9 t9_ u9_ hs9_ q9_ f9_ x9_0 x9_1 x9_2 H locs hP9 hW hS => ?_)
            obtain ⟨rfl, rfl, rfl, rfl, rfl, rfl, rfl, rfl, rfl⟩ := hP9
            show W p9 l e9 room_1 s9 m9 a9 b9 t9 c9 H locs 137 1658 Q (F0 m9 325 ls [.long (lookV t5 u5)])
            have hW : SW D cI cT o aT aB aS g y z ad t5 u5 (if hs5.length = 4 then hs5.drop 1 else hs5) (some (t5, u5)) q5 f5 y0 y1 y2 H := hW
            refine lv_lstore_n (lv' := [(3, .long (lookV t5 u5)), (2, .int 1), (12, .int (T_po xs9.2)), (0, .ref bs), (1, .ref (o 0)), (5, .int (nI n))]) hx hb dL_law_325 rfl hl (by decide) rfl (fun ls hl => ?_)
            exact jp326 t5 u5 (if hs5.length = 4 then hs5.drop 1 else hs5) q5 f5 y0 y1 y2 (t5, u5) _ _ _ (LJ_drop hJ5) hW hS (lv_sub hl [3, 4, 1, 0, 5] rfl)
        refine lv_aload_n hx hb dL_law_73 rfl (lv_at hl 0 rfl) ?_
        refine lv_iconst (v := 2) hx hb dL_law_74 (by decide) ?_
        refine lv_iload hx hb dL_law_75 (lv_at hl 4 rfl) ?_
        refine lv_imul hx hb dL_law_77 ?_
        refine ej_topi (show (2 : Int32) * (nI n) = nI (2 * n) from pk_mul 2 n) ?_
        refine ej_lot (rest := []) (k := 2 * n) S hA hX hbl hbA hL (by omega) hW hS (va_cwS 2 hts gL_law_L_lot rfl rfl rfl hds_L_lot ⟨Nat.le_of_ble_eq_true rfl, Nat.le_of_ble_eq_true rfl⟩) rfl rfl hl.1 (Nat.le_of_ble_eq_true rfl) dL_law_78 ⟨Nat.le_of_ble_eq_true rfl, Nat.le_of_ble_eq_true rfl⟩ (fun xv H locs hW hS => ?_)
        show W p9 l e9 room_1 s9 m9 a9 b9 t9 c9 H locs 137 1658 Q (F0 m9 81 ls [.int xv])
        refine lv_istore (lv' := [(6, .int xv), (0, .ref bs), (1, .ref (o 0)), (2, .int 1), (3, .long (lookV xs9.1 xs9.2)), (5, .int (nI n))]) hx hb dL_law_81 hl (by decide) rfl (fun ls hl => ?_)
        refine lv_aload_n hx hb dL_law_83 rfl (lv_at hl 1 rfl) ?_
        refine lv_iconst (v := 2) hx hb dL_law_84 (by decide) ?_
        refine lv_iload hx hb dL_law_85 (lv_at hl 5 rfl) ?_
        refine lv_imul hx hb dL_law_87 ?_
        refine ej_topi (show (2 : Int32) * (nI n) = nI (2 * n) from pk_mul 2 n) ?_
        refine lv_iconst (v := 1) hx hb dL_law_88 (by decide) ?_
        refine lv_iadd hx hb dL_law_89 ?_
        refine ej_topi (show (nI (2 * n)) + 1 = nI ((2 * n) + 1) from nI_add (2 * n) 1) ?_
        refine ej_lot (rest := []) (k := (2 * n) + 1) S hA hX hbl hbA hL (by omega) hW hS (va_cwS 2 hts gL_law_L_lot rfl rfl rfl hds_L_lot ⟨Nat.le_of_ble_eq_true rfl, Nat.le_of_ble_eq_true rfl⟩) rfl rfl hl.1 (Nat.le_of_ble_eq_true rfl) dL_law_90 ⟨Nat.le_of_ble_eq_true rfl, Nat.le_of_ble_eq_true rfl⟩ (fun yv H locs hW hS => ?_)
        show W p9 l e9 room_1 s9 m9 a9 b9 t9 c9 H locs 137 1658 Q (F0 m9 93 ls [.int yv])
        refine lv_istore (lv' := [(7, .int yv), (6, .int xv), (0, .ref bs), (1, .ref (o 0)), (2, .int 1), (3, .long (lookV xs9.1 xs9.2)), (5, .int (nI n))]) hx hb dL_law_93 hl (by decide) rfl (fun ls hl => ?_)
        refine lv_aload_n hx hb dL_law_95 rfl (lv_at hl 3 rfl) ?_
        refine ej_L (rest := []) (As := [.ref (o 0)]) S hK hN hA hD hW hS (k_look l D tys cI cT ht0 ht1 o aT aB aS g y z ad t u hs (some xs9) q f z0 z1 z2 hI.1.1.1) (va_cwS 1 hts gL_law_L_look rfl rfl rfl hds_L_look ⟨Nat.le_of_ble_eq_true rfl, Nat.le_of_ble_eq_true rfl⟩) rfl rfl hl.1 (Nat.le_of_ble_eq_true rfl) dL_law_96 ⟨Nat.le_of_ble_eq_true rfl, Nat.le_of_ble_eq_true rfl⟩ (fun r9 t9_ u9_ hs9_ q9_ f9_ x9_0 x9_1 x9_2 H locs hP9 hW hS => ?_)
        obtain ⟨rfl, rfl, rfl, rfl, rfl, rfl, rfl, rfl, rfl⟩ := hP9
        show W p9 l e9 room_1 s9 m9 a9 b9 t9 c9 H locs 137 1658 Q (F0 m9 99 ls [.long (lookV t u)])
        have hW : SW D cI cT o aT aB aS g y z ad t u hs (some xs9) q f z0 z1 z2 H := hW
        refine lv_lstore (lv' := [(8, .long (lookV t u)), (7, .int yv), (6, .int xv), (0, .ref bs), (1, .ref (o 0)), (2, .int 1), (3, .long (lookV xs9.1 xs9.2)), (5, .int (nI n))]) hx hb dL_law_99 hl (by decide) rfl (fun ls hl => ?_)
        refine lv_aload_n hx hb dL_law_101 rfl (lv_at hl 4 rfl) ?_
        refine lv_bipush (v := 18) hx hb dL_law_102 (by decide) ?_
        refine lr_count (rest := []) (w := 18) S hK hN ht0 ht1 hA hD hW hS hI.1.1.1  (cwV 1 hts gL_law_X6_count rfl rfl rfl hdv_X6_count ⟨Nat.le_of_ble_eq_true rfl, Nat.le_of_ble_eq_true rfl⟩) rfl hl.1 (Nat.le_of_ble_eq_true rfl) dL_law_104 ⟨Nat.le_of_ble_eq_true rfl, Nat.le_of_ble_eq_true rfl⟩ (fun H locs hW hS => ?_)
        show W p9 l e9 room_1 s9 m9 a9 b9 t9 c9 H locs 137 1658 Q (F0 m9 107 ls [.int (couA t u q hs.length 18)])
        have hW : SW D cI cT o aT aB aS g y z ad t u hs (some xs9) q f z0 z1 z2 H := hW
        refine ej_topi (show (couA t u q hs.length 18) = nI hs.length from lkc_18 t u q hs.length) ?_
        refine lv_istore (lv' := [(10, .int (nI hs.length)), (8, .long (lookV t u)), (7, .int yv), (6, .int xv), (0, .ref bs), (1, .ref (o 0)), (2, .int 1), (3, .long (lookV xs9.1 xs9.2)), (5, .int (nI n))]) hx hb dL_law_107 hl (by decide) rfl (fun ls hl => ?_)
        refine lv_aload_n hx hb dL_law_109 rfl (lv_at hl 5 rfl) ?_
        refine lv_iload hx hb dL_law_110 (lv_at hl 3 rfl) ?_
        refine lv_iload hx hb dL_law_112 (lv_at hl 2 rfl) ?_
        refine ej_L (rest := []) (As := [.ref (o 0), .int xv, .int yv]) S hK hN hA hD hW hS (k_acts l D tys cI cT ht0 ht1 o aT aB aS g y z ad t u hs (some xs9) q f z0 z1 z2 xv yv (60 * n) hI.1.1.1 hI.1) (va_cwS 3 hts gL_law_L_acts rfl rfl rfl hds_L_acts ⟨Nat.le_of_ble_eq_true rfl, Nat.le_of_ble_eq_true rfl⟩) rfl rfl hl.1 (Nat.le_of_ble_eq_true rfl) dL_law_114 ⟨Nat.le_of_ble_eq_true rfl, Nat.le_of_ble_eq_true rfl⟩ (fun r9 t9_ u9_ hs9_ q9_ f9_ x9_0 x9_1 x9_2 H locs hP9 hW hS => ?_)
        obtain ⟨rfl, hok9, hch9⟩ := hP9
        show W p9 l e9 room_1 s9 m9 a9 b9 t9 c9 H locs 137 1658 Q (F0 m9 117 ls [.int 1])
        have hW : SW D cI cT o aT aB aS g y z ad t9_ u9_ hs9_ (some xs9) q9_ f9_ x9_0 x9_1 x9_2 H := hW
        refine lv_if_eq (tgt := 155) hx hb dL_law_117 (by decide) (fun h9 => absurd h9 (show ¬ (1 : Int32) = 0 from by decide)) (fun _ => ?_)
        have jp156 : ∀ (H : Heap) (locs : List Loc) (ls : Array Slot), SW D cI cT o aT aB aS g y z ad t9_ u9_ hs9_ (some xs9) q9_ f9_ x9_0 x9_1 x9_2 H → va_S A H0 H locs → lv_has ls 13 [(0, .ref bs), (1, .ref (o 0)), (3, .long (lookV xs9.1 xs9.2)), (5, .int (nI n)), (7, .int yv), (8, .long (lookV t u)), (10, .int (nI hs.length))] → W p9 l e9 room_1 s9 m9 a9 b9 t9 c9 H locs 137 1658 Q (F0 m9 156 ls [.int 1]) := by
          intro  H locs ls  hW hS hl
          refine lv_istore_n (lv' := [(2, .int 1), (0, .ref bs), (1, .ref (o 0)), (3, .long (lookV xs9.1 xs9.2)), (5, .int (nI n)), (7, .int yv), (8, .long (lookV t u)), (10, .int (nI hs.length))]) hx hb dL_law_156 rfl hl (by decide) rfl (fun ls hl => ?_)
          rcases hch9 with ⟨rfl, rfl, rfl⟩ | rfl
          · have hJn : LJ (60 * (n + 1)) t u hs xs9 := LJ_up hI (by omega)
            refine lv_aload_n hx hb dL_law_157 rfl (lv_at hl 2 rfl) ?_
            refine lv_bipush (v := 18) hx hb dL_law_158 (by decide) ?_
            refine lr_count (rest := []) (w := 18) S hK hN ht0 ht1 hA hD hW hS hI.1.1.1  (cwV 1 hts gL_law_X6_count rfl rfl rfl hdv_X6_count ⟨Nat.le_of_ble_eq_true rfl, Nat.le_of_ble_eq_true rfl⟩) rfl hl.1 (Nat.le_of_ble_eq_true rfl) dL_law_160 ⟨Nat.le_of_ble_eq_true rfl, Nat.le_of_ble_eq_true rfl⟩ (fun H locs hW hS => ?_)
            show W p9 l e9 room_1 s9 m9 a9 b9 t9 c9 H locs 137 1658 Q (F0 m9 163 ls [.int (couA t u q9_ hs.length 18)])
            have hW : SW D cI cT o aT aB aS g y z ad t u hs (some xs9) q9_ f9_ x9_0 x9_1 x9_2 H := hW
            refine ej_topi (show (couA t u q9_ hs.length 18) = nI hs.length from lkc_18 t u q9_ hs.length) ?_
            refine lv_istore (lv' := [(11, .int (nI hs.length)), (2, .int 1), (0, .ref bs), (1, .ref (o 0)), (3, .long (lookV xs9.1 xs9.2)), (5, .int (nI n)), (7, .int yv), (8, .long (lookV t u)), (10, .int (nI hs.length))]) hx hb dL_law_163 hl (by decide) rfl (fun ls hl => ?_)
            refine lv_iload_n hx hb dL_law_165 rfl (lv_at hl 1 rfl) ?_
            refine lv_if_eq (tgt := 205) hx hb dL_law_166 (by decide) (fun h9 => absurd h9 (show ¬ (1 : Int32) = 0 from by decide)) (fun _ => ?_)
            refine lv_iload hx hb dL_law_169 (lv_at hl 0 rfl) ?_
            refine lv_iload hx hb dL_law_171 (lv_at hl 8 rfl) ?_
            refine lv_icmp_ne (tgt := 192) hx hb dL_law_173 (by decide) (fun h9 => absurd (congrArg nI (show hs.length = hs.length from by omega)) h9) (fun _ => ?_)
            refine lv_iload hx hb dL_law_176 (lv_at hl 8 rfl) ?_
            refine lv_iconst (v := 4) hx hb dL_law_178 (by decide) ?_
            refine lv_icmp_eq (tgt := 201) hx hb dL_law_179 (by decide) (fun c_179 => ?_) (fun c_179 => ?_)
            · have n_179 : hs.length = 4 := ej_teq (a := hs.length) (b := 4) (by omega) (by omega) c_179
              refine lv_iconst (v := 1) hx hb dL_law_201 (by decide) ?_
              refine lv_goto (tgt := 206) hx hb dL_law_202 (by decide) ?_
              refine lv_istore_n (lv' := [(2, .int 1), (11, .int (nI hs.length)), (0, .ref bs), (1, .ref (o 0)), (3, .long (lookV xs9.1 xs9.2)), (5, .int (nI n)), (7, .int yv), (8, .long (lookV t u)), (10, .int (nI hs.length))]) hx hb dL_law_206 rfl hl (by decide) rfl (fun ls hl => ?_)
              refine lv_iload_n hx hb dL_law_207 rfl (lv_at hl 0 rfl) ?_
              refine lv_if_eq (tgt := 257) hx hb dL_law_208 (by decide) (fun h9 => absurd h9 (show ¬ (1 : Int32) = 0 from by decide)) (fun _ => ?_)
              refine lv_iload hx hb dL_law_211 (lv_at hl 1 rfl) ?_
              refine lv_iload hx hb dL_law_213 (lv_at hl 8 rfl) ?_
              refine lv_iconst (v := 1) hx hb dL_law_215 (by decide) ?_
              refine lv_iadd hx hb dL_law_216 ?_
              refine ej_topi (show (nI hs.length) + 1 = nI (hs.length + 1) from nI_add hs.length 1) ?_
              refine lv_icmp_ne (tgt := 257) hx hb dL_law_217 (by decide) (fun _ => ?_) (fun h9 => absurd h9 (ej_ne (a := hs.length) (b := (hs.length + 1)) (by omega) (by omega) (show hs.length ≠ (hs.length + 1) from by omega)))
              exact jp257 t u hs q9_ f9_ x9_0 x9_1 x9_2 _ _ _ hJn hW hS (lv_sub hl [2, 3, 0, 4, 5] rfl)
            · have n_179 : hs.length ≠ 4 := ej_tne (a := hs.length) (b := 4) (by omega) (by omega) c_179
              refine lv_aload_n hx hb dL_law_182 rfl (lv_at hl 3 rfl) ?_
              refine ej_L (rest := []) (As := [.ref (o 0)]) S hK hN hA hD hW hS (k_look l D tys cI cT ht0 ht1 o aT aB aS g y z ad t u hs (some xs9) q9_ f9_ x9_0 x9_1 x9_2 hI.1.1.1) (va_cwS 1 hts gL_law_L_look rfl rfl rfl hds_L_look ⟨Nat.le_of_ble_eq_true rfl, Nat.le_of_ble_eq_true rfl⟩) rfl rfl hl.1 (Nat.le_of_ble_eq_true rfl) dL_law_183 ⟨Nat.le_of_ble_eq_true rfl, Nat.le_of_ble_eq_true rfl⟩ (fun r9 t9_ u9_ hs9_ q9_ f9_ x9_0 x9_1 x9_2 H locs hP9 hW hS => ?_)
              obtain ⟨rfl, rfl, rfl, rfl, rfl, rfl, rfl, rfl, rfl⟩ := hP9
              show W p9 l e9 room_1 s9 m9 a9 b9 t9 c9 H locs 137 1658 Q (F0 m9 186 ls [.long (lookV t u)])
              have hW : SW D cI cT o aT aB aS g y z ad t u hs (some xs9) q9_ f9_ x9_0 x9_1 x9_2 H := hW
              refine lv_lload hx hb dL_law_186 (lv_at hl 7 rfl) ?_
              refine W.lcmp hx hb dL_law_188 ?_
              refine ej_topi (show (lg_cmp (lookV t u) (lookV t u)) = 0 from lg_self _) ?_
              refine lv_if_eq (tgt := 201) hx hb dL_law_189 (by decide) (fun _ => ?_) (fun h9 => absurd (show (0 : Int32) = 0 from by decide) h9)
              refine lv_iconst (v := 1) hx hb dL_law_201 (by decide) ?_
              refine lv_goto (tgt := 206) hx hb dL_law_202 (by decide) ?_
              refine lv_istore_n (lv' := [(2, .int 1), (11, .int (nI hs.length)), (0, .ref bs), (1, .ref (o 0)), (3, .long (lookV xs9.1 xs9.2)), (5, .int (nI n)), (7, .int yv), (8, .long (lookV t u)), (10, .int (nI hs.length))]) hx hb dL_law_206 rfl hl (by decide) rfl (fun ls hl => ?_)
              refine lv_iload_n hx hb dL_law_207 rfl (lv_at hl 0 rfl) ?_
              refine lv_if_eq (tgt := 257) hx hb dL_law_208 (by decide) (fun h9 => absurd h9 (show ¬ (1 : Int32) = 0 from by decide)) (fun _ => ?_)
              refine lv_iload hx hb dL_law_211 (lv_at hl 1 rfl) ?_
              refine lv_iload hx hb dL_law_213 (lv_at hl 8 rfl) ?_
              refine lv_iconst (v := 1) hx hb dL_law_215 (by decide) ?_
              refine lv_iadd hx hb dL_law_216 ?_
              refine ej_topi (show (nI hs.length) + 1 = nI (hs.length + 1) from nI_add hs.length 1) ?_
              refine lv_icmp_ne (tgt := 257) hx hb dL_law_217 (by decide) (fun _ => ?_) (fun h9 => absurd h9 (ej_ne (a := hs.length) (b := (hs.length + 1)) (by omega) (by omega) (show hs.length ≠ (hs.length + 1) from by omega)))
              exact jp257 t u hs q9_ f9_ x9_0 x9_1 x9_2 _ _ _ hJn hW hS (lv_sub hl [2, 3, 0, 4, 5] rfl)
          · have hJn : LJ (60 * (n + 1)) t9_ u9_ (recL hs (t, u)) xs9 := LJ_rec (LJ_up hI (by omega)) (okS_up hok9 (by omega))
            by_cases h4 : hs.length = 4
            · skip
              refine lv_aload_n hx hb dL_law_157 rfl (lv_at hl 2 rfl) ?_
              refine lv_bipush (v := 18) hx hb dL_law_158 (by decide) ?_
              refine lr_count (rest := []) (w := 18) S hK hN ht0 ht1 hA hD hW hS hok9.1.1  (cwV 1 hts gL_law_X6_count rfl rfl rfl hdv_X6_count ⟨Nat.le_of_ble_eq_true rfl, Nat.le_of_ble_eq_true rfl⟩) rfl hl.1 (Nat.le_of_ble_eq_true rfl) dL_law_160 ⟨Nat.le_of_ble_eq_true rfl, Nat.le_of_ble_eq_true rfl⟩ (fun H locs hW hS => ?_)
              show W p9 l e9 room_1 s9 m9 a9 b9 t9 c9 H locs 137 1658 Q (F0 m9 163 ls [.int (couA t9_ u9_ q9_ (recL hs (t, u)).length 18)])
              have hW : SW D cI cT o aT aB aS g y z ad t9_ u9_ (recL hs (t, u)) (some xs9) q9_ f9_ x9_0 x9_1 x9_2 H := hW
              refine ej_topi (show (couA t9_ u9_ q9_ (recL hs (t, u)).length 18) = nI ((recL hs (t, u)).length) from lkc_18 t9_ u9_ q9_ ((recL hs (t, u)).length)) ?_
              refine ej_topi (show (nI ((recL hs (t, u)).length)) = nI (recN hs.length) from (congrArg nI (recL_len (t, u) hn4))) ?_
              refine lv_istore (lv' := [(11, .int (nI (recN hs.length))), (2, .int 1), (0, .ref bs), (1, .ref (o 0)), (3, .long (lookV xs9.1 xs9.2)), (5, .int (nI n)), (7, .int yv), (8, .long (lookV t u)), (10, .int (nI hs.length))]) hx hb dL_law_163 hl (by decide) rfl (fun ls hl => ?_)
              refine lv_iload_n hx hb dL_law_165 rfl (lv_at hl 1 rfl) ?_
              refine lv_if_eq (tgt := 205) hx hb dL_law_166 (by decide) (fun h9 => absurd h9 (show ¬ (1 : Int32) = 0 from by decide)) (fun _ => ?_)
              refine lv_iload hx hb dL_law_169 (lv_at hl 0 rfl) ?_
              refine lv_iload hx hb dL_law_171 (lv_at hl 8 rfl) ?_
              refine lv_icmp_ne (tgt := 192) hx hb dL_law_173 (by decide) (fun h9 => absurd (congrArg nI (show (recN hs.length) = hs.length from by unfold recN; rw [if_pos h4]; omega)) h9) (fun _ => ?_)
              refine lv_iload hx hb dL_law_176 (lv_at hl 8 rfl) ?_
              refine lv_iconst (v := 4) hx hb dL_law_178 (by decide) ?_
              refine lv_icmp_eq (tgt := 201) hx hb dL_law_179 (by decide) (fun _ => ?_) (fun h9 => absurd (congrArg nI (show hs.length = 4 from h4)) h9)
              refine lv_iconst (v := 1) hx hb dL_law_201 (by decide) ?_
              refine lv_goto (tgt := 206) hx hb dL_law_202 (by decide) ?_
              refine lv_istore_n (lv' := [(2, .int 1), (11, .int (nI (recN hs.length))), (0, .ref bs), (1, .ref (o 0)), (3, .long (lookV xs9.1 xs9.2)), (5, .int (nI n)), (7, .int yv), (8, .long (lookV t u)), (10, .int (nI hs.length))]) hx hb dL_law_206 rfl hl (by decide) rfl (fun ls hl => ?_)
              refine lv_iload_n hx hb dL_law_207 rfl (lv_at hl 0 rfl) ?_
              refine lv_if_eq (tgt := 257) hx hb dL_law_208 (by decide) (fun h9 => absurd h9 (show ¬ (1 : Int32) = 0 from by decide)) (fun _ => ?_)
              refine lv_iload hx hb dL_law_211 (lv_at hl 1 rfl) ?_
              refine lv_iload hx hb dL_law_213 (lv_at hl 8 rfl) ?_
              refine lv_iconst (v := 1) hx hb dL_law_215 (by decide) ?_
              refine lv_iadd hx hb dL_law_216 ?_
              refine ej_topi (show (nI hs.length) + 1 = nI (hs.length + 1) from nI_add hs.length 1) ?_
              refine lv_icmp_ne (tgt := 257) hx hb dL_law_217 (by decide) (fun _ => ?_) (fun h9 => absurd h9 (ej_ne (a := (recN hs.length)) (b := (hs.length + 1)) (by omega) (by omega) (show (recN hs.length) ≠ (hs.length + 1) from by unfold recN; rw [if_pos h4]; omega)))
              exact jp257 t9_ u9_ (recL hs (t, u)) q9_ f9_ x9_0 x9_1 x9_2 _ _ _ hJn hW hS (lv_sub hl [2, 3, 0, 4, 5] rfl)
            · skip
              refine lv_aload_n hx hb dL_law_157 rfl (lv_at hl 2 rfl) ?_
              refine lv_bipush (v := 18) hx hb dL_law_158 (by decide) ?_
              refine lr_count (rest := []) (w := 18) S hK hN ht0 ht1 hA hD hW hS hok9.1.1  (cwV 1 hts gL_law_X6_count rfl rfl rfl hdv_X6_count ⟨Nat.le_of_ble_eq_true rfl, Nat.le_of_ble_eq_true rfl⟩) rfl hl.1 (Nat.le_of_ble_eq_true rfl) dL_law_160 ⟨Nat.le_of_ble_eq_true rfl, Nat.le_of_ble_eq_true rfl⟩ (fun H locs hW hS => ?_)
              show W p9 l e9 room_1 s9 m9 a9 b9 t9 c9 H locs 137 1658 Q (F0 m9 163 ls [.int (couA t9_ u9_ q9_ (recL hs (t, u)).length 18)])
              have hW : SW D cI cT o aT aB aS g y z ad t9_ u9_ (recL hs (t, u)) (some xs9) q9_ f9_ x9_0 x9_1 x9_2 H := hW
              refine ej_topi (show (couA t9_ u9_ q9_ (recL hs (t, u)).length 18) = nI ((recL hs (t, u)).length) from lkc_18 t9_ u9_ q9_ ((recL hs (t, u)).length)) ?_
              refine ej_topi (show (nI ((recL hs (t, u)).length)) = nI (recN hs.length) from (congrArg nI (recL_len (t, u) hn4))) ?_
              refine lv_istore (lv' := [(11, .int (nI (recN hs.length))), (2, .int 1), (0, .ref bs), (1, .ref (o 0)), (3, .long (lookV xs9.1 xs9.2)), (5, .int (nI n)), (7, .int yv), (8, .long (lookV t u)), (10, .int (nI hs.length))]) hx hb dL_law_163 hl (by decide) rfl (fun ls hl => ?_)
              refine lv_iload_n hx hb dL_law_165 rfl (lv_at hl 1 rfl) ?_
              refine lv_if_eq (tgt := 205) hx hb dL_law_166 (by decide) (fun h9 => absurd h9 (show ¬ (1 : Int32) = 0 from by decide)) (fun _ => ?_)
              refine lv_iload hx hb dL_law_169 (lv_at hl 0 rfl) ?_
              refine lv_iload hx hb dL_law_171 (lv_at hl 8 rfl) ?_
              refine lv_icmp_ne (tgt := 192) hx hb dL_law_173 (by decide) (fun _ => ?_) (fun h9 => absurd h9 (ej_ne (a := (recN hs.length)) (b := hs.length) (by omega) (by omega) (show (recN hs.length) ≠ hs.length from by unfold recN; rw [if_neg h4]; omega)))
              refine lv_iload hx hb dL_law_192 (lv_at hl 0 rfl) ?_
              refine lv_iload hx hb dL_law_194 (lv_at hl 8 rfl) ?_
              refine lv_iconst (v := 1) hx hb dL_law_196 (by decide) ?_
              refine lv_iadd hx hb dL_law_197 ?_
              refine ej_topi (show (nI hs.length) + 1 = nI (hs.length + 1) from nI_add hs.length 1) ?_
              refine lv_icmp_ne (tgt := 205) hx hb dL_law_198 (by decide) (fun h9 => absurd (congrArg nI (show (recN hs.length) = (hs.length + 1) from by unfold recN; rw [if_neg h4])) h9) (fun _ => ?_)
              refine lv_iconst (v := 1) hx hb dL_law_201 (by decide) ?_
              refine lv_goto (tgt := 206) hx hb dL_law_202 (by decide) ?_
              refine lv_istore_n (lv' := [(2, .int 1), (11, .int (nI (recN hs.length))), (0, .ref bs), (1, .ref (o 0)), (3, .long (lookV xs9.1 xs9.2)), (5, .int (nI n)), (7, .int yv), (8, .long (lookV t u)), (10, .int (nI hs.length))]) hx hb dL_law_206 rfl hl (by decide) rfl (fun ls hl => ?_)
              refine lv_iload_n hx hb dL_law_207 rfl (lv_at hl 0 rfl) ?_
              refine lv_if_eq (tgt := 257) hx hb dL_law_208 (by decide) (fun h9 => absurd h9 (show ¬ (1 : Int32) = 0 from by decide)) (fun _ => ?_)
              refine lv_iload hx hb dL_law_211 (lv_at hl 1 rfl) ?_
              refine lv_iload hx hb dL_law_213 (lv_at hl 8 rfl) ?_
              refine lv_iconst (v := 1) hx hb dL_law_215 (by decide) ?_
              refine lv_iadd hx hb dL_law_216 ?_
              refine ej_topi (show (nI hs.length) + 1 = nI (hs.length + 1) from nI_add hs.length 1) ?_
              refine lv_icmp_ne (tgt := 257) hx hb dL_law_217 (by decide) (fun h9 => absurd (congrArg nI (show (recN hs.length) = (hs.length + 1) from by unfold recN; rw [if_neg h4])) h9) (fun _ => ?_)
              refine lv_iload hx hb dL_law_220 (lv_at hl 6 rfl) ?_
              refine lv_bipush (v := 8) hx hb dL_law_222 (by decide) ?_
              refine lv_ishr hx hb dL_law_224 ?_
              refine lv_iconst (v := 3) hx hb dL_law_225 (by decide) ?_
              refine ej_L0 (rest := []) (As := [.int (yv >>> (8 &&& 31)), .int 3]) S hK hN hA hD hW hS (c_L_low l D tys cI ht0 (yv >>> (8 &&& 31)) 3 (by omega) (by omega)) (va_cwS 2 hts gL_law_L_low rfl rfl rfl hds_L_low ⟨Nat.le_of_ble_eq_true rfl, Nat.le_of_ble_eq_true rfl⟩) rfl rfl hl.1 (Nat.le_of_ble_eq_true rfl) dL_law_226 ⟨Nat.le_of_ble_eq_true rfl, Nat.le_of_ble_eq_true rfl⟩ (fun H locs hW hS => ?_)
              show W p9 l e9 room_1 s9 m9 a9 b9 t9 c9 H locs 137 1658 Q (F0 m9 229 ls [.int (nI (lowN (yv >>> (8 &&& 31)) 3))])
              have lw_226 := lowN_lt (yv >>> (8 &&& 31)) (n := 3) (by omega)
              refine lv_if_ne (tgt := 257) hx hb dL_law_229 (by decide) (fun c_229 => ?_) (fun c_229 => ?_)
              · have n_229 : (lowN (yv >>> (8 &&& 31)) 3) ≠ 0 := ej_tne (a := (lowN (yv >>> (8 &&& 31)) 3)) (b := 0) (by omega) (by omega) c_229
                exact jp257 t9_ u9_ (recL hs (t, u)) q9_ f9_ x9_0 x9_1 x9_2 _ _ _ hJn hW hS (lv_sub hl [2, 3, 0, 4, 5] rfl)
              · have n_229 : (lowN (yv >>> (8 &&& 31)) 3) = 0 := ej_teq (a := (lowN (yv >>> (8 &&& 31)) 3)) (b := 0) (by omega) (by omega) c_229
                refine lv_aload_n hx hb dL_law_232 rfl (lv_at hl 3 rfl) ?_
                refine lr_undo (rest := []) (hs0 := hs) (x := (t, u)) S hK hN ht0 ht1 hA hD hW hS hok9.1.1 (rec_len_lt (t, u) h4) (cwV 0 hts gL_law_X6_undo rfl rfl rfl hdv_X6_undo ⟨Nat.le_of_ble_eq_true rfl, Nat.le_of_ble_eq_true rfl⟩) rfl hl.1 (Nat.le_of_ble_eq_true rfl) dL_law_233 ⟨Nat.le_of_ble_eq_true rfl, Nat.le_of_ble_eq_true rfl⟩ (fun H locs hW hS => ?_)
                show W p9 l e9 room_1 s9 m9 a9 b9 t9 c9 H locs 137 1658 Q (F0 m9 236 ls [.int (nI hs.length)])
                have hW : SW D cI cT o aT aB aS g y z ad ((t, u).1) ((t, u).2) hs (some xs9) q9_ f9_ x9_0 x9_1 x9_2 H := hW
                have hW : SW D cI cT o aT aB aS g y z ad t u hs (some xs9) q9_ f9_ x9_0 x9_1 x9_2 H := hW
                refine lv_iload hx hb dL_law_236 (lv_at hl 8 rfl) ?_
                refine lv_icmp_ne (tgt := 255) hx hb dL_law_238 (by decide) (fun h9 => absurd (congrArg nI (show hs.length = hs.length from by omega)) h9) (fun _ => ?_)
                refine lv_aload_n hx hb dL_law_241 rfl (lv_at hl 3 rfl) ?_
                refine ej_L (rest := []) (As := [.ref (o 0)]) S hK hN hA hD hW hS (k_look l D tys cI cT ht0 ht1 o aT aB aS g y z ad t u hs (some xs9) q9_ f9_ x9_0 x9_1 x9_2 hI.1.1.1) (va_cwS 1 hts gL_law_L_look rfl rfl rfl hds_L_look ⟨Nat.le_of_ble_eq_true rfl, Nat.le_of_ble_eq_true rfl⟩) rfl rfl hl.1 (Nat.le_of_ble_eq_true rfl) dL_law_242 ⟨Nat.le_of_ble_eq_true rfl, Nat.le_of_ble_eq_true rfl⟩ (fun r9 t9_ u9_ hs9_ q9_ f9_ x9_0 x9_1 x9_2 H locs hP9 hW hS => ?_)
                obtain ⟨rfl, rfl, rfl, rfl, rfl, rfl, rfl, rfl, rfl⟩ := hP9
                show W p9 l e9 room_1 s9 m9 a9 b9 t9 c9 H locs 137 1658 Q (F0 m9 245 ls [.long (lookV t u)])
                have hW : SW D cI cT o aT aB aS g y z ad t u hs (some xs9) q9_ f9_ x9_0 x9_1 x9_2 H := hW
                refine lv_lload hx hb dL_law_245 (lv_at hl 7 rfl) ?_
                refine W.lcmp hx hb dL_law_247 ?_
                refine ej_topi (show (lg_cmp (lookV t u) (lookV t u)) = 0 from lg_self _) ?_
                refine lv_if_ne (tgt := 255) hx hb dL_law_248 (by decide) (fun h9 => absurd (show (0 : Int32) = 0 from by decide) h9) (fun _ => ?_)
                refine lv_iconst (v := 1) hx hb dL_law_251 (by decide) ?_
                refine lv_goto (tgt := 256) hx hb dL_law_252 (by decide) ?_
                refine lv_istore_n (lv' := [(2, .int 1), (11, .int (nI (recN hs.length))), (0, .ref bs), (1, .ref (o 0)), (3, .long (lookV xs9.1 xs9.2)), (5, .int (nI n)), (7, .int yv), (8, .long (lookV t u)), (10, .int (nI hs.length))]) hx hb dL_law_256 rfl hl (by decide) rfl (fun ls hl => ?_)
                exact jp257 t u hs q9_ f9_ x9_0 x9_1 x9_2 _ _ _ (LJ_up hI (by omega)) hW hS (lv_sub hl [2, 3, 0, 4, 5] rfl)
        refine lv_iload hx hb dL_law_120 (lv_at hl 8 rfl) ?_
        refine lv_iconst (v := 3) hx hb dL_law_122 (by decide) ?_
        refine lv_irem hx hb dL_law_123 (by decide) ?_
        refine ej_topi (show (nI n) - (nI n) / 3 * 3 = nI (n % 3) from pk_rem (a := n) (d := 3) (by omega) (by decide) (by decide)) ?_
        refine lv_if_gt (tgt := 134) hx hb dL_law_124 (by decide) (fun c_124 => ?_) (fun c_124 => ?_)
        · have n_124 : 0 < (n % 3) := ej_tlt (a := 0) (b := (n % 3)) (by omega) (by omega) c_124
          refine lv_iload hx hb dL_law_134 (lv_at hl 8 rfl) ?_
          refine lv_iconst (v := 4) hx hb dL_law_136 (by decide) ?_
          refine lv_irem hx hb dL_law_137 (by decide) ?_
          refine ej_topi (show (nI n) - (nI n) / 4 * 4 = nI (n % 4) from pk_rem (a := n) (d := 4) (by omega) (by decide) (by decide)) ?_
          refine lv_iconst (v := 2) hx hb dL_law_138 (by decide) ?_
          refine lv_icmp_ne (tgt := 151) hx hb dL_law_139 (by decide) (fun c_139 => ?_) (fun c_139 => ?_)
          · have n_139 : (n % 4) ≠ 2 := ej_tne (a := (n % 4)) (b := 2) (by omega) (by omega) c_139
            refine lv_iconst (v := 1) hx hb dL_law_151 (by decide) ?_
            refine lv_goto (tgt := 156) hx hb dL_law_152 (by decide) ?_
            exact jp156  _ _ _  hW hS (lv_sub hl [4, 5, 7, 8, 2, 1, 0] rfl)
          · have n_139 : (n % 4) = 2 := ej_teq (a := (n % 4)) (b := 2) (by omega) (by omega) c_139
            refine lv_aload_n hx hb dL_law_142 rfl (lv_at hl 5 rfl) ?_
            refine lv_iload hx hb dL_law_143 (lv_at hl 2 rfl) ?_
            refine ej_L (rest := []) (As := [.ref (o 0), .int yv]) S hK hN hA hD hW hS (k_would l D tys cI cT ht0 ht1 o aT aB aS g y z ad t9_ u9_ hs9_ (some xs9) q9_ f9_ x9_0 x9_1 x9_2 yv (60 * n + 60) hok9.1.1 hok9) (va_cwS 2 hts gL_law_L_would rfl rfl rfl hds_L_would ⟨Nat.le_of_ble_eq_true rfl, Nat.le_of_ble_eq_true rfl⟩) rfl rfl hl.1 (Nat.le_of_ble_eq_true rfl) dL_law_145 ⟨Nat.le_of_ble_eq_true rfl, Nat.le_of_ble_eq_true rfl⟩ (fun r9 t9_ u9_ hs9_ q9_ f9_ x9_0 x9_1 x9_2 H locs hP9 hW hS => ?_)
            obtain ⟨rfl, rfl, rfl, rfl, rfl, rfl, rfl, rfl, rfl⟩ := hP9
            show W p9 l e9 room_1 s9 m9 a9 b9 t9 c9 H locs 137 1658 Q (F0 m9 148 ls [.int 1])
            have hW : SW D cI cT o aT aB aS g y z ad t9_ u9_ hs9_ (some xs9) q9_ f9_ x9_0 x9_1 x9_2 H := hW
            refine lv_if_eq (tgt := 155) hx hb dL_law_148 (by decide) (fun h9 => absurd h9 (show ¬ (1 : Int32) = 0 from by decide)) (fun _ => ?_)
            refine lv_iconst (v := 1) hx hb dL_law_151 (by decide) ?_
            refine lv_goto (tgt := 156) hx hb dL_law_152 (by decide) ?_
            exact jp156  _ _ _  hW hS (lv_sub hl [4, 5, 7, 8, 2, 1, 0] rfl)
        · have n_124 : (n % 3) ≤ 0 := ej_tnlt (a := 0) (b := (n % 3)) (by omega) (by omega) c_124
          refine lv_aload_n hx hb dL_law_127 rfl (lv_at hl 5 rfl) ?_
          refine ej_L (rest := []) (As := [.ref (o 0)]) S hK hN hA hD hW hS (k_holds l D tys cI cT ht0 ht1 o aT aB aS g y z ad t9_ u9_ hs9_ (some xs9) q9_ f9_ x9_0 x9_1 x9_2 (60 * n + 60) (by omega) hok9.1.1 hok9) (va_cwS 1 hts gL_law_L_holds rfl rfl rfl hds_L_holds ⟨Nat.le_of_ble_eq_true rfl, Nat.le_of_ble_eq_true rfl⟩) rfl rfl hl.1 (Nat.le_of_ble_eq_true rfl) dL_law_128 ⟨Nat.le_of_ble_eq_true rfl, Nat.le_of_ble_eq_true rfl⟩ (fun r9 t9_ u9_ hs9_ q9_ f9_ x9_0 x9_1 x9_2 H locs hP9 hW hS => ?_)
          obtain ⟨rfl, rfl, rfl, rfl, rfl, rfl, rfl, rfl, rfl⟩ := hP9
          show W p9 l e9 room_1 s9 m9 a9 b9 t9 c9 H locs 137 1658 Q (F0 m9 131 ls [.int 1])
          have hW : SW D cI cT o aT aB aS g y z ad t9_ u9_ hs9_ (some xs9) q9_ f9_ x9_0 x9_1 x9_2 H := hW
          refine lv_if_eq (tgt := 155) hx hb dL_law_131 (by decide) (fun h9 => absurd h9 (show ¬ (1 : Int32) = 0 from by decide)) (fun _ => ?_)
          refine lv_iload hx hb dL_law_134 (lv_at hl 8 rfl) ?_
          refine lv_iconst (v := 4) hx hb dL_law_136 (by decide) ?_
          refine lv_irem hx hb dL_law_137 (by decide) ?_
          refine ej_topi (show (nI n) - (nI n) / 4 * 4 = nI (n % 4) from pk_rem (a := n) (d := 4) (by omega) (by decide) (by decide)) ?_
          refine lv_iconst (v := 2) hx hb dL_law_138 (by decide) ?_
          refine lv_icmp_ne (tgt := 151) hx hb dL_law_139 (by decide) (fun c_139 => ?_) (fun c_139 => ?_)
          · have n_139 : (n % 4) ≠ 2 := ej_tne (a := (n % 4)) (b := 2) (by omega) (by omega) c_139
            refine lv_iconst (v := 1) hx hb dL_law_151 (by decide) ?_
            refine lv_goto (tgt := 156) hx hb dL_law_152 (by decide) ?_
            exact jp156  _ _ _  hW hS (lv_sub hl [4, 5, 7, 8, 2, 1, 0] rfl)
          · have n_139 : (n % 4) = 2 := ej_teq (a := (n % 4)) (b := 2) (by omega) (by omega) c_139
            refine lv_aload_n hx hb dL_law_142 rfl (lv_at hl 5 rfl) ?_
            refine lv_iload hx hb dL_law_143 (lv_at hl 2 rfl) ?_
            refine ej_L (rest := []) (As := [.ref (o 0), .int yv]) S hK hN hA hD hW hS (k_would l D tys cI cT ht0 ht1 o aT aB aS g y z ad t9_ u9_ hs9_ (some xs9) q9_ f9_ x9_0 x9_1 x9_2 yv (60 * n + 60) hok9.1.1 hok9) (va_cwS 2 hts gL_law_L_would rfl rfl rfl hds_L_would ⟨Nat.le_of_ble_eq_true rfl, Nat.le_of_ble_eq_true rfl⟩) rfl rfl hl.1 (Nat.le_of_ble_eq_true rfl) dL_law_145 ⟨Nat.le_of_ble_eq_true rfl, Nat.le_of_ble_eq_true rfl⟩ (fun r9 t9_ u9_ hs9_ q9_ f9_ x9_0 x9_1 x9_2 H locs hP9 hW hS => ?_)
            obtain ⟨rfl, rfl, rfl, rfl, rfl, rfl, rfl, rfl, rfl⟩ := hP9
            show W p9 l e9 room_1 s9 m9 a9 b9 t9 c9 H locs 137 1658 Q (F0 m9 148 ls [.int 1])
            have hW : SW D cI cT o aT aB aS g y z ad t9_ u9_ hs9_ (some xs9) q9_ f9_ x9_0 x9_1 x9_2 H := hW
            refine lv_if_eq (tgt := 155) hx hb dL_law_148 (by decide) (fun h9 => absurd h9 (show ¬ (1 : Int32) = 0 from by decide)) (fun _ => ?_)
            refine lv_iconst (v := 1) hx hb dL_law_151 (by decide) ?_
            refine lv_goto (tgt := 156) hx hb dL_law_152 (by decide) ?_
            exact jp156  _ _ _  hW hS (lv_sub hl [4, 5, 7, 8, 2, 1, 0] rfl)
  have hl : lv_has ls 13 [(0, .ref bs), (1, .ref (o 0)), (2, .int 1), (3, .long (lookV t00 u00)), (5, .int 0)] := lv_sub hl [3, 4, 2, 1, 0] rfl
  have hl : lv_has ls 13 [(0, .ref bs), (1, .ref (o 0)), (2, .int 1), (3, .long (lookV (t00, u00).1 (t00, u00).2)), (5, .int (nI 0))] := by exact hl
  exact lp62 ((54 - 0) + 1) 0 t00 u00 ([]) q0 f0 x0 x1 x2 (t00, u00) (by omega) (by omega) ⟨okS_00, fun y hy => absurd hy List.not_mem_nil, okS_00⟩ _ _ _ hW hS hl
