set_option maxHeartbeats 4000000 in
set_option maxRecDepth 100000 in
theorem k_boards (l : Launch) (D : va_G) (tys : eT) (cI cT : ClassId) (ht0 : tys[0]? = some (cI, .int)) (ht1 : tys[1]? = some (cT, .object RX5)) (o aT aB aS g y z : Nat → Nat) (ad : Nat → Nat → Nat) (t : Pn) (u : Tr) (hs : List (Pn × Tr)) (sn : Option (Pn × Tr)) (q : Nat) (f : Nat → Int32) (s0 s1 s2 : Int32) (x : Int32) (m : Nat) (htl : tilOK t) (ho : okS m t u) : lc l D tys cI cT o aT aB aS g y z ad yL_boards wsL_boards (eR 20 1000) [.ref (o 0), .int x] t u hs sn q f s0 s1 s2 (actP m t u hs) := by
  refine lc_int cL_boards 12 (by decide +kernel) rfl (Nat.le_of_ble_eq_true rfl) ?_
  intro p9 e9 s9 m9 a9 b9 t9 c9 H0 A Q ls S hK hN hA hD hW hS hl hQ
  have S : CallFix p9 m9 c9 cL_boards 12 s9 a9 wsL_boards RL := S
  obtain ⟨hx, hb, hml, hown, hts⟩ := id S
  have hl : lv_has ls 12 [(0, .ref (o 0)), (1, .int x)] := hl
  have hq60 := SW_q hW
  obtain ⟨N9, e_N9⟩ : ∃ z9 : Nat, z9 = if lowN (x >>> (24 &&& 31)) 7 = 0 then 32 + lowN x 6 else 35 := ⟨_, rfl⟩
  have hN7 : 32 ≤ N9 ∧ N9 ≤ 37 := by have h6 := lowN_lt x (n := 6) (by decide); rw [e_N9]; split <;> omega
  obtain ⟨od, e_od⟩ : ∃ z9 : Int32, z9 = if lowN (x >>> (22 &&& 31)) 9 = 0 then nI (lowN x 35) else -1 := ⟨_, rfl⟩
  obtain ⟨O9, hO⟩ : ∃ O9 : Nat, (od = -1 ∧ O9 = 100) ∨ (od = nI O9 ∧ O9 < 35) := by
    rw [e_od]
    split
    · exact ⟨lowN x 35, Or.inr ⟨rfl, lowN_lt x (by decide)⟩⟩
    · exact ⟨100, Or.inl ⟨rfl, rfl⟩⟩
  refine lv_iload_n hx hb dL_boards_0 rfl (lv_at hl 1 rfl) ?_
  refine lv_bipush (v := 24) hx hb dL_boards_1 (by decide) ?_
  refine lv_ishr hx hb dL_boards_3 ?_
  refine lv_bipush (v := 7) hx hb dL_boards_4 (by decide) ?_
  refine ej_L0 (rest := []) (As := [.int (x >>> (24 &&& 31)), .int 7]) S hK hN hA hD hW hS (c_L_low l D tys cI ht0 (x >>> (24 &&& 31)) 7 (by omega) (by omega)) (va_cwS 2 hts gL_boards_L_low rfl rfl rfl hds_L_low ⟨Nat.le_of_ble_eq_true rfl, Nat.le_of_ble_eq_true rfl⟩) rfl rfl hl.1 (Nat.le_of_ble_eq_true rfl) dL_boards_6 ⟨Nat.zero_le _, Nat.zero_le _⟩ (fun H locs hW hS => ?_)
  show W p9 l e9 (eR 20 1000) s9 m9 a9 b9 t9 c9 H locs 0 0 Q (F0 m9 9 ls [.int (nI (lowN (x >>> (24 &&& 31)) 7))])
  have lw_6 := lowN_lt (x >>> (24 &&& 31)) (n := 7) (by omega)
  have jp26 : ∀ (H : Heap) (locs : List Loc) (ls : Array Slot), SW D cI cT o aT aB aS g y z ad t u hs sn q f s0 s1 s2 H → va_S A H0 H locs → lv_has ls 12 [(0, .ref (o 0)), (1, .int x)] → W p9 l e9 (eR 20 1000) s9 m9 a9 b9 t9 c9 H locs 0 0 Q (F0 m9 26 ls [.int (nI N9)]) := by
    intro H locs ls hW hS hl
    refine lv_istore_n (lv' := [(2, .int (nI N9)), (0, .ref (o 0)), (1, .int x)]) hx hb dL_boards_26 rfl hl (by decide) rfl (fun ls hl => ?_)
    refine lv_aload_n hx hb dL_boards_27 rfl (lv_at hl 1 rfl) ?_
    refine lv_iconst (v := 0) hx hb dL_boards_28 (by decide) ?_
    refine lr_count (rest := []) (w := 0) S hK hN ht0 ht1 hA hD hW hS htl  (cwV 1 hts gL_boards_X6_count rfl rfl rfl hdv_X6_count ⟨Nat.le_of_ble_eq_true rfl, Nat.le_of_ble_eq_true rfl⟩) rfl hl.1 (Nat.le_of_ble_eq_true rfl) dL_boards_29 ⟨Nat.zero_le _, Nat.zero_le _⟩ (fun H locs hW hS => ?_)
    show W p9 l e9 (eR 20 1000) s9 m9 a9 b9 t9 c9 H locs 0 0 Q (F0 m9 32 ls [.int (couA t u q hs.length 0)])
    have hW : SW D cI cT o aT aB aS g y z ad t u hs sn q f s0 s1 s2 H := hW
    refine ej_topi (show (couA t u q hs.length 0) = T_po u from lkc_0 t u q hs.length) ?_
    refine lv_istore_n (lv' := [(3, .int (T_po u)), (2, .int (nI N9)), (0, .ref (o 0)), (1, .int x)]) hx hb dL_boards_32 rfl hl (by decide) rfl (fun ls hl => ?_)
    refine lv_aload_n hx hb dL_boards_33 rfl (lv_at hl 2 rfl) ?_
    refine lv_iconst (v := 1) hx hb dL_boards_34 (by decide) ?_
    refine lr_count (rest := []) (w := 1) S hK hN ht0 ht1 hA hD hW hS htl  (cwV 1 hts gL_boards_X6_count rfl rfl rfl hdv_X6_count ⟨Nat.le_of_ble_eq_true rfl, Nat.le_of_ble_eq_true rfl⟩) rfl hl.1 (Nat.le_of_ble_eq_true rfl) dL_boards_35 ⟨Nat.zero_le _, Nat.zero_le _⟩ (fun H locs hW hS => ?_)
    show W p9 l e9 (eR 20 1000) s9 m9 a9 b9 t9 c9 H locs 0 0 Q (F0 m9 38 ls [.int (couA t u q hs.length 1)])
    have hW : SW D cI cT o aT aB aS g y z ad t u hs sn q f s0 s1 s2 H := hW
    refine ej_topi (show (couA t u q hs.length 1) = T_le u from lkc_1 t u q hs.length) ?_
    refine lv_istore (lv' := [(4, .int (T_le u)), (3, .int (T_po u)), (2, .int (nI N9)), (0, .ref (o 0)), (1, .int x)]) hx hb dL_boards_38 hl (by decide) rfl (fun ls hl => ?_)
    refine lv_iload_n hx hb dL_boards_40 rfl (lv_at hl 4 rfl) ?_
    refine lv_bipush (v := 22) hx hb dL_boards_41 (by decide) ?_
    refine lv_ishr hx hb dL_boards_43 ?_
    refine lv_bipush (v := 9) hx hb dL_boards_44 (by decide) ?_
    refine ej_L0 (rest := []) (As := [.int (x >>> (22 &&& 31)), .int 9]) S hK hN hA hD hW hS (c_L_low l D tys cI ht0 (x >>> (22 &&& 31)) 9 (by omega) (by omega)) (va_cwS 2 hts gL_boards_L_low rfl rfl rfl hds_L_low ⟨Nat.le_of_ble_eq_true rfl, Nat.le_of_ble_eq_true rfl⟩) rfl rfl hl.1 (Nat.le_of_ble_eq_true rfl) dL_boards_46 ⟨Nat.zero_le _, Nat.zero_le _⟩ (fun H locs hW hS => ?_)
    show W p9 l e9 (eR 20 1000) s9 m9 a9 b9 t9 c9 H locs 0 0 Q (F0 m9 49 ls [.int (nI (lowN (x >>> (22 &&& 31)) 9))])
    have lw_46 := lowN_lt (x >>> (22 &&& 31)) (n := 9) (by omega)
    have jp62 : ∀ (H : Heap) (locs : List Loc) (ls : Array Slot), SW D cI cT o aT aB aS g y z ad t u hs sn q f s0 s1 s2 H → va_S A H0 H locs → lv_has ls 12 [(4, .int (T_le u)), (3, .int (T_po u)), (2, .int (nI N9)), (0, .ref (o 0)), (1, .int x)] → W p9 l e9 (eR 20 1000) s9 m9 a9 b9 t9 c9 H locs 0 0 Q (F0 m9 62 ls [.int od]) := by
      intro H locs ls hW hS hl
      refine lv_istore (lv' := [(5, .int od), (4, .int (T_le u)), (3, .int (T_po u)), (2, .int (nI N9)), (0, .ref (o 0)), (1, .int x)]) hx hb dL_boards_62 hl (by decide) rfl (fun ls hl => ?_)
      refine lv_iconst (v := 0) hx hb dL_boards_64 (by decide) ?_
      refine lv_istore (lv' := [(6, .int 0), (5, .int od), (4, .int (T_le u)), (3, .int (T_po u)), (2, .int (nI N9)), (0, .ref (o 0)), (1, .int x)]) hx hb dL_boards_65 hl (by decide) rfl (fun ls hl => ?_)
      refine lv_aload_n hx hb dL_boards_67 rfl (lv_at hl 5 rfl) ?_
      refine lr_clear (rest := [])  S hK hN ht0 ht1 hA hD hW hS htl  (cwV 0 hts gL_boards_X6_clear rfl rfl rfl hdv_X6_clear ⟨Nat.le_of_ble_eq_true rfl, Nat.le_of_ble_eq_true rfl⟩) rfl hl.1 (Nat.le_of_ble_eq_true rfl) dL_boards_68 ⟨Nat.zero_le _, Nat.zero_le _⟩ (fun H locs hW hS => ?_)
      show W p9 l e9 (eR 20 1000) s9 m9 a9 b9 t9 c9 H locs 0 0 Q (F0 m9 71 ls [.int (nI q)])
      have hW : SW D cI cT o aT aB aS g y z ad t u hs sn 0 f s0 s1 s2 H := hW
      refine lv_if_lt (tgt := 78) hx hb dL_boards_71 (by decide) (fun h9 => absurd h9 (ej_nlt (a := q) (b := 0) (by omega) (show 0 ≤ q from by omega))) (fun _ => ?_)
      refine lv_iconst (v := 1) hx hb dL_boards_74 (by decide) ?_
      refine lv_goto (tgt := 79) hx hb dL_boards_75 (by decide) ?_
      refine lv_istore (lv' := [(7, .int 1), (6, .int 0), (5, .int od), (4, .int (T_le u)), (3, .int (T_po u)), (2, .int (nI N9)), (0, .ref (o 0)), (1, .int x)]) hx hb dL_boards_79 hl (by decide) rfl (fun ls hl => ?_)
      refine lv_iconst (v := 0) hx hb dL_boards_81 (by decide) ?_
      refine lv_istore (lv' := [(8, .int 0), (7, .int 1), (6, .int 0), (5, .int od), (4, .int (T_le u)), (3, .int (T_po u)), (2, .int (nI N9)), (0, .ref (o 0)), (1, .int x)]) hx hb dL_boards_82 hl (by decide) rfl (fun ls hl => ?_)
      have lp84 : ∀ (n84 : Nat) (k : Nat) (ff : Nat → Int32), N9 - k < n84 → (k ≤ N9) → (∀ j : Nat, j < k → ff j = cB x O9 j) → ∀ (H : Heap) (locs : List Loc) (ls : Array Slot), SW D cI cT o aT aB aS g y z ad t u hs sn k ff s0 s1 s2 H → va_S A H0 H locs → lv_has ls 12 [(0, .ref (o 0)), (1, .int x), (2, .int (nI N9)), (3, .int (T_po u)), (4, .int (T_le u)), (5, .int od), (6, .int (nI (pnN x k))), (7, .int 1), (8, .int (nI k))] → W p9 l e9 (eR 20 1000) s9 m9 a9 b9 t9 c9 H locs 0 0 Q (F0 m9 84 ls []) := by
        intro n84
        induction n84 with
        | zero => intro k ff hm9; exact absurd hm9 (Nat.not_lt_zero _)
        | succ n84 ih84 =>
          intro k ff hm84 hk hff H locs ls hW hS hl
          refine lv_iload hx hb dL_boards_84 (lv_at hl 8 rfl) ?_
          refine lv_iload_n hx hb dL_boards_86 rfl (lv_at hl 2 rfl) ?_
          refine lv_icmp_ge (tgt := 201) hx hb dL_boards_87 (by decide) (fun c_87 => ?_) (fun c_87 => ?_)
          · have n_87 : N9 ≤ k := ej_tle (a := N9) (b := k) (by omega) (by omega) c_87
            have hkN : k = N9 := by omega
            have hfb := fbB hff k 0 (Nat.zero_add k) (Nat.zero_le _) (Nat.zero_le _)
            rcases hO with ⟨hod, hO1⟩ | ⟨hod, hO1⟩
            · rcases Nat.lt_trichotomy N9 35 with hz | hz | hz
              · have hff9 : fbG k ff k 0 = nI k := by rw [hfb, if_neg (show ¬ (O9 < k ∧ O9 < 35) by omega), if_pos (by omega)]
                have hl : lv_has ls 12 [(0, .ref (o 0)), (1, .int x), (2, .int (nI N9)), (3, .int (T_po u)), (4, .int (T_le u)), (5, .int (-1)), (6, .int (nI (pnN x k))), (7, .int 1), (8, .int (nI k))] := by rw [hod] at hl; exact hl
                refine lv_iload_n hx hb dL_boards_201 rfl (lv_at hl 2 rfl) ?_
                refine lv_bipush (v := 35) hx hb dL_boards_202 (by decide) ?_
                refine lv_icmp_ne (tgt := 216) hx hb dL_boards_204 (by decide) (fun _ => ?_) (fun h9 => absurd h9 (ej_ne (a := N9) (b := 35) (by omega) (by omega) (show N9 ≠ 35 from by omega)))
                refine lv_iconst (v := 0) hx hb dL_boards_216 (by decide) ?_
                refine lv_istore (lv' := [(8, .int 0), (0, .ref (o 0)), (1, .int x), (2, .int (nI N9)), (3, .int (T_po u)), (4, .int (T_le u)), (5, .int (-1)), (6, .int (nI (pnN x k))), (7, .int 1)]) hx hb dL_boards_217 hl (by decide) rfl (fun ls hl => ?_)
                refine lv_aload_n hx hb dL_boards_219 rfl (lv_at hl 1 rfl) ?_
                refine lv_iconst (v := 0) hx hb dL_boards_220 (by decide) ?_
                refine lr_fault0 (rest := [])  S hK hN ht0 ht1 hA hD hW hS htl  (cwV 1 hts gL_boards_X6_fault rfl rfl rfl hdv_X6_fault ⟨Nat.le_of_ble_eq_true rfl, Nat.le_of_ble_eq_true rfl⟩) rfl hl.1 (Nat.le_of_ble_eq_true rfl) dL_boards_221 ⟨Nat.zero_le _, Nat.zero_le _⟩ (fun H locs hW hS => ?_)
                show W p9 l e9 (eR 20 1000) s9 m9 a9 b9 t9 c9 H locs 0 0 Q (F0 m9 224 ls [.int (fbG k ff k 0)])
                have hW : SW D cI cT o aT aB aS g y z ad t u hs sn k ff s0 s1 s2 H := hW
                refine ej_topi (show (fbG k ff k 0) = nI k from hff9) ?_
                refine lv_istore (lv' := [(9, .int (nI k)), (8, .int 0), (0, .ref (o 0)), (1, .int x), (2, .int (nI N9)), (3, .int (T_po u)), (4, .int (T_le u)), (5, .int (-1)), (6, .int (nI (pnN x k))), (7, .int 1)]) hx hb dL_boards_224 hl (by decide) rfl (fun ls hl => ?_)
                refine lv_aload_n hx hb dL_boards_226 rfl (lv_at hl 2 rfl) ?_
                refine lr_board_no (rest := [])  S hK hN ht0 ht1 hA hD hW hS htl (fun z => by rw [hff9] at z; exact absurd z (nI_ne4 (by omega))) (cwV 0 hts gL_boards_X6_board rfl rfl rfl hdv_X6_board ⟨Nat.le_of_ble_eq_true rfl, Nat.le_of_ble_eq_true rfl⟩) rfl hl.1 (Nat.le_of_ble_eq_true rfl) dL_boards_227 ⟨Nat.zero_le _, Nat.zero_le _⟩ (fun H locs hW hS => ?_)
                show W p9 l e9 (eR 20 1000) s9 m9 a9 b9 t9 c9 H locs 0 0 Q (F0 m9 230 ls [.int (-2)])
                have hW : SW D cI cT o aT aB aS g y z ad t u hs sn k ff s0 s1 s2 H := hW
                refine lv_istore (lv' := [(10, .int (-2)), (9, .int (nI k)), (8, .int 0), (0, .ref (o 0)), (1, .int x), (2, .int (nI N9)), (3, .int (T_po u)), (4, .int (T_le u)), (5, .int (-1)), (6, .int (nI (pnN x k))), (7, .int 1)]) hx hb dL_boards_230 hl (by decide) rfl (fun ls hl => ?_)
                refine lv_aload_n hx hb dL_boards_232 rfl (lv_at hl 3 rfl) ?_
                refine lr_clear (rest := [])  S hK hN ht0 ht1 hA hD hW hS htl  (cwV 0 hts gL_boards_X6_clear rfl rfl rfl hdv_X6_clear ⟨Nat.le_of_ble_eq_true rfl, Nat.le_of_ble_eq_true rfl⟩) rfl hl.1 (Nat.le_of_ble_eq_true rfl) dL_boards_233 ⟨Nat.zero_le _, Nat.zero_le _⟩ (fun H locs hW hS => ?_)
                show W p9 l e9 (eR 20 1000) s9 m9 a9 b9 t9 c9 H locs 0 0 Q (F0 m9 236 ls [.int (nI k)])
                have hW : SW D cI cT o aT aB aS g y z ad t u hs sn 0 ff s0 s1 s2 H := hW
                refine lv_istore (lv' := [(11, .int (nI k)), (10, .int (-2)), (9, .int (nI k)), (8, .int 0), (0, .ref (o 0)), (1, .int x), (2, .int (nI N9)), (3, .int (T_po u)), (4, .int (T_le u)), (5, .int (-1)), (6, .int (nI (pnN x k))), (7, .int 1)]) hx hb dL_boards_236 hl (by decide) rfl (fun ls hl => ?_)
                refine lv_iload hx hb dL_boards_238 (lv_at hl 11 rfl) ?_
                refine lv_if_eq (tgt := 368) hx hb dL_boards_240 (by decide) (fun h9 => absurd h9 (show ¬ (1 : Int32) = 0 from by decide)) (fun _ => ?_)
                refine lv_iload hx hb dL_boards_243 (lv_at hl 2 rfl) ?_
                refine lv_iload hx hb dL_boards_245 (lv_at hl 9 rfl) ?_
                refine lv_if_lt (tgt := 261) hx hb dL_boards_247 (by decide) (fun _ => ?_) (fun h9 => absurd (show ((-1) : Int32) < 0 from by decide) h9)
                refine lv_iload_n hx hb dL_boards_261 rfl (lv_at hl 6 rfl) ?_
                refine lv_bipush (v := 35) hx hb dL_boards_262 (by decide) ?_
                refine lv_icmp_ge (tgt := 271) hx hb dL_boards_264 (by decide) (fun h9 => absurd h9 (ej_ge (a := N9) (b := 35) (by omega) (show N9 < 35 from by omega))) (fun _ => ?_)
                refine lv_iload_n hx hb dL_boards_267 rfl (lv_at hl 6 rfl) ?_
                refine lv_goto (tgt := 284) hx hb dL_boards_268 (by decide) ?_
                refine lv_icmp_ne (tgt := 368) hx hb dL_boards_284 (by decide) (fun h9 => absurd (congrArg nI (show k = N9 from by omega)) h9) (fun _ => ?_)
                refine lv_iload hx hb dL_boards_287 (lv_at hl 1 rfl) ?_
                refine lv_iload hx hb dL_boards_289 (lv_at hl 3 rfl) ?_
                refine lv_if_eq (tgt := 299) hx hb dL_boards_291 (by decide) (fun _ => ?_) (fun h9 => absurd (show (0 : Int32) = 0 from by decide) h9)
                refine lv_bipush (v := (-2)) hx hb dL_boards_299 (by decide) ?_
                refine lv_icmp_ne (tgt := 368) hx hb dL_boards_301 (by decide) (fun h9 => absurd (show ((-2) : Int32) = (-2) from by decide) h9) (fun _ => ?_)
                refine lv_iload hx hb dL_boards_304 (lv_at hl 0 rfl) ?_
                refine lv_iload hx hb dL_boards_306 (lv_at hl 3 rfl) ?_
                refine lv_if_eq (tgt := 315) hx hb dL_boards_308 (by decide) (fun _ => ?_) (fun h9 => absurd (show (0 : Int32) = 0 from by decide) h9)
                refine lv_iload_n hx hb dL_boards_315 rfl (lv_at hl 6 rfl) ?_
                refine lv_icmp_ne (tgt := 368) hx hb dL_boards_316 (by decide) (fun h9 => absurd (congrArg nI (show k = N9 from by omega)) h9) (fun _ => ?_)
                refine lv_aload_n hx hb dL_boards_319 rfl (lv_at hl 4 rfl) ?_
                refine lv_iconst (v := 0) hx hb dL_boards_320 (by decide) ?_
                refine lr_count (rest := []) (w := 0) S hK hN ht0 ht1 hA hD hW hS htl  (cwV 1 hts gL_boards_X6_count rfl rfl rfl hdv_X6_count ⟨Nat.le_of_ble_eq_true rfl, Nat.le_of_ble_eq_true rfl⟩) rfl hl.1 (Nat.le_of_ble_eq_true rfl) dL_boards_321 ⟨Nat.zero_le _, Nat.zero_le _⟩ (fun H locs hW hS => ?_)
                show W p9 l e9 (eR 20 1000) s9 m9 a9 b9 t9 c9 H locs 0 0 Q (F0 m9 324 ls [.int (couA t u 0 hs.length 0)])
                have hW : SW D cI cT o aT aB aS g y z ad t u hs sn 0 ff s0 s1 s2 H := hW
                refine ej_topi (show (couA t u 0 hs.length 0) = T_po u from lkc_0 t u 0 hs.length) ?_
                refine lv_iload_n hx hb dL_boards_324 rfl (lv_at hl 7 rfl) ?_
                refine lv_icmp_ne (tgt := 368) hx hb dL_boards_325 (by decide) (fun h9 => absurd (rfl) h9) (fun _ => ?_)
                refine lv_aload_n hx hb dL_boards_328 rfl (lv_at hl 4 rfl) ?_
                refine lv_iconst (v := 1) hx hb dL_boards_329 (by decide) ?_
                refine lr_count (rest := []) (w := 1) S hK hN ht0 ht1 hA hD hW hS htl  (cwV 1 hts gL_boards_X6_count rfl rfl rfl hdv_X6_count ⟨Nat.le_of_ble_eq_true rfl, Nat.le_of_ble_eq_true rfl⟩) rfl hl.1 (Nat.le_of_ble_eq_true rfl) dL_boards_330 ⟨Nat.zero_le _, Nat.zero_le _⟩ (fun H locs hW hS => ?_)
                show W p9 l e9 (eR 20 1000) s9 m9 a9 b9 t9 c9 H locs 0 0 Q (F0 m9 333 ls [.int (couA t u 0 hs.length 1)])
                have hW : SW D cI cT o aT aB aS g y z ad t u hs sn 0 ff s0 s1 s2 H := hW
                refine ej_topi (show (couA t u 0 hs.length 1) = T_le u from lkc_1 t u 0 hs.length) ?_
                refine lv_iload hx hb dL_boards_333 (lv_at hl 8 rfl) ?_
                refine lv_icmp_ne (tgt := 368) hx hb dL_boards_335 (by decide) (fun h9 => absurd (rfl) h9) (fun _ => ?_)
                refine lv_iload hx hb dL_boards_338 (lv_at hl 3 rfl) ?_
                refine lv_if_eq (tgt := 364) hx hb dL_boards_340 (by decide) (fun _ => ?_) (fun h9 => absurd (show (0 : Int32) = 0 from by decide) h9)
                refine lv_iconst (v := 1) hx hb dL_boards_364 (by decide) ?_
                refine lv_goto (tgt := 369) hx hb dL_boards_365 (by decide) ?_
                exact hQ _ _ _ _ _ _ _ _ _ _ _ _ _ dL_boards_369 rfl (by exact ⟨rfl, okS_up ho (by omega), Or.inl ⟨rfl, rfl, rfl⟩⟩) hW hS
              · have hff9 : fbG k ff k 0 = -4 := by rw [hfb, if_neg (show ¬ (O9 < k ∧ O9 < 35) by omega), if_neg (by omega), if_neg (by omega)]
                have hk35 : k = 35 := by omega
                have hcn := brd_count t hk35 (show ∀ j : Nat, j < k → ff j = cB x 100 j from by rw [← hO1]; exact hff)
                have hl : lv_has ls 12 [(0, .ref (o 0)), (1, .int x), (2, .int (nI N9)), (3, .int (T_po u)), (4, .int (T_le u)), (5, .int (-1)), (6, .int (nI (pnN x k))), (7, .int 1), (8, .int (nI k))] := by rw [hod] at hl; exact hl
                refine lv_iload_n hx hb dL_boards_201 rfl (lv_at hl 2 rfl) ?_
                refine lv_bipush (v := 35) hx hb dL_boards_202 (by decide) ?_
                refine lv_icmp_ne (tgt := 216) hx hb dL_boards_204 (by decide) (fun h9 => absurd (congrArg nI (show N9 = 35 from by omega)) h9) (fun _ => ?_)
                refine lv_iload hx hb dL_boards_207 (lv_at hl 5 rfl) ?_
                refine lv_if_ge (tgt := 216) hx hb dL_boards_209 (by decide) (fun h9 => absurd h9 (show ¬ (0 : Int32) ≤ (-1) from by decide)) (fun _ => ?_)
                refine lv_iconst (v := 1) hx hb dL_boards_212 (by decide) ?_
                refine lv_goto (tgt := 217) hx hb dL_boards_213 (by decide) ?_
                refine lv_istore (lv' := [(8, .int 1), (0, .ref (o 0)), (1, .int x), (2, .int (nI N9)), (3, .int (T_po u)), (4, .int (T_le u)), (5, .int (-1)), (6, .int (nI (pnN x k))), (7, .int 1)]) hx hb dL_boards_217 hl (by decide) rfl (fun ls hl => ?_)
                refine lv_aload_n hx hb dL_boards_219 rfl (lv_at hl 1 rfl) ?_
                refine lv_iconst (v := 0) hx hb dL_boards_220 (by decide) ?_
                refine lr_fault0 (rest := [])  S hK hN ht0 ht1 hA hD hW hS htl  (cwV 1 hts gL_boards_X6_fault rfl rfl rfl hdv_X6_fault ⟨Nat.le_of_ble_eq_true rfl, Nat.le_of_ble_eq_true rfl⟩) rfl hl.1 (Nat.le_of_ble_eq_true rfl) dL_boards_221 ⟨Nat.zero_le _, Nat.zero_le _⟩ (fun H locs hW hS => ?_)
                show W p9 l e9 (eR 20 1000) s9 m9 a9 b9 t9 c9 H locs 0 0 Q (F0 m9 224 ls [.int (fbG k ff k 0)])
                have hW : SW D cI cT o aT aB aS g y z ad t u hs sn k ff s0 s1 s2 H := hW
                refine ej_topi (show (fbG k ff k 0) = (-4) from hff9) ?_
                refine lv_istore (lv' := [(9, .int (-4)), (8, .int 1), (0, .ref (o 0)), (1, .int x), (2, .int (nI N9)), (3, .int (T_po u)), (4, .int (T_le u)), (5, .int (-1)), (6, .int (nI (pnN x k))), (7, .int 1)]) hx hb dL_boards_224 hl (by decide) rfl (fun ls hl => ?_)
                refine lv_aload_n hx hb dL_boards_226 rfl (lv_at hl 2 rfl) ?_
                refine lr_board (rest := [])  S hK hN ht0 ht1 hA hD hW hS htl hff9 (cwV 0 hts gL_boards_X6_board rfl rfl rfl hdv_X6_board ⟨Nat.le_of_ble_eq_true rfl, Nat.le_of_ble_eq_true rfl⟩) rfl hl.1 (Nat.le_of_ble_eq_true rfl) dL_boards_227 ⟨Nat.zero_le _, Nat.zero_le _⟩ (fun H locs hW hS => ?_)
                show W p9 l e9 (eR 20 1000) s9 m9 a9 b9 t9 c9 H locs 0 0 Q (F0 m9 230 ls [.int (35 - sumI (P_ou (brdT t k ff 35)) 35)])
                have hW : SW D cI cT o aT aB aS g y z ad (brdT t k ff 35) u (recL hs (t, u)) sn 0 ff s0 s1 s2 H := hW
                refine ej_topi (show (35 - sumI (P_ou (brdT t k ff 35)) 35) = nI (pnN x k) from hcn) ?_
                have hob := okS_brd k ff ho
                refine lv_istore (lv' := [(10, .int (nI (pnN x k))), (9, .int (-4)), (8, .int 1), (0, .ref (o 0)), (1, .int x), (2, .int (nI N9)), (3, .int (T_po u)), (4, .int (T_le u)), (5, .int (-1)), (6, .int (nI (pnN x k))), (7, .int 1)]) hx hb dL_boards_230 hl (by decide) rfl (fun ls hl => ?_)
                refine lv_aload_n hx hb dL_boards_232 rfl (lv_at hl 3 rfl) ?_
                refine lr_clear (rest := [])  S hK hN ht0 ht1 hA hD hW hS hob.1.1  (cwV 0 hts gL_boards_X6_clear rfl rfl rfl hdv_X6_clear ⟨Nat.le_of_ble_eq_true rfl, Nat.le_of_ble_eq_true rfl⟩) rfl hl.1 (Nat.le_of_ble_eq_true rfl) dL_boards_233 ⟨Nat.zero_le _, Nat.zero_le _⟩ (fun H locs hW hS => ?_)
                show W p9 l e9 (eR 20 1000) s9 m9 a9 b9 t9 c9 H locs 0 0 Q (F0 m9 236 ls [.int (nI 0)])
                have hW : SW D cI cT o aT aB aS g y z ad (brdT t k ff 35) u (recL hs (t, u)) sn 0 ff s0 s1 s2 H := hW
                refine lv_istore (lv' := [(11, .int (nI 0)), (10, .int (nI (pnN x k))), (9, .int (-4)), (8, .int 1), (0, .ref (o 0)), (1, .int x), (2, .int (nI N9)), (3, .int (T_po u)), (4, .int (T_le u)), (5, .int (-1)), (6, .int (nI (pnN x k))), (7, .int 1)]) hx hb dL_boards_236 hl (by decide) rfl (fun ls hl => ?_)
                refine lv_iload hx hb dL_boards_238 (lv_at hl 11 rfl) ?_
                refine lv_if_eq (tgt := 368) hx hb dL_boards_240 (by decide) (fun h9 => absurd h9 (show ¬ (1 : Int32) = 0 from by decide)) (fun _ => ?_)
                refine lv_iload hx hb dL_boards_243 (lv_at hl 2 rfl) ?_
                refine lv_iload hx hb dL_boards_245 (lv_at hl 9 rfl) ?_
                refine lv_if_lt (tgt := 261) hx hb dL_boards_247 (by decide) (fun _ => ?_) (fun h9 => absurd (show ((-1) : Int32) < 0 from by decide) h9)
                refine lv_iload_n hx hb dL_boards_261 rfl (lv_at hl 6 rfl) ?_
                refine lv_bipush (v := 35) hx hb dL_boards_262 (by decide) ?_
                refine lv_icmp_ge (tgt := 271) hx hb dL_boards_264 (by decide) (fun _ => ?_) (fun h9 => absurd (ej_le (a := 35) (b := N9) (by omega) (show 35 ≤ N9 from by omega)) h9)
                refine lv_iload_n hx hb dL_boards_271 rfl (lv_at hl 6 rfl) ?_
                refine lv_bipush (v := 35) hx hb dL_boards_272 (by decide) ?_
                refine lv_icmp_le (tgt := 282) hx hb dL_boards_274 (by decide) (fun _ => ?_) (fun h9 => absurd (ej_le (a := N9) (b := 35) (by omega) (show N9 ≤ 35 from by omega)) h9)
                refine lv_bipush (v := (-4)) hx hb dL_boards_282 (by decide) ?_
                refine lv_icmp_ne (tgt := 368) hx hb dL_boards_284 (by decide) (fun h9 => absurd (show ((-4) : Int32) = (-4) from by decide) h9) (fun _ => ?_)
                refine lv_iload hx hb dL_boards_287 (lv_at hl 1 rfl) ?_
                refine lv_iload hx hb dL_boards_289 (lv_at hl 3 rfl) ?_
                refine lv_if_eq (tgt := 299) hx hb dL_boards_291 (by decide) (fun h9 => absurd h9 (show ¬ (1 : Int32) = 0 from by decide)) (fun _ => ?_)
                refine lv_iload hx hb dL_boards_294 (lv_at hl 10 rfl) ?_
                refine lv_goto (tgt := 301) hx hb dL_boards_296 (by decide) ?_
                refine lv_icmp_ne (tgt := 368) hx hb dL_boards_301 (by decide) (fun h9 => absurd (congrArg nI (show (pnN x k) = (pnN x k) from by omega)) h9) (fun _ => ?_)
                refine lv_iload hx hb dL_boards_304 (lv_at hl 0 rfl) ?_
                refine lv_iload hx hb dL_boards_306 (lv_at hl 3 rfl) ?_
                refine lv_if_eq (tgt := 315) hx hb dL_boards_308 (by decide) (fun h9 => absurd h9 (show ¬ (1 : Int32) = 0 from by decide)) (fun _ => ?_)
                refine lv_iconst (v := 0) hx hb dL_boards_311 (by decide) ?_
                refine lv_goto (tgt := 316) hx hb dL_boards_312 (by decide) ?_
                refine lv_icmp_ne (tgt := 368) hx hb dL_boards_316 (by decide) (fun h9 => absurd (congrArg nI (show 0 = 0 from by omega)) h9) (fun _ => ?_)
                refine lv_aload_n hx hb dL_boards_319 rfl (lv_at hl 4 rfl) ?_
                refine lv_iconst (v := 0) hx hb dL_boards_320 (by decide) ?_
                refine lr_count (rest := []) (w := 0) S hK hN ht0 ht1 hA hD hW hS hob.1.1  (cwV 1 hts gL_boards_X6_count rfl rfl rfl hdv_X6_count ⟨Nat.le_of_ble_eq_true rfl, Nat.le_of_ble_eq_true rfl⟩) rfl hl.1 (Nat.le_of_ble_eq_true rfl) dL_boards_321 ⟨Nat.zero_le _, Nat.zero_le _⟩ (fun H locs hW hS => ?_)
                show W p9 l e9 (eR 20 1000) s9 m9 a9 b9 t9 c9 H locs 0 0 Q (F0 m9 324 ls [.int (couA (brdT t k ff 35) u 0 (recL hs (t, u)).length 0)])
                have hW : SW D cI cT o aT aB aS g y z ad (brdT t k ff 35) u (recL hs (t, u)) sn 0 ff s0 s1 s2 H := hW
                refine ej_topi (show (couA (brdT t k ff 35) u 0 (recL hs (t, u)).length 0) = T_po u from lkc_0 (brdT t k ff 35) u 0 ((recL hs (t, u)).length)) ?_
                refine lv_iload_n hx hb dL_boards_324 rfl (lv_at hl 7 rfl) ?_
                refine lv_icmp_ne (tgt := 368) hx hb dL_boards_325 (by decide) (fun h9 => absurd (rfl) h9) (fun _ => ?_)
                refine lv_aload_n hx hb dL_boards_328 rfl (lv_at hl 4 rfl) ?_
                refine lv_iconst (v := 1) hx hb dL_boards_329 (by decide) ?_
                refine lr_count (rest := []) (w := 1) S hK hN ht0 ht1 hA hD hW hS hob.1.1  (cwV 1 hts gL_boards_X6_count rfl rfl rfl hdv_X6_count ⟨Nat.le_of_ble_eq_true rfl, Nat.le_of_ble_eq_true rfl⟩) rfl hl.1 (Nat.le_of_ble_eq_true rfl) dL_boards_330 ⟨Nat.zero_le _, Nat.zero_le _⟩ (fun H locs hW hS => ?_)
                show W p9 l e9 (eR 20 1000) s9 m9 a9 b9 t9 c9 H locs 0 0 Q (F0 m9 333 ls [.int (couA (brdT t k ff 35) u 0 (recL hs (t, u)).length 1)])
                have hW : SW D cI cT o aT aB aS g y z ad (brdT t k ff 35) u (recL hs (t, u)) sn 0 ff s0 s1 s2 H := hW
                refine ej_topi (show (couA (brdT t k ff 35) u 0 (recL hs (t, u)).length 1) = T_le u from lkc_1 (brdT t k ff 35) u 0 ((recL hs (t, u)).length)) ?_
                refine lv_iload hx hb dL_boards_333 (lv_at hl 8 rfl) ?_
                refine lv_icmp_ne (tgt := 368) hx hb dL_boards_335 (by decide) (fun h9 => absurd (rfl) h9) (fun _ => ?_)
                refine lv_iload hx hb dL_boards_338 (lv_at hl 3 rfl) ?_
                refine lv_if_eq (tgt := 364) hx hb dL_boards_340 (by decide) (fun h9 => absurd h9 (show ¬ (1 : Int32) = 0 from by decide)) (fun _ => ?_)
                refine lv_aload_n hx hb dL_boards_343 rfl (lv_at hl 4 rfl) ?_
                refine lv_iconst (v := 4) hx hb dL_boards_344 (by decide) ?_
                refine lr_count (rest := []) (w := 4) S hK hN ht0 ht1 hA hD hW hS hob.1.1  (cwV 1 hts gL_boards_X6_count rfl rfl rfl hdv_X6_count ⟨Nat.le_of_ble_eq_true rfl, Nat.le_of_ble_eq_true rfl⟩) rfl hl.1 (Nat.le_of_ble_eq_true rfl) dL_boards_345 ⟨Nat.zero_le _, Nat.zero_le _⟩ (fun H locs hW hS => ?_)
                show W p9 l e9 (eR 20 1000) s9 m9 a9 b9 t9 c9 H locs 0 0 Q (F0 m9 348 ls [.int (couA (brdT t k ff 35) u 0 (recL hs (t, u)).length 4)])
                have hW : SW D cI cT o aT aB aS g y z ad (brdT t k ff 35) u (recL hs (t, u)) sn 0 ff s0 s1 s2 H := hW
                refine ej_topi (show (couA (brdT t k ff 35) u 0 (recL hs (t, u)).length 4) = 35 - sumI (P_ou (brdT t k ff 35)) 35 from lkc_4 (brdT t k ff 35) u 0 ((recL hs (t, u)).length)) ?_
                refine ej_topi (show (35 - sumI (P_ou (brdT t k ff 35)) 35) = nI (pnN x k) from hcn) ?_
                refine lv_iload hx hb dL_boards_348 (lv_at hl 10 rfl) ?_
                refine lv_icmp_ne (tgt := 368) hx hb dL_boards_350 (by decide) (fun h9 => absurd (congrArg nI (show (pnN x k) = (pnN x k) from by omega)) h9) (fun _ => ?_)
                refine lv_aload_n hx hb dL_boards_353 rfl (lv_at hl 4 rfl) ?_
                refine lv_bipush (v := 34) hx hb dL_boards_354 (by decide) ?_
                refine lv_iconst (v := 2) hx hb dL_boards_356 (by decide) ?_
                refine lr_pin (rest := []) (k := 34) (w := 2) S hK hN ht0 ht1 hA hD hW hS hob.1.1 (by omega) (cwV 2 hts gL_boards_X6_pin rfl rfl rfl hdv_X6_pin ⟨Nat.le_of_ble_eq_true rfl, Nat.le_of_ble_eq_true rfl⟩) rfl hl.1 (Nat.le_of_ble_eq_true rfl) dL_boards_357 ⟨Nat.zero_le _, Nat.zero_le _⟩ (fun H locs hW hS => ?_)
                show W p9 l e9 (eR 20 1000) s9 m9 a9 b9 t9 c9 H locs 0 0 Q (F0 m9 360 ls [.int (pinR (brdT t k ff 35) 34 2)])
                have hW : SW D cI cT o aT aB aS g y z ad (brdT t k ff 35) u (recL hs (t, u)) sn 0 ff s0 s1 s2 H := hW
                refine ej_topi (show (pinR (brdT t k ff 35) 34 2) = if P_ou (brdT t k ff 35) 34 = 0 then P_si (brdT t k ff 35) 34 else -4 from lkp_2 (brdT t k ff 35) 34) ?_
                refine lv_iconst (v := 1) hx hb dL_boards_360 (by decide) ?_
                refine lv_icmp_eq (tgt := 368) hx hb dL_boards_361 (by decide) (fun h9 => absurd h9 (brd_side t k ff)) (fun _ => ?_)
                refine lv_iconst (v := 1) hx hb dL_boards_364 (by decide) ?_
                refine lv_goto (tgt := 369) hx hb dL_boards_365 (by decide) ?_
                exact hQ _ _ _ _ _ _ _ _ _ _ _ _ _ dL_boards_369 rfl (by exact ⟨rfl, okS_up hob (by omega), Or.inr rfl⟩) hW hS
              · have hff9 : fbG k ff k 0 = 35 := by rw [hfb, if_neg (show ¬ (O9 < k ∧ O9 < 35) by omega), if_neg (by omega), if_pos (by omega)]
                have hl : lv_has ls 12 [(0, .ref (o 0)), (1, .int x), (2, .int (nI N9)), (3, .int (T_po u)), (4, .int (T_le u)), (5, .int (-1)), (6, .int (nI (pnN x k))), (7, .int 1), (8, .int (nI k))] := by rw [hod] at hl; exact hl
                refine lv_iload_n hx hb dL_boards_201 rfl (lv_at hl 2 rfl) ?_
                refine lv_bipush (v := 35) hx hb dL_boards_202 (by decide) ?_
                refine lv_icmp_ne (tgt := 216) hx hb dL_boards_204 (by decide) (fun _ => ?_) (fun h9 => absurd h9 (ej_ne (a := N9) (b := 35) (by omega) (by omega) (show N9 ≠ 35 from by omega)))
                refine lv_iconst (v := 0) hx hb dL_boards_216 (by decide) ?_
                refine lv_istore (lv' := [(8, .int 0), (0, .ref (o 0)), (1, .int x), (2, .int (nI N9)), (3, .int (T_po u)), (4, .int (T_le u)), (5, .int (-1)), (6, .int (nI (pnN x k))), (7, .int 1)]) hx hb dL_boards_217 hl (by decide) rfl (fun ls hl => ?_)
                refine lv_aload_n hx hb dL_boards_219 rfl (lv_at hl 1 rfl) ?_
                refine lv_iconst (v := 0) hx hb dL_boards_220 (by decide) ?_
                refine lr_fault0 (rest := [])  S hK hN ht0 ht1 hA hD hW hS htl  (cwV 1 hts gL_boards_X6_fault rfl rfl rfl hdv_X6_fault ⟨Nat.le_of_ble_eq_true rfl, Nat.le_of_ble_eq_true rfl⟩) rfl hl.1 (Nat.le_of_ble_eq_true rfl) dL_boards_221 ⟨Nat.zero_le _, Nat.zero_le _⟩ (fun H locs hW hS => ?_)
                show W p9 l e9 (eR 20 1000) s9 m9 a9 b9 t9 c9 H locs 0 0 Q (F0 m9 224 ls [.int (fbG k ff k 0)])
                have hW : SW D cI cT o aT aB aS g y z ad t u hs sn k ff s0 s1 s2 H := hW
                refine ej_topi (show (fbG k ff k 0) = 35 from hff9) ?_
                refine lv_istore (lv' := [(9, .int 35), (8, .int 0), (0, .ref (o 0)), (1, .int x), (2, .int (nI N9)), (3, .int (T_po u)), (4, .int (T_le u)), (5, .int (-1)), (6, .int (nI (pnN x k))), (7, .int 1)]) hx hb dL_boards_224 hl (by decide) rfl (fun ls hl => ?_)
                refine lv_aload_n hx hb dL_boards_226 rfl (lv_at hl 2 rfl) ?_
                refine lr_board_no (rest := [])  S hK hN ht0 ht1 hA hD hW hS htl (fun z => by rw [hff9] at z; exact absurd z (by decide)) (cwV 0 hts gL_boards_X6_board rfl rfl rfl hdv_X6_board ⟨Nat.le_of_ble_eq_true rfl, Nat.le_of_ble_eq_true rfl⟩) rfl hl.1 (Nat.le_of_ble_eq_true rfl) dL_boards_227 ⟨Nat.zero_le _, Nat.zero_le _⟩ (fun H locs hW hS => ?_)
                show W p9 l e9 (eR 20 1000) s9 m9 a9 b9 t9 c9 H locs 0 0 Q (F0 m9 230 ls [.int (-2)])
                have hW : SW D cI cT o aT aB aS g y z ad t u hs sn k ff s0 s1 s2 H := hW
                refine lv_istore (lv' := [(10, .int (-2)), (9, .int 35), (8, .int 0), (0, .ref (o 0)), (1, .int x), (2, .int (nI N9)), (3, .int (T_po u)), (4, .int (T_le u)), (5, .int (-1)), (6, .int (nI (pnN x k))), (7, .int 1)]) hx hb dL_boards_230 hl (by decide) rfl (fun ls hl => ?_)
                refine lv_aload_n hx hb dL_boards_232 rfl (lv_at hl 3 rfl) ?_
                refine lr_clear (rest := [])  S hK hN ht0 ht1 hA hD hW hS htl  (cwV 0 hts gL_boards_X6_clear rfl rfl rfl hdv_X6_clear ⟨Nat.le_of_ble_eq_true rfl, Nat.le_of_ble_eq_true rfl⟩) rfl hl.1 (Nat.le_of_ble_eq_true rfl) dL_boards_233 ⟨Nat.zero_le _, Nat.zero_le _⟩ (fun H locs hW hS => ?_)
                show W p9 l e9 (eR 20 1000) s9 m9 a9 b9 t9 c9 H locs 0 0 Q (F0 m9 236 ls [.int (nI k)])
                have hW : SW D cI cT o aT aB aS g y z ad t u hs sn 0 ff s0 s1 s2 H := hW
                refine lv_istore (lv' := [(11, .int (nI k)), (10, .int (-2)), (9, .int 35), (8, .int 0), (0, .ref (o 0)), (1, .int x), (2, .int (nI N9)), (3, .int (T_po u)), (4, .int (T_le u)), (5, .int (-1)), (6, .int (nI (pnN x k))), (7, .int 1)]) hx hb dL_boards_236 hl (by decide) rfl (fun ls hl => ?_)
                refine lv_iload hx hb dL_boards_238 (lv_at hl 11 rfl) ?_
                refine lv_if_eq (tgt := 368) hx hb dL_boards_240 (by decide) (fun h9 => absurd h9 (show ¬ (1 : Int32) = 0 from by decide)) (fun _ => ?_)
                refine lv_iload hx hb dL_boards_243 (lv_at hl 2 rfl) ?_
                refine lv_iload hx hb dL_boards_245 (lv_at hl 9 rfl) ?_
                refine lv_if_lt (tgt := 261) hx hb dL_boards_247 (by decide) (fun _ => ?_) (fun h9 => absurd (show ((-1) : Int32) < 0 from by decide) h9)
                refine lv_iload_n hx hb dL_boards_261 rfl (lv_at hl 6 rfl) ?_
                refine lv_bipush (v := 35) hx hb dL_boards_262 (by decide) ?_
                refine lv_icmp_ge (tgt := 271) hx hb dL_boards_264 (by decide) (fun _ => ?_) (fun h9 => absurd (ej_le (a := 35) (b := N9) (by omega) (show 35 ≤ N9 from by omega)) h9)
                refine lv_iload_n hx hb dL_boards_271 rfl (lv_at hl 6 rfl) ?_
                refine lv_bipush (v := 35) hx hb dL_boards_272 (by decide) ?_
                refine lv_icmp_le (tgt := 282) hx hb dL_boards_274 (by decide) (fun h9 => absurd h9 (ej_ge (a := 35) (b := N9) (by omega) (show 35 < N9 from by omega))) (fun _ => ?_)
                refine lv_bipush (v := 35) hx hb dL_boards_277 (by decide) ?_
                refine lv_goto (tgt := 284) hx hb dL_boards_279 (by decide) ?_
                refine lv_icmp_ne (tgt := 368) hx hb dL_boards_284 (by decide) (fun h9 => absurd (show (35 : Int32) = 35 from by decide) h9) (fun _ => ?_)
                refine lv_iload hx hb dL_boards_287 (lv_at hl 1 rfl) ?_
                refine lv_iload hx hb dL_boards_289 (lv_at hl 3 rfl) ?_
                refine lv_if_eq (tgt := 299) hx hb dL_boards_291 (by decide) (fun _ => ?_) (fun h9 => absurd (show (0 : Int32) = 0 from by decide) h9)
                refine lv_bipush (v := (-2)) hx hb dL_boards_299 (by decide) ?_
                refine lv_icmp_ne (tgt := 368) hx hb dL_boards_301 (by decide) (fun h9 => absurd (show ((-2) : Int32) = (-2) from by decide) h9) (fun _ => ?_)
                refine lv_iload hx hb dL_boards_304 (lv_at hl 0 rfl) ?_
                refine lv_iload hx hb dL_boards_306 (lv_at hl 3 rfl) ?_
                refine lv_if_eq (tgt := 315) hx hb dL_boards_308 (by decide) (fun _ => ?_) (fun h9 => absurd (show (0 : Int32) = 0 from by decide) h9)
                refine lv_iload_n hx hb dL_boards_315 rfl (lv_at hl 6 rfl) ?_
                refine lv_icmp_ne (tgt := 368) hx hb dL_boards_316 (by decide) (fun h9 => absurd (congrArg nI (show k = N9 from by omega)) h9) (fun _ => ?_)
                refine lv_aload_n hx hb dL_boards_319 rfl (lv_at hl 4 rfl) ?_
                refine lv_iconst (v := 0) hx hb dL_boards_320 (by decide) ?_
                refine lr_count (rest := []) (w := 0) S hK hN ht0 ht1 hA hD hW hS htl  (cwV 1 hts gL_boards_X6_count rfl rfl rfl hdv_X6_count ⟨Nat.le_of_ble_eq_true rfl, Nat.le_of_ble_eq_true rfl⟩) rfl hl.1 (Nat.le_of_ble_eq_true rfl) dL_boards_321 ⟨Nat.zero_le _, Nat.zero_le _⟩ (fun H locs hW hS => ?_)
                show W p9 l e9 (eR 20 1000) s9 m9 a9 b9 t9 c9 H locs 0 0 Q (F0 m9 324 ls [.int (couA t u 0 hs.length 0)])
                have hW : SW D cI cT o aT aB aS g y z ad t u hs sn 0 ff s0 s1 s2 H := hW
                refine ej_topi (show (couA t u 0 hs.length 0) = T_po u from lkc_0 t u 0 hs.length) ?_
                refine lv_iload_n hx hb dL_boards_324 rfl (lv_at hl 7 rfl) ?_
                refine lv_icmp_ne (tgt := 368) hx hb dL_boards_325 (by decide) (fun h9 => absurd (rfl) h9) (fun _ => ?_)
                refine lv_aload_n hx hb dL_boards_328 rfl (lv_at hl 4 rfl) ?_
                refine lv_iconst (v := 1) hx hb dL_boards_329 (by decide) ?_
                refine lr_count (rest := []) (w := 1) S hK hN ht0 ht1 hA hD hW hS htl  (cwV 1 hts gL_boards_X6_count rfl rfl rfl hdv_X6_count ⟨Nat.le_of_ble_eq_true rfl, Nat.le_of_ble_eq_true rfl⟩) rfl hl.1 (Nat.le_of_ble_eq_true rfl) dL_boards_330 ⟨Nat.zero_le _, Nat.zero_le _⟩ (fun H locs hW hS => ?_)
                show W p9 l e9 (eR 20 1000) s9 m9 a9 b9 t9 c9 H locs 0 0 Q (F0 m9 333 ls [.int (couA t u 0 hs.length 1)])
                have hW : SW D cI cT o aT aB aS g y z ad t u hs sn 0 ff s0 s1 s2 H := hW
                refine ej_topi (show (couA t u 0 hs.length 1) = T_le u from lkc_1 t u 0 hs.length) ?_
                refine lv_iload hx hb dL_boards_333 (lv_at hl 8 rfl) ?_
                refine lv_icmp_ne (tgt := 368) hx hb dL_boards_335 (by decide) (fun h9 => absurd (rfl) h9) (fun _ => ?_)
                refine lv_iload hx hb dL_boards_338 (lv_at hl 3 rfl) ?_
                refine lv_if_eq (tgt := 364) hx hb dL_boards_340 (by decide) (fun _ => ?_) (fun h9 => absurd (show (0 : Int32) = 0 from by decide) h9)
                refine lv_iconst (v := 1) hx hb dL_boards_364 (by decide) ?_
                refine lv_goto (tgt := 369) hx hb dL_boards_365 (by decide) ?_
                exact hQ _ _ _ _ _ _ _ _ _ _ _ _ _ dL_boards_369 rfl (by exact ⟨rfl, okS_up ho (by omega), Or.inl ⟨rfl, rfl, rfl⟩⟩) hW hS
            · by_cases hz : O9 < N9
              · have hff9 : fbG k ff k 0 = nI O9 := by rw [hfb, if_pos (show O9 < k ∧ O9 < 35 by omega)]
                have hl : lv_has ls 12 [(0, .ref (o 0)), (1, .int x), (2, .int (nI N9)), (3, .int (T_po u)), (4, .int (T_le u)), (5, .int (nI O9)), (6, .int (nI (pnN x k))), (7, .int 1), (8, .int (nI k))] := by rw [hod] at hl; exact hl
                refine lv_iload_n hx hb dL_boards_201 rfl (lv_at hl 2 rfl) ?_
                refine lv_bipush (v := 35) hx hb dL_boards_202 (by decide) ?_
                refine lv_icmp_ne (tgt := 216) hx hb dL_boards_204 (by decide) (fun c_204 => ?_) (fun c_204 => ?_)
                · have n_204 : N9 ≠ 35 := ej_tne (a := N9) (b := 35) (by omega) (by omega) c_204
                  refine lv_iconst (v := 0) hx hb dL_boards_216 (by decide) ?_
                  refine lv_istore (lv' := [(8, .int 0), (0, .ref (o 0)), (1, .int x), (2, .int (nI N9)), (3, .int (T_po u)), (4, .int (T_le u)), (5, .int (nI O9)), (6, .int (nI (pnN x k))), (7, .int 1)]) hx hb dL_boards_217 hl (by decide) rfl (fun ls hl => ?_)
                  refine lv_aload_n hx hb dL_boards_219 rfl (lv_at hl 1 rfl) ?_
                  refine lv_iconst (v := 0) hx hb dL_boards_220 (by decide) ?_
                  refine lr_fault0 (rest := [])  S hK hN ht0 ht1 hA hD hW hS htl  (cwV 1 hts gL_boards_X6_fault rfl rfl rfl hdv_X6_fault ⟨Nat.le_of_ble_eq_true rfl, Nat.le_of_ble_eq_true rfl⟩) rfl hl.1 (Nat.le_of_ble_eq_true rfl) dL_boards_221 ⟨Nat.zero_le _, Nat.zero_le _⟩ (fun H locs hW hS => ?_)
                  show W p9 l e9 (eR 20 1000) s9 m9 a9 b9 t9 c9 H locs 0 0 Q (F0 m9 224 ls [.int (fbG k ff k 0)])
                  have hW : SW D cI cT o aT aB aS g y z ad t u hs sn k ff s0 s1 s2 H := hW
                  refine ej_topi (show (fbG k ff k 0) = nI O9 from hff9) ?_
                  refine lv_istore (lv' := [(9, .int (nI O9)), (8, .int 0), (0, .ref (o 0)), (1, .int x), (2, .int (nI N9)), (3, .int (T_po u)), (4, .int (T_le u)), (5, .int (nI O9)), (6, .int (nI (pnN x k))), (7, .int 1)]) hx hb dL_boards_224 hl (by decide) rfl (fun ls hl => ?_)
                  refine lv_aload_n hx hb dL_boards_226 rfl (lv_at hl 2 rfl) ?_
                  refine lr_board_no (rest := [])  S hK hN ht0 ht1 hA hD hW hS htl (fun z => by rw [hff9] at z; exact absurd z (nI_ne4 (by omega))) (cwV 0 hts gL_boards_X6_board rfl rfl rfl hdv_X6_board ⟨Nat.le_of_ble_eq_true rfl, Nat.le_of_ble_eq_true rfl⟩) rfl hl.1 (Nat.le_of_ble_eq_true rfl) dL_boards_227 ⟨Nat.zero_le _, Nat.zero_le _⟩ (fun H locs hW hS => ?_)
                  show W p9 l e9 (eR 20 1000) s9 m9 a9 b9 t9 c9 H locs 0 0 Q (F0 m9 230 ls [.int (-2)])
                  have hW : SW D cI cT o aT aB aS g y z ad t u hs sn k ff s0 s1 s2 H := hW
                  refine lv_istore (lv' := [(10, .int (-2)), (9, .int (nI O9)), (8, .int 0), (0, .ref (o 0)), (1, .int x), (2, .int (nI N9)), (3, .int (T_po u)), (4, .int (T_le u)), (5, .int (nI O9)), (6, .int (nI (pnN x k))), (7, .int 1)]) hx hb dL_boards_230 hl (by decide) rfl (fun ls hl => ?_)
                  refine lv_aload_n hx hb dL_boards_232 rfl (lv_at hl 3 rfl) ?_
                  refine lr_clear (rest := [])  S hK hN ht0 ht1 hA hD hW hS htl  (cwV 0 hts gL_boards_X6_clear rfl rfl rfl hdv_X6_clear ⟨Nat.le_of_ble_eq_true rfl, Nat.le_of_ble_eq_true rfl⟩) rfl hl.1 (Nat.le_of_ble_eq_true rfl) dL_boards_233 ⟨Nat.zero_le _, Nat.zero_le _⟩ (fun H locs hW hS => ?_)
                  show W p9 l e9 (eR 20 1000) s9 m9 a9 b9 t9 c9 H locs 0 0 Q (F0 m9 236 ls [.int (nI k)])
                  have hW : SW D cI cT o aT aB aS g y z ad t u hs sn 0 ff s0 s1 s2 H := hW
                  refine lv_istore (lv' := [(11, .int (nI k)), (10, .int (-2)), (9, .int (nI O9)), (8, .int 0), (0, .ref (o 0)), (1, .int x), (2, .int (nI N9)), (3, .int (T_po u)), (4, .int (T_le u)), (5, .int (nI O9)), (6, .int (nI (pnN x k))), (7, .int 1)]) hx hb dL_boards_236 hl (by decide) rfl (fun ls hl => ?_)
                  refine lv_iload hx hb dL_boards_238 (lv_at hl 11 rfl) ?_
                  refine lv_if_eq (tgt := 368) hx hb dL_boards_240 (by decide) (fun h9 => absurd h9 (show ¬ (1 : Int32) = 0 from by decide)) (fun _ => ?_)
                  refine lv_iload hx hb dL_boards_243 (lv_at hl 2 rfl) ?_
                  refine lv_iload hx hb dL_boards_245 (lv_at hl 9 rfl) ?_
                  refine lv_if_lt (tgt := 261) hx hb dL_boards_247 (by decide) (fun h9 => absurd h9 (ej_nlt (a := O9) (b := 0) (by omega) (show 0 ≤ O9 from by omega))) (fun _ => ?_)
                  refine lv_iload hx hb dL_boards_250 (lv_at hl 9 rfl) ?_
                  refine lv_iload_n hx hb dL_boards_252 rfl (lv_at hl 6 rfl) ?_
                  refine lv_icmp_ge (tgt := 261) hx hb dL_boards_253 (by decide) (fun h9 => absurd h9 (ej_ge (a := O9) (b := N9) (by omega) (show O9 < N9 from by omega))) (fun _ => ?_)
                  refine lv_iload hx hb dL_boards_256 (lv_at hl 9 rfl) ?_
                  refine lv_goto (tgt := 284) hx hb dL_boards_258 (by decide) ?_
                  refine lv_icmp_ne (tgt := 368) hx hb dL_boards_284 (by decide) (fun h9 => absurd (congrArg nI (show O9 = O9 from by omega)) h9) (fun _ => ?_)
                  refine lv_iload hx hb dL_boards_287 (lv_at hl 1 rfl) ?_
                  refine lv_iload hx hb dL_boards_289 (lv_at hl 3 rfl) ?_
                  refine lv_if_eq (tgt := 299) hx hb dL_boards_291 (by decide) (fun _ => ?_) (fun h9 => absurd (show (0 : Int32) = 0 from by decide) h9)
                  refine lv_bipush (v := (-2)) hx hb dL_boards_299 (by decide) ?_
                  refine lv_icmp_ne (tgt := 368) hx hb dL_boards_301 (by decide) (fun h9 => absurd (show ((-2) : Int32) = (-2) from by decide) h9) (fun _ => ?_)
                  refine lv_iload hx hb dL_boards_304 (lv_at hl 0 rfl) ?_
                  refine lv_iload hx hb dL_boards_306 (lv_at hl 3 rfl) ?_
                  refine lv_if_eq (tgt := 315) hx hb dL_boards_308 (by decide) (fun _ => ?_) (fun h9 => absurd (show (0 : Int32) = 0 from by decide) h9)
                  refine lv_iload_n hx hb dL_boards_315 rfl (lv_at hl 6 rfl) ?_
                  refine lv_icmp_ne (tgt := 368) hx hb dL_boards_316 (by decide) (fun h9 => absurd (congrArg nI (show k = N9 from by omega)) h9) (fun _ => ?_)
                  refine lv_aload_n hx hb dL_boards_319 rfl (lv_at hl 4 rfl) ?_
                  refine lv_iconst (v := 0) hx hb dL_boards_320 (by decide) ?_
                  refine lr_count (rest := []) (w := 0) S hK hN ht0 ht1 hA hD hW hS htl  (cwV 1 hts gL_boards_X6_count rfl rfl rfl hdv_X6_count ⟨Nat.le_of_ble_eq_true rfl, Nat.le_of_ble_eq_true rfl⟩) rfl hl.1 (Nat.le_of_ble_eq_true rfl) dL_boards_321 ⟨Nat.zero_le _, Nat.zero_le _⟩ (fun H locs hW hS => ?_)
                  show W p9 l e9 (eR 20 1000) s9 m9 a9 b9 t9 c9 H locs 0 0 Q (F0 m9 324 ls [.int (couA t u 0 hs.length 0)])
                  have hW : SW D cI cT o aT aB aS g y z ad t u hs sn 0 ff s0 s1 s2 H := hW
                  refine ej_topi (show (couA t u 0 hs.length 0) = T_po u from lkc_0 t u 0 hs.length) ?_
                  refine lv_iload_n hx hb dL_boards_324 rfl (lv_at hl 7 rfl) ?_
                  refine lv_icmp_ne (tgt := 368) hx hb dL_boards_325 (by decide) (fun h9 => absurd (rfl) h9) (fun _ => ?_)
                  refine lv_aload_n hx hb dL_boards_328 rfl (lv_at hl 4 rfl) ?_
                  refine lv_iconst (v := 1) hx hb dL_boards_329 (by decide) ?_
                  refine lr_count (rest := []) (w := 1) S hK hN ht0 ht1 hA hD hW hS htl  (cwV 1 hts gL_boards_X6_count rfl rfl rfl hdv_X6_count ⟨Nat.le_of_ble_eq_true rfl, Nat.le_of_ble_eq_true rfl⟩) rfl hl.1 (Nat.le_of_ble_eq_true rfl) dL_boards_330 ⟨Nat.zero_le _, Nat.zero_le _⟩ (fun H locs hW hS => ?_)
                  show W p9 l e9 (eR 20 1000) s9 m9 a9 b9 t9 c9 H locs 0 0 Q (F0 m9 333 ls [.int (couA t u 0 hs.length 1)])
                  have hW : SW D cI cT o aT aB aS g y z ad t u hs sn 0 ff s0 s1 s2 H := hW
                  refine ej_topi (show (couA t u 0 hs.length 1) = T_le u from lkc_1 t u 0 hs.length) ?_
                  refine lv_iload hx hb dL_boards_333 (lv_at hl 8 rfl) ?_
                  refine lv_icmp_ne (tgt := 368) hx hb dL_boards_335 (by decide) (fun h9 => absurd (rfl) h9) (fun _ => ?_)
                  refine lv_iload hx hb dL_boards_338 (lv_at hl 3 rfl) ?_
                  refine lv_if_eq (tgt := 364) hx hb dL_boards_340 (by decide) (fun _ => ?_) (fun h9 => absurd (show (0 : Int32) = 0 from by decide) h9)
                  refine lv_iconst (v := 1) hx hb dL_boards_364 (by decide) ?_
                  refine lv_goto (tgt := 369) hx hb dL_boards_365 (by decide) ?_
                  exact hQ _ _ _ _ _ _ _ _ _ _ _ _ _ dL_boards_369 rfl (by exact ⟨rfl, okS_up ho (by omega), Or.inl ⟨rfl, rfl, rfl⟩⟩) hW hS
                · have n_204 : N9 = 35 := ej_teq (a := N9) (b := 35) (by omega) (by omega) c_204
                  refine lv_iload hx hb dL_boards_207 (lv_at hl 5 rfl) ?_
                  refine lv_if_ge (tgt := 216) hx hb dL_boards_209 (by decide) (fun _ => ?_) (fun h9 => absurd (ej_le (a := 0) (b := O9) (by omega) (show 0 ≤ O9 from by omega)) h9)
                  refine lv_iconst (v := 0) hx hb dL_boards_216 (by decide) ?_
                  refine lv_istore (lv' := [(8, .int 0), (0, .ref (o 0)), (1, .int x), (2, .int (nI N9)), (3, .int (T_po u)), (4, .int (T_le u)), (5, .int (nI O9)), (6, .int (nI (pnN x k))), (7, .int 1)]) hx hb dL_boards_217 hl (by decide) rfl (fun ls hl => ?_)
                  refine lv_aload_n hx hb dL_boards_219 rfl (lv_at hl 1 rfl) ?_
                  refine lv_iconst (v := 0) hx hb dL_boards_220 (by decide) ?_
                  refine lr_fault0 (rest := [])  S hK hN ht0 ht1 hA hD hW hS htl  (cwV 1 hts gL_boards_X6_fault rfl rfl rfl hdv_X6_fault ⟨Nat.le_of_ble_eq_true rfl, Nat.le_of_ble_eq_true rfl⟩) rfl hl.1 (Nat.le_of_ble_eq_true rfl) dL_boards_221 ⟨Nat.zero_le _, Nat.zero_le _⟩ (fun H locs hW hS => ?_)
                  show W p9 l e9 (eR 20 1000) s9 m9 a9 b9 t9 c9 H locs 0 0 Q (F0 m9 224 ls [.int (fbG k ff k 0)])
                  have hW : SW D cI cT o aT aB aS g y z ad t u hs sn k ff s0 s1 s2 H := hW
                  refine ej_topi (show (fbG k ff k 0) = nI O9 from hff9) ?_
                  refine lv_istore (lv' := [(9, .int (nI O9)), (8, .int 0), (0, .ref (o 0)), (1, .int x), (2, .int (nI N9)), (3, .int (T_po u)), (4, .int (T_le u)), (5, .int (nI O9)), (6, .int (nI (pnN x k))), (7, .int 1)]) hx hb dL_boards_224 hl (by decide) rfl (fun ls hl => ?_)
                  refine lv_aload_n hx hb dL_boards_226 rfl (lv_at hl 2 rfl) ?_
                  refine lr_board_no (rest := [])  S hK hN ht0 ht1 hA hD hW hS htl (fun z => by rw [hff9] at z; exact absurd z (nI_ne4 (by omega))) (cwV 0 hts gL_boards_X6_board rfl rfl rfl hdv_X6_board ⟨Nat.le_of_ble_eq_true rfl, Nat.le_of_ble_eq_true rfl⟩) rfl hl.1 (Nat.le_of_ble_eq_true rfl) dL_boards_227 ⟨Nat.zero_le _, Nat.zero_le _⟩ (fun H locs hW hS => ?_)
                  show W p9 l e9 (eR 20 1000) s9 m9 a9 b9 t9 c9 H locs 0 0 Q (F0 m9 230 ls [.int (-2)])
                  have hW : SW D cI cT o aT aB aS g y z ad t u hs sn k ff s0 s1 s2 H := hW
                  refine lv_istore (lv' := [(10, .int (-2)), (9, .int (nI O9)), (8, .int 0), (0, .ref (o 0)), (1, .int x), (2, .int (nI N9)), (3, .int (T_po u)), (4, .int (T_le u)), (5, .int (nI O9)), (6, .int (nI (pnN x k))), (7, .int 1)]) hx hb dL_boards_230 hl (by decide) rfl (fun ls hl => ?_)
                  refine lv_aload_n hx hb dL_boards_232 rfl (lv_at hl 3 rfl) ?_
                  refine lr_clear (rest := [])  S hK hN ht0 ht1 hA hD hW hS htl  (cwV 0 hts gL_boards_X6_clear rfl rfl rfl hdv_X6_clear ⟨Nat.le_of_ble_eq_true rfl, Nat.le_of_ble_eq_true rfl⟩) rfl hl.1 (Nat.le_of_ble_eq_true rfl) dL_boards_233 ⟨Nat.zero_le _, Nat.zero_le _⟩ (fun H locs hW hS => ?_)
                  show W p9 l e9 (eR 20 1000) s9 m9 a9 b9 t9 c9 H locs 0 0 Q (F0 m9 236 ls [.int (nI k)])
                  have hW : SW D cI cT o aT aB aS g y z ad t u hs sn 0 ff s0 s1 s2 H := hW
                  refine lv_istore (lv' := [(11, .int (nI k)), (10, .int (-2)), (9, .int (nI O9)), (8, .int 0), (0, .ref (o 0)), (1, .int x), (2, .int (nI N9)), (3, .int (T_po u)), (4, .int (T_le u)), (5, .int (nI O9)), (6, .int (nI (pnN x k))), (7, .int 1)]) hx hb dL_boards_236 hl (by decide) rfl (fun ls hl => ?_)
                  refine lv_iload hx hb dL_boards_238 (lv_at hl 11 rfl) ?_
                  refine lv_if_eq (tgt := 368) hx hb dL_boards_240 (by decide) (fun h9 => absurd h9 (show ¬ (1 : Int32) = 0 from by decide)) (fun _ => ?_)
                  refine lv_iload hx hb dL_boards_243 (lv_at hl 2 rfl) ?_
                  refine lv_iload hx hb dL_boards_245 (lv_at hl 9 rfl) ?_
                  refine lv_if_lt (tgt := 261) hx hb dL_boards_247 (by decide) (fun h9 => absurd h9 (ej_nlt (a := O9) (b := 0) (by omega) (show 0 ≤ O9 from by omega))) (fun _ => ?_)
                  refine lv_iload hx hb dL_boards_250 (lv_at hl 9 rfl) ?_
                  refine lv_iload_n hx hb dL_boards_252 rfl (lv_at hl 6 rfl) ?_
                  refine lv_icmp_ge (tgt := 261) hx hb dL_boards_253 (by decide) (fun h9 => absurd h9 (ej_ge (a := O9) (b := N9) (by omega) (show O9 < N9 from by omega))) (fun _ => ?_)
                  refine lv_iload hx hb dL_boards_256 (lv_at hl 9 rfl) ?_
                  refine lv_goto (tgt := 284) hx hb dL_boards_258 (by decide) ?_
                  refine lv_icmp_ne (tgt := 368) hx hb dL_boards_284 (by decide) (fun h9 => absurd (congrArg nI (show O9 = O9 from by omega)) h9) (fun _ => ?_)
                  refine lv_iload hx hb dL_boards_287 (lv_at hl 1 rfl) ?_
                  refine lv_iload hx hb dL_boards_289 (lv_at hl 3 rfl) ?_
                  refine lv_if_eq (tgt := 299) hx hb dL_boards_291 (by decide) (fun _ => ?_) (fun h9 => absurd (show (0 : Int32) = 0 from by decide) h9)
                  refine lv_bipush (v := (-2)) hx hb dL_boards_299 (by decide) ?_
                  refine lv_icmp_ne (tgt := 368) hx hb dL_boards_301 (by decide) (fun h9 => absurd (show ((-2) : Int32) = (-2) from by decide) h9) (fun _ => ?_)
                  refine lv_iload hx hb dL_boards_304 (lv_at hl 0 rfl) ?_
                  refine lv_iload hx hb dL_boards_306 (lv_at hl 3 rfl) ?_
                  refine lv_if_eq (tgt := 315) hx hb dL_boards_308 (by decide) (fun _ => ?_) (fun h9 => absurd (show (0 : Int32) = 0 from by decide) h9)
                  refine lv_iload_n hx hb dL_boards_315 rfl (lv_at hl 6 rfl) ?_
                  refine lv_icmp_ne (tgt := 368) hx hb dL_boards_316 (by decide) (fun h9 => absurd (congrArg nI (show k = N9 from by omega)) h9) (fun _ => ?_)
                  refine lv_aload_n hx hb dL_boards_319 rfl (lv_at hl 4 rfl) ?_
                  refine lv_iconst (v := 0) hx hb dL_boards_320 (by decide) ?_
                  refine lr_count (rest := []) (w := 0) S hK hN ht0 ht1 hA hD hW hS htl  (cwV 1 hts gL_boards_X6_count rfl rfl rfl hdv_X6_count ⟨Nat.le_of_ble_eq_true rfl, Nat.le_of_ble_eq_true rfl⟩) rfl hl.1 (Nat.le_of_ble_eq_true rfl) dL_boards_321 ⟨Nat.zero_le _, Nat.zero_le _⟩ (fun H locs hW hS => ?_)
                  show W p9 l e9 (eR 20 1000) s9 m9 a9 b9 t9 c9 H locs 0 0 Q (F0 m9 324 ls [.int (couA t u 0 hs.length 0)])
                  have hW : SW D cI cT o aT aB aS g y z ad t u hs sn 0 ff s0 s1 s2 H := hW
                  refine ej_topi (show (couA t u 0 hs.length 0) = T_po u from lkc_0 t u 0 hs.length) ?_
                  refine lv_iload_n hx hb dL_boards_324 rfl (lv_at hl 7 rfl) ?_
                  refine lv_icmp_ne (tgt := 368) hx hb dL_boards_325 (by decide) (fun h9 => absurd (rfl) h9) (fun _ => ?_)
                  refine lv_aload_n hx hb dL_boards_328 rfl (lv_at hl 4 rfl) ?_
                  refine lv_iconst (v := 1) hx hb dL_boards_329 (by decide) ?_
                  refine lr_count (rest := []) (w := 1) S hK hN ht0 ht1 hA hD hW hS htl  (cwV 1 hts gL_boards_X6_count rfl rfl rfl hdv_X6_count ⟨Nat.le_of_ble_eq_true rfl, Nat.le_of_ble_eq_true rfl⟩) rfl hl.1 (Nat.le_of_ble_eq_true rfl) dL_boards_330 ⟨Nat.zero_le _, Nat.zero_le _⟩ (fun H locs hW hS => ?_)
                  show W p9 l e9 (eR 20 1000) s9 m9 a9 b9 t9 c9 H locs 0 0 Q (F0 m9 333 ls [.int (couA t u 0 hs.length 1)])
                  have hW : SW D cI cT o aT aB aS g y z ad t u hs sn 0 ff s0 s1 s2 H := hW
                  refine ej_topi (show (couA t u 0 hs.length 1) = T_le u from lkc_1 t u 0 hs.length) ?_
                  refine lv_iload hx hb dL_boards_333 (lv_at hl 8 rfl) ?_
                  refine lv_icmp_ne (tgt := 368) hx hb dL_boards_335 (by decide) (fun h9 => absurd (rfl) h9) (fun _ => ?_)
                  refine lv_iload hx hb dL_boards_338 (lv_at hl 3 rfl) ?_
                  refine lv_if_eq (tgt := 364) hx hb dL_boards_340 (by decide) (fun _ => ?_) (fun h9 => absurd (show (0 : Int32) = 0 from by decide) h9)
                  refine lv_iconst (v := 1) hx hb dL_boards_364 (by decide) ?_
                  refine lv_goto (tgt := 369) hx hb dL_boards_365 (by decide) ?_
                  exact hQ _ _ _ _ _ _ _ _ _ _ _ _ _ dL_boards_369 rfl (by exact ⟨rfl, okS_up ho (by omega), Or.inl ⟨rfl, rfl, rfl⟩⟩) hW hS
              · have hff9 : fbG k ff k 0 = nI k := by rw [hfb, if_neg (show ¬ (O9 < k ∧ O9 < 35) by omega), if_pos (by omega)]
                have hl : lv_has ls 12 [(0, .ref (o 0)), (1, .int x), (2, .int (nI N9)), (3, .int (T_po u)), (4, .int (T_le u)), (5, .int (nI O9)), (6, .int (nI (pnN x k))), (7, .int 1), (8, .int (nI k))] := by rw [hod] at hl; exact hl
                refine lv_iload_n hx hb dL_boards_201 rfl (lv_at hl 2 rfl) ?_
                refine lv_bipush (v := 35) hx hb dL_boards_202 (by decide) ?_
                refine lv_icmp_ne (tgt := 216) hx hb dL_boards_204 (by decide) (fun _ => ?_) (fun h9 => absurd h9 (ej_ne (a := N9) (b := 35) (by omega) (by omega) (show N9 ≠ 35 from by omega)))
                refine lv_iconst (v := 0) hx hb dL_boards_216 (by decide) ?_
                refine lv_istore (lv' := [(8, .int 0), (0, .ref (o 0)), (1, .int x), (2, .int (nI N9)), (3, .int (T_po u)), (4, .int (T_le u)), (5, .int (nI O9)), (6, .int (nI (pnN x k))), (7, .int 1)]) hx hb dL_boards_217 hl (by decide) rfl (fun ls hl => ?_)
                refine lv_aload_n hx hb dL_boards_219 rfl (lv_at hl 1 rfl) ?_
                refine lv_iconst (v := 0) hx hb dL_boards_220 (by decide) ?_
                refine lr_fault0 (rest := [])  S hK hN ht0 ht1 hA hD hW hS htl  (cwV 1 hts gL_boards_X6_fault rfl rfl rfl hdv_X6_fault ⟨Nat.le_of_ble_eq_true rfl, Nat.le_of_ble_eq_true rfl⟩) rfl hl.1 (Nat.le_of_ble_eq_true rfl) dL_boards_221 ⟨Nat.zero_le _, Nat.zero_le _⟩ (fun H locs hW hS => ?_)
                show W p9 l e9 (eR 20 1000) s9 m9 a9 b9 t9 c9 H locs 0 0 Q (F0 m9 224 ls [.int (fbG k ff k 0)])
                have hW : SW D cI cT o aT aB aS g y z ad t u hs sn k ff s0 s1 s2 H := hW
                refine ej_topi (show (fbG k ff k 0) = nI k from hff9) ?_
                refine lv_istore (lv' := [(9, .int (nI k)), (8, .int 0), (0, .ref (o 0)), (1, .int x), (2, .int (nI N9)), (3, .int (T_po u)), (4, .int (T_le u)), (5, .int (nI O9)), (6, .int (nI (pnN x k))), (7, .int 1)]) hx hb dL_boards_224 hl (by decide) rfl (fun ls hl => ?_)
                refine lv_aload_n hx hb dL_boards_226 rfl (lv_at hl 2 rfl) ?_
                refine lr_board_no (rest := [])  S hK hN ht0 ht1 hA hD hW hS htl (fun z => by rw [hff9] at z; exact absurd z (nI_ne4 (by omega))) (cwV 0 hts gL_boards_X6_board rfl rfl rfl hdv_X6_board ⟨Nat.le_of_ble_eq_true rfl, Nat.le_of_ble_eq_true rfl⟩) rfl hl.1 (Nat.le_of_ble_eq_true rfl) dL_boards_227 ⟨Nat.zero_le _, Nat.zero_le _⟩ (fun H locs hW hS => ?_)
                show W p9 l e9 (eR 20 1000) s9 m9 a9 b9 t9 c9 H locs 0 0 Q (F0 m9 230 ls [.int (-2)])
                have hW : SW D cI cT o aT aB aS g y z ad t u hs sn k ff s0 s1 s2 H := hW
                refine lv_istore (lv' := [(10, .int (-2)), (9, .int (nI k)), (8, .int 0), (0, .ref (o 0)), (1, .int x), (2, .int (nI N9)), (3, .int (T_po u)), (4, .int (T_le u)), (5, .int (nI O9)), (6, .int (nI (pnN x k))), (7, .int 1)]) hx hb dL_boards_230 hl (by decide) rfl (fun ls hl => ?_)
                refine lv_aload_n hx hb dL_boards_232 rfl (lv_at hl 3 rfl) ?_
                refine lr_clear (rest := [])  S hK hN ht0 ht1 hA hD hW hS htl  (cwV 0 hts gL_boards_X6_clear rfl rfl rfl hdv_X6_clear ⟨Nat.le_of_ble_eq_true rfl, Nat.le_of_ble_eq_true rfl⟩) rfl hl.1 (Nat.le_of_ble_eq_true rfl) dL_boards_233 ⟨Nat.zero_le _, Nat.zero_le _⟩ (fun H locs hW hS => ?_)
                show W p9 l e9 (eR 20 1000) s9 m9 a9 b9 t9 c9 H locs 0 0 Q (F0 m9 236 ls [.int (nI k)])
                have hW : SW D cI cT o aT aB aS g y z ad t u hs sn 0 ff s0 s1 s2 H := hW
                refine lv_istore (lv' := [(11, .int (nI k)), (10, .int (-2)), (9, .int (nI k)), (8, .int 0), (0, .ref (o 0)), (1, .int x), (2, .int (nI N9)), (3, .int (T_po u)), (4, .int (T_le u)), (5, .int (nI O9)), (6, .int (nI (pnN x k))), (7, .int 1)]) hx hb dL_boards_236 hl (by decide) rfl (fun ls hl => ?_)
                refine lv_iload hx hb dL_boards_238 (lv_at hl 11 rfl) ?_
                refine lv_if_eq (tgt := 368) hx hb dL_boards_240 (by decide) (fun h9 => absurd h9 (show ¬ (1 : Int32) = 0 from by decide)) (fun _ => ?_)
                refine lv_iload hx hb dL_boards_243 (lv_at hl 2 rfl) ?_
                refine lv_iload hx hb dL_boards_245 (lv_at hl 9 rfl) ?_
                refine lv_if_lt (tgt := 261) hx hb dL_boards_247 (by decide) (fun h9 => absurd h9 (ej_nlt (a := O9) (b := 0) (by omega) (show 0 ≤ O9 from by omega))) (fun _ => ?_)
                refine lv_iload hx hb dL_boards_250 (lv_at hl 9 rfl) ?_
                refine lv_iload_n hx hb dL_boards_252 rfl (lv_at hl 6 rfl) ?_
                refine lv_icmp_ge (tgt := 261) hx hb dL_boards_253 (by decide) (fun _ => ?_) (fun h9 => absurd (ej_le (a := N9) (b := O9) (by omega) (show N9 ≤ O9 from by omega)) h9)
                refine lv_iload_n hx hb dL_boards_261 rfl (lv_at hl 6 rfl) ?_
                refine lv_bipush (v := 35) hx hb dL_boards_262 (by decide) ?_
                refine lv_icmp_ge (tgt := 271) hx hb dL_boards_264 (by decide) (fun h9 => absurd h9 (ej_ge (a := N9) (b := 35) (by omega) (show N9 < 35 from by omega))) (fun _ => ?_)
                refine lv_iload_n hx hb dL_boards_267 rfl (lv_at hl 6 rfl) ?_
                refine lv_goto (tgt := 284) hx hb dL_boards_268 (by decide) ?_
                refine lv_icmp_ne (tgt := 368) hx hb dL_boards_284 (by decide) (fun h9 => absurd (congrArg nI (show k = N9 from by omega)) h9) (fun _ => ?_)
                refine lv_iload hx hb dL_boards_287 (lv_at hl 1 rfl) ?_
                refine lv_iload hx hb dL_boards_289 (lv_at hl 3 rfl) ?_
                refine lv_if_eq (tgt := 299) hx hb dL_boards_291 (by decide) (fun _ => ?_) (fun h9 => absurd (show (0 : Int32) = 0 from by decide) h9)
                refine lv_bipush (v := (-2)) hx hb dL_boards_299 (by decide) ?_
                refine lv_icmp_ne (tgt := 368) hx hb dL_boards_301 (by decide) (fun h9 => absurd (show ((-2) : Int32) = (-2) from by decide) h9) (fun _ => ?_)
                refine lv_iload hx hb dL_boards_304 (lv_at hl 0 rfl) ?_
                refine lv_iload hx hb dL_boards_306 (lv_at hl 3 rfl) ?_
                refine lv_if_eq (tgt := 315) hx hb dL_boards_308 (by decide) (fun _ => ?_) (fun h9 => absurd (show (0 : Int32) = 0 from by decide) h9)
                refine lv_iload_n hx hb dL_boards_315 rfl (lv_at hl 6 rfl) ?_
                refine lv_icmp_ne (tgt := 368) hx hb dL_boards_316 (by decide) (fun h9 => absurd (congrArg nI (show k = N9 from by omega)) h9) (fun _ => ?_)
                refine lv_aload_n hx hb dL_boards_319 rfl (lv_at hl 4 rfl) ?_
                refine lv_iconst (v := 0) hx hb dL_boards_320 (by decide) ?_
                refine lr_count (rest := []) (w := 0) S hK hN ht0 ht1 hA hD hW hS htl  (cwV 1 hts gL_boards_X6_count rfl rfl rfl hdv_X6_count ⟨Nat.le_of_ble_eq_true rfl, Nat.le_of_ble_eq_true rfl⟩) rfl hl.1 (Nat.le_of_ble_eq_true rfl) dL_boards_321 ⟨Nat.zero_le _, Nat.zero_le _⟩ (fun H locs hW hS => ?_)
                show W p9 l e9 (eR 20 1000) s9 m9 a9 b9 t9 c9 H locs 0 0 Q (F0 m9 324 ls [.int (couA t u 0 hs.length 0)])
                have hW : SW D cI cT o aT aB aS g y z ad t u hs sn 0 ff s0 s1 s2 H := hW
                refine ej_topi (show (couA t u 0 hs.length 0) = T_po u from lkc_0 t u 0 hs.length) ?_
                refine lv_iload_n hx hb dL_boards_324 rfl (lv_at hl 7 rfl) ?_
                refine lv_icmp_ne (tgt := 368) hx hb dL_boards_325 (by decide) (fun h9 => absurd (rfl) h9) (fun _ => ?_)
                refine lv_aload_n hx hb dL_boards_328 rfl (lv_at hl 4 rfl) ?_
                refine lv_iconst (v := 1) hx hb dL_boards_329 (by decide) ?_
                refine lr_count (rest := []) (w := 1) S hK hN ht0 ht1 hA hD hW hS htl  (cwV 1 hts gL_boards_X6_count rfl rfl rfl hdv_X6_count ⟨Nat.le_of_ble_eq_true rfl, Nat.le_of_ble_eq_true rfl⟩) rfl hl.1 (Nat.le_of_ble_eq_true rfl) dL_boards_330 ⟨Nat.zero_le _, Nat.zero_le _⟩ (fun H locs hW hS => ?_)
                show W p9 l e9 (eR 20 1000) s9 m9 a9 b9 t9 c9 H locs 0 0 Q (F0 m9 333 ls [.int (couA t u 0 hs.length 1)])
                have hW : SW D cI cT o aT aB aS g y z ad t u hs sn 0 ff s0 s1 s2 H := hW
                refine ej_topi (show (couA t u 0 hs.length 1) = T_le u from lkc_1 t u 0 hs.length) ?_
                refine lv_iload hx hb dL_boards_333 (lv_at hl 8 rfl) ?_
                refine lv_icmp_ne (tgt := 368) hx hb dL_boards_335 (by decide) (fun h9 => absurd (rfl) h9) (fun _ => ?_)
                refine lv_iload hx hb dL_boards_338 (lv_at hl 3 rfl) ?_
                refine lv_if_eq (tgt := 364) hx hb dL_boards_340 (by decide) (fun _ => ?_) (fun h9 => absurd (show (0 : Int32) = 0 from by decide) h9)
                refine lv_iconst (v := 1) hx hb dL_boards_364 (by decide) ?_
                refine lv_goto (tgt := 369) hx hb dL_boards_365 (by decide) ?_
                exact hQ _ _ _ _ _ _ _ _ _ _ _ _ _ dL_boards_369 rfl (by exact ⟨rfl, okS_up ho (by omega), Or.inl ⟨rfl, rfl, rfl⟩⟩) hW hS
          · have n_87 : k < N9 := ej_tnle (a := N9) (b := k) (by omega) (by omega) c_87
            refine lv_iload_n hx hb dL_boards_90 rfl (lv_at hl 1 rfl) ?_
            refine lv_iload hx hb dL_boards_91 (lv_at hl 8 rfl) ?_
            refine lv_bipush (v := 19) hx hb dL_boards_93 (by decide) ?_
            refine lv_irem hx hb dL_boards_95 (by decide) ?_
            refine ej_topi (show (nI k) - (nI k) / 19 * 19 = nI (k % 19) from pk_rem (a := k) (d := 19) (by omega) (by decide) (by decide)) ?_
            refine lv_ishr hx hb dL_boards_96 ?_
            refine lv_bipush (v := 8) hx hb dL_boards_97 (by decide) ?_
            refine ej_L0 (rest := []) (As := [.int (x >>> ((nI (k % 19)) &&& 31)), .int 8]) S hK hN hA hD hW hS (c_L_low l D tys cI ht0 (x >>> ((nI (k % 19)) &&& 31)) 8 (by omega) (by omega)) (va_cwS 2 hts gL_boards_L_low rfl rfl rfl hds_L_low ⟨Nat.le_of_ble_eq_true rfl, Nat.le_of_ble_eq_true rfl⟩) rfl rfl hl.1 (Nat.le_of_ble_eq_true rfl) dL_boards_99 ⟨Nat.zero_le _, Nat.zero_le _⟩ (fun H locs hW hS => ?_)
            show W p9 l e9 (eR 20 1000) s9 m9 a9 b9 t9 c9 H locs 0 0 Q (F0 m9 102 ls [.int (nI (lowN (x >>> ((nI (k % 19)) &&& 31)) 8))])
            have lw_99 := lowN_lt (x >>> ((nI (k % 19)) &&& 31)) (n := 8) (by omega)
            refine lv_istore (lv' := [(9, .int (nI (lowN (x >>> ((nI (k % 19)) &&& 31)) 8))), (0, .ref (o 0)), (1, .int x), (2, .int (nI N9)), (3, .int (T_po u)), (4, .int (T_le u)), (5, .int od), (6, .int (nI (pnN x k))), (7, .int 1), (8, .int (nI k))]) hx hb dL_boards_102 hl (by decide) rfl (fun ls hl => ?_)
            refine lv_iload hx hb dL_boards_104 (lv_at hl 7 rfl) ?_
            refine lv_iload hx hb dL_boards_106 (lv_at hl 0 rfl) ?_
            have jp116 : ∀ (H : Heap) (locs : List Loc) (ls : Array Slot), SW D cI cT o aT aB aS g y z ad t u hs sn k ff s0 s1 s2 H → va_S A H0 H locs → lv_has ls 12 [(9, .int (nI (lowN (x >>> ((nI (k % 19)) &&& 31)) 8))), (0, .ref (o 0)), (1, .int x), (2, .int (nI N9)), (3, .int (T_po u)), (4, .int (T_le u)), (5, .int od), (6, .int (nI (pnN x k))), (7, .int 1), (8, .int (nI k))] → W p9 l e9 (eR 20 1000) s9 m9 a9 b9 t9 c9 H locs 0 0 Q (F0 m9 116 ls [.int (nI (if hwB x k = 0 then 0 else 1)), .int (nI (pnN x k))]) := by
              intro H locs ls hW hS hl
              refine lv_iadd hx hb dL_boards_116 ?_
              refine ej_topi (show (nI (pnN x k)) + (nI (if hwB x k = 0 then 0 else 1)) = nI ((pnN x k) + (if hwB x k = 0 then 0 else 1)) from nI_add (pnN x k) (if hwB x k = 0 then 0 else 1)) ?_
              refine lv_istore (lv' := [(6, .int (nI ((pnN x k) + (if hwB x k = 0 then 0 else 1)))), (9, .int (nI (lowN (x >>> ((nI (k % 19)) &&& 31)) 8))), (0, .ref (o 0)), (1, .int x), (2, .int (nI N9)), (3, .int (T_po u)), (4, .int (T_le u)), (5, .int od), (7, .int 1), (8, .int (nI k))]) hx hb dL_boards_117 hl (by decide) rfl (fun ls hl => ?_)
              refine lv_iload hx hb dL_boards_119 (lv_at hl 8 rfl) ?_
              refine lv_if_eq (tgt := 192) hx hb dL_boards_121 (by decide) (fun h9 => absurd h9 (show ¬ (1 : Int32) = 0 from by decide)) (fun _ => ?_)
              refine lv_aload_n hx hb dL_boards_124 rfl (lv_at hl 2 rfl) ?_
              refine lv_iload hx hb dL_boards_125 (lv_at hl 9 rfl) ?_
              refine lv_iload hx hb dL_boards_127 (lv_at hl 7 rfl) ?_
              have jp182 : ∀ (H : Heap) (locs : List Loc) (ls : Array Slot), SW D cI cT o aT aB aS g y z ad t u hs sn k ff s0 s1 s2 H → va_S A H0 H locs → lv_has ls 12 [(6, .int (nI ((pnN x k) + (if hwB x k = 0 then 0 else 1)))), (9, .int (nI (lowN (x >>> ((nI (k % 19)) &&& 31)) 8))), (0, .ref (o 0)), (1, .int x), (2, .int (nI N9)), (3, .int (T_po u)), (4, .int (T_le u)), (5, .int od), (7, .int 1), (8, .int (nI k))] → W p9 l e9 (eR 20 1000) s9 m9 a9 b9 t9 c9 H locs 0 0 Q (F0 m9 182 ls [.int (cB x O9 k), .ref (o 0)]) := by
                intro H locs ls hW hS hl
                refine lr_append (rest := []) (v := cB x O9 k) S hK hN ht0 ht1 hA hD hW hS htl (cB_ok x O9 k) (by omega) (cwV 1 hts gL_boards_X6_append rfl rfl rfl hdv_X6_append ⟨Nat.le_of_ble_eq_true rfl, Nat.le_of_ble_eq_true rfl⟩) rfl hl.1 (Nat.le_of_ble_eq_true rfl) dL_boards_182 ⟨Nat.zero_le _, Nat.zero_le _⟩ (fun H locs hW hS => ?_)
                show W p9 l e9 (eR 20 1000) s9 m9 a9 b9 t9 c9 H locs 0 0 Q (F0 m9 185 ls [.int (nI (k + 1))])
                have hW : SW D cI cT o aT aB aS g y z ad t u hs sn (k + 1) (upd ff k (cB x O9 k)) s0 s1 s2 H := hW
                refine lv_if_le (tgt := 192) hx hb dL_boards_185 (by decide) (fun h9 => absurd h9 (ej_ge (a := 0) (b := (k + 1)) (by omega) (show 0 < (k + 1) from by omega))) (fun _ => ?_)
                refine lv_iconst (v := 1) hx hb dL_boards_188 (by decide) ?_
                refine lv_goto (tgt := 193) hx hb dL_boards_189 (by decide) ?_
                refine lv_istore (lv' := [(7, .int 1), (6, .int (nI ((pnN x k) + (if hwB x k = 0 then 0 else 1)))), (9, .int (nI (lowN (x >>> ((nI (k % 19)) &&& 31)) 8))), (0, .ref (o 0)), (1, .int x), (2, .int (nI N9)), (3, .int (T_po u)), (4, .int (T_le u)), (5, .int od), (8, .int (nI k))]) hx hb dL_boards_193 hl (by decide) rfl (fun ls hl => ?_)
                refine lv_iinc (v := nI (k + 1)) (lv' := [(8, .int (nI (k + 1))), (7, .int 1), (6, .int (nI ((pnN x k) + (if hwB x k = 0 then 0 else 1)))), (9, .int (nI (lowN (x >>> ((nI (k % 19)) &&& 31)) 8))), (0, .ref (o 0)), (1, .int x), (2, .int (nI N9)), (3, .int (T_po u)), (4, .int (T_le u)), (5, .int od)]) hx hb dL_boards_195 hl (k := 9) rfl (nI_add k 1) (by decide) rfl (fun ls hl => ?_)
                refine lv_goto (tgt := 84) hx hb dL_boards_198 (by decide) ?_
                have hl : lv_has ls 12 [(0, .ref (o 0)), (1, .int x), (2, .int (nI N9)), (3, .int (T_po u)), (4, .int (T_le u)), (5, .int od), (6, .int (nI ((pnN x k) + (if hwB x k = 0 then 0 else 1)))), (7, .int 1), (8, .int (nI (k + 1)))] := lv_sub hl [4, 5, 6, 7, 8, 9, 2, 1, 0] rfl
                have hl : lv_has ls 12 [(0, .ref (o 0)), (1, .int x), (2, .int (nI N9)), (3, .int (T_po u)), (4, .int (T_le u)), (5, .int od), (6, .int (nI (pnN x (k + 1)))), (7, .int 1), (8, .int (nI (k + 1)))] := by exact hl
                exact ih84  (k + 1) (upd ff k (cB x O9 k)) (by omega) (by omega) (padB_step hff) _ _ _ hW hS hl
              refine lv_icmp_ne (tgt := 137) hx hb dL_boards_129 (by decide) (fun c_129 => ?_) (fun c_129 => ?_)
              · have o9 : ¬ k = O9 := fun z => c_129 ((od_iff hO (by omega)).mpr z)
                refine lv_iload hx hb dL_boards_137 (lv_at hl 1 rfl) ?_
                refine lv_if_ne (tgt := 147) hx hb dL_boards_139 (by decide) (fun c_139 => ?_) (fun c_139 => ?_)
                · have n_139 : (lowN (x >>> ((nI (k % 19)) &&& 31)) 8) ≠ 0 := ej_tne (a := (lowN (x >>> ((nI (k % 19)) &&& 31)) 8)) (b := 0) (by omega) (by omega) c_139
                  refine lv_iload hx hb dL_boards_147 (lv_at hl 1 rfl) ?_
                  refine lv_iconst (v := 1) hx hb dL_boards_149 (by decide) ?_
                  refine lv_icmp_ne (tgt := 158) hx hb dL_boards_150 (by decide) (fun c_150 => ?_) (fun c_150 => ?_)
                  · have n_150 : (lowN (x >>> ((nI (k % 19)) &&& 31)) 8) ≠ 1 := ej_tne (a := (lowN (x >>> ((nI (k % 19)) &&& 31)) 8)) (b := 1) (by omega) (by omega) c_150
                    refine lv_iload hx hb dL_boards_158 (lv_at hl 1 rfl) ?_
                    refine lv_iconst (v := 2) hx hb dL_boards_160 (by decide) ?_
                    refine lv_icmp_ne (tgt := 169) hx hb dL_boards_161 (by decide) (fun c_161 => ?_) (fun c_161 => ?_)
                    · have n_161 : (lowN (x >>> ((nI (k % 19)) &&& 31)) 8) ≠ 2 := ej_tne (a := (lowN (x >>> ((nI (k % 19)) &&& 31)) 8)) (b := 2) (by omega) (by omega) c_161
                      refine lv_iload hx hb dL_boards_169 (lv_at hl 1 rfl) ?_
                      refine lv_iconst (v := 3) hx hb dL_boards_171 (by decide) ?_
                      refine lv_icmp_ne (tgt := 180) hx hb dL_boards_172 (by decide) (fun c_172 => ?_) (fun c_172 => ?_)
                      · have n_172 : (lowN (x >>> ((nI (k % 19)) &&& 31)) 8) ≠ 3 := ej_tne (a := (lowN (x >>> ((nI (k % 19)) &&& 31)) 8)) (b := 3) (by omega) (by omega) c_172
                        refine lv_bipush (v := 124) hx hb dL_boards_180 (by decide) ?_
                        refine ej_topi (show (124 : Int32) = cB x O9 k from (by unfold cB hwB; rw [if_neg o9, if_neg n_139, if_neg n_150, if_neg n_161, if_neg n_172])) ?_
                        exact jp182 _ _ _ hW hS (lv_sub hl [0, 1, 2, 3, 4, 5, 6, 7, 8, 9] rfl)
                      · have n_172 : (lowN (x >>> ((nI (k % 19)) &&& 31)) 8) = 3 := ej_teq (a := (lowN (x >>> ((nI (k % 19)) &&& 31)) 8)) (b := 3) (by omega) (by omega) c_172
                        refine lv_bipush (v := 111) hx hb dL_boards_175 (by decide) ?_
                        refine lv_goto (tgt := 182) hx hb dL_boards_177 (by decide) ?_
                        refine ej_topi (show (111 : Int32) = cB x O9 k from (by unfold cB hwB; rw [if_neg o9, if_neg n_139, if_neg n_150, if_neg n_161, if_pos n_172])) ?_
                        exact jp182 _ _ _ hW hS (lv_sub hl [0, 1, 2, 3, 4, 5, 6, 7, 8, 9] rfl)
                    · have n_161 : (lowN (x >>> ((nI (k % 19)) &&& 31)) 8) = 2 := ej_teq (a := (lowN (x >>> ((nI (k % 19)) &&& 31)) 8)) (b := 2) (by omega) (by omega) c_161
                      refine lv_bipush (v := 62) hx hb dL_boards_164 (by decide) ?_
                      refine lv_goto (tgt := 182) hx hb dL_boards_166 (by decide) ?_
                      refine ej_topi (show (62 : Int32) = cB x O9 k from (by unfold cB hwB; rw [if_neg o9, if_neg n_139, if_neg n_150, if_pos n_161])) ?_
                      exact jp182 _ _ _ hW hS (lv_sub hl [0, 1, 2, 3, 4, 5, 6, 7, 8, 9] rfl)
                  · have n_150 : (lowN (x >>> ((nI (k % 19)) &&& 31)) 8) = 1 := ej_teq (a := (lowN (x >>> ((nI (k % 19)) &&& 31)) 8)) (b := 1) (by omega) (by omega) c_150
                    refine lv_bipush (v := 60) hx hb dL_boards_153 (by decide) ?_
                    refine lv_goto (tgt := 182) hx hb dL_boards_155 (by decide) ?_
                    refine ej_topi (show (60 : Int32) = cB x O9 k from (by unfold cB hwB; rw [if_neg o9, if_neg n_139, if_pos n_150])) ?_
                    exact jp182 _ _ _ hW hS (lv_sub hl [0, 1, 2, 3, 4, 5, 6, 7, 8, 9] rfl)
                · have n_139 : (lowN (x >>> ((nI (k % 19)) &&& 31)) 8) = 0 := ej_teq (a := (lowN (x >>> ((nI (k % 19)) &&& 31)) 8)) (b := 0) (by omega) (by omega) c_139
                  refine lv_bipush (v := 46) hx hb dL_boards_142 (by decide) ?_
                  refine lv_goto (tgt := 182) hx hb dL_boards_144 (by decide) ?_
                  refine ej_topi (show (46 : Int32) = cB x O9 k from (by unfold cB hwB; rw [if_neg o9, if_pos n_139])) ?_
                  exact jp182 _ _ _ hW hS (lv_sub hl [0, 1, 2, 3, 4, 5, 6, 7, 8, 9] rfl)
              · have o9 : k = O9 := (od_iff hO (by omega)).mp c_129
                refine lv_bipush (v := 120) hx hb dL_boards_132 (by decide) ?_
                refine lv_goto (tgt := 182) hx hb dL_boards_134 (by decide) ?_
                refine ej_topi (show (120 : Int32) = cB x O9 k from (by unfold cB hwB; rw [if_pos o9])) ?_
                exact jp182 _ _ _ hW hS (lv_sub hl [0, 1, 2, 3, 4, 5, 6, 7, 8, 9] rfl)
            refine lv_if_ne (tgt := 115) hx hb dL_boards_108 (by decide) (fun c_108 => ?_) (fun c_108 => ?_)
            · have n_108 : (lowN (x >>> ((nI (k % 19)) &&& 31)) 8) ≠ 0 := ej_tne (a := (lowN (x >>> ((nI (k % 19)) &&& 31)) 8)) (b := 0) (by omega) (by omega) c_108
              refine lv_iconst (v := 1) hx hb dL_boards_115 (by decide) ?_
              refine ej_topi (show (1 : Int32) = nI (if hwB x k = 0 then 0 else 1) from (by unfold hwB; rw [if_neg n_108]; rfl)) ?_
              exact jp116 _ _ _ hW hS (lv_sub hl [0, 1, 2, 3, 4, 5, 6, 7, 8, 9] rfl)
            · have n_108 : (lowN (x >>> ((nI (k % 19)) &&& 31)) 8) = 0 := ej_teq (a := (lowN (x >>> ((nI (k % 19)) &&& 31)) 8)) (b := 0) (by omega) (by omega) c_108
              refine lv_iconst (v := 0) hx hb dL_boards_111 (by decide) ?_
              refine lv_goto (tgt := 116) hx hb dL_boards_112 (by decide) ?_
              refine ej_topi (show (0 : Int32) = nI (if hwB x k = 0 then 0 else 1) from (by unfold hwB; rw [if_pos n_108]; rfl)) ?_
              exact jp116 _ _ _ hW hS (lv_sub hl [0, 1, 2, 3, 4, 5, 6, 7, 8, 9] rfl)
      have hl : lv_has ls 12 [(0, .ref (o 0)), (1, .int x), (2, .int (nI N9)), (3, .int (T_po u)), (4, .int (T_le u)), (5, .int od), (6, .int 0), (7, .int 1), (8, .int 0)] := lv_sub hl [7, 8, 6, 5, 4, 3, 2, 1, 0] rfl
      have hl : lv_has ls 12 [(0, .ref (o 0)), (1, .int x), (2, .int (nI N9)), (3, .int (T_po u)), (4, .int (T_le u)), (5, .int od), (6, .int (nI (pnN x 0))), (7, .int 1), (8, .int (nI 0))] := by exact hl
      exact lp84 ((N9 - 0) + 1) 0 f (by omega) (by omega) (fun j hj => absurd hj (Nat.not_lt_zero j)) _ _ _ hW hS hl
    refine lv_if_ne (tgt := 61) hx hb dL_boards_49 (by decide) (fun c_49 => ?_) (fun c_49 => ?_)
    · have n_49 : (lowN (x >>> (22 &&& 31)) 9) ≠ 0 := ej_tne (a := (lowN (x >>> (22 &&& 31)) 9)) (b := 0) (by omega) (by omega) c_49
      refine lv_iconst (v := (-1)) hx hb dL_boards_61 (by decide) ?_
      refine ej_topi (show ((-1) : Int32) = od from (by rw [e_od, if_neg n_49])) ?_
      exact jp62 _ _ _ hW hS (lv_sub hl [0, 1, 2, 3, 4] rfl)
    · have n_49 : (lowN (x >>> (22 &&& 31)) 9) = 0 := ej_teq (a := (lowN (x >>> (22 &&& 31)) 9)) (b := 0) (by omega) (by omega) c_49
      refine lv_iload_n hx hb dL_boards_52 rfl (lv_at hl 4 rfl) ?_
      refine lv_bipush (v := 35) hx hb dL_boards_53 (by decide) ?_
      refine ej_L0 (rest := []) (As := [.int x, .int 35]) S hK hN hA hD hW hS (c_L_low l D tys cI ht0 x 35 (by omega) (by omega)) (va_cwS 2 hts gL_boards_L_low rfl rfl rfl hds_L_low ⟨Nat.le_of_ble_eq_true rfl, Nat.le_of_ble_eq_true rfl⟩) rfl rfl hl.1 (Nat.le_of_ble_eq_true rfl) dL_boards_55 ⟨Nat.zero_le _, Nat.zero_le _⟩ (fun H locs hW hS => ?_)
      show W p9 l e9 (eR 20 1000) s9 m9 a9 b9 t9 c9 H locs 0 0 Q (F0 m9 58 ls [.int (nI (lowN x 35))])
      have lw_55 := lowN_lt x (n := 35) (by omega)
      refine lv_goto (tgt := 62) hx hb dL_boards_58 (by decide) ?_
      refine ej_topi (show (nI (lowN x 35)) = od from (by rw [e_od, if_pos n_49])) ?_
      exact jp62 _ _ _ hW hS (lv_sub hl [0, 1, 2, 3, 4] rfl)
  refine lv_if_ne (tgt := 24) hx hb dL_boards_9 (by decide) (fun c_9 => ?_) (fun c_9 => ?_)
  · have n_9 : (lowN (x >>> (24 &&& 31)) 7) ≠ 0 := ej_tne (a := (lowN (x >>> (24 &&& 31)) 7)) (b := 0) (by omega) (by omega) c_9
    refine lv_bipush (v := 35) hx hb dL_boards_24 (by decide) ?_
    refine ej_topi (show (35 : Int32) = nI N9 from (by rw [e_N9, if_neg n_9]; rfl)) ?_
    exact jp26 _ _ _ hW hS (lv_sub hl [0, 1] rfl)
  · have n_9 : (lowN (x >>> (24 &&& 31)) 7) = 0 := ej_teq (a := (lowN (x >>> (24 &&& 31)) 7)) (b := 0) (by omega) (by omega) c_9
    refine lv_bipush (v := 32) hx hb dL_boards_12 (by decide) ?_
    refine lv_iload_n hx hb dL_boards_14 rfl (lv_at hl 1 rfl) ?_
    refine lv_bipush (v := 6) hx hb dL_boards_15 (by decide) ?_
    refine ej_L0 (rest := [.int 32]) (As := [.int x, .int 6]) S hK hN hA hD hW hS (c_L_low l D tys cI ht0 x 6 (by omega) (by omega)) (va_cwS 2 hts gL_boards_L_low rfl rfl rfl hds_L_low ⟨Nat.le_of_ble_eq_true rfl, Nat.le_of_ble_eq_true rfl⟩) rfl rfl hl.1 (Nat.le_of_ble_eq_true rfl) dL_boards_17 ⟨Nat.zero_le _, Nat.zero_le _⟩ (fun H locs hW hS => ?_)
    show W p9 l e9 (eR 20 1000) s9 m9 a9 b9 t9 c9 H locs 0 0 Q (F0 m9 20 ls [.int (nI (lowN x 6)), .int 32])
    have lw_17 := lowN_lt x (n := 6) (by omega)
    refine lv_iadd hx hb dL_boards_20 ?_
    refine ej_topi (show (32 : Int32) + (nI (lowN x 6)) = nI (32 + (lowN x 6)) from nI_add 32 (lowN x 6)) ?_
    refine lv_goto (tgt := 26) hx hb dL_boards_21 (by decide) ?_
    refine ej_topi (show (nI (32 + (lowN x 6))) = nI N9 from (by rw [e_N9, if_pos n_9])) ?_
    exact jp26 _ _ _ hW hS (lv_sub hl [0, 1] rfl)
