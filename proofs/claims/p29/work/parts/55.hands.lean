set_option maxHeartbeats 4000000 in
set_option maxRecDepth 100000 in
theorem k_hands (l : Launch) (D : va_G) (tys : eT) (cI cT : ClassId) (ht0 : tys[0]? = some (cI, .int)) (ht1 : tys[1]? = some (cT, .object RX5)) (o aT aB aS g y z : Nat → Nat) (ad : Nat → Nat → Nat) (t : Pn) (u : Tr) (hs : List (Pn × Tr)) (sn : Option (Pn × Tr)) (q : Nat) (f : Nat → Int32) (s0 s1 s2 : Int32) (w : Nat) (yv : Int32) (m : Nat) (hw3 : w < 3) (htl : tilOK t) (ho : okS m t u) : lc l D tys cI cT o aT aB aS g y z ad yL_hands wsL_hands (eR 20 1000) [.ref (o 0), .int (nI w), .int yv] t u hs sn q f s0 s1 s2 (actP m t u hs) := by
  refine lc_int cL_hands 11 (by decide +kernel) rfl (Nat.le_of_ble_eq_true rfl) ?_
  intro p9 e9 s9 m9 a9 b9 t9 c9 H0 A Q ls S hK hN hA hD hW hS hl hQ
  have S : CallFix p9 m9 c9 cL_hands 11 s9 a9 wsL_hands RL := S
  obtain ⟨hx, hb, hml, hown, hts⟩ := id S
  have hl : lv_has ls 11 [(0, .ref (o 0)), (1, .int (nI w)), (2, .int yv)] := hl
  obtain ⟨N9, e_N9⟩ : ∃ z9 : Nat, z9 = if lowN (yv >>> (13 &&& 31)) 9 = 0 then 36 else 35 := ⟨_, rfl⟩
  have hN7 : 35 ≤ N9 ∧ N9 ≤ 36 := by rw [e_N9]; split <;> decide
  obtain ⟨hv, e_hv⟩ : ∃ z9 : Int32, z9 = if lowN (yv >>> (6 &&& 31)) 2 = 0 then 1 else 0 := ⟨_, rfl⟩
  refine lv_iload_n hx hb dL_hands_0 rfl (lv_at hl 2 rfl) ?_
  refine lv_iload_n hx hb dL_hands_1 rfl (lv_at hl 2 rfl) ?_
  refine lv_bipush (v := 13) hx hb dL_hands_2 (by decide) ?_
  refine lv_ishr hx hb dL_hands_4 ?_
  refine lv_bipush (v := 9) hx hb dL_hands_5 (by decide) ?_
  refine ej_L0 (rest := [.int yv]) (As := [.int (yv >>> (13 &&& 31)), .int 9]) S hK hN hA hD hW hS (c_L_low l D tys cI ht0 (yv >>> (13 &&& 31)) 9 (by omega) (by omega)) (va_cwS 2 hts gL_hands_L_low rfl rfl rfl hds_L_low ⟨Nat.le_of_ble_eq_true rfl, Nat.le_of_ble_eq_true rfl⟩) rfl rfl hl.1 (Nat.le_of_ble_eq_true rfl) dL_hands_7 ⟨Nat.zero_le _, Nat.zero_le _⟩ (fun H locs hW hS => ?_)
  show W p9 l e9 (eR 20 1000) s9 m9 a9 b9 t9 c9 H locs 0 0 Q (F0 m9 10 ls [.int (nI (lowN (yv >>> (13 &&& 31)) 9)), .int yv])
  have lw_7 := lowN_lt (yv >>> (13 &&& 31)) (n := 9) (by omega)
  have jp20 : ∀ (H : Heap) (locs : List Loc) (ls : Array Slot), SW D cI cT o aT aB aS g y z ad t u hs sn q f s0 s1 s2 H → va_S A H0 H locs → lv_has ls 11 [(0, .ref (o 0)), (1, .int (nI w)), (2, .int yv)] → W p9 l e9 (eR 20 1000) s9 m9 a9 b9 t9 c9 H locs 0 0 Q (F0 m9 20 ls [.int (nI N9), .int yv]) := by
    intro H locs ls hW hS hl
    refine ej_L0 (rest := []) (As := [.int yv, .int (nI N9)]) S hK hN hA hD hW hS (c_L_low l D tys cI ht0 yv N9 (by omega) (by omega)) (va_cwS 2 hts gL_hands_L_low rfl rfl rfl hds_L_low ⟨Nat.le_of_ble_eq_true rfl, Nat.le_of_ble_eq_true rfl⟩) rfl rfl hl.1 (Nat.le_of_ble_eq_true rfl) dL_hands_20 ⟨Nat.zero_le _, Nat.zero_le _⟩ (fun H locs hW hS => ?_)
    show W p9 l e9 (eR 20 1000) s9 m9 a9 b9 t9 c9 H locs 0 0 Q (F0 m9 23 ls [.int (nI (lowN yv N9))])
    have lw_20 := lowN_lt yv (n := N9) (by omega)
    by_cases h35 : lowN yv N9 = 35
    · refine ej_topi (show nI (lowN yv N9) = 35 from by rw [h35]; rfl) ?_
      refine lv_istore_n (lv' := [(3, .int 35), (0, .ref (o 0)), (1, .int (nI w)), (2, .int yv)]) hx hb dL_hands_23 rfl hl (by decide) rfl (fun ls hl => ?_)
      refine lv_iload_n hx hb dL_hands_24 rfl (lv_at hl 0 rfl) ?_
      refine lv_bipush (v := 35) hx hb dL_hands_25 (by decide) ?_
      refine lv_icmp_ne (tgt := 34) hx hb dL_hands_27 (by decide) (fun h9 => absurd (show (35 : Int32) = 35 from by decide) h9) (fun _ => ?_)
      refine lv_iconst (v := 1) hx hb dL_hands_30 (by decide) ?_
      refine lv_goto (tgt := 35) hx hb dL_hands_31 (by decide) ?_
      refine lv_istore (lv' := [(4, .int 1), (3, .int 35), (0, .ref (o 0)), (1, .int (nI w)), (2, .int yv)]) hx hb dL_hands_35 hl (by decide) rfl (fun ls hl => ?_)
      refine lv_iload hx hb dL_hands_37 (lv_at hl 0 rfl) ?_
      refine lv_if_eq (tgt := 46) hx hb dL_hands_39 (by decide) (fun h9 => absurd h9 (show ¬ (1 : Int32) = 0 from by decide)) (fun _ => ?_)
      refine lv_iconst (v := 0) hx hb dL_hands_42 (by decide) ?_
      refine lv_goto (tgt := 52) hx hb dL_hands_43 (by decide) ?_
      refine lv_istore (lv' := [(5, .int 0), (4, .int 1), (3, .int 35), (0, .ref (o 0)), (1, .int (nI w)), (2, .int yv)]) hx hb dL_hands_52 hl (by decide) rfl (fun ls hl => ?_)
      refine lv_aload_n hx hb dL_hands_54 rfl (lv_at hl 3 rfl) ?_
      refine lv_bipush (v := 14) hx hb dL_hands_55 (by decide) ?_
      refine lr_count (rest := []) (w := 14) S hK hN ht0 ht1 hA hD hW hS htl  (cwV 1 hts gL_hands_X6_count rfl rfl rfl hdv_X6_count ⟨Nat.le_of_ble_eq_true rfl, Nat.le_of_ble_eq_true rfl⟩) rfl hl.1 (Nat.le_of_ble_eq_true rfl) dL_hands_57 ⟨Nat.zero_le _, Nat.zero_le _⟩ (fun H locs hW hS => ?_)
      show W p9 l e9 (eR 20 1000) s9 m9 a9 b9 t9 c9 H locs 0 0 Q (F0 m9 60 ls [.int (couA t u q hs.length 14)])
      have hW : SW D cI cT o aT aB aS g y z ad t u hs sn q f s0 s1 s2 H := hW
      refine ej_topi (show (couA t u q hs.length 14) = T_re u from lkc_14 t u q hs.length) ?_
      refine lv_istore (lv' := [(6, .int (T_re u)), (5, .int 0), (4, .int 1), (3, .int 35), (0, .ref (o 0)), (1, .int (nI w)), (2, .int yv)]) hx hb dL_hands_60 hl (by decide) rfl (fun ls hl => ?_)
      refine lv_iload_n hx hb dL_hands_62 rfl (lv_at hl 5 rfl) ?_
      refine lv_if_ne (tgt := 230) hx hb dL_hands_63 (by decide) (fun c_63 => ?_) (fun c_63 => ?_)
      · have n_63 : w ≠ 0 := ej_tne (a := w) (b := 0) (by omega) (by omega) c_63
        refine lv_iload_n hx hb dL_hands_230 rfl (lv_at hl 5 rfl) ?_
        refine lv_iconst (v := 1) hx hb dL_hands_231 (by decide) ?_
        refine lv_icmp_ne (tgt := 320) hx hb dL_hands_232 (by decide) (fun c_232 => ?_) (fun c_232 => ?_)
        · have n_232 : w ≠ 1 := ej_tne (a := w) (b := 1) (by omega) (by omega) c_232
          refine lv_iload hx hb dL_hands_320 (lv_at hl 2 rfl) ?_
          refine lv_if_eq (tgt := 329) hx hb dL_hands_322 (by decide) (fun h9 => absurd h9 (show ¬ (1 : Int32) = 0 from by decide)) (fun _ => ?_)
          refine lv_iconst (v := 0) hx hb dL_hands_325 (by decide) ?_
          refine lv_goto (tgt := 335) hx hb dL_hands_326 (by decide) ?_
          refine lv_istore (lv' := [(7, .int 0), (6, .int (T_re u)), (5, .int 0), (4, .int 1), (3, .int 35), (0, .ref (o 0)), (1, .int (nI w)), (2, .int yv)]) hx hb dL_hands_335 hl (by decide) rfl (fun ls hl => ?_)
          refine lv_aload_n hx hb dL_hands_337 rfl (lv_at hl 5 rfl) ?_
          refine lv_iload_n hx hb dL_hands_338 rfl (lv_at hl 4 rfl) ?_
          refine lr_bell_no (rest := []) (v := 35) S hK hN ht0 ht1 hA hD hW hS htl (by decide) (cwV 1 hts gL_hands_X6_bell rfl rfl rfl hdv_X6_bell ⟨Nat.le_of_ble_eq_true rfl, Nat.le_of_ble_eq_true rfl⟩) rfl hl.1 (Nat.le_of_ble_eq_true rfl) dL_hands_339 ⟨Nat.zero_le _, Nat.zero_le _⟩ (fun H locs hW hS => ?_)
          show W p9 l e9 (eR 20 1000) s9 m9 a9 b9 t9 c9 H locs 0 0 Q (F0 m9 342 ls [.int (-1)])
          have hW : SW D cI cT o aT aB aS g y z ad t u hs sn q f s0 s1 s2 H := hW
          refine lv_istore (lv' := [(8, .int (-1)), (7, .int 0), (6, .int (T_re u)), (5, .int 0), (4, .int 1), (3, .int 35), (0, .ref (o 0)), (1, .int (nI w)), (2, .int yv)]) hx hb dL_hands_342 hl (by decide) rfl (fun ls hl => ?_)
          refine lv_iload hx hb dL_hands_344 (lv_at hl 4 rfl) ?_
          refine lv_if_eq (tgt := 363) hx hb dL_hands_346 (by decide) (fun h9 => absurd h9 (show ¬ (1 : Int32) = 0 from by decide)) (fun _ => ?_)
          refine lv_iload hx hb dL_hands_349 (lv_at hl 0 rfl) ?_
          refine lv_iconst (v := (-1)) hx hb dL_hands_351 (by decide) ?_
          refine lv_icmp_ne (tgt := 359) hx hb dL_hands_352 (by decide) (fun h9 => absurd (show ((-1) : Int32) = (-1) from by decide) h9) (fun _ => ?_)
          refine lv_iconst (v := 1) hx hb dL_hands_355 (by decide) ?_
          refine lv_goto (tgt := 392) hx hb dL_hands_356 (by decide) ?_
          exact hQ _ _ _ _ _ _ _ _ _ _ _ _ _ dL_hands_392 rfl (by exact ⟨rfl, okS_up ho (by omega), Or.inl ⟨rfl, rfl, rfl⟩⟩) hW hS
        · have n_232 : w = 1 := ej_teq (a := w) (b := 1) (by omega) (by omega) c_232
          refine lv_aload_n hx hb dL_hands_235 rfl (lv_at hl 4 rfl) ?_
          refine lv_iload_n hx hb dL_hands_236 rfl (lv_at hl 3 rfl) ?_
          refine lr_pull_no (rest := []) (v := 35) S hK hN ht0 ht1 hA hD hW hS htl (by decide) (cwV 1 hts gL_hands_X6_pull rfl rfl rfl hdv_X6_pull ⟨Nat.le_of_ble_eq_true rfl, Nat.le_of_ble_eq_true rfl⟩) rfl hl.1 (Nat.le_of_ble_eq_true rfl) dL_hands_237 ⟨Nat.zero_le _, Nat.zero_le _⟩ (fun H locs hW hS => ?_)
          show W p9 l e9 (eR 20 1000) s9 m9 a9 b9 t9 c9 H locs 0 0 Q (F0 m9 240 ls [.int (-1)])
          have hW : SW D cI cT o aT aB aS g y z ad t u hs sn q f s0 s1 s2 H := hW
          refine lv_istore (lv' := [(7, .int (-1)), (6, .int (T_re u)), (5, .int 0), (4, .int 1), (3, .int 35), (0, .ref (o 0)), (1, .int (nI w)), (2, .int yv)]) hx hb dL_hands_240 hl (by decide) rfl (fun ls hl => ?_)
          refine lv_iload hx hb dL_hands_242 (lv_at hl 3 rfl) ?_
          refine lv_if_eq (tgt := 261) hx hb dL_hands_244 (by decide) (fun h9 => absurd h9 (show ¬ (1 : Int32) = 0 from by decide)) (fun _ => ?_)
          refine lv_iload hx hb dL_hands_247 (lv_at hl 0 rfl) ?_
          refine lv_iconst (v := (-1)) hx hb dL_hands_249 (by decide) ?_
          refine lv_icmp_ne (tgt := 257) hx hb dL_hands_250 (by decide) (fun h9 => absurd (show ((-1) : Int32) = (-1) from by decide) h9) (fun _ => ?_)
          refine lv_iconst (v := 1) hx hb dL_hands_253 (by decide) ?_
          refine lv_goto (tgt := 319) hx hb dL_hands_254 (by decide) ?_
          exact hQ _ _ _ _ _ _ _ _ _ _ _ _ _ dL_hands_319 rfl (by exact ⟨rfl, okS_up ho (by omega), Or.inl ⟨rfl, rfl, rfl⟩⟩) hW hS
      · have n_63 : w = 0 := ej_teq (a := w) (b := 0) (by omega) (by omega) c_63
        refine lv_iload_n hx hb dL_hands_66 rfl (lv_at hl 6 rfl) ?_
        refine lv_bipush (v := 6) hx hb dL_hands_67 (by decide) ?_
        refine lv_ishr hx hb dL_hands_69 ?_
        refine lv_iconst (v := 2) hx hb dL_hands_70 (by decide) ?_
        refine ej_L0 (rest := []) (As := [.int (yv >>> (6 &&& 31)), .int 2]) S hK hN hA hD hW hS (c_L_low l D tys cI ht0 (yv >>> (6 &&& 31)) 2 (by omega) (by omega)) (va_cwS 2 hts gL_hands_L_low rfl rfl rfl hds_L_low ⟨Nat.le_of_ble_eq_true rfl, Nat.le_of_ble_eq_true rfl⟩) rfl rfl hl.1 (Nat.le_of_ble_eq_true rfl) dL_hands_71 ⟨Nat.zero_le _, Nat.zero_le _⟩ (fun H locs hW hS => ?_)
        show W p9 l e9 (eR 20 1000) s9 m9 a9 b9 t9 c9 H locs 0 0 Q (F0 m9 74 ls [.int (nI (lowN (yv >>> (6 &&& 31)) 2))])
        have lw_71 := lowN_lt (yv >>> (6 &&& 31)) (n := 2) (by omega)
        have jp82 : ∀ (H : Heap) (locs : List Loc) (ls : Array Slot), SW D cI cT o aT aB aS g y z ad t u hs sn q f s0 s1 s2 H → va_S A H0 H locs → lv_has ls 11 [(6, .int (T_re u)), (5, .int 0), (4, .int 1), (3, .int 35), (0, .ref (o 0)), (1, .int (nI w)), (2, .int yv)] → W p9 l e9 (eR 20 1000) s9 m9 a9 b9 t9 c9 H locs 0 0 Q (F0 m9 82 ls [.int hv]) := by
          intro H locs ls hW hS hl
          refine lv_istore (lv' := [(7, .int hv), (6, .int (T_re u)), (5, .int 0), (4, .int 1), (3, .int 35), (0, .ref (o 0)), (1, .int (nI w)), (2, .int yv)]) hx hb dL_hands_82 hl (by decide) rfl (fun ls hl => ?_)
          refine lv_iload hx hb dL_hands_84 (lv_at hl 2 rfl) ?_
          refine lv_iload hx hb dL_hands_86 (lv_at hl 0 rfl) ?_
          refine lv_if_eq (tgt := 95) hx hb dL_hands_88 (by decide) (fun c_88 => ?_) (fun c_88 => ?_)
          · refine lv_iconst (v := (-1)) hx hb dL_hands_95 (by decide) ?_
            refine lv_iadd hx hb dL_hands_96 ?_
            refine ej_topi (show (0 + (-1) : Int32) = (-1) by decide) ?_
            refine lv_istore (lv' := [(8, .int (-1)), (7, .int hv), (6, .int (T_re u)), (5, .int 0), (4, .int 1), (3, .int 35), (0, .ref (o 0)), (1, .int (nI w)), (2, .int yv)]) hx hb dL_hands_97 hl (by decide) rfl (fun ls hl => ?_)
            refine lv_iload hx hb dL_hands_99 (lv_at hl 4 rfl) ?_
            refine lv_if_eq (tgt := 108) hx hb dL_hands_101 (by decide) (fun h9 => absurd h9 (show ¬ (1 : Int32) = 0 from by decide)) (fun _ => ?_)
            refine lv_iconst (v := 0) hx hb dL_hands_104 (by decide) ?_
            refine lv_goto (tgt := 136) hx hb dL_hands_105 (by decide) ?_
            refine lv_istore (lv' := [(9, .int 0), (8, .int (-1)), (7, .int hv), (6, .int (T_re u)), (5, .int 0), (4, .int 1), (3, .int 35), (0, .ref (o 0)), (1, .int (nI w)), (2, .int yv)]) hx hb dL_hands_136 hl (by decide) rfl (fun ls hl => ?_)
            refine lv_aload_n hx hb dL_hands_138 rfl (lv_at hl 7 rfl) ?_
            refine lv_iload_n hx hb dL_hands_139 rfl (lv_at hl 6 rfl) ?_
            refine lv_iload hx hb dL_hands_140 (lv_at hl 2 rfl) ?_
            refine lr_bend_no (rest := []) (v := 35) (h := hv) S hK hN ht0 ht1 hA hD hW hS htl (by decide) (cwV 2 hts gL_hands_X6_bend rfl rfl rfl hdv_X6_bend ⟨Nat.le_of_ble_eq_true rfl, Nat.le_of_ble_eq_true rfl⟩) rfl hl.1 (Nat.le_of_ble_eq_true rfl) dL_hands_142 ⟨Nat.zero_le _, Nat.zero_le _⟩ (fun H locs hW hS => ?_)
            show W p9 l e9 (eR 20 1000) s9 m9 a9 b9 t9 c9 H locs 0 0 Q (F0 m9 145 ls [.int (-1)])
            have hW : SW D cI cT o aT aB aS g y z ad t u hs sn q f s0 s1 s2 H := hW
            refine lv_istore (lv' := [(10, .int (-1)), (9, .int 0), (8, .int (-1)), (7, .int hv), (6, .int (T_re u)), (5, .int 0), (4, .int 1), (3, .int 35), (0, .ref (o 0)), (1, .int (nI w)), (2, .int yv)]) hx hb dL_hands_145 hl (by decide) rfl (fun ls hl => ?_)
            refine lv_iload hx hb dL_hands_147 (lv_at hl 0 rfl) ?_
            refine lv_iload hx hb dL_hands_149 (lv_at hl 6 rfl) ?_
            refine lv_if_eq (tgt := 158) hx hb dL_hands_151 (by decide) (fun h9 => absurd h9 (show ¬ (1 : Int32) = 0 from by decide)) (fun _ => ?_)
            refine lv_iconst (v := (-1)) hx hb dL_hands_154 (by decide) ?_
            refine lv_goto (tgt := 173) hx hb dL_hands_155 (by decide) ?_
            refine lv_icmp_ne (tgt := 228) hx hb dL_hands_173 (by decide) (fun h9 => absurd (show ((-1) : Int32) = (-1) from by decide) h9) (fun _ => ?_)
            refine lv_aload_n hx hb dL_hands_176 rfl (lv_at hl 8 rfl) ?_
            refine lv_bipush (v := 14) hx hb dL_hands_177 (by decide) ?_
            refine lr_count (rest := []) (w := 14) S hK hN ht0 ht1 hA hD hW hS htl  (cwV 1 hts gL_hands_X6_count rfl rfl rfl hdv_X6_count ⟨Nat.le_of_ble_eq_true rfl, Nat.le_of_ble_eq_true rfl⟩) rfl hl.1 (Nat.le_of_ble_eq_true rfl) dL_hands_179 ⟨Nat.zero_le _, Nat.zero_le _⟩ (fun H locs hW hS => ?_)
            show W p9 l e9 (eR 20 1000) s9 m9 a9 b9 t9 c9 H locs 0 0 Q (F0 m9 182 ls [.int (couA t u q hs.length 14)])
            have hW : SW D cI cT o aT aB aS g y z ad t u hs sn q f s0 s1 s2 H := hW
            refine ej_topi (show (couA t u q hs.length 14) = T_re u from lkc_14 t u q hs.length) ?_
            refine lv_iload hx hb dL_hands_182 (lv_at hl 4 rfl) ?_
            refine lv_iload hx hb dL_hands_184 (lv_at hl 1 rfl) ?_
            refine lv_if_le (tgt := 193) hx hb dL_hands_186 (by decide) (fun _ => ?_) (fun h9 => absurd (show (0 : Int32) ≤ 0 from by decide) h9)
            refine lv_iconst (v := 0) hx hb dL_hands_193 (by decide) ?_
            refine lv_iadd hx hb dL_hands_194 ?_
            refine ej_topi (show ((T_re u) + 0) = T_re u from Int32.add_zero _) ?_
            refine lv_icmp_ne (tgt := 228) hx hb dL_hands_195 (by decide) (fun h9 => absurd (rfl) h9) (fun _ => ?_)
            refine lv_iload hx hb dL_hands_198 (lv_at hl 6 rfl) ?_
            refine lv_if_ne (tgt := 224) hx hb dL_hands_200 (by decide) (fun _ => ?_) (fun h9 => absurd h9 (show ¬ (1 : Int32) = 0 from by decide))
            refine lv_iconst (v := 1) hx hb dL_hands_224 (by decide) ?_
            refine lv_goto (tgt := 229) hx hb dL_hands_225 (by decide) ?_
            exact hQ _ _ _ _ _ _ _ _ _ _ _ _ _ dL_hands_229 rfl (by exact ⟨rfl, okS_up ho (by omega), Or.inl ⟨rfl, rfl, rfl⟩⟩) hW hS
          · refine lv_iconst (v := 1) hx hb dL_hands_91 (by decide) ?_
            refine lv_goto (tgt := 96) hx hb dL_hands_92 (by decide) ?_
            refine lv_iadd hx hb dL_hands_96 ?_
            refine ej_topi (show (0 + 1 : Int32) = 1 by decide) ?_
            refine lv_istore (lv' := [(8, .int 1), (7, .int hv), (6, .int (T_re u)), (5, .int 0), (4, .int 1), (3, .int 35), (0, .ref (o 0)), (1, .int (nI w)), (2, .int yv)]) hx hb dL_hands_97 hl (by decide) rfl (fun ls hl => ?_)
            refine lv_iload hx hb dL_hands_99 (lv_at hl 4 rfl) ?_
            refine lv_if_eq (tgt := 108) hx hb dL_hands_101 (by decide) (fun h9 => absurd h9 (show ¬ (1 : Int32) = 0 from by decide)) (fun _ => ?_)
            refine lv_iconst (v := 0) hx hb dL_hands_104 (by decide) ?_
            refine lv_goto (tgt := 136) hx hb dL_hands_105 (by decide) ?_
            refine lv_istore (lv' := [(9, .int 0), (8, .int 1), (7, .int hv), (6, .int (T_re u)), (5, .int 0), (4, .int 1), (3, .int 35), (0, .ref (o 0)), (1, .int (nI w)), (2, .int yv)]) hx hb dL_hands_136 hl (by decide) rfl (fun ls hl => ?_)
            refine lv_aload_n hx hb dL_hands_138 rfl (lv_at hl 7 rfl) ?_
            refine lv_iload_n hx hb dL_hands_139 rfl (lv_at hl 6 rfl) ?_
            refine lv_iload hx hb dL_hands_140 (lv_at hl 2 rfl) ?_
            refine lr_bend_no (rest := []) (v := 35) (h := hv) S hK hN ht0 ht1 hA hD hW hS htl (by decide) (cwV 2 hts gL_hands_X6_bend rfl rfl rfl hdv_X6_bend ⟨Nat.le_of_ble_eq_true rfl, Nat.le_of_ble_eq_true rfl⟩) rfl hl.1 (Nat.le_of_ble_eq_true rfl) dL_hands_142 ⟨Nat.zero_le _, Nat.zero_le _⟩ (fun H locs hW hS => ?_)
            show W p9 l e9 (eR 20 1000) s9 m9 a9 b9 t9 c9 H locs 0 0 Q (F0 m9 145 ls [.int (-1)])
            have hW : SW D cI cT o aT aB aS g y z ad t u hs sn q f s0 s1 s2 H := hW
            refine lv_istore (lv' := [(10, .int (-1)), (9, .int 0), (8, .int 1), (7, .int hv), (6, .int (T_re u)), (5, .int 0), (4, .int 1), (3, .int 35), (0, .ref (o 0)), (1, .int (nI w)), (2, .int yv)]) hx hb dL_hands_145 hl (by decide) rfl (fun ls hl => ?_)
            refine lv_iload hx hb dL_hands_147 (lv_at hl 0 rfl) ?_
            refine lv_iload hx hb dL_hands_149 (lv_at hl 6 rfl) ?_
            refine lv_if_eq (tgt := 158) hx hb dL_hands_151 (by decide) (fun h9 => absurd h9 (show ¬ (1 : Int32) = 0 from by decide)) (fun _ => ?_)
            refine lv_iconst (v := (-1)) hx hb dL_hands_154 (by decide) ?_
            refine lv_goto (tgt := 173) hx hb dL_hands_155 (by decide) ?_
            refine lv_icmp_ne (tgt := 228) hx hb dL_hands_173 (by decide) (fun h9 => absurd (show ((-1) : Int32) = (-1) from by decide) h9) (fun _ => ?_)
            refine lv_aload_n hx hb dL_hands_176 rfl (lv_at hl 8 rfl) ?_
            refine lv_bipush (v := 14) hx hb dL_hands_177 (by decide) ?_
            refine lr_count (rest := []) (w := 14) S hK hN ht0 ht1 hA hD hW hS htl  (cwV 1 hts gL_hands_X6_count rfl rfl rfl hdv_X6_count ⟨Nat.le_of_ble_eq_true rfl, Nat.le_of_ble_eq_true rfl⟩) rfl hl.1 (Nat.le_of_ble_eq_true rfl) dL_hands_179 ⟨Nat.zero_le _, Nat.zero_le _⟩ (fun H locs hW hS => ?_)
            show W p9 l e9 (eR 20 1000) s9 m9 a9 b9 t9 c9 H locs 0 0 Q (F0 m9 182 ls [.int (couA t u q hs.length 14)])
            have hW : SW D cI cT o aT aB aS g y z ad t u hs sn q f s0 s1 s2 H := hW
            refine ej_topi (show (couA t u q hs.length 14) = T_re u from lkc_14 t u q hs.length) ?_
            refine lv_iload hx hb dL_hands_182 (lv_at hl 4 rfl) ?_
            refine lv_iload hx hb dL_hands_184 (lv_at hl 1 rfl) ?_
            refine lv_if_le (tgt := 193) hx hb dL_hands_186 (by decide) (fun _ => ?_) (fun h9 => absurd (show (0 : Int32) ≤ 0 from by decide) h9)
            refine lv_iconst (v := 0) hx hb dL_hands_193 (by decide) ?_
            refine lv_iadd hx hb dL_hands_194 ?_
            refine ej_topi (show ((T_re u) + 0) = T_re u from Int32.add_zero _) ?_
            refine lv_icmp_ne (tgt := 228) hx hb dL_hands_195 (by decide) (fun h9 => absurd (rfl) h9) (fun _ => ?_)
            refine lv_iload hx hb dL_hands_198 (lv_at hl 6 rfl) ?_
            refine lv_if_ne (tgt := 224) hx hb dL_hands_200 (by decide) (fun _ => ?_) (fun h9 => absurd h9 (show ¬ (1 : Int32) = 0 from by decide))
            refine lv_iconst (v := 1) hx hb dL_hands_224 (by decide) ?_
            refine lv_goto (tgt := 229) hx hb dL_hands_225 (by decide) ?_
            exact hQ _ _ _ _ _ _ _ _ _ _ _ _ _ dL_hands_229 rfl (by exact ⟨rfl, okS_up ho (by omega), Or.inl ⟨rfl, rfl, rfl⟩⟩) hW hS
        refine lv_if_ne (tgt := 81) hx hb dL_hands_74 (by decide) (fun c_74 => ?_) (fun c_74 => ?_)
        · have n_74 : (lowN (yv >>> (6 &&& 31)) 2) ≠ 0 := ej_tne (a := (lowN (yv >>> (6 &&& 31)) 2)) (b := 0) (by omega) (by omega) c_74
          refine lv_iconst (v := 0) hx hb dL_hands_81 (by decide) ?_
          refine ej_topi (show (0 : Int32) = hv from (by rw [e_hv, if_neg n_74])) ?_
          exact jp82 _ _ _ hW hS (lv_sub hl [0, 1, 2, 3, 4, 5, 6] rfl)
        · have n_74 : (lowN (yv >>> (6 &&& 31)) 2) = 0 := ej_teq (a := (lowN (yv >>> (6 &&& 31)) 2)) (b := 0) (by omega) (by omega) c_74
          refine lv_iconst (v := 1) hx hb dL_hands_77 (by decide) ?_
          refine lv_goto (tgt := 82) hx hb dL_hands_78 (by decide) ?_
          refine ej_topi (show (1 : Int32) = hv from (by rw [e_hv, if_pos n_74])) ?_
          exact jp82 _ _ _ hW hS (lv_sub hl [0, 1, 2, 3, 4, 5, 6] rfl)
    · obtain ⟨k, hk, ek⟩ : ∃ k : Nat, k < 35 ∧ lowN yv N9 = k := ⟨_, by omega, rfl⟩
      refine ej_topi (show nI (lowN yv N9) = nI k from by rw [ek]) ?_
      refine lv_istore_n (lv' := [(3, .int (nI k)), (0, .ref (o 0)), (1, .int (nI w)), (2, .int yv)]) hx hb dL_hands_23 rfl hl (by decide) rfl (fun ls hl => ?_)
      refine lv_iload_n hx hb dL_hands_24 rfl (lv_at hl 0 rfl) ?_
      refine lv_bipush (v := 35) hx hb dL_hands_25 (by decide) ?_
      refine lv_icmp_ne (tgt := 34) hx hb dL_hands_27 (by decide) (fun _ => ?_) (fun h9 => absurd h9 (ej_ne (a := k) (b := 35) (by omega) (by omega) (show k ≠ 35 from by omega)))
      refine lv_iconst (v := 0) hx hb dL_hands_34 (by decide) ?_
      refine lv_istore (lv' := [(4, .int 0), (3, .int (nI k)), (0, .ref (o 0)), (1, .int (nI w)), (2, .int yv)]) hx hb dL_hands_35 hl (by decide) rfl (fun ls hl => ?_)
      refine lv_iload hx hb dL_hands_37 (lv_at hl 0 rfl) ?_
      refine lv_if_eq (tgt := 46) hx hb dL_hands_39 (by decide) (fun _ => ?_) (fun h9 => absurd (show (0 : Int32) = 0 from by decide) h9)
      refine lv_aload_n hx hb dL_hands_46 rfl (lv_at hl 2 rfl) ?_
      refine lv_iload_n hx hb dL_hands_47 rfl (lv_at hl 1 rfl) ?_
      refine lv_iconst (v := 0) hx hb dL_hands_48 (by decide) ?_
      refine lr_pin (rest := []) (k := k) (w := 0) S hK hN ht0 ht1 hA hD hW hS htl (by omega) (cwV 2 hts gL_hands_X6_pin rfl rfl rfl hdv_X6_pin ⟨Nat.le_of_ble_eq_true rfl, Nat.le_of_ble_eq_true rfl⟩) rfl hl.1 (Nat.le_of_ble_eq_true rfl) dL_hands_49 ⟨Nat.zero_le _, Nat.zero_le _⟩ (fun H locs hW hS => ?_)
      show W p9 l e9 (eR 20 1000) s9 m9 a9 b9 t9 c9 H locs 0 0 Q (F0 m9 52 ls [.int (pinR t k 0)])
      have hW : SW D cI cT o aT aB aS g y z ad t u hs sn q f s0 s1 s2 H := hW
      refine ej_topi (show (pinR t k 0) = if P_ou t k = 0 then P_be t k + 3 else -4 from lkp_0 t k) ?_
      rcases pin_ok ho k hk with ⟨hou, hbe⟩ | ⟨hou, b, hb6, hbe⟩
      · refine ej_topi (pr_none hou) ?_
        refine lv_istore (lv' := [(5, .int (-4)), (4, .int 0), (3, .int (nI k)), (0, .ref (o 0)), (1, .int (nI w)), (2, .int yv)]) hx hb dL_hands_52 hl (by decide) rfl (fun ls hl => ?_)
        refine lv_aload_n hx hb dL_hands_54 rfl (lv_at hl 3 rfl) ?_
        refine lv_bipush (v := 14) hx hb dL_hands_55 (by decide) ?_
        refine lr_count (rest := []) (w := 14) S hK hN ht0 ht1 hA hD hW hS htl  (cwV 1 hts gL_hands_X6_count rfl rfl rfl hdv_X6_count ⟨Nat.le_of_ble_eq_true rfl, Nat.le_of_ble_eq_true rfl⟩) rfl hl.1 (Nat.le_of_ble_eq_true rfl) dL_hands_57 ⟨Nat.zero_le _, Nat.zero_le _⟩ (fun H locs hW hS => ?_)
        show W p9 l e9 (eR 20 1000) s9 m9 a9 b9 t9 c9 H locs 0 0 Q (F0 m9 60 ls [.int (couA t u q hs.length 14)])
        have hW : SW D cI cT o aT aB aS g y z ad t u hs sn q f s0 s1 s2 H := hW
        refine ej_topi (show (couA t u q hs.length 14) = T_re u from lkc_14 t u q hs.length) ?_
        refine lv_istore (lv' := [(6, .int (T_re u)), (5, .int (-4)), (4, .int 0), (3, .int (nI k)), (0, .ref (o 0)), (1, .int (nI w)), (2, .int yv)]) hx hb dL_hands_60 hl (by decide) rfl (fun ls hl => ?_)
        refine lv_iload_n hx hb dL_hands_62 rfl (lv_at hl 5 rfl) ?_
        refine lv_if_ne (tgt := 230) hx hb dL_hands_63 (by decide) (fun c_63 => ?_) (fun c_63 => ?_)
        · have n_63 : w ≠ 0 := ej_tne (a := w) (b := 0) (by omega) (by omega) c_63
          refine lv_iload_n hx hb dL_hands_230 rfl (lv_at hl 5 rfl) ?_
          refine lv_iconst (v := 1) hx hb dL_hands_231 (by decide) ?_
          refine lv_icmp_ne (tgt := 320) hx hb dL_hands_232 (by decide) (fun c_232 => ?_) (fun c_232 => ?_)
          · have n_232 : w ≠ 1 := ej_tne (a := w) (b := 1) (by omega) (by omega) c_232
            refine lv_iload hx hb dL_hands_320 (lv_at hl 2 rfl) ?_
            refine lv_if_eq (tgt := 329) hx hb dL_hands_322 (by decide) (fun _ => ?_) (fun h9 => absurd (show (0 : Int32) = 0 from by decide) h9)
            refine lv_aload_n hx hb dL_hands_329 rfl (lv_at hl 4 rfl) ?_
            refine lv_iload_n hx hb dL_hands_330 rfl (lv_at hl 3 rfl) ?_
            refine lv_iconst (v := 1) hx hb dL_hands_331 (by decide) ?_
            refine lr_pin (rest := []) (k := k) (w := 1) S hK hN ht0 ht1 hA hD hW hS htl (by omega) (cwV 2 hts gL_hands_X6_pin rfl rfl rfl hdv_X6_pin ⟨Nat.le_of_ble_eq_true rfl, Nat.le_of_ble_eq_true rfl⟩) rfl hl.1 (Nat.le_of_ble_eq_true rfl) dL_hands_332 ⟨Nat.zero_le _, Nat.zero_le _⟩ (fun H locs hW hS => ?_)
            show W p9 l e9 (eR 20 1000) s9 m9 a9 b9 t9 c9 H locs 0 0 Q (F0 m9 335 ls [.int (pinR t k 1)])
            have hW : SW D cI cT o aT aB aS g y z ad t u hs sn q f s0 s1 s2 H := hW
            refine ej_topi (show (pinR t k 1) = P_bl t k from lkp_1 t k) ?_
            refine lv_istore (lv' := [(7, .int (P_bl t k)), (6, .int (T_re u)), (5, .int (-4)), (4, .int 0), (3, .int (nI k)), (0, .ref (o 0)), (1, .int (nI w)), (2, .int yv)]) hx hb dL_hands_335 hl (by decide) rfl (fun ls hl => ?_)
            refine lv_aload_n hx hb dL_hands_337 rfl (lv_at hl 5 rfl) ?_
            refine lv_iload_n hx hb dL_hands_338 rfl (lv_at hl 4 rfl) ?_
            refine lr_bell (rest := []) (k := k) S hK hN ht0 ht1 hA hD hW hS htl (by omega) (cwV 1 hts gL_hands_X6_bell rfl rfl rfl hdv_X6_bell ⟨Nat.le_of_ble_eq_true rfl, Nat.le_of_ble_eq_true rfl⟩) rfl hl.1 (Nat.le_of_ble_eq_true rfl) dL_hands_339 ⟨Nat.zero_le _, Nat.zero_le _⟩ (fun H locs hW hS => ?_)
            show W p9 l e9 (eR 20 1000) s9 m9 a9 b9 t9 c9 H locs 0 0 Q (F0 m9 342 ls [.int (sumI (P_bl (blT t k)) 35)])
            have hW : SW D cI cT o aT aB aS g y z ad (blT t k) u (recL hs (t, u)) sn q f s0 s1 s2 H := hW
            refine lv_istore (lv' := [(8, .int (sumI (P_bl (blT t k)) 35)), (7, .int (P_bl t k)), (6, .int (T_re u)), (5, .int (-4)), (4, .int 0), (3, .int (nI k)), (0, .ref (o 0)), (1, .int (nI w)), (2, .int yv)]) hx hb dL_hands_342 hl (by decide) rfl (fun ls hl => ?_)
            refine lv_iload hx hb dL_hands_344 (lv_at hl 4 rfl) ?_
            refine lv_if_eq (tgt := 363) hx hb dL_hands_346 (by decide) (fun _ => ?_) (fun h9 => absurd (show (0 : Int32) = 0 from by decide) h9)
            refine lv_iload hx hb dL_hands_363 (lv_at hl 0 rfl) ?_
            refine lv_aload_n hx hb dL_hands_365 rfl (lv_at hl 6 rfl) ?_
            refine lv_bipush (v := 7) hx hb dL_hands_366 (by decide) ?_
            refine lr_count (rest := [.int (sumI (P_bl (blT t k)) 35)]) (w := 7) S hK hN ht0 ht1 hA hD hW hS htl  (cwV 1 hts gL_hands_X6_count rfl rfl rfl hdv_X6_count ⟨Nat.le_of_ble_eq_true rfl, Nat.le_of_ble_eq_true rfl⟩) rfl hl.1 (Nat.le_of_ble_eq_true rfl) dL_hands_368 ⟨Nat.zero_le _, Nat.zero_le _⟩ (fun H locs hW hS => ?_)
            show W p9 l e9 (eR 20 1000) s9 m9 a9 b9 t9 c9 H locs 0 0 Q (F0 m9 371 ls [.int (couA (blT t k) u q (recL hs (t, u)).length 7), .int (sumI (P_bl (blT t k)) 35)])
            have hW : SW D cI cT o aT aB aS g y z ad (blT t k) u (recL hs (t, u)) sn q f s0 s1 s2 H := hW
            refine ej_topi (show (couA (blT t k) u q (recL hs (t, u)).length 7) = sumI (P_bl (blT t k)) 35 from lkc_7 (blT t k) u q ((recL hs (t, u)).length)) ?_
            refine lv_icmp_ne (tgt := 391) hx hb dL_hands_371 (by decide) (fun h9 => absurd (rfl) h9) (fun _ => ?_)
            refine lv_aload_n hx hb dL_hands_374 rfl (lv_at hl 6 rfl) ?_
            refine lv_iload_n hx hb dL_hands_375 rfl (lv_at hl 5 rfl) ?_
            refine lv_iconst (v := 1) hx hb dL_hands_376 (by decide) ?_
            refine lr_pin (rest := []) (k := k) (w := 1) S hK hN ht0 ht1 hA hD hW hS htl (by omega) (cwV 2 hts gL_hands_X6_pin rfl rfl rfl hdv_X6_pin ⟨Nat.le_of_ble_eq_true rfl, Nat.le_of_ble_eq_true rfl⟩) rfl hl.1 (Nat.le_of_ble_eq_true rfl) dL_hands_377 ⟨Nat.zero_le _, Nat.zero_le _⟩ (fun H locs hW hS => ?_)
            show W p9 l e9 (eR 20 1000) s9 m9 a9 b9 t9 c9 H locs 0 0 Q (F0 m9 380 ls [.int (pinR (blT t k) k 1)])
            have hW : SW D cI cT o aT aB aS g y z ad (blT t k) u (recL hs (t, u)) sn q f s0 s1 s2 H := hW
            refine ej_topi (show (pinR (blT t k) k 1) = P_bl (blT t k) k from lkp_1 (blT t k) k) ?_
            refine ej_topi (show (P_bl (blT t k) k) = 1 - P_bl t k from bl_at) ?_
            refine lv_iconst (v := 1) hx hb dL_hands_380 (by decide) ?_
            refine lv_iload hx hb dL_hands_381 (lv_at hl 1 rfl) ?_
            refine lv_isub hx hb dL_hands_383 ?_
            refine lv_icmp_ne (tgt := 391) hx hb dL_hands_384 (by decide) (fun h9 => absurd (rfl) h9) (fun _ => ?_)
            refine lv_iconst (v := 1) hx hb dL_hands_387 (by decide) ?_
            refine lv_goto (tgt := 392) hx hb dL_hands_388 (by decide) ?_
            exact hQ _ _ _ _ _ _ _ _ _ _ _ _ _ dL_hands_392 rfl (by exact ⟨rfl, okS_up (okS_bl hk ho) (by omega), Or.inr rfl⟩) hW hS
          · have n_232 : w = 1 := ej_teq (a := w) (b := 1) (by omega) (by omega) c_232
            refine lv_aload_n hx hb dL_hands_235 rfl (lv_at hl 4 rfl) ?_
            refine lv_iload_n hx hb dL_hands_236 rfl (lv_at hl 3 rfl) ?_
            refine lr_pull (rest := []) (k := k) S hK hN ht0 ht1 hA hD hW hS htl (by omega) (cwV 1 hts gL_hands_X6_pull rfl rfl rfl hdv_X6_pull ⟨Nat.le_of_ble_eq_true rfl, Nat.le_of_ble_eq_true rfl⟩) rfl hl.1 (Nat.le_of_ble_eq_true rfl) dL_hands_237 ⟨Nat.zero_le _, Nat.zero_le _⟩ (fun H locs hW hS => ?_)
            show W p9 l e9 (eR 20 1000) s9 m9 a9 b9 t9 c9 H locs 0 0 Q (F0 m9 240 ls [.int (sumI (P_ou (plT t k)) 35)])
            have hW : SW D cI cT o aT aB aS g y z ad (plT t k) u (recL hs (t, u)) sn q f s0 s1 s2 H := hW
            refine lv_istore (lv' := [(7, .int (sumI (P_ou (plT t k)) 35)), (6, .int (T_re u)), (5, .int (-4)), (4, .int 0), (3, .int (nI k)), (0, .ref (o 0)), (1, .int (nI w)), (2, .int yv)]) hx hb dL_hands_240 hl (by decide) rfl (fun ls hl => ?_)
            refine lv_iload hx hb dL_hands_242 (lv_at hl 3 rfl) ?_
            refine lv_if_eq (tgt := 261) hx hb dL_hands_244 (by decide) (fun _ => ?_) (fun h9 => absurd (show (0 : Int32) = 0 from by decide) h9)
            refine lv_iload hx hb dL_hands_261 (lv_at hl 0 rfl) ?_
            refine lv_bipush (v := 35) hx hb dL_hands_263 (by decide) ?_
            refine lv_aload_n hx hb dL_hands_265 rfl (lv_at hl 5 rfl) ?_
            refine lv_iconst (v := 4) hx hb dL_hands_266 (by decide) ?_
            refine lr_count (rest := [.int 35, .int (sumI (P_ou (plT t k)) 35)]) (w := 4) S hK hN ht0 ht1 hA hD hW hS htl  (cwV 1 hts gL_hands_X6_count rfl rfl rfl hdv_X6_count ⟨Nat.le_of_ble_eq_true rfl, Nat.le_of_ble_eq_true rfl⟩) rfl hl.1 (Nat.le_of_ble_eq_true rfl) dL_hands_267 ⟨Nat.zero_le _, Nat.zero_le _⟩ (fun H locs hW hS => ?_)
            show W p9 l e9 (eR 20 1000) s9 m9 a9 b9 t9 c9 H locs 0 0 Q (F0 m9 270 ls [.int (couA (plT t k) u q (recL hs (t, u)).length 4), .int 35, .int (sumI (P_ou (plT t k)) 35)])
            have hW : SW D cI cT o aT aB aS g y z ad (plT t k) u (recL hs (t, u)) sn q f s0 s1 s2 H := hW
            refine ej_topi (show (couA (plT t k) u q (recL hs (t, u)).length 4) = 35 - sumI (P_ou (plT t k)) 35 from lkc_4 (plT t k) u q ((recL hs (t, u)).length)) ?_
            refine lv_isub hx hb dL_hands_270 ?_
            refine ej_topi (show ((35 : Int32) - (35 - sumI (P_ou (plT t k)) 35)) = sumI (P_ou (plT t k)) 35 from i32_3535 _) ?_
            refine lv_icmp_ne (tgt := 318) hx hb dL_hands_271 (by decide) (fun h9 => absurd (rfl) h9) (fun _ => ?_)
            refine lv_iload hx hb dL_hands_274 (lv_at hl 2 rfl) ?_
            refine lv_bipush (v := (-4)) hx hb dL_hands_276 (by decide) ?_
            refine lv_icmp_ne (tgt := 303) hx hb dL_hands_278 (by decide) (fun h9 => absurd (show ((-4) : Int32) = (-4) from by decide) h9) (fun _ => ?_)
            refine lv_aload_n hx hb dL_hands_281 rfl (lv_at hl 5 rfl) ?_
            refine lv_iload_n hx hb dL_hands_282 rfl (lv_at hl 4 rfl) ?_
            refine lv_iconst (v := 0) hx hb dL_hands_283 (by decide) ?_
            refine lr_pin (rest := []) (k := k) (w := 0) S hK hN ht0 ht1 hA hD hW hS htl (by omega) (cwV 2 hts gL_hands_X6_pin rfl rfl rfl hdv_X6_pin ⟨Nat.le_of_ble_eq_true rfl, Nat.le_of_ble_eq_true rfl⟩) rfl hl.1 (Nat.le_of_ble_eq_true rfl) dL_hands_284 ⟨Nat.zero_le _, Nat.zero_le _⟩ (fun H locs hW hS => ?_)
            show W p9 l e9 (eR 20 1000) s9 m9 a9 b9 t9 c9 H locs 0 0 Q (F0 m9 287 ls [.int (pinR (plT t k) k 0)])
            have hW : SW D cI cT o aT aB aS g y z ad (plT t k) u (recL hs (t, u)) sn q f s0 s1 s2 H := hW
            refine ej_topi (show (pinR (plT t k) k 0) = if P_ou (plT t k) k = 0 then P_be (plT t k) k + 3 else -4 from lkp_0 (plT t k) k) ?_
            refine ej_topi (show (if P_ou (plT t k) k = 0 then P_be (plT t k) k + 3 else -4) = 3 from (pr_pin (pl_ou0 hou).1 (pl_ou0 hou).2.1)) ?_
            refine lv_iconst (v := 3) hx hb dL_hands_287 (by decide) ?_
            refine lv_icmp_ne (tgt := 318) hx hb dL_hands_288 (by decide) (fun h9 => absurd (show (3 : Int32) = 3 from by decide) h9) (fun _ => ?_)
            refine lv_aload_n hx hb dL_hands_291 rfl (lv_at hl 5 rfl) ?_
            refine lv_iload_n hx hb dL_hands_292 rfl (lv_at hl 4 rfl) ?_
            refine lv_iconst (v := 2) hx hb dL_hands_293 (by decide) ?_
            refine lr_pin (rest := []) (k := k) (w := 2) S hK hN ht0 ht1 hA hD hW hS htl (by omega) (cwV 2 hts gL_hands_X6_pin rfl rfl rfl hdv_X6_pin ⟨Nat.le_of_ble_eq_true rfl, Nat.le_of_ble_eq_true rfl⟩) rfl hl.1 (Nat.le_of_ble_eq_true rfl) dL_hands_294 ⟨Nat.zero_le _, Nat.zero_le _⟩ (fun H locs hW hS => ?_)
            show W p9 l e9 (eR 20 1000) s9 m9 a9 b9 t9 c9 H locs 0 0 Q (F0 m9 297 ls [.int (pinR (plT t k) k 2)])
            have hW : SW D cI cT o aT aB aS g y z ad (plT t k) u (recL hs (t, u)) sn q f s0 s1 s2 H := hW
            refine ej_topi (show (pinR (plT t k) k 2) = if P_ou (plT t k) k = 0 then P_si (plT t k) k else -4 from lkp_2 (plT t k) k) ?_
            refine ej_topi (show (if P_ou (plT t k) k = 0 then P_si (plT t k) k else -4) = 0 from ((if_pos (pl_ou0 hou).1).trans (pl_ou0 hou).2.2)) ?_
            refine lv_if_ne (tgt := 318) hx hb dL_hands_297 (by decide) (fun h9 => absurd (show (0 : Int32) = 0 from by decide) h9) (fun _ => ?_)
            refine lv_goto (tgt := 314) hx hb dL_hands_300 (by decide) ?_
            refine lv_iconst (v := 1) hx hb dL_hands_314 (by decide) ?_
            refine lv_goto (tgt := 319) hx hb dL_hands_315 (by decide) ?_
            exact hQ _ _ _ _ _ _ _ _ _ _ _ _ _ dL_hands_319 rfl (by exact ⟨rfl, okS_up (okS_pl hk ho) (by omega), Or.inr rfl⟩) hW hS
        · have n_63 : w = 0 := ej_teq (a := w) (b := 0) (by omega) (by omega) c_63
          refine lv_iload_n hx hb dL_hands_66 rfl (lv_at hl 6 rfl) ?_
          refine lv_bipush (v := 6) hx hb dL_hands_67 (by decide) ?_
          refine lv_ishr hx hb dL_hands_69 ?_
          refine lv_iconst (v := 2) hx hb dL_hands_70 (by decide) ?_
          refine ej_L0 (rest := []) (As := [.int (yv >>> (6 &&& 31)), .int 2]) S hK hN hA hD hW hS (c_L_low l D tys cI ht0 (yv >>> (6 &&& 31)) 2 (by omega) (by omega)) (va_cwS 2 hts gL_hands_L_low rfl rfl rfl hds_L_low ⟨Nat.le_of_ble_eq_true rfl, Nat.le_of_ble_eq_true rfl⟩) rfl rfl hl.1 (Nat.le_of_ble_eq_true rfl) dL_hands_71 ⟨Nat.zero_le _, Nat.zero_le _⟩ (fun H locs hW hS => ?_)
          show W p9 l e9 (eR 20 1000) s9 m9 a9 b9 t9 c9 H locs 0 0 Q (F0 m9 74 ls [.int (nI (lowN (yv >>> (6 &&& 31)) 2))])
          have lw_71 := lowN_lt (yv >>> (6 &&& 31)) (n := 2) (by omega)
          have jp82 : ∀ (H : Heap) (locs : List Loc) (ls : Array Slot), SW D cI cT o aT aB aS g y z ad t u hs sn q f s0 s1 s2 H → va_S A H0 H locs → lv_has ls 11 [(6, .int (T_re u)), (5, .int (-4)), (4, .int 0), (3, .int (nI k)), (0, .ref (o 0)), (1, .int (nI w)), (2, .int yv)] → W p9 l e9 (eR 20 1000) s9 m9 a9 b9 t9 c9 H locs 0 0 Q (F0 m9 82 ls [.int hv]) := by
            intro H locs ls hW hS hl
            refine lv_istore (lv' := [(7, .int hv), (6, .int (T_re u)), (5, .int (-4)), (4, .int 0), (3, .int (nI k)), (0, .ref (o 0)), (1, .int (nI w)), (2, .int yv)]) hx hb dL_hands_82 hl (by decide) rfl (fun ls hl => ?_)
            refine lv_iload hx hb dL_hands_84 (lv_at hl 2 rfl) ?_
            refine lv_iload hx hb dL_hands_86 (lv_at hl 0 rfl) ?_
            refine lv_if_eq (tgt := 95) hx hb dL_hands_88 (by decide) (fun c_88 => ?_) (fun c_88 => ?_)
            · refine lv_iconst (v := (-1)) hx hb dL_hands_95 (by decide) ?_
              refine lv_iadd hx hb dL_hands_96 ?_
              refine ej_topi (show ((-4) + (-1) : Int32) = (-5) by decide) ?_
              refine lv_istore (lv' := [(8, .int (-5)), (7, .int hv), (6, .int (T_re u)), (5, .int (-4)), (4, .int 0), (3, .int (nI k)), (0, .ref (o 0)), (1, .int (nI w)), (2, .int yv)]) hx hb dL_hands_97 hl (by decide) rfl (fun ls hl => ?_)
              refine lv_iload hx hb dL_hands_99 (lv_at hl 4 rfl) ?_
              refine lv_if_eq (tgt := 108) hx hb dL_hands_101 (by decide) (fun _ => ?_) (fun h9 => absurd (show (0 : Int32) = 0 from by decide) h9)
              refine lv_iload hx hb dL_hands_108 (lv_at hl 3 rfl) ?_
              refine lv_bipush (v := (-4)) hx hb dL_hands_110 (by decide) ?_
              refine lv_icmp_ne (tgt := 119) hx hb dL_hands_112 (by decide) (fun h9 => absurd (show ((-4) : Int32) = (-4) from by decide) h9) (fun _ => ?_)
              refine lv_iconst (v := 2) hx hb dL_hands_115 (by decide) ?_
              refine lv_goto (tgt := 136) hx hb dL_hands_116 (by decide) ?_
              refine lv_istore (lv' := [(9, .int 2), (8, .int (-5)), (7, .int hv), (6, .int (T_re u)), (5, .int (-4)), (4, .int 0), (3, .int (nI k)), (0, .ref (o 0)), (1, .int (nI w)), (2, .int yv)]) hx hb dL_hands_136 hl (by decide) rfl (fun ls hl => ?_)
              refine lv_aload_n hx hb dL_hands_138 rfl (lv_at hl 7 rfl) ?_
              refine lv_iload_n hx hb dL_hands_139 rfl (lv_at hl 6 rfl) ?_
              refine lv_iload hx hb dL_hands_140 (lv_at hl 2 rfl) ?_
              refine lr_bend (rest := []) (k := k) (h := hv) S hK hN ht0 ht1 hA hD hW hS htl (by omega) (cwV 2 hts gL_hands_X6_bend rfl rfl rfl hdv_X6_bend ⟨Nat.le_of_ble_eq_true rfl, Nat.le_of_ble_eq_true rfl⟩) rfl hl.1 (Nat.le_of_ble_eq_true rfl) dL_hands_142 ⟨Nat.zero_le _, Nat.zero_le _⟩ (fun H locs hW hS => ?_)
              show W p9 l e9 (eR 20 1000) s9 m9 a9 b9 t9 c9 H locs 0 0 Q (F0 m9 145 ls [.int (bhR t k (if hv = 0 then -1 else 1))])
              have hW : SW D cI cT o aT aB aS g y z ad (bhP t k (if hv = 0 then -1 else 1)) (bhU t u k (if hv = 0 then -1 else 1)) (recL hs (t, u)) sn q f s0 s1 s2 H := hW
              have hbh := bh_out (u := u) (d := (if hv = 0 then -1 else 1)) hou
              refine ej_topi (show bhR t k (if hv = 0 then -1 else 1) = 2 from hbh.1) ?_
              have hob := okS_bh (d := (if hv = 0 then -1 else 1)) hk (dOK_ite hv) ho
              refine lv_istore (lv' := [(10, .int 2), (9, .int 2), (8, .int (-5)), (7, .int hv), (6, .int (T_re u)), (5, .int (-4)), (4, .int 0), (3, .int (nI k)), (0, .ref (o 0)), (1, .int (nI w)), (2, .int yv)]) hx hb dL_hands_145 hl (by decide) rfl (fun ls hl => ?_)
              refine lv_iload hx hb dL_hands_147 (lv_at hl 0 rfl) ?_
              refine lv_iload hx hb dL_hands_149 (lv_at hl 6 rfl) ?_
              refine lv_if_eq (tgt := 158) hx hb dL_hands_151 (by decide) (fun _ => ?_) (fun h9 => absurd (show (0 : Int32) = 0 from by decide) h9)
              refine lv_iload hx hb dL_hands_158 (lv_at hl 1 rfl) ?_
              refine lv_if_le (tgt := 168) hx hb dL_hands_160 (by decide) (fun h9 => absurd h9 (show ¬ (2 : Int32) ≤ 0 from by decide)) (fun _ => ?_)
              refine lv_iload hx hb dL_hands_163 (lv_at hl 1 rfl) ?_
              refine lv_goto (tgt := 173) hx hb dL_hands_165 (by decide) ?_
              refine lv_icmp_ne (tgt := 228) hx hb dL_hands_173 (by decide) (fun h9 => absurd (show (2 : Int32) = 2 from by decide) h9) (fun _ => ?_)
              refine lv_aload_n hx hb dL_hands_176 rfl (lv_at hl 8 rfl) ?_
              refine lv_bipush (v := 14) hx hb dL_hands_177 (by decide) ?_
              refine lr_count (rest := []) (w := 14) S hK hN ht0 ht1 hA hD hW hS hob.1.1  (cwV 1 hts gL_hands_X6_count rfl rfl rfl hdv_X6_count ⟨Nat.le_of_ble_eq_true rfl, Nat.le_of_ble_eq_true rfl⟩) rfl hl.1 (Nat.le_of_ble_eq_true rfl) dL_hands_179 ⟨Nat.zero_le _, Nat.zero_le _⟩ (fun H locs hW hS => ?_)
              show W p9 l e9 (eR 20 1000) s9 m9 a9 b9 t9 c9 H locs 0 0 Q (F0 m9 182 ls [.int (couA (bhP t k (if hv = 0 then -1 else 1)) (bhU t u k (if hv = 0 then -1 else 1)) q (recL hs (t, u)).length 14)])
              have hW : SW D cI cT o aT aB aS g y z ad (bhP t k (if hv = 0 then -1 else 1)) (bhU t u k (if hv = 0 then -1 else 1)) (recL hs (t, u)) sn q f s0 s1 s2 H := hW
              refine ej_topi (show (couA (bhP t k (if hv = 0 then -1 else 1)) (bhU t u k (if hv = 0 then -1 else 1)) q (recL hs (t, u)).length 14) = T_re (bhU t u k (if hv = 0 then -1 else 1)) from lkc_14 (bhP t k (if hv = 0 then -1 else 1)) (bhU t u k (if hv = 0 then -1 else 1)) q ((recL hs (t, u)).length)) ?_
              refine lv_iload hx hb dL_hands_182 (lv_at hl 4 rfl) ?_
              refine lv_iload hx hb dL_hands_184 (lv_at hl 1 rfl) ?_
              refine lv_if_le (tgt := 193) hx hb dL_hands_186 (by decide) (fun h9 => absurd h9 (show ¬ (2 : Int32) ≤ 0 from by decide)) (fun _ => ?_)
              refine lv_iconst (v := 1) hx hb dL_hands_189 (by decide) ?_
              refine lv_goto (tgt := 194) hx hb dL_hands_190 (by decide) ?_
              refine lv_iadd hx hb dL_hands_194 ?_
              refine lv_icmp_ne (tgt := 228) hx hb dL_hands_195 (by decide) (fun h9 => absurd (hbh.2.2) h9) (fun _ => ?_)
              refine lv_iload hx hb dL_hands_198 (lv_at hl 6 rfl) ?_
              refine lv_if_ne (tgt := 224) hx hb dL_hands_200 (by decide) (fun h9 => absurd (show (0 : Int32) = 0 from by decide) h9) (fun _ => ?_)
              refine lv_aload_n hx hb dL_hands_203 rfl (lv_at hl 8 rfl) ?_
              refine lv_iload_n hx hb dL_hands_204 rfl (lv_at hl 7 rfl) ?_
              refine lv_iconst (v := 0) hx hb dL_hands_205 (by decide) ?_
              refine lr_pin (rest := []) (k := k) (w := 0) S hK hN ht0 ht1 hA hD hW hS hob.1.1 (by omega) (cwV 2 hts gL_hands_X6_pin rfl rfl rfl hdv_X6_pin ⟨Nat.le_of_ble_eq_true rfl, Nat.le_of_ble_eq_true rfl⟩) rfl hl.1 (Nat.le_of_ble_eq_true rfl) dL_hands_206 ⟨Nat.zero_le _, Nat.zero_le _⟩ (fun H locs hW hS => ?_)
              show W p9 l e9 (eR 20 1000) s9 m9 a9 b9 t9 c9 H locs 0 0 Q (F0 m9 209 ls [.int (pinR (bhP t k (if hv = 0 then -1 else 1)) k 0)])
              have hW : SW D cI cT o aT aB aS g y z ad (bhP t k (if hv = 0 then -1 else 1)) (bhU t u k (if hv = 0 then -1 else 1)) (recL hs (t, u)) sn q f s0 s1 s2 H := hW
              refine ej_topi (show (pinR (bhP t k (if hv = 0 then -1 else 1)) k 0) = if P_ou (bhP t k (if hv = 0 then -1 else 1)) k = 0 then P_be (bhP t k (if hv = 0 then -1 else 1)) k + 3 else -4 from lkp_0 (bhP t k (if hv = 0 then -1 else 1)) k) ?_
              refine ej_topi (show (if P_ou (bhP t k (if hv = 0 then -1 else 1)) k = 0 then P_be (bhP t k (if hv = 0 then -1 else 1)) k + 3 else -4) = -4 from (by rw [hbh.2.1]; exact pr_none hou)) ?_
              refine lv_iload hx hb dL_hands_209 (lv_at hl 1 rfl) ?_
              refine lv_if_le (tgt := 219) hx hb dL_hands_211 (by decide) (fun h9 => absurd h9 (show ¬ (2 : Int32) ≤ 0 from by decide)) (fun _ => ?_)
              refine lv_iload hx hb dL_hands_214 (lv_at hl 5 rfl) ?_
              refine lv_goto (tgt := 221) hx hb dL_hands_216 (by decide) ?_
              refine lv_icmp_ne (tgt := 228) hx hb dL_hands_221 (by decide) (fun h9 => absurd (rfl) h9) (fun _ => ?_)
              refine lv_iconst (v := 1) hx hb dL_hands_224 (by decide) ?_
              refine lv_goto (tgt := 229) hx hb dL_hands_225 (by decide) ?_
              exact hQ _ _ _ _ _ _ _ _ _ _ _ _ _ dL_hands_229 rfl (by exact ⟨rfl, okS_up hob (by omega), Or.inr rfl⟩) hW hS
            · refine lv_iconst (v := 1) hx hb dL_hands_91 (by decide) ?_
              refine lv_goto (tgt := 96) hx hb dL_hands_92 (by decide) ?_
              refine lv_iadd hx hb dL_hands_96 ?_
              refine ej_topi (show ((-4) + 1 : Int32) = (-3) by decide) ?_
              refine lv_istore (lv' := [(8, .int (-3)), (7, .int hv), (6, .int (T_re u)), (5, .int (-4)), (4, .int 0), (3, .int (nI k)), (0, .ref (o 0)), (1, .int (nI w)), (2, .int yv)]) hx hb dL_hands_97 hl (by decide) rfl (fun ls hl => ?_)
              refine lv_iload hx hb dL_hands_99 (lv_at hl 4 rfl) ?_
              refine lv_if_eq (tgt := 108) hx hb dL_hands_101 (by decide) (fun _ => ?_) (fun h9 => absurd (show (0 : Int32) = 0 from by decide) h9)
              refine lv_iload hx hb dL_hands_108 (lv_at hl 3 rfl) ?_
              refine lv_bipush (v := (-4)) hx hb dL_hands_110 (by decide) ?_
              refine lv_icmp_ne (tgt := 119) hx hb dL_hands_112 (by decide) (fun h9 => absurd (show ((-4) : Int32) = (-4) from by decide) h9) (fun _ => ?_)
              refine lv_iconst (v := 2) hx hb dL_hands_115 (by decide) ?_
              refine lv_goto (tgt := 136) hx hb dL_hands_116 (by decide) ?_
              refine lv_istore (lv' := [(9, .int 2), (8, .int (-3)), (7, .int hv), (6, .int (T_re u)), (5, .int (-4)), (4, .int 0), (3, .int (nI k)), (0, .ref (o 0)), (1, .int (nI w)), (2, .int yv)]) hx hb dL_hands_136 hl (by decide) rfl (fun ls hl => ?_)
              refine lv_aload_n hx hb dL_hands_138 rfl (lv_at hl 7 rfl) ?_
              refine lv_iload_n hx hb dL_hands_139 rfl (lv_at hl 6 rfl) ?_
              refine lv_iload hx hb dL_hands_140 (lv_at hl 2 rfl) ?_
              refine lr_bend (rest := []) (k := k) (h := hv) S hK hN ht0 ht1 hA hD hW hS htl (by omega) (cwV 2 hts gL_hands_X6_bend rfl rfl rfl hdv_X6_bend ⟨Nat.le_of_ble_eq_true rfl, Nat.le_of_ble_eq_true rfl⟩) rfl hl.1 (Nat.le_of_ble_eq_true rfl) dL_hands_142 ⟨Nat.zero_le _, Nat.zero_le _⟩ (fun H locs hW hS => ?_)
              show W p9 l e9 (eR 20 1000) s9 m9 a9 b9 t9 c9 H locs 0 0 Q (F0 m9 145 ls [.int (bhR t k (if hv = 0 then -1 else 1))])
              have hW : SW D cI cT o aT aB aS g y z ad (bhP t k (if hv = 0 then -1 else 1)) (bhU t u k (if hv = 0 then -1 else 1)) (recL hs (t, u)) sn q f s0 s1 s2 H := hW
              have hbh := bh_out (u := u) (d := (if hv = 0 then -1 else 1)) hou
              refine ej_topi (show bhR t k (if hv = 0 then -1 else 1) = 2 from hbh.1) ?_
              have hob := okS_bh (d := (if hv = 0 then -1 else 1)) hk (dOK_ite hv) ho
              refine lv_istore (lv' := [(10, .int 2), (9, .int 2), (8, .int (-3)), (7, .int hv), (6, .int (T_re u)), (5, .int (-4)), (4, .int 0), (3, .int (nI k)), (0, .ref (o 0)), (1, .int (nI w)), (2, .int yv)]) hx hb dL_hands_145 hl (by decide) rfl (fun ls hl => ?_)
              refine lv_iload hx hb dL_hands_147 (lv_at hl 0 rfl) ?_
              refine lv_iload hx hb dL_hands_149 (lv_at hl 6 rfl) ?_
              refine lv_if_eq (tgt := 158) hx hb dL_hands_151 (by decide) (fun _ => ?_) (fun h9 => absurd (show (0 : Int32) = 0 from by decide) h9)
              refine lv_iload hx hb dL_hands_158 (lv_at hl 1 rfl) ?_
              refine lv_if_le (tgt := 168) hx hb dL_hands_160 (by decide) (fun h9 => absurd h9 (show ¬ (2 : Int32) ≤ 0 from by decide)) (fun _ => ?_)
              refine lv_iload hx hb dL_hands_163 (lv_at hl 1 rfl) ?_
              refine lv_goto (tgt := 173) hx hb dL_hands_165 (by decide) ?_
              refine lv_icmp_ne (tgt := 228) hx hb dL_hands_173 (by decide) (fun h9 => absurd (show (2 : Int32) = 2 from by decide) h9) (fun _ => ?_)
              refine lv_aload_n hx hb dL_hands_176 rfl (lv_at hl 8 rfl) ?_
              refine lv_bipush (v := 14) hx hb dL_hands_177 (by decide) ?_
              refine lr_count (rest := []) (w := 14) S hK hN ht0 ht1 hA hD hW hS hob.1.1  (cwV 1 hts gL_hands_X6_count rfl rfl rfl hdv_X6_count ⟨Nat.le_of_ble_eq_true rfl, Nat.le_of_ble_eq_true rfl⟩) rfl hl.1 (Nat.le_of_ble_eq_true rfl) dL_hands_179 ⟨Nat.zero_le _, Nat.zero_le _⟩ (fun H locs hW hS => ?_)
              show W p9 l e9 (eR 20 1000) s9 m9 a9 b9 t9 c9 H locs 0 0 Q (F0 m9 182 ls [.int (couA (bhP t k (if hv = 0 then -1 else 1)) (bhU t u k (if hv = 0 then -1 else 1)) q (recL hs (t, u)).length 14)])
              have hW : SW D cI cT o aT aB aS g y z ad (bhP t k (if hv = 0 then -1 else 1)) (bhU t u k (if hv = 0 then -1 else 1)) (recL hs (t, u)) sn q f s0 s1 s2 H := hW
              refine ej_topi (show (couA (bhP t k (if hv = 0 then -1 else 1)) (bhU t u k (if hv = 0 then -1 else 1)) q (recL hs (t, u)).length 14) = T_re (bhU t u k (if hv = 0 then -1 else 1)) from lkc_14 (bhP t k (if hv = 0 then -1 else 1)) (bhU t u k (if hv = 0 then -1 else 1)) q ((recL hs (t, u)).length)) ?_
              refine lv_iload hx hb dL_hands_182 (lv_at hl 4 rfl) ?_
              refine lv_iload hx hb dL_hands_184 (lv_at hl 1 rfl) ?_
              refine lv_if_le (tgt := 193) hx hb dL_hands_186 (by decide) (fun h9 => absurd h9 (show ¬ (2 : Int32) ≤ 0 from by decide)) (fun _ => ?_)
              refine lv_iconst (v := 1) hx hb dL_hands_189 (by decide) ?_
              refine lv_goto (tgt := 194) hx hb dL_hands_190 (by decide) ?_
              refine lv_iadd hx hb dL_hands_194 ?_
              refine lv_icmp_ne (tgt := 228) hx hb dL_hands_195 (by decide) (fun h9 => absurd (hbh.2.2) h9) (fun _ => ?_)
              refine lv_iload hx hb dL_hands_198 (lv_at hl 6 rfl) ?_
              refine lv_if_ne (tgt := 224) hx hb dL_hands_200 (by decide) (fun h9 => absurd (show (0 : Int32) = 0 from by decide) h9) (fun _ => ?_)
              refine lv_aload_n hx hb dL_hands_203 rfl (lv_at hl 8 rfl) ?_
              refine lv_iload_n hx hb dL_hands_204 rfl (lv_at hl 7 rfl) ?_
              refine lv_iconst (v := 0) hx hb dL_hands_205 (by decide) ?_
              refine lr_pin (rest := []) (k := k) (w := 0) S hK hN ht0 ht1 hA hD hW hS hob.1.1 (by omega) (cwV 2 hts gL_hands_X6_pin rfl rfl rfl hdv_X6_pin ⟨Nat.le_of_ble_eq_true rfl, Nat.le_of_ble_eq_true rfl⟩) rfl hl.1 (Nat.le_of_ble_eq_true rfl) dL_hands_206 ⟨Nat.zero_le _, Nat.zero_le _⟩ (fun H locs hW hS => ?_)
              show W p9 l e9 (eR 20 1000) s9 m9 a9 b9 t9 c9 H locs 0 0 Q (F0 m9 209 ls [.int (pinR (bhP t k (if hv = 0 then -1 else 1)) k 0)])
              have hW : SW D cI cT o aT aB aS g y z ad (bhP t k (if hv = 0 then -1 else 1)) (bhU t u k (if hv = 0 then -1 else 1)) (recL hs (t, u)) sn q f s0 s1 s2 H := hW
              refine ej_topi (show (pinR (bhP t k (if hv = 0 then -1 else 1)) k 0) = if P_ou (bhP t k (if hv = 0 then -1 else 1)) k = 0 then P_be (bhP t k (if hv = 0 then -1 else 1)) k + 3 else -4 from lkp_0 (bhP t k (if hv = 0 then -1 else 1)) k) ?_
              refine ej_topi (show (if P_ou (bhP t k (if hv = 0 then -1 else 1)) k = 0 then P_be (bhP t k (if hv = 0 then -1 else 1)) k + 3 else -4) = -4 from (by rw [hbh.2.1]; exact pr_none hou)) ?_
              refine lv_iload hx hb dL_hands_209 (lv_at hl 1 rfl) ?_
              refine lv_if_le (tgt := 219) hx hb dL_hands_211 (by decide) (fun h9 => absurd h9 (show ¬ (2 : Int32) ≤ 0 from by decide)) (fun _ => ?_)
              refine lv_iload hx hb dL_hands_214 (lv_at hl 5 rfl) ?_
              refine lv_goto (tgt := 221) hx hb dL_hands_216 (by decide) ?_
              refine lv_icmp_ne (tgt := 228) hx hb dL_hands_221 (by decide) (fun h9 => absurd (rfl) h9) (fun _ => ?_)
              refine lv_iconst (v := 1) hx hb dL_hands_224 (by decide) ?_
              refine lv_goto (tgt := 229) hx hb dL_hands_225 (by decide) ?_
              exact hQ _ _ _ _ _ _ _ _ _ _ _ _ _ dL_hands_229 rfl (by exact ⟨rfl, okS_up hob (by omega), Or.inr rfl⟩) hW hS
          refine lv_if_ne (tgt := 81) hx hb dL_hands_74 (by decide) (fun c_74 => ?_) (fun c_74 => ?_)
          · have n_74 : (lowN (yv >>> (6 &&& 31)) 2) ≠ 0 := ej_tne (a := (lowN (yv >>> (6 &&& 31)) 2)) (b := 0) (by omega) (by omega) c_74
            refine lv_iconst (v := 0) hx hb dL_hands_81 (by decide) ?_
            refine ej_topi (show (0 : Int32) = hv from (by rw [e_hv, if_neg n_74])) ?_
            exact jp82 _ _ _ hW hS (lv_sub hl [0, 1, 2, 3, 4, 5, 6] rfl)
          · have n_74 : (lowN (yv >>> (6 &&& 31)) 2) = 0 := ej_teq (a := (lowN (yv >>> (6 &&& 31)) 2)) (b := 0) (by omega) (by omega) c_74
            refine lv_iconst (v := 1) hx hb dL_hands_77 (by decide) ?_
            refine lv_goto (tgt := 82) hx hb dL_hands_78 (by decide) ?_
            refine ej_topi (show (1 : Int32) = hv from (by rw [e_hv, if_pos n_74])) ?_
            exact jp82 _ _ _ hW hS (lv_sub hl [0, 1, 2, 3, 4, 5, 6] rfl)
      · refine ej_topi (pr_pin hou hbe) ?_
        refine lv_istore (lv' := [(5, .int (nI b)), (4, .int 0), (3, .int (nI k)), (0, .ref (o 0)), (1, .int (nI w)), (2, .int yv)]) hx hb dL_hands_52 hl (by decide) rfl (fun ls hl => ?_)
        refine lv_aload_n hx hb dL_hands_54 rfl (lv_at hl 3 rfl) ?_
        refine lv_bipush (v := 14) hx hb dL_hands_55 (by decide) ?_
        refine lr_count (rest := []) (w := 14) S hK hN ht0 ht1 hA hD hW hS htl  (cwV 1 hts gL_hands_X6_count rfl rfl rfl hdv_X6_count ⟨Nat.le_of_ble_eq_true rfl, Nat.le_of_ble_eq_true rfl⟩) rfl hl.1 (Nat.le_of_ble_eq_true rfl) dL_hands_57 ⟨Nat.zero_le _, Nat.zero_le _⟩ (fun H locs hW hS => ?_)
        show W p9 l e9 (eR 20 1000) s9 m9 a9 b9 t9 c9 H locs 0 0 Q (F0 m9 60 ls [.int (couA t u q hs.length 14)])
        have hW : SW D cI cT o aT aB aS g y z ad t u hs sn q f s0 s1 s2 H := hW
        refine ej_topi (show (couA t u q hs.length 14) = T_re u from lkc_14 t u q hs.length) ?_
        refine lv_istore (lv' := [(6, .int (T_re u)), (5, .int (nI b)), (4, .int 0), (3, .int (nI k)), (0, .ref (o 0)), (1, .int (nI w)), (2, .int yv)]) hx hb dL_hands_60 hl (by decide) rfl (fun ls hl => ?_)
        refine lv_iload_n hx hb dL_hands_62 rfl (lv_at hl 5 rfl) ?_
        refine lv_if_ne (tgt := 230) hx hb dL_hands_63 (by decide) (fun c_63 => ?_) (fun c_63 => ?_)
        · have n_63 : w ≠ 0 := ej_tne (a := w) (b := 0) (by omega) (by omega) c_63
          refine lv_iload_n hx hb dL_hands_230 rfl (lv_at hl 5 rfl) ?_
          refine lv_iconst (v := 1) hx hb dL_hands_231 (by decide) ?_
          refine lv_icmp_ne (tgt := 320) hx hb dL_hands_232 (by decide) (fun c_232 => ?_) (fun c_232 => ?_)
          · have n_232 : w ≠ 1 := ej_tne (a := w) (b := 1) (by omega) (by omega) c_232
            refine lv_iload hx hb dL_hands_320 (lv_at hl 2 rfl) ?_
            refine lv_if_eq (tgt := 329) hx hb dL_hands_322 (by decide) (fun _ => ?_) (fun h9 => absurd (show (0 : Int32) = 0 from by decide) h9)
            refine lv_aload_n hx hb dL_hands_329 rfl (lv_at hl 4 rfl) ?_
            refine lv_iload_n hx hb dL_hands_330 rfl (lv_at hl 3 rfl) ?_
            refine lv_iconst (v := 1) hx hb dL_hands_331 (by decide) ?_
            refine lr_pin (rest := []) (k := k) (w := 1) S hK hN ht0 ht1 hA hD hW hS htl (by omega) (cwV 2 hts gL_hands_X6_pin rfl rfl rfl hdv_X6_pin ⟨Nat.le_of_ble_eq_true rfl, Nat.le_of_ble_eq_true rfl⟩) rfl hl.1 (Nat.le_of_ble_eq_true rfl) dL_hands_332 ⟨Nat.zero_le _, Nat.zero_le _⟩ (fun H locs hW hS => ?_)
            show W p9 l e9 (eR 20 1000) s9 m9 a9 b9 t9 c9 H locs 0 0 Q (F0 m9 335 ls [.int (pinR t k 1)])
            have hW : SW D cI cT o aT aB aS g y z ad t u hs sn q f s0 s1 s2 H := hW
            refine ej_topi (show (pinR t k 1) = P_bl t k from lkp_1 t k) ?_
            refine lv_istore (lv' := [(7, .int (P_bl t k)), (6, .int (T_re u)), (5, .int (nI b)), (4, .int 0), (3, .int (nI k)), (0, .ref (o 0)), (1, .int (nI w)), (2, .int yv)]) hx hb dL_hands_335 hl (by decide) rfl (fun ls hl => ?_)
            refine lv_aload_n hx hb dL_hands_337 rfl (lv_at hl 5 rfl) ?_
            refine lv_iload_n hx hb dL_hands_338 rfl (lv_at hl 4 rfl) ?_
            refine lr_bell (rest := []) (k := k) S hK hN ht0 ht1 hA hD hW hS htl (by omega) (cwV 1 hts gL_hands_X6_bell rfl rfl rfl hdv_X6_bell ⟨Nat.le_of_ble_eq_true rfl, Nat.le_of_ble_eq_true rfl⟩) rfl hl.1 (Nat.le_of_ble_eq_true rfl) dL_hands_339 ⟨Nat.zero_le _, Nat.zero_le _⟩ (fun H locs hW hS => ?_)
            show W p9 l e9 (eR 20 1000) s9 m9 a9 b9 t9 c9 H locs 0 0 Q (F0 m9 342 ls [.int (sumI (P_bl (blT t k)) 35)])
            have hW : SW D cI cT o aT aB aS g y z ad (blT t k) u (recL hs (t, u)) sn q f s0 s1 s2 H := hW
            refine lv_istore (lv' := [(8, .int (sumI (P_bl (blT t k)) 35)), (7, .int (P_bl t k)), (6, .int (T_re u)), (5, .int (nI b)), (4, .int 0), (3, .int (nI k)), (0, .ref (o 0)), (1, .int (nI w)), (2, .int yv)]) hx hb dL_hands_342 hl (by decide) rfl (fun ls hl => ?_)
            refine lv_iload hx hb dL_hands_344 (lv_at hl 4 rfl) ?_
            refine lv_if_eq (tgt := 363) hx hb dL_hands_346 (by decide) (fun _ => ?_) (fun h9 => absurd (show (0 : Int32) = 0 from by decide) h9)
            refine lv_iload hx hb dL_hands_363 (lv_at hl 0 rfl) ?_
            refine lv_aload_n hx hb dL_hands_365 rfl (lv_at hl 6 rfl) ?_
            refine lv_bipush (v := 7) hx hb dL_hands_366 (by decide) ?_
            refine lr_count (rest := [.int (sumI (P_bl (blT t k)) 35)]) (w := 7) S hK hN ht0 ht1 hA hD hW hS htl  (cwV 1 hts gL_hands_X6_count rfl rfl rfl hdv_X6_count ⟨Nat.le_of_ble_eq_true rfl, Nat.le_of_ble_eq_true rfl⟩) rfl hl.1 (Nat.le_of_ble_eq_true rfl) dL_hands_368 ⟨Nat.zero_le _, Nat.zero_le _⟩ (fun H locs hW hS => ?_)
            show W p9 l e9 (eR 20 1000) s9 m9 a9 b9 t9 c9 H locs 0 0 Q (F0 m9 371 ls [.int (couA (blT t k) u q (recL hs (t, u)).length 7), .int (sumI (P_bl (blT t k)) 35)])
            have hW : SW D cI cT o aT aB aS g y z ad (blT t k) u (recL hs (t, u)) sn q f s0 s1 s2 H := hW
            refine ej_topi (show (couA (blT t k) u q (recL hs (t, u)).length 7) = sumI (P_bl (blT t k)) 35 from lkc_7 (blT t k) u q ((recL hs (t, u)).length)) ?_
            refine lv_icmp_ne (tgt := 391) hx hb dL_hands_371 (by decide) (fun h9 => absurd (rfl) h9) (fun _ => ?_)
            refine lv_aload_n hx hb dL_hands_374 rfl (lv_at hl 6 rfl) ?_
            refine lv_iload_n hx hb dL_hands_375 rfl (lv_at hl 5 rfl) ?_
            refine lv_iconst (v := 1) hx hb dL_hands_376 (by decide) ?_
            refine lr_pin (rest := []) (k := k) (w := 1) S hK hN ht0 ht1 hA hD hW hS htl (by omega) (cwV 2 hts gL_hands_X6_pin rfl rfl rfl hdv_X6_pin ⟨Nat.le_of_ble_eq_true rfl, Nat.le_of_ble_eq_true rfl⟩) rfl hl.1 (Nat.le_of_ble_eq_true rfl) dL_hands_377 ⟨Nat.zero_le _, Nat.zero_le _⟩ (fun H locs hW hS => ?_)
            show W p9 l e9 (eR 20 1000) s9 m9 a9 b9 t9 c9 H locs 0 0 Q (F0 m9 380 ls [.int (pinR (blT t k) k 1)])
            have hW : SW D cI cT o aT aB aS g y z ad (blT t k) u (recL hs (t, u)) sn q f s0 s1 s2 H := hW
            refine ej_topi (show (pinR (blT t k) k 1) = P_bl (blT t k) k from lkp_1 (blT t k) k) ?_
            refine ej_topi (show (P_bl (blT t k) k) = 1 - P_bl t k from bl_at) ?_
            refine lv_iconst (v := 1) hx hb dL_hands_380 (by decide) ?_
            refine lv_iload hx hb dL_hands_381 (lv_at hl 1 rfl) ?_
            refine lv_isub hx hb dL_hands_383 ?_
            refine lv_icmp_ne (tgt := 391) hx hb dL_hands_384 (by decide) (fun h9 => absurd (rfl) h9) (fun _ => ?_)
            refine lv_iconst (v := 1) hx hb dL_hands_387 (by decide) ?_
            refine lv_goto (tgt := 392) hx hb dL_hands_388 (by decide) ?_
            exact hQ _ _ _ _ _ _ _ _ _ _ _ _ _ dL_hands_392 rfl (by exact ⟨rfl, okS_up (okS_bl hk ho) (by omega), Or.inr rfl⟩) hW hS
          · have n_232 : w = 1 := ej_teq (a := w) (b := 1) (by omega) (by omega) c_232
            refine lv_aload_n hx hb dL_hands_235 rfl (lv_at hl 4 rfl) ?_
            refine lv_iload_n hx hb dL_hands_236 rfl (lv_at hl 3 rfl) ?_
            refine lr_pull (rest := []) (k := k) S hK hN ht0 ht1 hA hD hW hS htl (by omega) (cwV 1 hts gL_hands_X6_pull rfl rfl rfl hdv_X6_pull ⟨Nat.le_of_ble_eq_true rfl, Nat.le_of_ble_eq_true rfl⟩) rfl hl.1 (Nat.le_of_ble_eq_true rfl) dL_hands_237 ⟨Nat.zero_le _, Nat.zero_le _⟩ (fun H locs hW hS => ?_)
            show W p9 l e9 (eR 20 1000) s9 m9 a9 b9 t9 c9 H locs 0 0 Q (F0 m9 240 ls [.int (sumI (P_ou (plT t k)) 35)])
            have hW : SW D cI cT o aT aB aS g y z ad (plT t k) u (recL hs (t, u)) sn q f s0 s1 s2 H := hW
            refine lv_istore (lv' := [(7, .int (sumI (P_ou (plT t k)) 35)), (6, .int (T_re u)), (5, .int (nI b)), (4, .int 0), (3, .int (nI k)), (0, .ref (o 0)), (1, .int (nI w)), (2, .int yv)]) hx hb dL_hands_240 hl (by decide) rfl (fun ls hl => ?_)
            refine lv_iload hx hb dL_hands_242 (lv_at hl 3 rfl) ?_
            refine lv_if_eq (tgt := 261) hx hb dL_hands_244 (by decide) (fun _ => ?_) (fun h9 => absurd (show (0 : Int32) = 0 from by decide) h9)
            refine lv_iload hx hb dL_hands_261 (lv_at hl 0 rfl) ?_
            refine lv_bipush (v := 35) hx hb dL_hands_263 (by decide) ?_
            refine lv_aload_n hx hb dL_hands_265 rfl (lv_at hl 5 rfl) ?_
            refine lv_iconst (v := 4) hx hb dL_hands_266 (by decide) ?_
            refine lr_count (rest := [.int 35, .int (sumI (P_ou (plT t k)) 35)]) (w := 4) S hK hN ht0 ht1 hA hD hW hS htl  (cwV 1 hts gL_hands_X6_count rfl rfl rfl hdv_X6_count ⟨Nat.le_of_ble_eq_true rfl, Nat.le_of_ble_eq_true rfl⟩) rfl hl.1 (Nat.le_of_ble_eq_true rfl) dL_hands_267 ⟨Nat.zero_le _, Nat.zero_le _⟩ (fun H locs hW hS => ?_)
            show W p9 l e9 (eR 20 1000) s9 m9 a9 b9 t9 c9 H locs 0 0 Q (F0 m9 270 ls [.int (couA (plT t k) u q (recL hs (t, u)).length 4), .int 35, .int (sumI (P_ou (plT t k)) 35)])
            have hW : SW D cI cT o aT aB aS g y z ad (plT t k) u (recL hs (t, u)) sn q f s0 s1 s2 H := hW
            refine ej_topi (show (couA (plT t k) u q (recL hs (t, u)).length 4) = 35 - sumI (P_ou (plT t k)) 35 from lkc_4 (plT t k) u q ((recL hs (t, u)).length)) ?_
            refine lv_isub hx hb dL_hands_270 ?_
            refine ej_topi (show ((35 : Int32) - (35 - sumI (P_ou (plT t k)) 35)) = sumI (P_ou (plT t k)) 35 from i32_3535 _) ?_
            refine lv_icmp_ne (tgt := 318) hx hb dL_hands_271 (by decide) (fun h9 => absurd (rfl) h9) (fun _ => ?_)
            refine lv_iload hx hb dL_hands_274 (lv_at hl 2 rfl) ?_
            refine lv_bipush (v := (-4)) hx hb dL_hands_276 (by decide) ?_
            refine lv_icmp_ne (tgt := 303) hx hb dL_hands_278 (by decide) (fun _ => ?_) (fun h9 => absurd h9 (nI_ne4 (by omega)))
            refine lv_aload_n hx hb dL_hands_303 rfl (lv_at hl 5 rfl) ?_
            refine lv_iload_n hx hb dL_hands_304 rfl (lv_at hl 4 rfl) ?_
            refine lv_iconst (v := 0) hx hb dL_hands_305 (by decide) ?_
            refine lr_pin (rest := []) (k := k) (w := 0) S hK hN ht0 ht1 hA hD hW hS htl (by omega) (cwV 2 hts gL_hands_X6_pin rfl rfl rfl hdv_X6_pin ⟨Nat.le_of_ble_eq_true rfl, Nat.le_of_ble_eq_true rfl⟩) rfl hl.1 (Nat.le_of_ble_eq_true rfl) dL_hands_306 ⟨Nat.zero_le _, Nat.zero_le _⟩ (fun H locs hW hS => ?_)
            show W p9 l e9 (eR 20 1000) s9 m9 a9 b9 t9 c9 H locs 0 0 Q (F0 m9 309 ls [.int (pinR (plT t k) k 0)])
            have hW : SW D cI cT o aT aB aS g y z ad (plT t k) u (recL hs (t, u)) sn q f s0 s1 s2 H := hW
            refine ej_topi (show (pinR (plT t k) k 0) = if P_ou (plT t k) k = 0 then P_be (plT t k) k + 3 else -4 from lkp_0 (plT t k) k) ?_
            refine ej_topi (show (if P_ou (plT t k) k = 0 then P_be (plT t k) k + 3 else -4) = (-4) from (pr_none (pl_ou1 hou))) ?_
            refine lv_bipush (v := (-4)) hx hb dL_hands_309 (by decide) ?_
            refine lv_icmp_ne (tgt := 318) hx hb dL_hands_311 (by decide) (fun h9 => absurd (show ((-4) : Int32) = (-4) from by decide) h9) (fun _ => ?_)
            refine lv_iconst (v := 1) hx hb dL_hands_314 (by decide) ?_
            refine lv_goto (tgt := 319) hx hb dL_hands_315 (by decide) ?_
            exact hQ _ _ _ _ _ _ _ _ _ _ _ _ _ dL_hands_319 rfl (by exact ⟨rfl, okS_up (okS_pl hk ho) (by omega), Or.inr rfl⟩) hW hS
        · have n_63 : w = 0 := ej_teq (a := w) (b := 0) (by omega) (by omega) c_63
          refine lv_iload_n hx hb dL_hands_66 rfl (lv_at hl 6 rfl) ?_
          refine lv_bipush (v := 6) hx hb dL_hands_67 (by decide) ?_
          refine lv_ishr hx hb dL_hands_69 ?_
          refine lv_iconst (v := 2) hx hb dL_hands_70 (by decide) ?_
          refine ej_L0 (rest := []) (As := [.int (yv >>> (6 &&& 31)), .int 2]) S hK hN hA hD hW hS (c_L_low l D tys cI ht0 (yv >>> (6 &&& 31)) 2 (by omega) (by omega)) (va_cwS 2 hts gL_hands_L_low rfl rfl rfl hds_L_low ⟨Nat.le_of_ble_eq_true rfl, Nat.le_of_ble_eq_true rfl⟩) rfl rfl hl.1 (Nat.le_of_ble_eq_true rfl) dL_hands_71 ⟨Nat.zero_le _, Nat.zero_le _⟩ (fun H locs hW hS => ?_)
          show W p9 l e9 (eR 20 1000) s9 m9 a9 b9 t9 c9 H locs 0 0 Q (F0 m9 74 ls [.int (nI (lowN (yv >>> (6 &&& 31)) 2))])
          have lw_71 := lowN_lt (yv >>> (6 &&& 31)) (n := 2) (by omega)
          have jp82 : ∀ (H : Heap) (locs : List Loc) (ls : Array Slot), SW D cI cT o aT aB aS g y z ad t u hs sn q f s0 s1 s2 H → va_S A H0 H locs → lv_has ls 11 [(6, .int (T_re u)), (5, .int (nI b)), (4, .int 0), (3, .int (nI k)), (0, .ref (o 0)), (1, .int (nI w)), (2, .int yv)] → W p9 l e9 (eR 20 1000) s9 m9 a9 b9 t9 c9 H locs 0 0 Q (F0 m9 82 ls [.int hv]) := by
            intro H locs ls hW hS hl
            refine lv_istore (lv' := [(7, .int hv), (6, .int (T_re u)), (5, .int (nI b)), (4, .int 0), (3, .int (nI k)), (0, .ref (o 0)), (1, .int (nI w)), (2, .int yv)]) hx hb dL_hands_82 hl (by decide) rfl (fun ls hl => ?_)
            refine lv_iload hx hb dL_hands_84 (lv_at hl 2 rfl) ?_
            refine lv_iload hx hb dL_hands_86 (lv_at hl 0 rfl) ?_
            refine lv_if_eq (tgt := 95) hx hb dL_hands_88 (by decide) (fun c_88 => ?_) (fun c_88 => ?_)
            · refine lv_iconst (v := (-1)) hx hb dL_hands_95 (by decide) ?_
              refine lv_iadd hx hb dL_hands_96 ?_
              by_cases hb0 : b = 0
              · refine ej_topi (show nI b + (-1) = -1 from by rw [hb0]; decide) ?_
                have hbh := bh_no (u := u) hou (show ¬ (¬ P_be t k + (if hv = 0 then -1 else 1) < -3 ∧ ¬ 3 < P_be t k + (if hv = 0 then -1 else 1)) from by rw [if_pos c_88]; exact be_left0 hbe hb0)
                refine lv_istore (lv' := [(8, .int (-1)), (7, .int hv), (6, .int (T_re u)), (5, .int (nI b)), (4, .int 0), (3, .int (nI k)), (0, .ref (o 0)), (1, .int (nI w)), (2, .int yv)]) hx hb dL_hands_97 hl (by decide) rfl (fun ls hl => ?_)
                refine lv_iload hx hb dL_hands_99 (lv_at hl 4 rfl) ?_
                refine lv_if_eq (tgt := 108) hx hb dL_hands_101 (by decide) (fun _ => ?_) (fun h9 => absurd (show (0 : Int32) = 0 from by decide) h9)
                refine lv_iload hx hb dL_hands_108 (lv_at hl 3 rfl) ?_
                refine lv_bipush (v := (-4)) hx hb dL_hands_110 (by decide) ?_
                refine lv_icmp_ne (tgt := 119) hx hb dL_hands_112 (by decide) (fun _ => ?_) (fun h9 => absurd h9 (nI_ne4 (by omega)))
                refine lv_iload hx hb dL_hands_119 (lv_at hl 0 rfl) ?_
                refine lv_if_lt (tgt := 131) hx hb dL_hands_121 (by decide) (fun _ => ?_) (fun h9 => absurd (show ((-1) : Int32) < 0 from by decide) h9)
                refine lv_iconst (v := 3) hx hb dL_hands_131 (by decide) ?_
                refine lv_goto (tgt := 136) hx hb dL_hands_132 (by decide) ?_
                refine lv_istore (lv' := [(9, .int 3), (8, .int (-1)), (7, .int hv), (6, .int (T_re u)), (5, .int (nI b)), (4, .int 0), (3, .int (nI k)), (0, .ref (o 0)), (1, .int (nI w)), (2, .int yv)]) hx hb dL_hands_136 hl (by decide) rfl (fun ls hl => ?_)
                refine lv_aload_n hx hb dL_hands_138 rfl (lv_at hl 7 rfl) ?_
                refine lv_iload_n hx hb dL_hands_139 rfl (lv_at hl 6 rfl) ?_
                refine lv_iload hx hb dL_hands_140 (lv_at hl 2 rfl) ?_
                refine lr_bend (rest := []) (k := k) (h := hv) S hK hN ht0 ht1 hA hD hW hS htl (by omega) (cwV 2 hts gL_hands_X6_bend rfl rfl rfl hdv_X6_bend ⟨Nat.le_of_ble_eq_true rfl, Nat.le_of_ble_eq_true rfl⟩) rfl hl.1 (Nat.le_of_ble_eq_true rfl) dL_hands_142 ⟨Nat.zero_le _, Nat.zero_le _⟩ (fun H locs hW hS => ?_)
                show W p9 l e9 (eR 20 1000) s9 m9 a9 b9 t9 c9 H locs 0 0 Q (F0 m9 145 ls [.int (bhR t k (if hv = 0 then -1 else 1))])
                have hW : SW D cI cT o aT aB aS g y z ad (bhP t k (if hv = 0 then -1 else 1)) (bhU t u k (if hv = 0 then -1 else 1)) (recL hs (t, u)) sn q f s0 s1 s2 H := hW
                refine ej_topi (show bhR t k (if hv = 0 then -1 else 1) = 3 from hbh.1) ?_
                have hob := okS_bh (d := (if hv = 0 then -1 else 1)) hk (dOK_ite hv) ho
                refine lv_istore (lv' := [(10, .int 3), (9, .int 3), (8, .int (-1)), (7, .int hv), (6, .int (T_re u)), (5, .int (nI b)), (4, .int 0), (3, .int (nI k)), (0, .ref (o 0)), (1, .int (nI w)), (2, .int yv)]) hx hb dL_hands_145 hl (by decide) rfl (fun ls hl => ?_)
                refine lv_iload hx hb dL_hands_147 (lv_at hl 0 rfl) ?_
                refine lv_iload hx hb dL_hands_149 (lv_at hl 6 rfl) ?_
                refine lv_if_eq (tgt := 158) hx hb dL_hands_151 (by decide) (fun _ => ?_) (fun h9 => absurd (show (0 : Int32) = 0 from by decide) h9)
                refine lv_iload hx hb dL_hands_158 (lv_at hl 1 rfl) ?_
                refine lv_if_le (tgt := 168) hx hb dL_hands_160 (by decide) (fun h9 => absurd h9 (show ¬ (3 : Int32) ≤ 0 from by decide)) (fun _ => ?_)
                refine lv_iload hx hb dL_hands_163 (lv_at hl 1 rfl) ?_
                refine lv_goto (tgt := 173) hx hb dL_hands_165 (by decide) ?_
                refine lv_icmp_ne (tgt := 228) hx hb dL_hands_173 (by decide) (fun h9 => absurd (show (3 : Int32) = 3 from by decide) h9) (fun _ => ?_)
                refine lv_aload_n hx hb dL_hands_176 rfl (lv_at hl 8 rfl) ?_
                refine lv_bipush (v := 14) hx hb dL_hands_177 (by decide) ?_
                refine lr_count (rest := []) (w := 14) S hK hN ht0 ht1 hA hD hW hS hob.1.1  (cwV 1 hts gL_hands_X6_count rfl rfl rfl hdv_X6_count ⟨Nat.le_of_ble_eq_true rfl, Nat.le_of_ble_eq_true rfl⟩) rfl hl.1 (Nat.le_of_ble_eq_true rfl) dL_hands_179 ⟨Nat.zero_le _, Nat.zero_le _⟩ (fun H locs hW hS => ?_)
                show W p9 l e9 (eR 20 1000) s9 m9 a9 b9 t9 c9 H locs 0 0 Q (F0 m9 182 ls [.int (couA (bhP t k (if hv = 0 then -1 else 1)) (bhU t u k (if hv = 0 then -1 else 1)) q (recL hs (t, u)).length 14)])
                have hW : SW D cI cT o aT aB aS g y z ad (bhP t k (if hv = 0 then -1 else 1)) (bhU t u k (if hv = 0 then -1 else 1)) (recL hs (t, u)) sn q f s0 s1 s2 H := hW
                refine ej_topi (show (couA (bhP t k (if hv = 0 then -1 else 1)) (bhU t u k (if hv = 0 then -1 else 1)) q (recL hs (t, u)).length 14) = T_re (bhU t u k (if hv = 0 then -1 else 1)) from lkc_14 (bhP t k (if hv = 0 then -1 else 1)) (bhU t u k (if hv = 0 then -1 else 1)) q ((recL hs (t, u)).length)) ?_
                refine lv_iload hx hb dL_hands_182 (lv_at hl 4 rfl) ?_
                refine lv_iload hx hb dL_hands_184 (lv_at hl 1 rfl) ?_
                refine lv_if_le (tgt := 193) hx hb dL_hands_186 (by decide) (fun h9 => absurd h9 (show ¬ (3 : Int32) ≤ 0 from by decide)) (fun _ => ?_)
                refine lv_iconst (v := 1) hx hb dL_hands_189 (by decide) ?_
                refine lv_goto (tgt := 194) hx hb dL_hands_190 (by decide) ?_
                refine lv_iadd hx hb dL_hands_194 ?_
                refine lv_icmp_ne (tgt := 228) hx hb dL_hands_195 (by decide) (fun h9 => absurd (hbh.2.2) h9) (fun _ => ?_)
                refine lv_iload hx hb dL_hands_198 (lv_at hl 6 rfl) ?_
                refine lv_if_ne (tgt := 224) hx hb dL_hands_200 (by decide) (fun h9 => absurd (show (0 : Int32) = 0 from by decide) h9) (fun _ => ?_)
                refine lv_aload_n hx hb dL_hands_203 rfl (lv_at hl 8 rfl) ?_
                refine lv_iload_n hx hb dL_hands_204 rfl (lv_at hl 7 rfl) ?_
                refine lv_iconst (v := 0) hx hb dL_hands_205 (by decide) ?_
                refine lr_pin (rest := []) (k := k) (w := 0) S hK hN ht0 ht1 hA hD hW hS hob.1.1 (by omega) (cwV 2 hts gL_hands_X6_pin rfl rfl rfl hdv_X6_pin ⟨Nat.le_of_ble_eq_true rfl, Nat.le_of_ble_eq_true rfl⟩) rfl hl.1 (Nat.le_of_ble_eq_true rfl) dL_hands_206 ⟨Nat.zero_le _, Nat.zero_le _⟩ (fun H locs hW hS => ?_)
                show W p9 l e9 (eR 20 1000) s9 m9 a9 b9 t9 c9 H locs 0 0 Q (F0 m9 209 ls [.int (pinR (bhP t k (if hv = 0 then -1 else 1)) k 0)])
                have hW : SW D cI cT o aT aB aS g y z ad (bhP t k (if hv = 0 then -1 else 1)) (bhU t u k (if hv = 0 then -1 else 1)) (recL hs (t, u)) sn q f s0 s1 s2 H := hW
                refine ej_topi (show (pinR (bhP t k (if hv = 0 then -1 else 1)) k 0) = if P_ou (bhP t k (if hv = 0 then -1 else 1)) k = 0 then P_be (bhP t k (if hv = 0 then -1 else 1)) k + 3 else -4 from lkp_0 (bhP t k (if hv = 0 then -1 else 1)) k) ?_
                refine ej_topi (show (if P_ou (bhP t k (if hv = 0 then -1 else 1)) k = 0 then P_be (bhP t k (if hv = 0 then -1 else 1)) k + 3 else -4) = nI b from (by rw [hbh.2.1]; exact pr_pin hou hbe)) ?_
                refine lv_iload hx hb dL_hands_209 (lv_at hl 1 rfl) ?_
                refine lv_if_le (tgt := 219) hx hb dL_hands_211 (by decide) (fun h9 => absurd h9 (show ¬ (3 : Int32) ≤ 0 from by decide)) (fun _ => ?_)
                refine lv_iload hx hb dL_hands_214 (lv_at hl 5 rfl) ?_
                refine lv_goto (tgt := 221) hx hb dL_hands_216 (by decide) ?_
                refine lv_icmp_ne (tgt := 228) hx hb dL_hands_221 (by decide) (fun h9 => absurd (rfl) h9) (fun _ => ?_)
                refine lv_iconst (v := 1) hx hb dL_hands_224 (by decide) ?_
                refine lv_goto (tgt := 229) hx hb dL_hands_225 (by decide) ?_
                exact hQ _ _ _ _ _ _ _ _ _ _ _ _ _ dL_hands_229 rfl (by exact ⟨rfl, okS_up hob (by omega), Or.inr rfl⟩) hW hS
              · refine ej_topi (show nI b + (-1) = nI (b - 1) from by obtain ⟨c9, rfl⟩ : ∃ c9 : Nat, b = c9 + 1 := ⟨b - 1, by omega⟩; exact pk_m1 c9) ?_
                have hbh := bh_go (u := u) (c := b - 1) hou (by omega) (show P_be t k + (if hv = 0 then -1 else 1) + 3 = nI (b - 1) from by rw [if_pos c_88]; exact be_left hbe (by omega))
                refine lv_istore (lv' := [(8, .int (nI (b - 1))), (7, .int hv), (6, .int (T_re u)), (5, .int (nI b)), (4, .int 0), (3, .int (nI k)), (0, .ref (o 0)), (1, .int (nI w)), (2, .int yv)]) hx hb dL_hands_97 hl (by decide) rfl (fun ls hl => ?_)
                refine lv_iload hx hb dL_hands_99 (lv_at hl 4 rfl) ?_
                refine lv_if_eq (tgt := 108) hx hb dL_hands_101 (by decide) (fun _ => ?_) (fun h9 => absurd (show (0 : Int32) = 0 from by decide) h9)
                refine lv_iload hx hb dL_hands_108 (lv_at hl 3 rfl) ?_
                refine lv_bipush (v := (-4)) hx hb dL_hands_110 (by decide) ?_
                refine lv_icmp_ne (tgt := 119) hx hb dL_hands_112 (by decide) (fun _ => ?_) (fun h9 => absurd h9 (nI_ne4 (by omega)))
                refine lv_iload hx hb dL_hands_119 (lv_at hl 0 rfl) ?_
                refine lv_if_lt (tgt := 131) hx hb dL_hands_121 (by decide) (fun h9 => absurd h9 (ej_nlt (a := (b - 1)) (b := 0) (by omega) (show 0 ≤ (b - 1) from by omega))) (fun _ => ?_)
                refine lv_iload hx hb dL_hands_124 (lv_at hl 0 rfl) ?_
                refine lv_bipush (v := 6) hx hb dL_hands_126 (by decide) ?_
                refine lv_icmp_le (tgt := 135) hx hb dL_hands_128 (by decide) (fun _ => ?_) (fun h9 => absurd (ej_le (a := (b - 1)) (b := 6) (by omega) (show (b - 1) ≤ 6 from by omega)) h9)
                refine lv_iconst (v := 0) hx hb dL_hands_135 (by decide) ?_
                refine lv_istore (lv' := [(9, .int 0), (8, .int (nI (b - 1))), (7, .int hv), (6, .int (T_re u)), (5, .int (nI b)), (4, .int 0), (3, .int (nI k)), (0, .ref (o 0)), (1, .int (nI w)), (2, .int yv)]) hx hb dL_hands_136 hl (by decide) rfl (fun ls hl => ?_)
                refine lv_aload_n hx hb dL_hands_138 rfl (lv_at hl 7 rfl) ?_
                refine lv_iload_n hx hb dL_hands_139 rfl (lv_at hl 6 rfl) ?_
                refine lv_iload hx hb dL_hands_140 (lv_at hl 2 rfl) ?_
                refine lr_bend (rest := []) (k := k) (h := hv) S hK hN ht0 ht1 hA hD hW hS htl (by omega) (cwV 2 hts gL_hands_X6_bend rfl rfl rfl hdv_X6_bend ⟨Nat.le_of_ble_eq_true rfl, Nat.le_of_ble_eq_true rfl⟩) rfl hl.1 (Nat.le_of_ble_eq_true rfl) dL_hands_142 ⟨Nat.zero_le _, Nat.zero_le _⟩ (fun H locs hW hS => ?_)
                show W p9 l e9 (eR 20 1000) s9 m9 a9 b9 t9 c9 H locs 0 0 Q (F0 m9 145 ls [.int (bhR t k (if hv = 0 then -1 else 1))])
                have hW : SW D cI cT o aT aB aS g y z ad (bhP t k (if hv = 0 then -1 else 1)) (bhU t u k (if hv = 0 then -1 else 1)) (recL hs (t, u)) sn q f s0 s1 s2 H := hW
                refine ej_topi (show bhR t k (if hv = 0 then -1 else 1) = nI (10 + (b - 1)) from hbh.1) ?_
                have hob := okS_bh (d := (if hv = 0 then -1 else 1)) hk (dOK_ite hv) ho
                refine lv_istore (lv' := [(10, .int (nI (10 + (b - 1)))), (9, .int 0), (8, .int (nI (b - 1))), (7, .int hv), (6, .int (T_re u)), (5, .int (nI b)), (4, .int 0), (3, .int (nI k)), (0, .ref (o 0)), (1, .int (nI w)), (2, .int yv)]) hx hb dL_hands_145 hl (by decide) rfl (fun ls hl => ?_)
                refine lv_iload hx hb dL_hands_147 (lv_at hl 0 rfl) ?_
                refine lv_iload hx hb dL_hands_149 (lv_at hl 6 rfl) ?_
                refine lv_if_eq (tgt := 158) hx hb dL_hands_151 (by decide) (fun _ => ?_) (fun h9 => absurd (show (0 : Int32) = 0 from by decide) h9)
                refine lv_iload hx hb dL_hands_158 (lv_at hl 1 rfl) ?_
                refine lv_if_le (tgt := 168) hx hb dL_hands_160 (by decide) (fun _ => ?_) (fun h9 => absurd (show (0 : Int32) ≤ 0 from by decide) h9)
                refine lv_bipush (v := 10) hx hb dL_hands_168 (by decide) ?_
                refine lv_iload hx hb dL_hands_170 (lv_at hl 2 rfl) ?_
                refine lv_iadd hx hb dL_hands_172 ?_
                refine ej_topi (show (10 : Int32) + (nI (b - 1)) = nI (10 + (b - 1)) from nI_add 10 (b - 1)) ?_
                refine lv_icmp_ne (tgt := 228) hx hb dL_hands_173 (by decide) (fun h9 => absurd (congrArg nI (show (10 + (b - 1)) = (10 + (b - 1)) from by omega)) h9) (fun _ => ?_)
                refine lv_aload_n hx hb dL_hands_176 rfl (lv_at hl 8 rfl) ?_
                refine lv_bipush (v := 14) hx hb dL_hands_177 (by decide) ?_
                refine lr_count (rest := []) (w := 14) S hK hN ht0 ht1 hA hD hW hS hob.1.1  (cwV 1 hts gL_hands_X6_count rfl rfl rfl hdv_X6_count ⟨Nat.le_of_ble_eq_true rfl, Nat.le_of_ble_eq_true rfl⟩) rfl hl.1 (Nat.le_of_ble_eq_true rfl) dL_hands_179 ⟨Nat.zero_le _, Nat.zero_le _⟩ (fun H locs hW hS => ?_)
                show W p9 l e9 (eR 20 1000) s9 m9 a9 b9 t9 c9 H locs 0 0 Q (F0 m9 182 ls [.int (couA (bhP t k (if hv = 0 then -1 else 1)) (bhU t u k (if hv = 0 then -1 else 1)) q (recL hs (t, u)).length 14)])
                have hW : SW D cI cT o aT aB aS g y z ad (bhP t k (if hv = 0 then -1 else 1)) (bhU t u k (if hv = 0 then -1 else 1)) (recL hs (t, u)) sn q f s0 s1 s2 H := hW
                refine ej_topi (show (couA (bhP t k (if hv = 0 then -1 else 1)) (bhU t u k (if hv = 0 then -1 else 1)) q (recL hs (t, u)).length 14) = T_re (bhU t u k (if hv = 0 then -1 else 1)) from lkc_14 (bhP t k (if hv = 0 then -1 else 1)) (bhU t u k (if hv = 0 then -1 else 1)) q ((recL hs (t, u)).length)) ?_
                refine lv_iload hx hb dL_hands_182 (lv_at hl 4 rfl) ?_
                refine lv_iload hx hb dL_hands_184 (lv_at hl 1 rfl) ?_
                refine lv_if_le (tgt := 193) hx hb dL_hands_186 (by decide) (fun _ => ?_) (fun h9 => absurd (show (0 : Int32) ≤ 0 from by decide) h9)
                refine lv_iconst (v := 0) hx hb dL_hands_193 (by decide) ?_
                refine lv_iadd hx hb dL_hands_194 ?_
                refine ej_topi (show ((T_re u) + 0) = T_re u from Int32.add_zero _) ?_
                refine lv_icmp_ne (tgt := 228) hx hb dL_hands_195 (by decide) (fun h9 => absurd (hbh.2.2) h9) (fun _ => ?_)
                refine lv_iload hx hb dL_hands_198 (lv_at hl 6 rfl) ?_
                refine lv_if_ne (tgt := 224) hx hb dL_hands_200 (by decide) (fun h9 => absurd (show (0 : Int32) = 0 from by decide) h9) (fun _ => ?_)
                refine lv_aload_n hx hb dL_hands_203 rfl (lv_at hl 8 rfl) ?_
                refine lv_iload_n hx hb dL_hands_204 rfl (lv_at hl 7 rfl) ?_
                refine lv_iconst (v := 0) hx hb dL_hands_205 (by decide) ?_
                refine lr_pin (rest := []) (k := k) (w := 0) S hK hN ht0 ht1 hA hD hW hS hob.1.1 (by omega) (cwV 2 hts gL_hands_X6_pin rfl rfl rfl hdv_X6_pin ⟨Nat.le_of_ble_eq_true rfl, Nat.le_of_ble_eq_true rfl⟩) rfl hl.1 (Nat.le_of_ble_eq_true rfl) dL_hands_206 ⟨Nat.zero_le _, Nat.zero_le _⟩ (fun H locs hW hS => ?_)
                show W p9 l e9 (eR 20 1000) s9 m9 a9 b9 t9 c9 H locs 0 0 Q (F0 m9 209 ls [.int (pinR (bhP t k (if hv = 0 then -1 else 1)) k 0)])
                have hW : SW D cI cT o aT aB aS g y z ad (bhP t k (if hv = 0 then -1 else 1)) (bhU t u k (if hv = 0 then -1 else 1)) (recL hs (t, u)) sn q f s0 s1 s2 H := hW
                refine ej_topi (show (pinR (bhP t k (if hv = 0 then -1 else 1)) k 0) = if P_ou (bhP t k (if hv = 0 then -1 else 1)) k = 0 then P_be (bhP t k (if hv = 0 then -1 else 1)) k + 3 else -4 from lkp_0 (bhP t k (if hv = 0 then -1 else 1)) k) ?_
                refine ej_topi (show (if P_ou (bhP t k (if hv = 0 then -1 else 1)) k = 0 then P_be (bhP t k (if hv = 0 then -1 else 1)) k + 3 else -4) = nI (b - 1) from (pr_pin hbh.2.1.1 hbh.2.1.2)) ?_
                refine lv_iload hx hb dL_hands_209 (lv_at hl 1 rfl) ?_
                refine lv_if_le (tgt := 219) hx hb dL_hands_211 (by decide) (fun _ => ?_) (fun h9 => absurd (show (0 : Int32) ≤ 0 from by decide) h9)
                refine lv_iload hx hb dL_hands_219 (lv_at hl 2 rfl) ?_
                refine lv_icmp_ne (tgt := 228) hx hb dL_hands_221 (by decide) (fun h9 => absurd (rfl) h9) (fun _ => ?_)
                refine lv_iconst (v := 1) hx hb dL_hands_224 (by decide) ?_
                refine lv_goto (tgt := 229) hx hb dL_hands_225 (by decide) ?_
                exact hQ _ _ _ _ _ _ _ _ _ _ _ _ _ dL_hands_229 rfl (by exact ⟨rfl, okS_up hob (by omega), Or.inr rfl⟩) hW hS
            · refine lv_iconst (v := 1) hx hb dL_hands_91 (by decide) ?_
              refine lv_goto (tgt := 96) hx hb dL_hands_92 (by decide) ?_
              refine lv_iadd hx hb dL_hands_96 ?_
              refine ej_topi (show (nI b) + 1 = nI (b + 1) from nI_add b 1) ?_
              by_cases hb0 : b = 6
              · have hbh := bh_no (u := u) hou (show ¬ (¬ P_be t k + (if hv = 0 then -1 else 1) < -3 ∧ ¬ 3 < P_be t k + (if hv = 0 then -1 else 1)) from by rw [if_neg c_88]; exact be_right6 hbe hb0)
                refine lv_istore (lv' := [(8, .int (nI (b + 1))), (7, .int hv), (6, .int (T_re u)), (5, .int (nI b)), (4, .int 0), (3, .int (nI k)), (0, .ref (o 0)), (1, .int (nI w)), (2, .int yv)]) hx hb dL_hands_97 hl (by decide) rfl (fun ls hl => ?_)
                refine lv_iload hx hb dL_hands_99 (lv_at hl 4 rfl) ?_
                refine lv_if_eq (tgt := 108) hx hb dL_hands_101 (by decide) (fun _ => ?_) (fun h9 => absurd (show (0 : Int32) = 0 from by decide) h9)
                refine lv_iload hx hb dL_hands_108 (lv_at hl 3 rfl) ?_
                refine lv_bipush (v := (-4)) hx hb dL_hands_110 (by decide) ?_
                refine lv_icmp_ne (tgt := 119) hx hb dL_hands_112 (by decide) (fun _ => ?_) (fun h9 => absurd h9 (nI_ne4 (by omega)))
                refine lv_iload hx hb dL_hands_119 (lv_at hl 0 rfl) ?_
                refine lv_if_lt (tgt := 131) hx hb dL_hands_121 (by decide) (fun h9 => absurd h9 (ej_nlt (a := (b + 1)) (b := 0) (by omega) (show 0 ≤ (b + 1) from by omega))) (fun _ => ?_)
                refine lv_iload hx hb dL_hands_124 (lv_at hl 0 rfl) ?_
                refine lv_bipush (v := 6) hx hb dL_hands_126 (by decide) ?_
                refine lv_icmp_le (tgt := 135) hx hb dL_hands_128 (by decide) (fun h9 => absurd h9 (ej_ge (a := 6) (b := (b + 1)) (by omega) (show 6 < (b + 1) from by omega))) (fun _ => ?_)
                refine lv_iconst (v := 3) hx hb dL_hands_131 (by decide) ?_
                refine lv_goto (tgt := 136) hx hb dL_hands_132 (by decide) ?_
                refine lv_istore (lv' := [(9, .int 3), (8, .int (nI (b + 1))), (7, .int hv), (6, .int (T_re u)), (5, .int (nI b)), (4, .int 0), (3, .int (nI k)), (0, .ref (o 0)), (1, .int (nI w)), (2, .int yv)]) hx hb dL_hands_136 hl (by decide) rfl (fun ls hl => ?_)
                refine lv_aload_n hx hb dL_hands_138 rfl (lv_at hl 7 rfl) ?_
                refine lv_iload_n hx hb dL_hands_139 rfl (lv_at hl 6 rfl) ?_
                refine lv_iload hx hb dL_hands_140 (lv_at hl 2 rfl) ?_
                refine lr_bend (rest := []) (k := k) (h := hv) S hK hN ht0 ht1 hA hD hW hS htl (by omega) (cwV 2 hts gL_hands_X6_bend rfl rfl rfl hdv_X6_bend ⟨Nat.le_of_ble_eq_true rfl, Nat.le_of_ble_eq_true rfl⟩) rfl hl.1 (Nat.le_of_ble_eq_true rfl) dL_hands_142 ⟨Nat.zero_le _, Nat.zero_le _⟩ (fun H locs hW hS => ?_)
                show W p9 l e9 (eR 20 1000) s9 m9 a9 b9 t9 c9 H locs 0 0 Q (F0 m9 145 ls [.int (bhR t k (if hv = 0 then -1 else 1))])
                have hW : SW D cI cT o aT aB aS g y z ad (bhP t k (if hv = 0 then -1 else 1)) (bhU t u k (if hv = 0 then -1 else 1)) (recL hs (t, u)) sn q f s0 s1 s2 H := hW
                refine ej_topi (show bhR t k (if hv = 0 then -1 else 1) = 3 from hbh.1) ?_
                have hob := okS_bh (d := (if hv = 0 then -1 else 1)) hk (dOK_ite hv) ho
                refine lv_istore (lv' := [(10, .int 3), (9, .int 3), (8, .int (nI (b + 1))), (7, .int hv), (6, .int (T_re u)), (5, .int (nI b)), (4, .int 0), (3, .int (nI k)), (0, .ref (o 0)), (1, .int (nI w)), (2, .int yv)]) hx hb dL_hands_145 hl (by decide) rfl (fun ls hl => ?_)
                refine lv_iload hx hb dL_hands_147 (lv_at hl 0 rfl) ?_
                refine lv_iload hx hb dL_hands_149 (lv_at hl 6 rfl) ?_
                refine lv_if_eq (tgt := 158) hx hb dL_hands_151 (by decide) (fun _ => ?_) (fun h9 => absurd (show (0 : Int32) = 0 from by decide) h9)
                refine lv_iload hx hb dL_hands_158 (lv_at hl 1 rfl) ?_
                refine lv_if_le (tgt := 168) hx hb dL_hands_160 (by decide) (fun h9 => absurd h9 (show ¬ (3 : Int32) ≤ 0 from by decide)) (fun _ => ?_)
                refine lv_iload hx hb dL_hands_163 (lv_at hl 1 rfl) ?_
                refine lv_goto (tgt := 173) hx hb dL_hands_165 (by decide) ?_
                refine lv_icmp_ne (tgt := 228) hx hb dL_hands_173 (by decide) (fun h9 => absurd (show (3 : Int32) = 3 from by decide) h9) (fun _ => ?_)
                refine lv_aload_n hx hb dL_hands_176 rfl (lv_at hl 8 rfl) ?_
                refine lv_bipush (v := 14) hx hb dL_hands_177 (by decide) ?_
                refine lr_count (rest := []) (w := 14) S hK hN ht0 ht1 hA hD hW hS hob.1.1  (cwV 1 hts gL_hands_X6_count rfl rfl rfl hdv_X6_count ⟨Nat.le_of_ble_eq_true rfl, Nat.le_of_ble_eq_true rfl⟩) rfl hl.1 (Nat.le_of_ble_eq_true rfl) dL_hands_179 ⟨Nat.zero_le _, Nat.zero_le _⟩ (fun H locs hW hS => ?_)
                show W p9 l e9 (eR 20 1000) s9 m9 a9 b9 t9 c9 H locs 0 0 Q (F0 m9 182 ls [.int (couA (bhP t k (if hv = 0 then -1 else 1)) (bhU t u k (if hv = 0 then -1 else 1)) q (recL hs (t, u)).length 14)])
                have hW : SW D cI cT o aT aB aS g y z ad (bhP t k (if hv = 0 then -1 else 1)) (bhU t u k (if hv = 0 then -1 else 1)) (recL hs (t, u)) sn q f s0 s1 s2 H := hW
                refine ej_topi (show (couA (bhP t k (if hv = 0 then -1 else 1)) (bhU t u k (if hv = 0 then -1 else 1)) q (recL hs (t, u)).length 14) = T_re (bhU t u k (if hv = 0 then -1 else 1)) from lkc_14 (bhP t k (if hv = 0 then -1 else 1)) (bhU t u k (if hv = 0 then -1 else 1)) q ((recL hs (t, u)).length)) ?_
                refine lv_iload hx hb dL_hands_182 (lv_at hl 4 rfl) ?_
                refine lv_iload hx hb dL_hands_184 (lv_at hl 1 rfl) ?_
                refine lv_if_le (tgt := 193) hx hb dL_hands_186 (by decide) (fun h9 => absurd h9 (show ¬ (3 : Int32) ≤ 0 from by decide)) (fun _ => ?_)
                refine lv_iconst (v := 1) hx hb dL_hands_189 (by decide) ?_
                refine lv_goto (tgt := 194) hx hb dL_hands_190 (by decide) ?_
                refine lv_iadd hx hb dL_hands_194 ?_
                refine lv_icmp_ne (tgt := 228) hx hb dL_hands_195 (by decide) (fun h9 => absurd (hbh.2.2) h9) (fun _ => ?_)
                refine lv_iload hx hb dL_hands_198 (lv_at hl 6 rfl) ?_
                refine lv_if_ne (tgt := 224) hx hb dL_hands_200 (by decide) (fun h9 => absurd (show (0 : Int32) = 0 from by decide) h9) (fun _ => ?_)
                refine lv_aload_n hx hb dL_hands_203 rfl (lv_at hl 8 rfl) ?_
                refine lv_iload_n hx hb dL_hands_204 rfl (lv_at hl 7 rfl) ?_
                refine lv_iconst (v := 0) hx hb dL_hands_205 (by decide) ?_
                refine lr_pin (rest := []) (k := k) (w := 0) S hK hN ht0 ht1 hA hD hW hS hob.1.1 (by omega) (cwV 2 hts gL_hands_X6_pin rfl rfl rfl hdv_X6_pin ⟨Nat.le_of_ble_eq_true rfl, Nat.le_of_ble_eq_true rfl⟩) rfl hl.1 (Nat.le_of_ble_eq_true rfl) dL_hands_206 ⟨Nat.zero_le _, Nat.zero_le _⟩ (fun H locs hW hS => ?_)
                show W p9 l e9 (eR 20 1000) s9 m9 a9 b9 t9 c9 H locs 0 0 Q (F0 m9 209 ls [.int (pinR (bhP t k (if hv = 0 then -1 else 1)) k 0)])
                have hW : SW D cI cT o aT aB aS g y z ad (bhP t k (if hv = 0 then -1 else 1)) (bhU t u k (if hv = 0 then -1 else 1)) (recL hs (t, u)) sn q f s0 s1 s2 H := hW
                refine ej_topi (show (pinR (bhP t k (if hv = 0 then -1 else 1)) k 0) = if P_ou (bhP t k (if hv = 0 then -1 else 1)) k = 0 then P_be (bhP t k (if hv = 0 then -1 else 1)) k + 3 else -4 from lkp_0 (bhP t k (if hv = 0 then -1 else 1)) k) ?_
                refine ej_topi (show (if P_ou (bhP t k (if hv = 0 then -1 else 1)) k = 0 then P_be (bhP t k (if hv = 0 then -1 else 1)) k + 3 else -4) = nI b from (by rw [hbh.2.1]; exact pr_pin hou hbe)) ?_
                refine lv_iload hx hb dL_hands_209 (lv_at hl 1 rfl) ?_
                refine lv_if_le (tgt := 219) hx hb dL_hands_211 (by decide) (fun h9 => absurd h9 (show ¬ (3 : Int32) ≤ 0 from by decide)) (fun _ => ?_)
                refine lv_iload hx hb dL_hands_214 (lv_at hl 5 rfl) ?_
                refine lv_goto (tgt := 221) hx hb dL_hands_216 (by decide) ?_
                refine lv_icmp_ne (tgt := 228) hx hb dL_hands_221 (by decide) (fun h9 => absurd (rfl) h9) (fun _ => ?_)
                refine lv_iconst (v := 1) hx hb dL_hands_224 (by decide) ?_
                refine lv_goto (tgt := 229) hx hb dL_hands_225 (by decide) ?_
                exact hQ _ _ _ _ _ _ _ _ _ _ _ _ _ dL_hands_229 rfl (by exact ⟨rfl, okS_up hob (by omega), Or.inr rfl⟩) hW hS
              · have hbh := bh_go (u := u) (c := b + 1) hou (by omega) (show P_be t k + (if hv = 0 then -1 else 1) + 3 = nI (b + 1) from by rw [if_neg c_88]; exact be_right hbe)
                refine lv_istore (lv' := [(8, .int (nI (b + 1))), (7, .int hv), (6, .int (T_re u)), (5, .int (nI b)), (4, .int 0), (3, .int (nI k)), (0, .ref (o 0)), (1, .int (nI w)), (2, .int yv)]) hx hb dL_hands_97 hl (by decide) rfl (fun ls hl => ?_)
                refine lv_iload hx hb dL_hands_99 (lv_at hl 4 rfl) ?_
                refine lv_if_eq (tgt := 108) hx hb dL_hands_101 (by decide) (fun _ => ?_) (fun h9 => absurd (show (0 : Int32) = 0 from by decide) h9)
                refine lv_iload hx hb dL_hands_108 (lv_at hl 3 rfl) ?_
                refine lv_bipush (v := (-4)) hx hb dL_hands_110 (by decide) ?_
                refine lv_icmp_ne (tgt := 119) hx hb dL_hands_112 (by decide) (fun _ => ?_) (fun h9 => absurd h9 (nI_ne4 (by omega)))
                refine lv_iload hx hb dL_hands_119 (lv_at hl 0 rfl) ?_
                refine lv_if_lt (tgt := 131) hx hb dL_hands_121 (by decide) (fun h9 => absurd h9 (ej_nlt (a := (b + 1)) (b := 0) (by omega) (show 0 ≤ (b + 1) from by omega))) (fun _ => ?_)
                refine lv_iload hx hb dL_hands_124 (lv_at hl 0 rfl) ?_
                refine lv_bipush (v := 6) hx hb dL_hands_126 (by decide) ?_
                refine lv_icmp_le (tgt := 135) hx hb dL_hands_128 (by decide) (fun _ => ?_) (fun h9 => absurd (ej_le (a := (b + 1)) (b := 6) (by omega) (show (b + 1) ≤ 6 from by omega)) h9)
                refine lv_iconst (v := 0) hx hb dL_hands_135 (by decide) ?_
                refine lv_istore (lv' := [(9, .int 0), (8, .int (nI (b + 1))), (7, .int hv), (6, .int (T_re u)), (5, .int (nI b)), (4, .int 0), (3, .int (nI k)), (0, .ref (o 0)), (1, .int (nI w)), (2, .int yv)]) hx hb dL_hands_136 hl (by decide) rfl (fun ls hl => ?_)
                refine lv_aload_n hx hb dL_hands_138 rfl (lv_at hl 7 rfl) ?_
                refine lv_iload_n hx hb dL_hands_139 rfl (lv_at hl 6 rfl) ?_
                refine lv_iload hx hb dL_hands_140 (lv_at hl 2 rfl) ?_
                refine lr_bend (rest := []) (k := k) (h := hv) S hK hN ht0 ht1 hA hD hW hS htl (by omega) (cwV 2 hts gL_hands_X6_bend rfl rfl rfl hdv_X6_bend ⟨Nat.le_of_ble_eq_true rfl, Nat.le_of_ble_eq_true rfl⟩) rfl hl.1 (Nat.le_of_ble_eq_true rfl) dL_hands_142 ⟨Nat.zero_le _, Nat.zero_le _⟩ (fun H locs hW hS => ?_)
                show W p9 l e9 (eR 20 1000) s9 m9 a9 b9 t9 c9 H locs 0 0 Q (F0 m9 145 ls [.int (bhR t k (if hv = 0 then -1 else 1))])
                have hW : SW D cI cT o aT aB aS g y z ad (bhP t k (if hv = 0 then -1 else 1)) (bhU t u k (if hv = 0 then -1 else 1)) (recL hs (t, u)) sn q f s0 s1 s2 H := hW
                refine ej_topi (show bhR t k (if hv = 0 then -1 else 1) = nI (10 + (b + 1)) from hbh.1) ?_
                have hob := okS_bh (d := (if hv = 0 then -1 else 1)) hk (dOK_ite hv) ho
                refine lv_istore (lv' := [(10, .int (nI (10 + (b + 1)))), (9, .int 0), (8, .int (nI (b + 1))), (7, .int hv), (6, .int (T_re u)), (5, .int (nI b)), (4, .int 0), (3, .int (nI k)), (0, .ref (o 0)), (1, .int (nI w)), (2, .int yv)]) hx hb dL_hands_145 hl (by decide) rfl (fun ls hl => ?_)
                refine lv_iload hx hb dL_hands_147 (lv_at hl 0 rfl) ?_
                refine lv_iload hx hb dL_hands_149 (lv_at hl 6 rfl) ?_
                refine lv_if_eq (tgt := 158) hx hb dL_hands_151 (by decide) (fun _ => ?_) (fun h9 => absurd (show (0 : Int32) = 0 from by decide) h9)
                refine lv_iload hx hb dL_hands_158 (lv_at hl 1 rfl) ?_
                refine lv_if_le (tgt := 168) hx hb dL_hands_160 (by decide) (fun _ => ?_) (fun h9 => absurd (show (0 : Int32) ≤ 0 from by decide) h9)
                refine lv_bipush (v := 10) hx hb dL_hands_168 (by decide) ?_
                refine lv_iload hx hb dL_hands_170 (lv_at hl 2 rfl) ?_
                refine lv_iadd hx hb dL_hands_172 ?_
                refine ej_topi (show (10 : Int32) + (nI (b + 1)) = nI (10 + (b + 1)) from nI_add 10 (b + 1)) ?_
                refine lv_icmp_ne (tgt := 228) hx hb dL_hands_173 (by decide) (fun h9 => absurd (congrArg nI (show (10 + (b + 1)) = (10 + (b + 1)) from by omega)) h9) (fun _ => ?_)
                refine lv_aload_n hx hb dL_hands_176 rfl (lv_at hl 8 rfl) ?_
                refine lv_bipush (v := 14) hx hb dL_hands_177 (by decide) ?_
                refine lr_count (rest := []) (w := 14) S hK hN ht0 ht1 hA hD hW hS hob.1.1  (cwV 1 hts gL_hands_X6_count rfl rfl rfl hdv_X6_count ⟨Nat.le_of_ble_eq_true rfl, Nat.le_of_ble_eq_true rfl⟩) rfl hl.1 (Nat.le_of_ble_eq_true rfl) dL_hands_179 ⟨Nat.zero_le _, Nat.zero_le _⟩ (fun H locs hW hS => ?_)
                show W p9 l e9 (eR 20 1000) s9 m9 a9 b9 t9 c9 H locs 0 0 Q (F0 m9 182 ls [.int (couA (bhP t k (if hv = 0 then -1 else 1)) (bhU t u k (if hv = 0 then -1 else 1)) q (recL hs (t, u)).length 14)])
                have hW : SW D cI cT o aT aB aS g y z ad (bhP t k (if hv = 0 then -1 else 1)) (bhU t u k (if hv = 0 then -1 else 1)) (recL hs (t, u)) sn q f s0 s1 s2 H := hW
                refine ej_topi (show (couA (bhP t k (if hv = 0 then -1 else 1)) (bhU t u k (if hv = 0 then -1 else 1)) q (recL hs (t, u)).length 14) = T_re (bhU t u k (if hv = 0 then -1 else 1)) from lkc_14 (bhP t k (if hv = 0 then -1 else 1)) (bhU t u k (if hv = 0 then -1 else 1)) q ((recL hs (t, u)).length)) ?_
                refine lv_iload hx hb dL_hands_182 (lv_at hl 4 rfl) ?_
                refine lv_iload hx hb dL_hands_184 (lv_at hl 1 rfl) ?_
                refine lv_if_le (tgt := 193) hx hb dL_hands_186 (by decide) (fun _ => ?_) (fun h9 => absurd (show (0 : Int32) ≤ 0 from by decide) h9)
                refine lv_iconst (v := 0) hx hb dL_hands_193 (by decide) ?_
                refine lv_iadd hx hb dL_hands_194 ?_
                refine ej_topi (show ((T_re u) + 0) = T_re u from Int32.add_zero _) ?_
                refine lv_icmp_ne (tgt := 228) hx hb dL_hands_195 (by decide) (fun h9 => absurd (hbh.2.2) h9) (fun _ => ?_)
                refine lv_iload hx hb dL_hands_198 (lv_at hl 6 rfl) ?_
                refine lv_if_ne (tgt := 224) hx hb dL_hands_200 (by decide) (fun h9 => absurd (show (0 : Int32) = 0 from by decide) h9) (fun _ => ?_)
                refine lv_aload_n hx hb dL_hands_203 rfl (lv_at hl 8 rfl) ?_
                refine lv_iload_n hx hb dL_hands_204 rfl (lv_at hl 7 rfl) ?_
                refine lv_iconst (v := 0) hx hb dL_hands_205 (by decide) ?_
                refine lr_pin (rest := []) (k := k) (w := 0) S hK hN ht0 ht1 hA hD hW hS hob.1.1 (by omega) (cwV 2 hts gL_hands_X6_pin rfl rfl rfl hdv_X6_pin ⟨Nat.le_of_ble_eq_true rfl, Nat.le_of_ble_eq_true rfl⟩) rfl hl.1 (Nat.le_of_ble_eq_true rfl) dL_hands_206 ⟨Nat.zero_le _, Nat.zero_le _⟩ (fun H locs hW hS => ?_)
                show W p9 l e9 (eR 20 1000) s9 m9 a9 b9 t9 c9 H locs 0 0 Q (F0 m9 209 ls [.int (pinR (bhP t k (if hv = 0 then -1 else 1)) k 0)])
                have hW : SW D cI cT o aT aB aS g y z ad (bhP t k (if hv = 0 then -1 else 1)) (bhU t u k (if hv = 0 then -1 else 1)) (recL hs (t, u)) sn q f s0 s1 s2 H := hW
                refine ej_topi (show (pinR (bhP t k (if hv = 0 then -1 else 1)) k 0) = if P_ou (bhP t k (if hv = 0 then -1 else 1)) k = 0 then P_be (bhP t k (if hv = 0 then -1 else 1)) k + 3 else -4 from lkp_0 (bhP t k (if hv = 0 then -1 else 1)) k) ?_
                refine ej_topi (show (if P_ou (bhP t k (if hv = 0 then -1 else 1)) k = 0 then P_be (bhP t k (if hv = 0 then -1 else 1)) k + 3 else -4) = nI (b + 1) from (pr_pin hbh.2.1.1 hbh.2.1.2)) ?_
                refine lv_iload hx hb dL_hands_209 (lv_at hl 1 rfl) ?_
                refine lv_if_le (tgt := 219) hx hb dL_hands_211 (by decide) (fun _ => ?_) (fun h9 => absurd (show (0 : Int32) ≤ 0 from by decide) h9)
                refine lv_iload hx hb dL_hands_219 (lv_at hl 2 rfl) ?_
                refine lv_icmp_ne (tgt := 228) hx hb dL_hands_221 (by decide) (fun h9 => absurd (rfl) h9) (fun _ => ?_)
                refine lv_iconst (v := 1) hx hb dL_hands_224 (by decide) ?_
                refine lv_goto (tgt := 229) hx hb dL_hands_225 (by decide) ?_
                exact hQ _ _ _ _ _ _ _ _ _ _ _ _ _ dL_hands_229 rfl (by exact ⟨rfl, okS_up hob (by omega), Or.inr rfl⟩) hW hS
          refine lv_if_ne (tgt := 81) hx hb dL_hands_74 (by decide) (fun c_74 => ?_) (fun c_74 => ?_)
          · have n_74 : (lowN (yv >>> (6 &&& 31)) 2) ≠ 0 := ej_tne (a := (lowN (yv >>> (6 &&& 31)) 2)) (b := 0) (by omega) (by omega) c_74
            refine lv_iconst (v := 0) hx hb dL_hands_81 (by decide) ?_
            refine ej_topi (show (0 : Int32) = hv from (by rw [e_hv, if_neg n_74])) ?_
            exact jp82 _ _ _ hW hS (lv_sub hl [0, 1, 2, 3, 4, 5, 6] rfl)
          · have n_74 : (lowN (yv >>> (6 &&& 31)) 2) = 0 := ej_teq (a := (lowN (yv >>> (6 &&& 31)) 2)) (b := 0) (by omega) (by omega) c_74
            refine lv_iconst (v := 1) hx hb dL_hands_77 (by decide) ?_
            refine lv_goto (tgt := 82) hx hb dL_hands_78 (by decide) ?_
            refine ej_topi (show (1 : Int32) = hv from (by rw [e_hv, if_pos n_74])) ?_
            exact jp82 _ _ _ hW hS (lv_sub hl [0, 1, 2, 3, 4, 5, 6] rfl)
  refine lv_if_ne (tgt := 18) hx hb dL_hands_10 (by decide) (fun c_10 => ?_) (fun c_10 => ?_)
  · have n_10 : (lowN (yv >>> (13 &&& 31)) 9) ≠ 0 := ej_tne (a := (lowN (yv >>> (13 &&& 31)) 9)) (b := 0) (by omega) (by omega) c_10
    refine lv_bipush (v := 35) hx hb dL_hands_18 (by decide) ?_
    refine ej_topi (show (35 : Int32) = nI N9 from (by rw [e_N9, if_neg n_10]; rfl)) ?_
    exact jp20 _ _ _ hW hS (lv_sub hl [0, 1, 2] rfl)
  · have n_10 : (lowN (yv >>> (13 &&& 31)) 9) = 0 := ej_teq (a := (lowN (yv >>> (13 &&& 31)) 9)) (b := 0) (by omega) (by omega) c_10
    refine lv_bipush (v := 36) hx hb dL_hands_13 (by decide) ?_
    refine lv_goto (tgt := 20) hx hb dL_hands_15 (by decide) ?_
    refine ej_topi (show (36 : Int32) = nI N9 from (by rw [e_N9, if_pos n_10]; rfl)) ?_
    exact jp20 _ _ _ hW hS (lv_sub hl [0, 1, 2] rfl)
