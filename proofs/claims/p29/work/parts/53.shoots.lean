set_option maxHeartbeats 4000000 in
set_option maxRecDepth 100000 in
theorem k_shoots (l : Launch) (D : va_G) (tys : eT) (cI cT : ClassId) (ht0 : tys[0]? = some (cI, .int)) (ht1 : tys[1]? = some (cT, .object RX5)) (o aT aB aS g y z : Nat → Nat) (ad : Nat → Nat → Nat) (t : Pn) (u : Tr) (hs : List (Pn × Tr)) (sn : Option (Pn × Tr)) (q : Nat) (f : Nat → Int32) (s0 s1 s2 : Int32) (yv : Int32) (m : Nat) (htl : tilOK t) (ho : okS m t u) : lc l D tys cI cT o aT aB aS g y z ad yL_shoots wsL_shoots (eR 20 1000) [.ref (o 0), .int yv] t u hs sn q f s0 s1 s2 (actP m t u hs) := by
  refine lc_int cL_shoots 17 (by decide +kernel) rfl (Nat.le_of_ble_eq_true rfl) ?_
  intro p9 e9 s9 m9 a9 b9 t9 c9 H0 A Q ls S hK hN hA hD hW hS hl hQ
  have S : CallFix p9 m9 c9 cL_shoots 17 s9 a9 wsL_shoots RL := S
  obtain ⟨hx, hb, hml, hown, hts⟩ := id S
  have hl : lv_has ls 17 [(0, .ref (o 0)), (1, .int yv)] := hl
  obtain ⟨L, hL, eL⟩ := le_20 ho.2.1.1
  obtain ⟨N9, e_N9⟩ : ∃ z9 : Nat, z9 = if lowN (yv >>> (9 &&& 31)) 9 = 0 then 8 else 7 := ⟨_, rfl⟩
  have hN7 : 7 ≤ N9 ∧ N9 ≤ 8 := by rw [e_N9]; split <;> decide
  obtain ⟨hv, e_hv⟩ : ∃ z9 : Int32, z9 = if lowN (yv >>> (4 &&& 31)) 3 ≤ 0 then 0 else 1 := ⟨_, rfl⟩
  refine lv_iload_n hx hb dL_shoots_0 rfl (lv_at hl 1 rfl) ?_
  refine lv_iload_n hx hb dL_shoots_1 rfl (lv_at hl 1 rfl) ?_
  refine lv_bipush (v := 9) hx hb dL_shoots_2 (by decide) ?_
  refine lv_ishr hx hb dL_shoots_4 ?_
  refine lv_bipush (v := 9) hx hb dL_shoots_5 (by decide) ?_
  refine ej_L0 (rest := [.int yv]) (As := [.int (yv >>> (9 &&& 31)), .int 9]) S hK hN hA hD hW hS (c_L_low l D tys cI ht0 (yv >>> (9 &&& 31)) 9 (by omega) (by omega)) (va_cwS 2 hts gL_shoots_L_low rfl rfl rfl hds_L_low ⟨Nat.le_of_ble_eq_true rfl, Nat.le_of_ble_eq_true rfl⟩) rfl rfl hl.1 (Nat.le_of_ble_eq_true rfl) dL_shoots_7 ⟨Nat.zero_le _, Nat.zero_le _⟩ (fun H locs hW hS => ?_)
  show W p9 l e9 (eR 20 1000) s9 m9 a9 b9 t9 c9 H locs 0 0 Q (F0 m9 10 ls [.int (nI (lowN (yv >>> (9 &&& 31)) 9)), .int yv])
  have lw_7 := lowN_lt (yv >>> (9 &&& 31)) (n := 9) (by omega)
  have jp20 : ∀ (H : Heap) (locs : List Loc) (ls : Array Slot), SW D cI cT o aT aB aS g y z ad t u hs sn q f s0 s1 s2 H → va_S A H0 H locs → lv_has ls 17 [(0, .ref (o 0)), (1, .int yv)] → W p9 l e9 (eR 20 1000) s9 m9 a9 b9 t9 c9 H locs 0 0 Q (F0 m9 20 ls [.int (nI N9), .int yv]) := by
    intro H locs ls hW hS hl
    refine ej_L0 (rest := []) (As := [.int yv, .int (nI N9)]) S hK hN hA hD hW hS (c_L_low l D tys cI ht0 yv N9 (by omega) (by omega)) (va_cwS 2 hts gL_shoots_L_low rfl rfl rfl hds_L_low ⟨Nat.le_of_ble_eq_true rfl, Nat.le_of_ble_eq_true rfl⟩) rfl rfl hl.1 (Nat.le_of_ble_eq_true rfl) dL_shoots_20 ⟨Nat.zero_le _, Nat.zero_le _⟩ (fun H locs hW hS => ?_)
    show W p9 l e9 (eR 20 1000) s9 m9 a9 b9 t9 c9 H locs 0 0 Q (F0 m9 23 ls [.int (nI (lowN yv N9))])
    have lw_20 := lowN_lt yv (n := N9) (by omega)
    by_cases h7 : lowN yv N9 = 7
    · refine ej_topi (show nI (lowN yv N9) = 7 from by rw [h7]; rfl) ?_
      refine lv_istore_n (lv' := [(2, .int 7), (0, .ref (o 0)), (1, .int yv)]) hx hb dL_shoots_23 rfl hl (by decide) rfl (fun ls hl => ?_)
      refine lv_iload_n hx hb dL_shoots_24 rfl (lv_at hl 2 rfl) ?_
      refine lv_iconst (v := 4) hx hb dL_shoots_25 (by decide) ?_
      refine lv_ishr hx hb dL_shoots_26 ?_
      refine lv_iconst (v := 3) hx hb dL_shoots_27 (by decide) ?_
      refine ej_L0 (rest := []) (As := [.int (yv >>> (4 &&& 31)), .int 3]) S hK hN hA hD hW hS (c_L_low l D tys cI ht0 (yv >>> (4 &&& 31)) 3 (by omega) (by omega)) (va_cwS 2 hts gL_shoots_L_low rfl rfl rfl hds_L_low ⟨Nat.le_of_ble_eq_true rfl, Nat.le_of_ble_eq_true rfl⟩) rfl rfl hl.1 (Nat.le_of_ble_eq_true rfl) dL_shoots_28 ⟨Nat.zero_le _, Nat.zero_le _⟩ (fun H locs hW hS => ?_)
      show W p9 l e9 (eR 20 1000) s9 m9 a9 b9 t9 c9 H locs 0 0 Q (F0 m9 31 ls [.int (nI (lowN (yv >>> (4 &&& 31)) 3))])
      have lw_28 := lowN_lt (yv >>> (4 &&& 31)) (n := 3) (by omega)
      have jp39 : ∀ (H : Heap) (locs : List Loc) (ls : Array Slot), SW D cI cT o aT aB aS g y z ad t u hs sn q f s0 s1 s2 H → va_S A H0 H locs → lv_has ls 17 [(2, .int 7), (0, .ref (o 0)), (1, .int yv)] → W p9 l e9 (eR 20 1000) s9 m9 a9 b9 t9 c9 H locs 0 0 Q (F0 m9 39 ls [.int hv]) := by
        intro H locs ls hW hS hl
        refine lv_istore_n (lv' := [(3, .int hv), (2, .int 7), (0, .ref (o 0)), (1, .int yv)]) hx hb dL_shoots_39 rfl hl (by decide) rfl (fun ls hl => ?_)
        refine lv_iload_n hx hb dL_shoots_40 rfl (lv_at hl 1 rfl) ?_
        refine lv_bipush (v := 7) hx hb dL_shoots_41 (by decide) ?_
        refine lv_icmp_ne (tgt := 50) hx hb dL_shoots_43 (by decide) (fun h9 => absurd (show (7 : Int32) = 7 from by decide) h9) (fun _ => ?_)
        refine lv_iconst (v := 1) hx hb dL_shoots_46 (by decide) ?_
        refine lv_goto (tgt := 51) hx hb dL_shoots_47 (by decide) ?_
        refine lv_istore (lv' := [(4, .int 1), (3, .int hv), (2, .int 7), (0, .ref (o 0)), (1, .int yv)]) hx hb dL_shoots_51 hl (by decide) rfl (fun ls hl => ?_)
        refine lv_aload_n hx hb dL_shoots_53 rfl (lv_at hl 3 rfl) ?_
        refine lv_iconst (v := 1) hx hb dL_shoots_54 (by decide) ?_
        refine lr_count (rest := []) (w := 1) S hK hN ht0 ht1 hA hD hW hS htl  (cwV 1 hts gL_shoots_X6_count rfl rfl rfl hdv_X6_count ⟨Nat.le_of_ble_eq_true rfl, Nat.le_of_ble_eq_true rfl⟩) rfl hl.1 (Nat.le_of_ble_eq_true rfl) dL_shoots_55 ⟨Nat.zero_le _, Nat.zero_le _⟩ (fun H locs hW hS => ?_)
        show W p9 l e9 (eR 20 1000) s9 m9 a9 b9 t9 c9 H locs 0 0 Q (F0 m9 58 ls [.int (couA t u q hs.length 1)])
        have hW : SW D cI cT o aT aB aS g y z ad t u hs sn q f s0 s1 s2 H := hW
        refine ej_topi (show (couA t u q hs.length 1) = T_le u from lkc_1 t u q hs.length) ?_
        refine ej_topi (show (T_le u) = nI L from eL) ?_
        refine lv_istore (lv' := [(5, .int (nI L)), (4, .int 1), (3, .int hv), (2, .int 7), (0, .ref (o 0)), (1, .int yv)]) hx hb dL_shoots_58 hl (by decide) rfl (fun ls hl => ?_)
        refine lv_iload hx hb dL_shoots_60 (lv_at hl 1 rfl) ?_
        refine lv_if_eq (tgt := 69) hx hb dL_shoots_62 (by decide) (fun h9 => absurd h9 (show ¬ (1 : Int32) = 0 from by decide)) (fun _ => ?_)
        refine lv_iconst (v := 0) hx hb dL_shoots_65 (by decide) ?_
        refine lv_goto (tgt := 74) hx hb dL_shoots_66 (by decide) ?_
        refine lv_istore (lv' := [(6, .int 0), (5, .int (nI L)), (4, .int 1), (3, .int hv), (2, .int 7), (0, .ref (o 0)), (1, .int yv)]) hx hb dL_shoots_74 hl (by decide) rfl (fun ls hl => ?_)
        refine lv_iload hx hb dL_shoots_76 (lv_at hl 2 rfl) ?_
        refine lv_if_eq (tgt := 85) hx hb dL_shoots_78 (by decide) (fun h9 => absurd h9 (show ¬ (1 : Int32) = 0 from by decide)) (fun _ => ?_)
        refine lv_iconst (v := 0) hx hb dL_shoots_81 (by decide) ?_
        refine lv_goto (tgt := 93) hx hb dL_shoots_82 (by decide) ?_
        refine lv_istore (lv' := [(7, .int 0), (6, .int 0), (5, .int (nI L)), (4, .int 1), (3, .int hv), (2, .int 7), (0, .ref (o 0)), (1, .int yv)]) hx hb dL_shoots_93 hl (by decide) rfl (fun ls hl => ?_)
        refine lv_iload hx hb dL_shoots_95 (lv_at hl 3 rfl) ?_
        refine lv_if_eq (tgt := 104) hx hb dL_shoots_97 (by decide) (fun h9 => absurd h9 (show ¬ (1 : Int32) = 0 from by decide)) (fun _ => ?_)
        refine lv_iconst (v := 0) hx hb dL_shoots_100 (by decide) ?_
        refine lv_goto (tgt := 112) hx hb dL_shoots_101 (by decide) ?_
        refine lv_istore (lv' := [(8, .int 0), (7, .int 0), (6, .int 0), (5, .int (nI L)), (4, .int 1), (3, .int hv), (2, .int 7), (0, .ref (o 0)), (1, .int yv)]) hx hb dL_shoots_112 hl (by decide) rfl (fun ls hl => ?_)
        refine lv_iload hx hb dL_shoots_114 (lv_at hl 4 rfl) ?_
        refine lv_if_eq (tgt := 123) hx hb dL_shoots_116 (by decide) (fun h9 => absurd h9 (show ¬ (1 : Int32) = 0 from by decide)) (fun _ => ?_)
        refine lv_iconst (v := 0) hx hb dL_shoots_119 (by decide) ?_
        refine lv_goto (tgt := 131) hx hb dL_shoots_120 (by decide) ?_
        refine lv_istore (lv' := [(9, .int 0), (8, .int 0), (7, .int 0), (6, .int 0), (5, .int (nI L)), (4, .int 1), (3, .int hv), (2, .int 7), (0, .ref (o 0)), (1, .int yv)]) hx hb dL_shoots_131 hl (by decide) rfl (fun ls hl => ?_)
        refine lv_aload_n hx hb dL_shoots_133 rfl (lv_at hl 8 rfl) ?_
        refine lv_iload hx hb dL_shoots_134 (lv_at hl 3 rfl) ?_
        refine lv_iconst (v := 3) hx hb dL_shoots_136 (by decide) ?_
        refine lr_pocket (rest := []) (k := 0) (w := 3) S hK hN ht0 ht1 hA hD hW hS htl (by omega) (cwV 2 hts gL_shoots_X6_pocket rfl rfl rfl hdv_X6_pocket ⟨Nat.le_of_ble_eq_true rfl, Nat.le_of_ble_eq_true rfl⟩) rfl hl.1 (Nat.le_of_ble_eq_true rfl) dL_shoots_137 ⟨Nat.zero_le _, Nat.zero_le _⟩ (fun H locs hW hS => ?_)
        show W p9 l e9 (eR 20 1000) s9 m9 a9 b9 t9 c9 H locs 0 0 Q (F0 m9 140 ls [.int (pocR t u 0 3)])
        have hW : SW D cI cT o aT aB aS g y z ad t u hs sn q f s0 s1 s2 H := hW
        refine ej_topi (show (pocR t u 0 3) = T_en u 0 from lkw_3 t u 0) ?_
        refine lv_istore (lv' := [(10, .int (T_en u 0)), (9, .int 0), (8, .int 0), (7, .int 0), (6, .int 0), (5, .int (nI L)), (4, .int 1), (3, .int hv), (2, .int 7), (0, .ref (o 0)), (1, .int yv)]) hx hb dL_shoots_140 hl (by decide) rfl (fun ls hl => ?_)
        refine lv_aload_n hx hb dL_shoots_142 rfl (lv_at hl 9 rfl) ?_
        refine lv_iconst (v := 0) hx hb dL_shoots_143 (by decide) ?_
        refine lr_count (rest := []) (w := 0) S hK hN ht0 ht1 hA hD hW hS htl  (cwV 1 hts gL_shoots_X6_count rfl rfl rfl hdv_X6_count ⟨Nat.le_of_ble_eq_true rfl, Nat.le_of_ble_eq_true rfl⟩) rfl hl.1 (Nat.le_of_ble_eq_true rfl) dL_shoots_144 ⟨Nat.zero_le _, Nat.zero_le _⟩ (fun H locs hW hS => ?_)
        show W p9 l e9 (eR 20 1000) s9 m9 a9 b9 t9 c9 H locs 0 0 Q (F0 m9 147 ls [.int (couA t u q hs.length 0)])
        have hW : SW D cI cT o aT aB aS g y z ad t u hs sn q f s0 s1 s2 H := hW
        refine ej_topi (show (couA t u q hs.length 0) = T_po u from lkc_0 t u q hs.length) ?_
        refine lv_istore (lv' := [(11, .int (T_po u)), (10, .int (T_en u 0)), (9, .int 0), (8, .int 0), (7, .int 0), (6, .int 0), (5, .int (nI L)), (4, .int 1), (3, .int hv), (2, .int 7), (0, .ref (o 0)), (1, .int yv)]) hx hb dL_shoots_147 hl (by decide) rfl (fun ls hl => ?_)
        refine lv_aload_n hx hb dL_shoots_149 rfl (lv_at hl 10 rfl) ?_
        refine lv_iconst (v := 3) hx hb dL_shoots_150 (by decide) ?_
        refine lr_count (rest := []) (w := 3) S hK hN ht0 ht1 hA hD hW hS htl  (cwV 1 hts gL_shoots_X6_count rfl rfl rfl hdv_X6_count ⟨Nat.le_of_ble_eq_true rfl, Nat.le_of_ble_eq_true rfl⟩) rfl hl.1 (Nat.le_of_ble_eq_true rfl) dL_shoots_151 ⟨Nat.zero_le _, Nat.zero_le _⟩ (fun H locs hW hS => ?_)
        show W p9 l e9 (eR 20 1000) s9 m9 a9 b9 t9 c9 H locs 0 0 Q (F0 m9 154 ls [.int (couA t u q hs.length 3)])
        have hW : SW D cI cT o aT aB aS g y z ad t u hs sn q f s0 s1 s2 H := hW
        refine ej_topi (show (couA t u q hs.length 3) = T_lo u from lkc_3 t u q hs.length) ?_
        refine lv_istore (lv' := [(12, .int (T_lo u)), (11, .int (T_po u)), (10, .int (T_en u 0)), (9, .int 0), (8, .int 0), (7, .int 0), (6, .int 0), (5, .int (nI L)), (4, .int 1), (3, .int hv), (2, .int 7), (0, .ref (o 0)), (1, .int yv)]) hx hb dL_shoots_154 hl (by decide) rfl (fun ls hl => ?_)
        refine lv_aload_n hx hb dL_shoots_156 rfl (lv_at hl 11 rfl) ?_
        refine lv_bipush (v := 6) hx hb dL_shoots_157 (by decide) ?_
        refine lr_count (rest := []) (w := 6) S hK hN ht0 ht1 hA hD hW hS htl  (cwV 1 hts gL_shoots_X6_count rfl rfl rfl hdv_X6_count ⟨Nat.le_of_ble_eq_true rfl, Nat.le_of_ble_eq_true rfl⟩) rfl hl.1 (Nat.le_of_ble_eq_true rfl) dL_shoots_159 ⟨Nat.zero_le _, Nat.zero_le _⟩ (fun H locs hW hS => ?_)
        show W p9 l e9 (eR 20 1000) s9 m9 a9 b9 t9 c9 H locs 0 0 Q (F0 m9 162 ls [.int (couA t u q hs.length 6)])
        have hW : SW D cI cT o aT aB aS g y z ad t u hs sn q f s0 s1 s2 H := hW
        refine ej_topi (show (couA t u q hs.length 6) = bndS t from lkc_6 t u q hs.length) ?_
        refine lv_istore (lv' := [(13, .int (bndS t)), (12, .int (T_lo u)), (11, .int (T_po u)), (10, .int (T_en u 0)), (9, .int 0), (8, .int 0), (7, .int 0), (6, .int 0), (5, .int (nI L)), (4, .int 1), (3, .int hv), (2, .int 7), (0, .ref (o 0)), (1, .int yv)]) hx hb dL_shoots_162 hl (by decide) rfl (fun ls hl => ?_)
        refine lv_aload_n hx hb dL_shoots_164 rfl (lv_at hl 12 rfl) ?_
        refine lv_bipush (v := 12) hx hb dL_shoots_165 (by decide) ?_
        refine lr_count (rest := []) (w := 12) S hK hN ht0 ht1 hA hD hW hS htl  (cwV 1 hts gL_shoots_X6_count rfl rfl rfl hdv_X6_count ⟨Nat.le_of_ble_eq_true rfl, Nat.le_of_ble_eq_true rfl⟩) rfl hl.1 (Nat.le_of_ble_eq_true rfl) dL_shoots_167 ⟨Nat.zero_le _, Nat.zero_le _⟩ (fun H locs hW hS => ?_)
        show W p9 l e9 (eR 20 1000) s9 m9 a9 b9 t9 c9 H locs 0 0 Q (F0 m9 170 ls [.int (couA t u q hs.length 12)])
        have hW : SW D cI cT o aT aB aS g y z ad t u hs sn q f s0 s1 s2 H := hW
        refine ej_topi (show (couA t u q hs.length 12) = P_ri t from lkc_12 t u q hs.length) ?_
        refine lv_istore (lv' := [(14, .int (P_ri t)), (13, .int (bndS t)), (12, .int (T_lo u)), (11, .int (T_po u)), (10, .int (T_en u 0)), (9, .int 0), (8, .int 0), (7, .int 0), (6, .int 0), (5, .int (nI L)), (4, .int 1), (3, .int hv), (2, .int 7), (0, .ref (o 0)), (1, .int yv)]) hx hb dL_shoots_170 hl (by decide) rfl (fun ls hl => ?_)
        refine lv_aload_n hx hb dL_shoots_172 rfl (lv_at hl 13 rfl) ?_
        refine lv_bipush (v := 14) hx hb dL_shoots_173 (by decide) ?_
        refine lr_count (rest := []) (w := 14) S hK hN ht0 ht1 hA hD hW hS htl  (cwV 1 hts gL_shoots_X6_count rfl rfl rfl hdv_X6_count ⟨Nat.le_of_ble_eq_true rfl, Nat.le_of_ble_eq_true rfl⟩) rfl hl.1 (Nat.le_of_ble_eq_true rfl) dL_shoots_175 ⟨Nat.zero_le _, Nat.zero_le _⟩ (fun H locs hW hS => ?_)
        show W p9 l e9 (eR 20 1000) s9 m9 a9 b9 t9 c9 H locs 0 0 Q (F0 m9 178 ls [.int (couA t u q hs.length 14)])
        have hW : SW D cI cT o aT aB aS g y z ad t u hs sn q f s0 s1 s2 H := hW
        refine ej_topi (show (couA t u q hs.length 14) = T_re u from lkc_14 t u q hs.length) ?_
        refine lv_istore (lv' := [(15, .int (T_re u)), (14, .int (P_ri t)), (13, .int (bndS t)), (12, .int (T_lo u)), (11, .int (T_po u)), (10, .int (T_en u 0)), (9, .int 0), (8, .int 0), (7, .int 0), (6, .int 0), (5, .int (nI L)), (4, .int 1), (3, .int hv), (2, .int 7), (0, .ref (o 0)), (1, .int yv)]) hx hb dL_shoots_178 hl (by decide) rfl (fun ls hl => ?_)
        refine lv_aload_n hx hb dL_shoots_180 rfl (lv_at hl 14 rfl) ?_
        refine lv_iload_n hx hb dL_shoots_181 rfl (lv_at hl 13 rfl) ?_
        refine lv_iload_n hx hb dL_shoots_182 rfl (lv_at hl 12 rfl) ?_
        refine lr_shoot_no (rest := []) (v := 7) (h := hv) S hK hN ht0 ht1 hA hD hW hS htl (by decide) (cwV 2 hts gL_shoots_X6_shoot rfl rfl rfl hdv_X6_shoot ⟨Nat.le_of_ble_eq_true rfl, Nat.le_of_ble_eq_true rfl⟩) rfl hl.1 (Nat.le_of_ble_eq_true rfl) dL_shoots_183 ⟨Nat.zero_le _, Nat.zero_le _⟩ (fun H locs hW hS => ?_)
        show W p9 l e9 (eR 20 1000) s9 m9 a9 b9 t9 c9 H locs 0 0 Q (F0 m9 186 ls [.int (-1)])
        have hW : SW D cI cT o aT aB aS g y z ad t u hs sn q f s0 s1 s2 H := hW
        refine lv_istore (lv' := [(16, .int (-1)), (15, .int (T_re u)), (14, .int (P_ri t)), (13, .int (bndS t)), (12, .int (T_lo u)), (11, .int (T_po u)), (10, .int (T_en u 0)), (9, .int 0), (8, .int 0), (7, .int 0), (6, .int 0), (5, .int (nI L)), (4, .int 1), (3, .int hv), (2, .int 7), (0, .ref (o 0)), (1, .int yv)]) hx hb dL_shoots_186 hl (by decide) rfl (fun ls hl => ?_)
        refine lv_iload hx hb dL_shoots_188 (lv_at hl 12 rfl) ?_
        refine lv_if_ne (tgt := 198) hx hb dL_shoots_190 (by decide) (fun _ => ?_) (fun h9 => absurd h9 (show ¬ (1 : Int32) = 0 from by decide))
        refine lv_iload hx hb dL_shoots_198 (lv_at hl 0 rfl) ?_
        refine lv_iload hx hb dL_shoots_200 (lv_at hl 12 rfl) ?_
        refine lv_if_eq (tgt := 209) hx hb dL_shoots_202 (by decide) (fun h9 => absurd h9 (show ¬ (1 : Int32) = 0 from by decide)) (fun _ => ?_)
        refine lv_iconst (v := (-1)) hx hb dL_shoots_205 (by decide) ?_
        refine lv_goto (tgt := 210) hx hb dL_shoots_206 (by decide) ?_
        refine lv_icmp_ne (tgt := 249) hx hb dL_shoots_210 (by decide) (fun h9 => absurd (show ((-1) : Int32) = (-1) from by decide) h9) (fun _ => ?_)
        refine lv_aload_n hx hb dL_shoots_213 rfl (lv_at hl 15 rfl) ?_
        refine lv_bipush (v := 14) hx hb dL_shoots_214 (by decide) ?_
        refine lr_count (rest := []) (w := 14) S hK hN ht0 ht1 hA hD hW hS htl  (cwV 1 hts gL_shoots_X6_count rfl rfl rfl hdv_X6_count ⟨Nat.le_of_ble_eq_true rfl, Nat.le_of_ble_eq_true rfl⟩) rfl hl.1 (Nat.le_of_ble_eq_true rfl) dL_shoots_216 ⟨Nat.zero_le _, Nat.zero_le _⟩ (fun H locs hW hS => ?_)
        show W p9 l e9 (eR 20 1000) s9 m9 a9 b9 t9 c9 H locs 0 0 Q (F0 m9 219 ls [.int (couA t u q hs.length 14)])
        have hW : SW D cI cT o aT aB aS g y z ad t u hs sn q f s0 s1 s2 H := hW
        refine ej_topi (show (couA t u q hs.length 14) = T_re u from lkc_14 t u q hs.length) ?_
        refine lv_iload hx hb dL_shoots_219 (lv_at hl 1 rfl) ?_
        refine lv_iload hx hb dL_shoots_221 (lv_at hl 12 rfl) ?_
        refine lv_if_eq (tgt := 230) hx hb dL_shoots_223 (by decide) (fun h9 => absurd h9 (show ¬ (1 : Int32) = 0 from by decide)) (fun _ => ?_)
        refine lv_iconst (v := 0) hx hb dL_shoots_226 (by decide) ?_
        refine lv_goto (tgt := 231) hx hb dL_shoots_227 (by decide) ?_
        refine lv_iadd hx hb dL_shoots_231 ?_
        refine ej_topi (show ((T_re u) + 0) = T_re u from Int32.add_zero _) ?_
        refine lv_icmp_ne (tgt := 249) hx hb dL_shoots_232 (by decide) (fun h9 => absurd (rfl) h9) (fun _ => ?_)
        refine lv_aload_n hx hb dL_shoots_235 rfl (lv_at hl 15 rfl) ?_
        refine lv_iconst (v := 0) hx hb dL_shoots_236 (by decide) ?_
        refine lr_count (rest := []) (w := 0) S hK hN ht0 ht1 hA hD hW hS htl  (cwV 1 hts gL_shoots_X6_count rfl rfl rfl hdv_X6_count ⟨Nat.le_of_ble_eq_true rfl, Nat.le_of_ble_eq_true rfl⟩) rfl hl.1 (Nat.le_of_ble_eq_true rfl) dL_shoots_237 ⟨Nat.zero_le _, Nat.zero_le _⟩ (fun H locs hW hS => ?_)
        show W p9 l e9 (eR 20 1000) s9 m9 a9 b9 t9 c9 H locs 0 0 Q (F0 m9 240 ls [.int (couA t u q hs.length 0)])
        have hW : SW D cI cT o aT aB aS g y z ad t u hs sn q f s0 s1 s2 H := hW
        refine ej_topi (show (couA t u q hs.length 0) = T_po u from lkc_0 t u q hs.length) ?_
        refine lv_iload hx hb dL_shoots_240 (lv_at hl 5 rfl) ?_
        refine lv_icmp_ne (tgt := 249) hx hb dL_shoots_242 (by decide) (fun h9 => absurd (rfl) h9) (fun _ => ?_)
        refine lv_iconst (v := 1) hx hb dL_shoots_245 (by decide) ?_
        refine lv_goto (tgt := 250) hx hb dL_shoots_246 (by decide) ?_
        exact hQ _ _ _ _ _ _ _ _ _ _ _ _ _ dL_shoots_250 rfl (by exact ⟨rfl, okS_up ho (by omega), Or.inl ⟨rfl, rfl, rfl⟩⟩) hW hS
      refine lv_if_le (tgt := 38) hx hb dL_shoots_31 (by decide) (fun c_31 => ?_) (fun c_31 => ?_)
      · have n_31 : (lowN (yv >>> (4 &&& 31)) 3) ≤ 0 := ej_tle (a := (lowN (yv >>> (4 &&& 31)) 3)) (b := 0) (by omega) (by omega) c_31
        refine lv_iconst (v := 0) hx hb dL_shoots_38 (by decide) ?_
        refine ej_topi (show (0 : Int32) = hv from (by rw [e_hv, if_pos n_31])) ?_
        exact jp39 _ _ _ hW hS (lv_sub hl [0, 1, 2] rfl)
      · have n_31 : 0 < (lowN (yv >>> (4 &&& 31)) 3) := ej_tnle (a := (lowN (yv >>> (4 &&& 31)) 3)) (b := 0) (by omega) (by omega) c_31
        refine lv_iconst (v := 1) hx hb dL_shoots_34 (by decide) ?_
        refine lv_goto (tgt := 39) hx hb dL_shoots_35 (by decide) ?_
        refine ej_topi (show (1 : Int32) = hv from (by rw [e_hv, if_neg (by omega)])) ?_
        exact jp39 _ _ _ hW hS (lv_sub hl [0, 1, 2] rfl)
    · obtain ⟨k, hk, ek⟩ : ∃ k : Nat, k < 7 ∧ lowN yv N9 = k := ⟨_, by omega, rfl⟩
      refine ej_topi (show nI (lowN yv N9) = nI k from by rw [ek]) ?_
      have hpe := posT_lt t hk 5
      refine lv_istore_n (lv' := [(2, .int (nI k)), (0, .ref (o 0)), (1, .int yv)]) hx hb dL_shoots_23 rfl hl (by decide) rfl (fun ls hl => ?_)
      refine lv_iload_n hx hb dL_shoots_24 rfl (lv_at hl 2 rfl) ?_
      refine lv_iconst (v := 4) hx hb dL_shoots_25 (by decide) ?_
      refine lv_ishr hx hb dL_shoots_26 ?_
      refine lv_iconst (v := 3) hx hb dL_shoots_27 (by decide) ?_
      refine ej_L0 (rest := []) (As := [.int (yv >>> (4 &&& 31)), .int 3]) S hK hN hA hD hW hS (c_L_low l D tys cI ht0 (yv >>> (4 &&& 31)) 3 (by omega) (by omega)) (va_cwS 2 hts gL_shoots_L_low rfl rfl rfl hds_L_low ⟨Nat.le_of_ble_eq_true rfl, Nat.le_of_ble_eq_true rfl⟩) rfl rfl hl.1 (Nat.le_of_ble_eq_true rfl) dL_shoots_28 ⟨Nat.zero_le _, Nat.zero_le _⟩ (fun H locs hW hS => ?_)
      show W p9 l e9 (eR 20 1000) s9 m9 a9 b9 t9 c9 H locs 0 0 Q (F0 m9 31 ls [.int (nI (lowN (yv >>> (4 &&& 31)) 3))])
      have lw_28 := lowN_lt (yv >>> (4 &&& 31)) (n := 3) (by omega)
      have jp39 : ∀ (H : Heap) (locs : List Loc) (ls : Array Slot), SW D cI cT o aT aB aS g y z ad t u hs sn q f s0 s1 s2 H → va_S A H0 H locs → lv_has ls 17 [(2, .int (nI k)), (0, .ref (o 0)), (1, .int yv)] → W p9 l e9 (eR 20 1000) s9 m9 a9 b9 t9 c9 H locs 0 0 Q (F0 m9 39 ls [.int hv]) := by
        intro H locs ls hW hS hl
        refine lv_istore_n (lv' := [(3, .int hv), (2, .int (nI k)), (0, .ref (o 0)), (1, .int yv)]) hx hb dL_shoots_39 rfl hl (by decide) rfl (fun ls hl => ?_)
        refine lv_iload_n hx hb dL_shoots_40 rfl (lv_at hl 1 rfl) ?_
        refine lv_bipush (v := 7) hx hb dL_shoots_41 (by decide) ?_
        refine lv_icmp_ne (tgt := 50) hx hb dL_shoots_43 (by decide) (fun _ => ?_) (fun h9 => absurd h9 (ej_ne (a := k) (b := 7) (by omega) (by omega) (show k ≠ 7 from by omega)))
        refine lv_iconst (v := 0) hx hb dL_shoots_50 (by decide) ?_
        refine lv_istore (lv' := [(4, .int 0), (3, .int hv), (2, .int (nI k)), (0, .ref (o 0)), (1, .int yv)]) hx hb dL_shoots_51 hl (by decide) rfl (fun ls hl => ?_)
        by_cases hz : L = 0
        · have hln : ¬ 0 < T_le u := by rw [eL, hz]; decide
          refine lv_aload_n hx hb dL_shoots_53 rfl (lv_at hl 3 rfl) ?_
          refine lv_iconst (v := 1) hx hb dL_shoots_54 (by decide) ?_
          refine lr_count (rest := []) (w := 1) S hK hN ht0 ht1 hA hD hW hS htl  (cwV 1 hts gL_shoots_X6_count rfl rfl rfl hdv_X6_count ⟨Nat.le_of_ble_eq_true rfl, Nat.le_of_ble_eq_true rfl⟩) rfl hl.1 (Nat.le_of_ble_eq_true rfl) dL_shoots_55 ⟨Nat.zero_le _, Nat.zero_le _⟩ (fun H locs hW hS => ?_)
          show W p9 l e9 (eR 20 1000) s9 m9 a9 b9 t9 c9 H locs 0 0 Q (F0 m9 58 ls [.int (couA t u q hs.length 1)])
          have hW : SW D cI cT o aT aB aS g y z ad t u hs sn q f s0 s1 s2 H := hW
          refine ej_topi (show (couA t u q hs.length 1) = T_le u from lkc_1 t u q hs.length) ?_
          refine ej_topi (show (T_le u) = nI L from eL) ?_
          refine lv_istore (lv' := [(5, .int (nI L)), (4, .int 0), (3, .int hv), (2, .int (nI k)), (0, .ref (o 0)), (1, .int yv)]) hx hb dL_shoots_58 hl (by decide) rfl (fun ls hl => ?_)
          refine lv_iload hx hb dL_shoots_60 (lv_at hl 1 rfl) ?_
          refine lv_if_eq (tgt := 69) hx hb dL_shoots_62 (by decide) (fun _ => ?_) (fun h9 => absurd (show (0 : Int32) = 0 from by decide) h9)
          refine lv_aload_n hx hb dL_shoots_69 rfl (lv_at hl 4 rfl) ?_
          refine lv_iload_n hx hb dL_shoots_70 rfl (lv_at hl 3 rfl) ?_
          refine lr_ends (rest := []) (k := k) S hK hN ht0 ht1 hA hD hW hS htl (by omega) (cwV 1 hts gL_shoots_X6_ends rfl rfl rfl hdv_X6_ends ⟨Nat.le_of_ble_eq_true rfl, Nat.le_of_ble_eq_true rfl⟩) rfl hl.1 (Nat.le_of_ble_eq_true rfl) dL_shoots_71 ⟨Nat.zero_le _, Nat.zero_le _⟩ (fun H locs hW hS => ?_)
          show W p9 l e9 (eR 20 1000) s9 m9 a9 b9 t9 c9 H locs 0 0 Q (F0 m9 74 ls [.int (nI (posT t k 5))])
          have hW : SW D cI cT o aT aB aS g y z ad t u hs sn q f s0 s1 s2 H := hW
          refine lv_istore (lv' := [(6, .int (nI (posT t k 5))), (5, .int (nI L)), (4, .int 0), (3, .int hv), (2, .int (nI k)), (0, .ref (o 0)), (1, .int yv)]) hx hb dL_shoots_74 hl (by decide) rfl (fun ls hl => ?_)
          refine lv_iload hx hb dL_shoots_76 (lv_at hl 2 rfl) ?_
          refine lv_if_eq (tgt := 85) hx hb dL_shoots_78 (by decide) (fun _ => ?_) (fun h9 => absurd (show (0 : Int32) = 0 from by decide) h9)
          refine lv_aload_n hx hb dL_shoots_85 rfl (lv_at hl 5 rfl) ?_
          refine lv_iload_n hx hb dL_shoots_86 rfl (lv_at hl 4 rfl) ?_
          refine lv_iload_n hx hb dL_shoots_87 rfl (lv_at hl 3 rfl) ?_
          refine lv_iconst (v := 1) hx hb dL_shoots_88 (by decide) ?_
          refine lv_iconst (v := 0) hx hb dL_shoots_89 (by decide) ?_
          refine lr_ifShot (rest := []) (k := k) (h := hv) (j := 1) (w := 0) S hK hN ht0 ht1 hA hD hW hS htl (by omega) (by omega) (by omega) (by decide) (cwV 4 hts gL_shoots_X6_ifShot rfl rfl rfl hdv_X6_ifShot ⟨Nat.le_of_ble_eq_true rfl, Nat.le_of_ble_eq_true rfl⟩) rfl hl.1 (Nat.le_of_ble_eq_true rfl) dL_shoots_90 ⟨Nat.zero_le _, Nat.zero_le _⟩ (fun H locs hW hS => ?_)
          show W p9 l e9 (eR 20 1000) s9 m9 a9 b9 t9 c9 H locs 0 0 Q (F0 m9 93 ls [.int (ifR t u (ifG t u k hv 1) 0)])
          have hW : SW D cI cT o aT aB aS g y z ad t u hs sn q f s0 s1 s2 H := hW
          refine ej_topi (show (ifR t u (ifG t u k hv 1) 0) = T_po (ifG t u k hv 1).2 - T_po u from rfl) ?_
          refine lv_istore (lv' := [(7, .int (T_po (ifG t u k hv 1).2 - T_po u)), (6, .int (nI (posT t k 5))), (5, .int (nI L)), (4, .int 0), (3, .int hv), (2, .int (nI k)), (0, .ref (o 0)), (1, .int yv)]) hx hb dL_shoots_93 hl (by decide) rfl (fun ls hl => ?_)
          refine lv_iload hx hb dL_shoots_95 (lv_at hl 3 rfl) ?_
          refine lv_if_eq (tgt := 104) hx hb dL_shoots_97 (by decide) (fun _ => ?_) (fun h9 => absurd (show (0 : Int32) = 0 from by decide) h9)
          refine lv_aload_n hx hb dL_shoots_104 rfl (lv_at hl 6 rfl) ?_
          refine lv_iload_n hx hb dL_shoots_105 rfl (lv_at hl 5 rfl) ?_
          refine lv_iload_n hx hb dL_shoots_106 rfl (lv_at hl 4 rfl) ?_
          refine lv_iconst (v := 1) hx hb dL_shoots_107 (by decide) ?_
          refine lv_iconst (v := 1) hx hb dL_shoots_108 (by decide) ?_
          refine lr_ifShot (rest := []) (k := k) (h := hv) (j := 1) (w := 1) S hK hN ht0 ht1 hA hD hW hS htl (by omega) (by omega) (by omega) (by decide) (cwV 4 hts gL_shoots_X6_ifShot rfl rfl rfl hdv_X6_ifShot ⟨Nat.le_of_ble_eq_true rfl, Nat.le_of_ble_eq_true rfl⟩) rfl hl.1 (Nat.le_of_ble_eq_true rfl) dL_shoots_109 ⟨Nat.zero_le _, Nat.zero_le _⟩ (fun H locs hW hS => ?_)
          show W p9 l e9 (eR 20 1000) s9 m9 a9 b9 t9 c9 H locs 0 0 Q (F0 m9 112 ls [.int (ifR t u (ifG t u k hv 1) 1)])
          have hW : SW D cI cT o aT aB aS g y z ad t u hs sn q f s0 s1 s2 H := hW
          refine ej_topi (show (ifR t u (ifG t u k hv 1) 1) = T_lo (ifG t u k hv 1).2 - T_lo u from rfl) ?_
          refine lv_istore (lv' := [(8, .int (T_lo (ifG t u k hv 1).2 - T_lo u)), (7, .int (T_po (ifG t u k hv 1).2 - T_po u)), (6, .int (nI (posT t k 5))), (5, .int (nI L)), (4, .int 0), (3, .int hv), (2, .int (nI k)), (0, .ref (o 0)), (1, .int yv)]) hx hb dL_shoots_112 hl (by decide) rfl (fun ls hl => ?_)
          refine lv_iload hx hb dL_shoots_114 (lv_at hl 4 rfl) ?_
          refine lv_if_eq (tgt := 123) hx hb dL_shoots_116 (by decide) (fun _ => ?_) (fun h9 => absurd (show (0 : Int32) = 0 from by decide) h9)
          refine lv_aload_n hx hb dL_shoots_123 rfl (lv_at hl 7 rfl) ?_
          refine lv_iload_n hx hb dL_shoots_124 rfl (lv_at hl 6 rfl) ?_
          refine lv_iload_n hx hb dL_shoots_125 rfl (lv_at hl 5 rfl) ?_
          refine lv_iconst (v := 1) hx hb dL_shoots_126 (by decide) ?_
          refine lv_iconst (v := 2) hx hb dL_shoots_127 (by decide) ?_
          refine lr_ifShot (rest := []) (k := k) (h := hv) (j := 1) (w := 2) S hK hN ht0 ht1 hA hD hW hS htl (by omega) (by omega) (by omega) (by decide) (cwV 4 hts gL_shoots_X6_ifShot rfl rfl rfl hdv_X6_ifShot ⟨Nat.le_of_ble_eq_true rfl, Nat.le_of_ble_eq_true rfl⟩) rfl hl.1 (Nat.le_of_ble_eq_true rfl) dL_shoots_128 ⟨Nat.zero_le _, Nat.zero_le _⟩ (fun H locs hW hS => ?_)
          show W p9 l e9 (eR 20 1000) s9 m9 a9 b9 t9 c9 H locs 0 0 Q (F0 m9 131 ls [.int (ifR t u (ifG t u k hv 1) 2)])
          have hW : SW D cI cT o aT aB aS g y z ad t u hs sn q f s0 s1 s2 H := hW
          refine ej_topi (show (ifR t u (ifG t u k hv 1) 2) = nI (fwdM (ifG t u k hv 1).1 5) from rfl) ?_
          refine lv_istore (lv' := [(9, .int (nI (fwdM (ifG t u k hv 1).1 5))), (8, .int (T_lo (ifG t u k hv 1).2 - T_lo u)), (7, .int (T_po (ifG t u k hv 1).2 - T_po u)), (6, .int (nI (posT t k 5))), (5, .int (nI L)), (4, .int 0), (3, .int hv), (2, .int (nI k)), (0, .ref (o 0)), (1, .int yv)]) hx hb dL_shoots_131 hl (by decide) rfl (fun ls hl => ?_)
          refine lv_aload_n hx hb dL_shoots_133 rfl (lv_at hl 8 rfl) ?_
          refine lv_iload hx hb dL_shoots_134 (lv_at hl 3 rfl) ?_
          refine lv_iconst (v := 3) hx hb dL_shoots_136 (by decide) ?_
          refine lr_pocket (rest := []) (k := posT t k 5) (w := 3) S hK hN ht0 ht1 hA hD hW hS htl (by omega) (cwV 2 hts gL_shoots_X6_pocket rfl rfl rfl hdv_X6_pocket ⟨Nat.le_of_ble_eq_true rfl, Nat.le_of_ble_eq_true rfl⟩) rfl hl.1 (Nat.le_of_ble_eq_true rfl) dL_shoots_137 ⟨Nat.zero_le _, Nat.zero_le _⟩ (fun H locs hW hS => ?_)
          show W p9 l e9 (eR 20 1000) s9 m9 a9 b9 t9 c9 H locs 0 0 Q (F0 m9 140 ls [.int (pocR t u (posT t k 5) 3)])
          have hW : SW D cI cT o aT aB aS g y z ad t u hs sn q f s0 s1 s2 H := hW
          refine ej_topi (show (pocR t u (posT t k 5) 3) = T_en u (posT t k 5) from lkw_3 t u (posT t k 5)) ?_
          refine lv_istore (lv' := [(10, .int (T_en u (posT t k 5))), (9, .int (nI (fwdM (ifG t u k hv 1).1 5))), (8, .int (T_lo (ifG t u k hv 1).2 - T_lo u)), (7, .int (T_po (ifG t u k hv 1).2 - T_po u)), (6, .int (nI (posT t k 5))), (5, .int (nI L)), (4, .int 0), (3, .int hv), (2, .int (nI k)), (0, .ref (o 0)), (1, .int yv)]) hx hb dL_shoots_140 hl (by decide) rfl (fun ls hl => ?_)
          refine lv_aload_n hx hb dL_shoots_142 rfl (lv_at hl 9 rfl) ?_
          refine lv_iconst (v := 0) hx hb dL_shoots_143 (by decide) ?_
          refine lr_count (rest := []) (w := 0) S hK hN ht0 ht1 hA hD hW hS htl  (cwV 1 hts gL_shoots_X6_count rfl rfl rfl hdv_X6_count ⟨Nat.le_of_ble_eq_true rfl, Nat.le_of_ble_eq_true rfl⟩) rfl hl.1 (Nat.le_of_ble_eq_true rfl) dL_shoots_144 ⟨Nat.zero_le _, Nat.zero_le _⟩ (fun H locs hW hS => ?_)
          show W p9 l e9 (eR 20 1000) s9 m9 a9 b9 t9 c9 H locs 0 0 Q (F0 m9 147 ls [.int (couA t u q hs.length 0)])
          have hW : SW D cI cT o aT aB aS g y z ad t u hs sn q f s0 s1 s2 H := hW
          refine ej_topi (show (couA t u q hs.length 0) = T_po u from lkc_0 t u q hs.length) ?_
          refine lv_istore (lv' := [(11, .int (T_po u)), (10, .int (T_en u (posT t k 5))), (9, .int (nI (fwdM (ifG t u k hv 1).1 5))), (8, .int (T_lo (ifG t u k hv 1).2 - T_lo u)), (7, .int (T_po (ifG t u k hv 1).2 - T_po u)), (6, .int (nI (posT t k 5))), (5, .int (nI L)), (4, .int 0), (3, .int hv), (2, .int (nI k)), (0, .ref (o 0)), (1, .int yv)]) hx hb dL_shoots_147 hl (by decide) rfl (fun ls hl => ?_)
          refine lv_aload_n hx hb dL_shoots_149 rfl (lv_at hl 10 rfl) ?_
          refine lv_iconst (v := 3) hx hb dL_shoots_150 (by decide) ?_
          refine lr_count (rest := []) (w := 3) S hK hN ht0 ht1 hA hD hW hS htl  (cwV 1 hts gL_shoots_X6_count rfl rfl rfl hdv_X6_count ⟨Nat.le_of_ble_eq_true rfl, Nat.le_of_ble_eq_true rfl⟩) rfl hl.1 (Nat.le_of_ble_eq_true rfl) dL_shoots_151 ⟨Nat.zero_le _, Nat.zero_le _⟩ (fun H locs hW hS => ?_)
          show W p9 l e9 (eR 20 1000) s9 m9 a9 b9 t9 c9 H locs 0 0 Q (F0 m9 154 ls [.int (couA t u q hs.length 3)])
          have hW : SW D cI cT o aT aB aS g y z ad t u hs sn q f s0 s1 s2 H := hW
          refine ej_topi (show (couA t u q hs.length 3) = T_lo u from lkc_3 t u q hs.length) ?_
          refine lv_istore (lv' := [(12, .int (T_lo u)), (11, .int (T_po u)), (10, .int (T_en u (posT t k 5))), (9, .int (nI (fwdM (ifG t u k hv 1).1 5))), (8, .int (T_lo (ifG t u k hv 1).2 - T_lo u)), (7, .int (T_po (ifG t u k hv 1).2 - T_po u)), (6, .int (nI (posT t k 5))), (5, .int (nI L)), (4, .int 0), (3, .int hv), (2, .int (nI k)), (0, .ref (o 0)), (1, .int yv)]) hx hb dL_shoots_154 hl (by decide) rfl (fun ls hl => ?_)
          refine lv_aload_n hx hb dL_shoots_156 rfl (lv_at hl 11 rfl) ?_
          refine lv_bipush (v := 6) hx hb dL_shoots_157 (by decide) ?_
          refine lr_count (rest := []) (w := 6) S hK hN ht0 ht1 hA hD hW hS htl  (cwV 1 hts gL_shoots_X6_count rfl rfl rfl hdv_X6_count ⟨Nat.le_of_ble_eq_true rfl, Nat.le_of_ble_eq_true rfl⟩) rfl hl.1 (Nat.le_of_ble_eq_true rfl) dL_shoots_159 ⟨Nat.zero_le _, Nat.zero_le _⟩ (fun H locs hW hS => ?_)
          show W p9 l e9 (eR 20 1000) s9 m9 a9 b9 t9 c9 H locs 0 0 Q (F0 m9 162 ls [.int (couA t u q hs.length 6)])
          have hW : SW D cI cT o aT aB aS g y z ad t u hs sn q f s0 s1 s2 H := hW
          refine ej_topi (show (couA t u q hs.length 6) = bndS t from lkc_6 t u q hs.length) ?_
          refine lv_istore (lv' := [(13, .int (bndS t)), (12, .int (T_lo u)), (11, .int (T_po u)), (10, .int (T_en u (posT t k 5))), (9, .int (nI (fwdM (ifG t u k hv 1).1 5))), (8, .int (T_lo (ifG t u k hv 1).2 - T_lo u)), (7, .int (T_po (ifG t u k hv 1).2 - T_po u)), (6, .int (nI (posT t k 5))), (5, .int (nI L)), (4, .int 0), (3, .int hv), (2, .int (nI k)), (0, .ref (o 0)), (1, .int yv)]) hx hb dL_shoots_162 hl (by decide) rfl (fun ls hl => ?_)
          refine lv_aload_n hx hb dL_shoots_164 rfl (lv_at hl 12 rfl) ?_
          refine lv_bipush (v := 12) hx hb dL_shoots_165 (by decide) ?_
          refine lr_count (rest := []) (w := 12) S hK hN ht0 ht1 hA hD hW hS htl  (cwV 1 hts gL_shoots_X6_count rfl rfl rfl hdv_X6_count ⟨Nat.le_of_ble_eq_true rfl, Nat.le_of_ble_eq_true rfl⟩) rfl hl.1 (Nat.le_of_ble_eq_true rfl) dL_shoots_167 ⟨Nat.zero_le _, Nat.zero_le _⟩ (fun H locs hW hS => ?_)
          show W p9 l e9 (eR 20 1000) s9 m9 a9 b9 t9 c9 H locs 0 0 Q (F0 m9 170 ls [.int (couA t u q hs.length 12)])
          have hW : SW D cI cT o aT aB aS g y z ad t u hs sn q f s0 s1 s2 H := hW
          refine ej_topi (show (couA t u q hs.length 12) = P_ri t from lkc_12 t u q hs.length) ?_
          refine lv_istore (lv' := [(14, .int (P_ri t)), (13, .int (bndS t)), (12, .int (T_lo u)), (11, .int (T_po u)), (10, .int (T_en u (posT t k 5))), (9, .int (nI (fwdM (ifG t u k hv 1).1 5))), (8, .int (T_lo (ifG t u k hv 1).2 - T_lo u)), (7, .int (T_po (ifG t u k hv 1).2 - T_po u)), (6, .int (nI (posT t k 5))), (5, .int (nI L)), (4, .int 0), (3, .int hv), (2, .int (nI k)), (0, .ref (o 0)), (1, .int yv)]) hx hb dL_shoots_170 hl (by decide) rfl (fun ls hl => ?_)
          refine lv_aload_n hx hb dL_shoots_172 rfl (lv_at hl 13 rfl) ?_
          refine lv_bipush (v := 14) hx hb dL_shoots_173 (by decide) ?_
          refine lr_count (rest := []) (w := 14) S hK hN ht0 ht1 hA hD hW hS htl  (cwV 1 hts gL_shoots_X6_count rfl rfl rfl hdv_X6_count ⟨Nat.le_of_ble_eq_true rfl, Nat.le_of_ble_eq_true rfl⟩) rfl hl.1 (Nat.le_of_ble_eq_true rfl) dL_shoots_175 ⟨Nat.zero_le _, Nat.zero_le _⟩ (fun H locs hW hS => ?_)
          show W p9 l e9 (eR 20 1000) s9 m9 a9 b9 t9 c9 H locs 0 0 Q (F0 m9 178 ls [.int (couA t u q hs.length 14)])
          have hW : SW D cI cT o aT aB aS g y z ad t u hs sn q f s0 s1 s2 H := hW
          refine ej_topi (show (couA t u q hs.length 14) = T_re u from lkc_14 t u q hs.length) ?_
          refine lv_istore (lv' := [(15, .int (T_re u)), (14, .int (P_ri t)), (13, .int (bndS t)), (12, .int (T_lo u)), (11, .int (T_po u)), (10, .int (T_en u (posT t k 5))), (9, .int (nI (fwdM (ifG t u k hv 1).1 5))), (8, .int (T_lo (ifG t u k hv 1).2 - T_lo u)), (7, .int (T_po (ifG t u k hv 1).2 - T_po u)), (6, .int (nI (posT t k 5))), (5, .int (nI L)), (4, .int 0), (3, .int hv), (2, .int (nI k)), (0, .ref (o 0)), (1, .int yv)]) hx hb dL_shoots_178 hl (by decide) rfl (fun ls hl => ?_)
          refine lv_aload_n hx hb dL_shoots_180 rfl (lv_at hl 14 rfl) ?_
          refine lv_iload_n hx hb dL_shoots_181 rfl (lv_at hl 13 rfl) ?_
          refine lv_iload_n hx hb dL_shoots_182 rfl (lv_at hl 12 rfl) ?_
          refine lr_shoot (rest := []) (k := k) (h := hv) S hK hN ht0 ht1 hA hD hW hS htl (by omega) (cwV 2 hts gL_shoots_X6_shoot rfl rfl rfl hdv_X6_shoot ⟨Nat.le_of_ble_eq_true rfl, Nat.le_of_ble_eq_true rfl⟩) rfl hl.1 (Nat.le_of_ble_eq_true rfl) dL_shoots_183 ⟨Nat.zero_le _, Nat.zero_le _⟩ (fun H locs hW hS => ?_)
          show W p9 l e9 (eR 20 1000) s9 m9 a9 b9 t9 c9 H locs 0 0 Q (F0 m9 186 ls [.int (shR t u k hv)])
          have hW : SW D cI cT o aT aB aS g y z ad (shP t u k hv) (shU t u k hv) (recL hs (t, u)) sn q f s0 s1 s2 H := hW
          refine ej_topi (show (shR t u k hv) = 1 from (if_neg hln)) ?_
          refine lv_istore (lv' := [(16, .int 1), (15, .int (T_re u)), (14, .int (P_ri t)), (13, .int (bndS t)), (12, .int (T_lo u)), (11, .int (T_po u)), (10, .int (T_en u (posT t k 5))), (9, .int (nI (fwdM (ifG t u k hv 1).1 5))), (8, .int (T_lo (ifG t u k hv 1).2 - T_lo u)), (7, .int (T_po (ifG t u k hv 1).2 - T_po u)), (6, .int (nI (posT t k 5))), (5, .int (nI L)), (4, .int 0), (3, .int hv), (2, .int (nI k)), (0, .ref (o 0)), (1, .int yv)]) hx hb dL_shoots_186 hl (by decide) rfl (fun ls hl => ?_)
          refine lv_iload hx hb dL_shoots_188 (lv_at hl 12 rfl) ?_
          refine lv_if_ne (tgt := 198) hx hb dL_shoots_190 (by decide) (fun h9 => absurd (show (0 : Int32) = 0 from by decide) h9) (fun _ => ?_)
          refine lv_iload hx hb dL_shoots_193 (lv_at hl 11 rfl) ?_
          refine lv_if_ne (tgt := 251) hx hb dL_shoots_195 (by decide) (fun h9 => absurd (congrArg nI (show L = 0 from hz)) h9) (fun _ => ?_)
          refine lv_iload hx hb dL_shoots_198 (lv_at hl 0 rfl) ?_
          refine lv_iload hx hb dL_shoots_200 (lv_at hl 12 rfl) ?_
          refine lv_if_eq (tgt := 209) hx hb dL_shoots_202 (by decide) (fun _ => ?_) (fun h9 => absurd (show (0 : Int32) = 0 from by decide) h9)
          refine lv_iconst (v := 1) hx hb dL_shoots_209 (by decide) ?_
          refine lv_icmp_ne (tgt := 249) hx hb dL_shoots_210 (by decide) (fun h9 => absurd (show (1 : Int32) = 1 from by decide) h9) (fun _ => ?_)
          refine lv_aload_n hx hb dL_shoots_213 rfl (lv_at hl 15 rfl) ?_
          refine lv_bipush (v := 14) hx hb dL_shoots_214 (by decide) ?_
          refine lr_count (rest := []) (w := 14) S hK hN ht0 ht1 hA hD hW hS (shP_til u k hv htl)  (cwV 1 hts gL_shoots_X6_count rfl rfl rfl hdv_X6_count ⟨Nat.le_of_ble_eq_true rfl, Nat.le_of_ble_eq_true rfl⟩) rfl hl.1 (Nat.le_of_ble_eq_true rfl) dL_shoots_216 ⟨Nat.zero_le _, Nat.zero_le _⟩ (fun H locs hW hS => ?_)
          show W p9 l e9 (eR 20 1000) s9 m9 a9 b9 t9 c9 H locs 0 0 Q (F0 m9 219 ls [.int (couA (shP t u k hv) (shU t u k hv) q (recL hs (t, u)).length 14)])
          have hW : SW D cI cT o aT aB aS g y z ad (shP t u k hv) (shU t u k hv) (recL hs (t, u)) sn q f s0 s1 s2 H := hW
          refine ej_topi (show (couA (shP t u k hv) (shU t u k hv) q (recL hs (t, u)).length 14) = T_re (shU t u k hv) from lkc_14 (shP t u k hv) (shU t u k hv) q ((recL hs (t, u)).length)) ?_
          refine lv_iload hx hb dL_shoots_219 (lv_at hl 1 rfl) ?_
          refine lv_iload hx hb dL_shoots_221 (lv_at hl 12 rfl) ?_
          refine lv_if_eq (tgt := 230) hx hb dL_shoots_223 (by decide) (fun _ => ?_) (fun h9 => absurd (show (0 : Int32) = 0 from by decide) h9)
          refine lv_iconst (v := 1) hx hb dL_shoots_230 (by decide) ?_
          refine lv_iadd hx hb dL_shoots_231 ?_
          refine lv_icmp_ne (tgt := 249) hx hb dL_shoots_232 (by decide) (fun h9 => absurd ((by rw [shU_no hln])) h9) (fun _ => ?_)
          refine lv_aload_n hx hb dL_shoots_235 rfl (lv_at hl 15 rfl) ?_
          refine lv_iconst (v := 0) hx hb dL_shoots_236 (by decide) ?_
          refine lr_count (rest := []) (w := 0) S hK hN ht0 ht1 hA hD hW hS (shP_til u k hv htl)  (cwV 1 hts gL_shoots_X6_count rfl rfl rfl hdv_X6_count ⟨Nat.le_of_ble_eq_true rfl, Nat.le_of_ble_eq_true rfl⟩) rfl hl.1 (Nat.le_of_ble_eq_true rfl) dL_shoots_237 ⟨Nat.zero_le _, Nat.zero_le _⟩ (fun H locs hW hS => ?_)
          show W p9 l e9 (eR 20 1000) s9 m9 a9 b9 t9 c9 H locs 0 0 Q (F0 m9 240 ls [.int (couA (shP t u k hv) (shU t u k hv) q (recL hs (t, u)).length 0)])
          have hW : SW D cI cT o aT aB aS g y z ad (shP t u k hv) (shU t u k hv) (recL hs (t, u)) sn q f s0 s1 s2 H := hW
          refine ej_topi (show (couA (shP t u k hv) (shU t u k hv) q (recL hs (t, u)).length 0) = T_po (shU t u k hv) from lkc_0 (shP t u k hv) (shU t u k hv) q ((recL hs (t, u)).length)) ?_
          refine lv_iload hx hb dL_shoots_240 (lv_at hl 5 rfl) ?_
          refine lv_icmp_ne (tgt := 249) hx hb dL_shoots_242 (by decide) (fun h9 => absurd ((by rw [shU_no hln])) h9) (fun _ => ?_)
          refine lv_iconst (v := 1) hx hb dL_shoots_245 (by decide) ?_
          refine lv_goto (tgt := 250) hx hb dL_shoots_246 (by decide) ?_
          exact hQ _ _ _ _ _ _ _ _ _ _ _ _ _ dL_shoots_250 rfl (by exact ⟨rfl, okS_up (okS_sh hv hk ho) (by omega), Or.inr rfl⟩) hW hS
        · have hlp : 0 < T_le u := by rw [eL]; exact ej_lt (a := 0) (b := L) (by omega) (by omega)
          refine lv_aload_n hx hb dL_shoots_53 rfl (lv_at hl 3 rfl) ?_
          refine lv_iconst (v := 1) hx hb dL_shoots_54 (by decide) ?_
          refine lr_count (rest := []) (w := 1) S hK hN ht0 ht1 hA hD hW hS htl  (cwV 1 hts gL_shoots_X6_count rfl rfl rfl hdv_X6_count ⟨Nat.le_of_ble_eq_true rfl, Nat.le_of_ble_eq_true rfl⟩) rfl hl.1 (Nat.le_of_ble_eq_true rfl) dL_shoots_55 ⟨Nat.zero_le _, Nat.zero_le _⟩ (fun H locs hW hS => ?_)
          show W p9 l e9 (eR 20 1000) s9 m9 a9 b9 t9 c9 H locs 0 0 Q (F0 m9 58 ls [.int (couA t u q hs.length 1)])
          have hW : SW D cI cT o aT aB aS g y z ad t u hs sn q f s0 s1 s2 H := hW
          refine ej_topi (show (couA t u q hs.length 1) = T_le u from lkc_1 t u q hs.length) ?_
          refine ej_topi (show (T_le u) = nI L from eL) ?_
          refine lv_istore (lv' := [(5, .int (nI L)), (4, .int 0), (3, .int hv), (2, .int (nI k)), (0, .ref (o 0)), (1, .int yv)]) hx hb dL_shoots_58 hl (by decide) rfl (fun ls hl => ?_)
          refine lv_iload hx hb dL_shoots_60 (lv_at hl 1 rfl) ?_
          refine lv_if_eq (tgt := 69) hx hb dL_shoots_62 (by decide) (fun _ => ?_) (fun h9 => absurd (show (0 : Int32) = 0 from by decide) h9)
          refine lv_aload_n hx hb dL_shoots_69 rfl (lv_at hl 4 rfl) ?_
          refine lv_iload_n hx hb dL_shoots_70 rfl (lv_at hl 3 rfl) ?_
          refine lr_ends (rest := []) (k := k) S hK hN ht0 ht1 hA hD hW hS htl (by omega) (cwV 1 hts gL_shoots_X6_ends rfl rfl rfl hdv_X6_ends ⟨Nat.le_of_ble_eq_true rfl, Nat.le_of_ble_eq_true rfl⟩) rfl hl.1 (Nat.le_of_ble_eq_true rfl) dL_shoots_71 ⟨Nat.zero_le _, Nat.zero_le _⟩ (fun H locs hW hS => ?_)
          show W p9 l e9 (eR 20 1000) s9 m9 a9 b9 t9 c9 H locs 0 0 Q (F0 m9 74 ls [.int (nI (posT t k 5))])
          have hW : SW D cI cT o aT aB aS g y z ad t u hs sn q f s0 s1 s2 H := hW
          refine lv_istore (lv' := [(6, .int (nI (posT t k 5))), (5, .int (nI L)), (4, .int 0), (3, .int hv), (2, .int (nI k)), (0, .ref (o 0)), (1, .int yv)]) hx hb dL_shoots_74 hl (by decide) rfl (fun ls hl => ?_)
          refine lv_iload hx hb dL_shoots_76 (lv_at hl 2 rfl) ?_
          refine lv_if_eq (tgt := 85) hx hb dL_shoots_78 (by decide) (fun _ => ?_) (fun h9 => absurd (show (0 : Int32) = 0 from by decide) h9)
          refine lv_aload_n hx hb dL_shoots_85 rfl (lv_at hl 5 rfl) ?_
          refine lv_iload_n hx hb dL_shoots_86 rfl (lv_at hl 4 rfl) ?_
          refine lv_iload_n hx hb dL_shoots_87 rfl (lv_at hl 3 rfl) ?_
          refine lv_iconst (v := 1) hx hb dL_shoots_88 (by decide) ?_
          refine lv_iconst (v := 0) hx hb dL_shoots_89 (by decide) ?_
          refine lr_ifShot (rest := []) (k := k) (h := hv) (j := 1) (w := 0) S hK hN ht0 ht1 hA hD hW hS htl (by omega) (by omega) (by omega) (by decide) (cwV 4 hts gL_shoots_X6_ifShot rfl rfl rfl hdv_X6_ifShot ⟨Nat.le_of_ble_eq_true rfl, Nat.le_of_ble_eq_true rfl⟩) rfl hl.1 (Nat.le_of_ble_eq_true rfl) dL_shoots_90 ⟨Nat.zero_le _, Nat.zero_le _⟩ (fun H locs hW hS => ?_)
          show W p9 l e9 (eR 20 1000) s9 m9 a9 b9 t9 c9 H locs 0 0 Q (F0 m9 93 ls [.int (ifR t u (ifG t u k hv 1) 0)])
          have hW : SW D cI cT o aT aB aS g y z ad t u hs sn q f s0 s1 s2 H := hW
          refine ej_topi (show (ifR t u (ifG t u k hv 1) 0) = T_po (ifG t u k hv 1).2 - T_po u from rfl) ?_
          refine ej_topi (show (T_po (ifG t u k hv 1).2 - T_po u) = shG t u k hv from if1_po hlp) ?_
          refine lv_istore (lv' := [(7, .int (shG t u k hv)), (6, .int (nI (posT t k 5))), (5, .int (nI L)), (4, .int 0), (3, .int hv), (2, .int (nI k)), (0, .ref (o 0)), (1, .int yv)]) hx hb dL_shoots_93 hl (by decide) rfl (fun ls hl => ?_)
          refine lv_iload hx hb dL_shoots_95 (lv_at hl 3 rfl) ?_
          refine lv_if_eq (tgt := 104) hx hb dL_shoots_97 (by decide) (fun _ => ?_) (fun h9 => absurd (show (0 : Int32) = 0 from by decide) h9)
          refine lv_aload_n hx hb dL_shoots_104 rfl (lv_at hl 6 rfl) ?_
          refine lv_iload_n hx hb dL_shoots_105 rfl (lv_at hl 5 rfl) ?_
          refine lv_iload_n hx hb dL_shoots_106 rfl (lv_at hl 4 rfl) ?_
          refine lv_iconst (v := 1) hx hb dL_shoots_107 (by decide) ?_
          refine lv_iconst (v := 1) hx hb dL_shoots_108 (by decide) ?_
          refine lr_ifShot (rest := []) (k := k) (h := hv) (j := 1) (w := 1) S hK hN ht0 ht1 hA hD hW hS htl (by omega) (by omega) (by omega) (by decide) (cwV 4 hts gL_shoots_X6_ifShot rfl rfl rfl hdv_X6_ifShot ⟨Nat.le_of_ble_eq_true rfl, Nat.le_of_ble_eq_true rfl⟩) rfl hl.1 (Nat.le_of_ble_eq_true rfl) dL_shoots_109 ⟨Nat.zero_le _, Nat.zero_le _⟩ (fun H locs hW hS => ?_)
          show W p9 l e9 (eR 20 1000) s9 m9 a9 b9 t9 c9 H locs 0 0 Q (F0 m9 112 ls [.int (ifR t u (ifG t u k hv 1) 1)])
          have hW : SW D cI cT o aT aB aS g y z ad t u hs sn q f s0 s1 s2 H := hW
          refine ej_topi (show (ifR t u (ifG t u k hv 1) 1) = T_lo (ifG t u k hv 1).2 - T_lo u from rfl) ?_
          refine ej_topi (show (T_lo (ifG t u k hv 1).2 - T_lo u) = loG t u k hv from if1_lo hlp) ?_
          refine lv_istore (lv' := [(8, .int (loG t u k hv)), (7, .int (shG t u k hv)), (6, .int (nI (posT t k 5))), (5, .int (nI L)), (4, .int 0), (3, .int hv), (2, .int (nI k)), (0, .ref (o 0)), (1, .int yv)]) hx hb dL_shoots_112 hl (by decide) rfl (fun ls hl => ?_)
          refine lv_iload hx hb dL_shoots_114 (lv_at hl 4 rfl) ?_
          refine lv_if_eq (tgt := 123) hx hb dL_shoots_116 (by decide) (fun _ => ?_) (fun h9 => absurd (show (0 : Int32) = 0 from by decide) h9)
          refine lv_aload_n hx hb dL_shoots_123 rfl (lv_at hl 7 rfl) ?_
          refine lv_iload_n hx hb dL_shoots_124 rfl (lv_at hl 6 rfl) ?_
          refine lv_iload_n hx hb dL_shoots_125 rfl (lv_at hl 5 rfl) ?_
          refine lv_iconst (v := 1) hx hb dL_shoots_126 (by decide) ?_
          refine lv_iconst (v := 2) hx hb dL_shoots_127 (by decide) ?_
          refine lr_ifShot (rest := []) (k := k) (h := hv) (j := 1) (w := 2) S hK hN ht0 ht1 hA hD hW hS htl (by omega) (by omega) (by omega) (by decide) (cwV 4 hts gL_shoots_X6_ifShot rfl rfl rfl hdv_X6_ifShot ⟨Nat.le_of_ble_eq_true rfl, Nat.le_of_ble_eq_true rfl⟩) rfl hl.1 (Nat.le_of_ble_eq_true rfl) dL_shoots_128 ⟨Nat.zero_le _, Nat.zero_le _⟩ (fun H locs hW hS => ?_)
          show W p9 l e9 (eR 20 1000) s9 m9 a9 b9 t9 c9 H locs 0 0 Q (F0 m9 131 ls [.int (ifR t u (ifG t u k hv 1) 2)])
          have hW : SW D cI cT o aT aB aS g y z ad t u hs sn q f s0 s1 s2 H := hW
          refine ej_topi (show (ifR t u (ifG t u k hv 1) 2) = nI (fwdM (ifG t u k hv 1).1 5) from rfl) ?_
          refine ej_topi (show (nI (fwdM (ifG t u k hv 1).1 5)) = nI (fwdM (shP t u k hv) 5) from (by rw [if1_P hlp])) ?_
          refine lv_istore (lv' := [(9, .int (nI (fwdM (shP t u k hv) 5))), (8, .int (loG t u k hv)), (7, .int (shG t u k hv)), (6, .int (nI (posT t k 5))), (5, .int (nI L)), (4, .int 0), (3, .int hv), (2, .int (nI k)), (0, .ref (o 0)), (1, .int yv)]) hx hb dL_shoots_131 hl (by decide) rfl (fun ls hl => ?_)
          refine lv_aload_n hx hb dL_shoots_133 rfl (lv_at hl 8 rfl) ?_
          refine lv_iload hx hb dL_shoots_134 (lv_at hl 3 rfl) ?_
          refine lv_iconst (v := 3) hx hb dL_shoots_136 (by decide) ?_
          refine lr_pocket (rest := []) (k := posT t k 5) (w := 3) S hK hN ht0 ht1 hA hD hW hS htl (by omega) (cwV 2 hts gL_shoots_X6_pocket rfl rfl rfl hdv_X6_pocket ⟨Nat.le_of_ble_eq_true rfl, Nat.le_of_ble_eq_true rfl⟩) rfl hl.1 (Nat.le_of_ble_eq_true rfl) dL_shoots_137 ⟨Nat.zero_le _, Nat.zero_le _⟩ (fun H locs hW hS => ?_)
          show W p9 l e9 (eR 20 1000) s9 m9 a9 b9 t9 c9 H locs 0 0 Q (F0 m9 140 ls [.int (pocR t u (posT t k 5) 3)])
          have hW : SW D cI cT o aT aB aS g y z ad t u hs sn q f s0 s1 s2 H := hW
          refine ej_topi (show (pocR t u (posT t k 5) 3) = T_en u (posT t k 5) from lkw_3 t u (posT t k 5)) ?_
          refine lv_istore (lv' := [(10, .int (T_en u (posT t k 5))), (9, .int (nI (fwdM (shP t u k hv) 5))), (8, .int (loG t u k hv)), (7, .int (shG t u k hv)), (6, .int (nI (posT t k 5))), (5, .int (nI L)), (4, .int 0), (3, .int hv), (2, .int (nI k)), (0, .ref (o 0)), (1, .int yv)]) hx hb dL_shoots_140 hl (by decide) rfl (fun ls hl => ?_)
          refine lv_aload_n hx hb dL_shoots_142 rfl (lv_at hl 9 rfl) ?_
          refine lv_iconst (v := 0) hx hb dL_shoots_143 (by decide) ?_
          refine lr_count (rest := []) (w := 0) S hK hN ht0 ht1 hA hD hW hS htl  (cwV 1 hts gL_shoots_X6_count rfl rfl rfl hdv_X6_count ⟨Nat.le_of_ble_eq_true rfl, Nat.le_of_ble_eq_true rfl⟩) rfl hl.1 (Nat.le_of_ble_eq_true rfl) dL_shoots_144 ⟨Nat.zero_le _, Nat.zero_le _⟩ (fun H locs hW hS => ?_)
          show W p9 l e9 (eR 20 1000) s9 m9 a9 b9 t9 c9 H locs 0 0 Q (F0 m9 147 ls [.int (couA t u q hs.length 0)])
          have hW : SW D cI cT o aT aB aS g y z ad t u hs sn q f s0 s1 s2 H := hW
          refine ej_topi (show (couA t u q hs.length 0) = T_po u from lkc_0 t u q hs.length) ?_
          refine lv_istore (lv' := [(11, .int (T_po u)), (10, .int (T_en u (posT t k 5))), (9, .int (nI (fwdM (shP t u k hv) 5))), (8, .int (loG t u k hv)), (7, .int (shG t u k hv)), (6, .int (nI (posT t k 5))), (5, .int (nI L)), (4, .int 0), (3, .int hv), (2, .int (nI k)), (0, .ref (o 0)), (1, .int yv)]) hx hb dL_shoots_147 hl (by decide) rfl (fun ls hl => ?_)
          refine lv_aload_n hx hb dL_shoots_149 rfl (lv_at hl 10 rfl) ?_
          refine lv_iconst (v := 3) hx hb dL_shoots_150 (by decide) ?_
          refine lr_count (rest := []) (w := 3) S hK hN ht0 ht1 hA hD hW hS htl  (cwV 1 hts gL_shoots_X6_count rfl rfl rfl hdv_X6_count ⟨Nat.le_of_ble_eq_true rfl, Nat.le_of_ble_eq_true rfl⟩) rfl hl.1 (Nat.le_of_ble_eq_true rfl) dL_shoots_151 ⟨Nat.zero_le _, Nat.zero_le _⟩ (fun H locs hW hS => ?_)
          show W p9 l e9 (eR 20 1000) s9 m9 a9 b9 t9 c9 H locs 0 0 Q (F0 m9 154 ls [.int (couA t u q hs.length 3)])
          have hW : SW D cI cT o aT aB aS g y z ad t u hs sn q f s0 s1 s2 H := hW
          refine ej_topi (show (couA t u q hs.length 3) = T_lo u from lkc_3 t u q hs.length) ?_
          refine lv_istore (lv' := [(12, .int (T_lo u)), (11, .int (T_po u)), (10, .int (T_en u (posT t k 5))), (9, .int (nI (fwdM (shP t u k hv) 5))), (8, .int (loG t u k hv)), (7, .int (shG t u k hv)), (6, .int (nI (posT t k 5))), (5, .int (nI L)), (4, .int 0), (3, .int hv), (2, .int (nI k)), (0, .ref (o 0)), (1, .int yv)]) hx hb dL_shoots_154 hl (by decide) rfl (fun ls hl => ?_)
          refine lv_aload_n hx hb dL_shoots_156 rfl (lv_at hl 11 rfl) ?_
          refine lv_bipush (v := 6) hx hb dL_shoots_157 (by decide) ?_
          refine lr_count (rest := []) (w := 6) S hK hN ht0 ht1 hA hD hW hS htl  (cwV 1 hts gL_shoots_X6_count rfl rfl rfl hdv_X6_count ⟨Nat.le_of_ble_eq_true rfl, Nat.le_of_ble_eq_true rfl⟩) rfl hl.1 (Nat.le_of_ble_eq_true rfl) dL_shoots_159 ⟨Nat.zero_le _, Nat.zero_le _⟩ (fun H locs hW hS => ?_)
          show W p9 l e9 (eR 20 1000) s9 m9 a9 b9 t9 c9 H locs 0 0 Q (F0 m9 162 ls [.int (couA t u q hs.length 6)])
          have hW : SW D cI cT o aT aB aS g y z ad t u hs sn q f s0 s1 s2 H := hW
          refine ej_topi (show (couA t u q hs.length 6) = bndS t from lkc_6 t u q hs.length) ?_
          refine lv_istore (lv' := [(13, .int (bndS t)), (12, .int (T_lo u)), (11, .int (T_po u)), (10, .int (T_en u (posT t k 5))), (9, .int (nI (fwdM (shP t u k hv) 5))), (8, .int (loG t u k hv)), (7, .int (shG t u k hv)), (6, .int (nI (posT t k 5))), (5, .int (nI L)), (4, .int 0), (3, .int hv), (2, .int (nI k)), (0, .ref (o 0)), (1, .int yv)]) hx hb dL_shoots_162 hl (by decide) rfl (fun ls hl => ?_)
          refine lv_aload_n hx hb dL_shoots_164 rfl (lv_at hl 12 rfl) ?_
          refine lv_bipush (v := 12) hx hb dL_shoots_165 (by decide) ?_
          refine lr_count (rest := []) (w := 12) S hK hN ht0 ht1 hA hD hW hS htl  (cwV 1 hts gL_shoots_X6_count rfl rfl rfl hdv_X6_count ⟨Nat.le_of_ble_eq_true rfl, Nat.le_of_ble_eq_true rfl⟩) rfl hl.1 (Nat.le_of_ble_eq_true rfl) dL_shoots_167 ⟨Nat.zero_le _, Nat.zero_le _⟩ (fun H locs hW hS => ?_)
          show W p9 l e9 (eR 20 1000) s9 m9 a9 b9 t9 c9 H locs 0 0 Q (F0 m9 170 ls [.int (couA t u q hs.length 12)])
          have hW : SW D cI cT o aT aB aS g y z ad t u hs sn q f s0 s1 s2 H := hW
          refine ej_topi (show (couA t u q hs.length 12) = P_ri t from lkc_12 t u q hs.length) ?_
          refine lv_istore (lv' := [(14, .int (P_ri t)), (13, .int (bndS t)), (12, .int (T_lo u)), (11, .int (T_po u)), (10, .int (T_en u (posT t k 5))), (9, .int (nI (fwdM (shP t u k hv) 5))), (8, .int (loG t u k hv)), (7, .int (shG t u k hv)), (6, .int (nI (posT t k 5))), (5, .int (nI L)), (4, .int 0), (3, .int hv), (2, .int (nI k)), (0, .ref (o 0)), (1, .int yv)]) hx hb dL_shoots_170 hl (by decide) rfl (fun ls hl => ?_)
          refine lv_aload_n hx hb dL_shoots_172 rfl (lv_at hl 13 rfl) ?_
          refine lv_bipush (v := 14) hx hb dL_shoots_173 (by decide) ?_
          refine lr_count (rest := []) (w := 14) S hK hN ht0 ht1 hA hD hW hS htl  (cwV 1 hts gL_shoots_X6_count rfl rfl rfl hdv_X6_count ⟨Nat.le_of_ble_eq_true rfl, Nat.le_of_ble_eq_true rfl⟩) rfl hl.1 (Nat.le_of_ble_eq_true rfl) dL_shoots_175 ⟨Nat.zero_le _, Nat.zero_le _⟩ (fun H locs hW hS => ?_)
          show W p9 l e9 (eR 20 1000) s9 m9 a9 b9 t9 c9 H locs 0 0 Q (F0 m9 178 ls [.int (couA t u q hs.length 14)])
          have hW : SW D cI cT o aT aB aS g y z ad t u hs sn q f s0 s1 s2 H := hW
          refine ej_topi (show (couA t u q hs.length 14) = T_re u from lkc_14 t u q hs.length) ?_
          refine lv_istore (lv' := [(15, .int (T_re u)), (14, .int (P_ri t)), (13, .int (bndS t)), (12, .int (T_lo u)), (11, .int (T_po u)), (10, .int (T_en u (posT t k 5))), (9, .int (nI (fwdM (shP t u k hv) 5))), (8, .int (loG t u k hv)), (7, .int (shG t u k hv)), (6, .int (nI (posT t k 5))), (5, .int (nI L)), (4, .int 0), (3, .int hv), (2, .int (nI k)), (0, .ref (o 0)), (1, .int yv)]) hx hb dL_shoots_178 hl (by decide) rfl (fun ls hl => ?_)
          refine lv_aload_n hx hb dL_shoots_180 rfl (lv_at hl 14 rfl) ?_
          refine lv_iload_n hx hb dL_shoots_181 rfl (lv_at hl 13 rfl) ?_
          refine lv_iload_n hx hb dL_shoots_182 rfl (lv_at hl 12 rfl) ?_
          refine lr_shoot (rest := []) (k := k) (h := hv) S hK hN ht0 ht1 hA hD hW hS htl (by omega) (cwV 2 hts gL_shoots_X6_shoot rfl rfl rfl hdv_X6_shoot ⟨Nat.le_of_ble_eq_true rfl, Nat.le_of_ble_eq_true rfl⟩) rfl hl.1 (Nat.le_of_ble_eq_true rfl) dL_shoots_183 ⟨Nat.zero_le _, Nat.zero_le _⟩ (fun H locs hW hS => ?_)
          show W p9 l e9 (eR 20 1000) s9 m9 a9 b9 t9 c9 H locs 0 0 Q (F0 m9 186 ls [.int (shR t u k hv)])
          have hW : SW D cI cT o aT aB aS g y z ad (shP t u k hv) (shU t u k hv) (recL hs (t, u)) sn q f s0 s1 s2 H := hW
          refine ej_topi (show (shR t u k hv) = 10 + shG t u k hv from (if_pos hlp)) ?_
          refine lv_istore (lv' := [(16, .int (10 + shG t u k hv)), (15, .int (T_re u)), (14, .int (P_ri t)), (13, .int (bndS t)), (12, .int (T_lo u)), (11, .int (T_po u)), (10, .int (T_en u (posT t k 5))), (9, .int (nI (fwdM (shP t u k hv) 5))), (8, .int (loG t u k hv)), (7, .int (shG t u k hv)), (6, .int (nI (posT t k 5))), (5, .int (nI L)), (4, .int 0), (3, .int hv), (2, .int (nI k)), (0, .ref (o 0)), (1, .int yv)]) hx hb dL_shoots_186 hl (by decide) rfl (fun ls hl => ?_)
          refine lv_iload hx hb dL_shoots_188 (lv_at hl 12 rfl) ?_
          refine lv_if_ne (tgt := 198) hx hb dL_shoots_190 (by decide) (fun h9 => absurd (show (0 : Int32) = 0 from by decide) h9) (fun _ => ?_)
          refine lv_iload hx hb dL_shoots_193 (lv_at hl 11 rfl) ?_
          refine lv_if_ne (tgt := 251) hx hb dL_shoots_195 (by decide) (fun _ => ?_) (fun h9 => absurd h9 (ej_ne (a := L) (b := 0) (by omega) (by omega) (show L ≠ 0 from hz)))
          refine lv_iload hx hb dL_shoots_251 (lv_at hl 0 rfl) ?_
          refine lv_bipush (v := 10) hx hb dL_shoots_253 (by decide) ?_
          refine lv_iload hx hb dL_shoots_255 (lv_at hl 9 rfl) ?_
          refine lv_iadd hx hb dL_shoots_257 ?_
          refine lv_icmp_ne (tgt := 398) hx hb dL_shoots_258 (by decide) (fun h9 => absurd (rfl) h9) (fun _ => ?_)
          refine lv_aload_n hx hb dL_shoots_261 rfl (lv_at hl 15 rfl) ?_
          refine lv_iconst (v := 1) hx hb dL_shoots_262 (by decide) ?_
          refine lr_count (rest := []) (w := 1) S hK hN ht0 ht1 hA hD hW hS (shP_til u k hv htl)  (cwV 1 hts gL_shoots_X6_count rfl rfl rfl hdv_X6_count ⟨Nat.le_of_ble_eq_true rfl, Nat.le_of_ble_eq_true rfl⟩) rfl hl.1 (Nat.le_of_ble_eq_true rfl) dL_shoots_263 ⟨Nat.zero_le _, Nat.zero_le _⟩ (fun H locs hW hS => ?_)
          show W p9 l e9 (eR 20 1000) s9 m9 a9 b9 t9 c9 H locs 0 0 Q (F0 m9 266 ls [.int (couA (shP t u k hv) (shU t u k hv) q (recL hs (t, u)).length 1)])
          have hW : SW D cI cT o aT aB aS g y z ad (shP t u k hv) (shU t u k hv) (recL hs (t, u)) sn q f s0 s1 s2 H := hW
          refine ej_topi (show (couA (shP t u k hv) (shU t u k hv) q (recL hs (t, u)).length 1) = T_le (shU t u k hv) from lkc_1 (shP t u k hv) (shU t u k hv) q ((recL hs (t, u)).length)) ?_
          refine lv_iload hx hb dL_shoots_266 (lv_at hl 11 rfl) ?_
          refine lv_iconst (v := 1) hx hb dL_shoots_268 (by decide) ?_
          refine lv_isub hx hb dL_shoots_269 ?_
          refine lv_icmp_ne (tgt := 398) hx hb dL_shoots_270 (by decide) (fun h9 => absurd ((by rw [sh_le hlp, eL])) h9) (fun _ => ?_)
          refine lv_aload_n hx hb dL_shoots_273 rfl (lv_at hl 15 rfl) ?_
          refine lv_iconst (v := 0) hx hb dL_shoots_274 (by decide) ?_
          refine lr_count (rest := []) (w := 0) S hK hN ht0 ht1 hA hD hW hS (shP_til u k hv htl)  (cwV 1 hts gL_shoots_X6_count rfl rfl rfl hdv_X6_count ⟨Nat.le_of_ble_eq_true rfl, Nat.le_of_ble_eq_true rfl⟩) rfl hl.1 (Nat.le_of_ble_eq_true rfl) dL_shoots_275 ⟨Nat.zero_le _, Nat.zero_le _⟩ (fun H locs hW hS => ?_)
          show W p9 l e9 (eR 20 1000) s9 m9 a9 b9 t9 c9 H locs 0 0 Q (F0 m9 278 ls [.int (couA (shP t u k hv) (shU t u k hv) q (recL hs (t, u)).length 0)])
          have hW : SW D cI cT o aT aB aS g y z ad (shP t u k hv) (shU t u k hv) (recL hs (t, u)) sn q f s0 s1 s2 H := hW
          refine ej_topi (show (couA (shP t u k hv) (shU t u k hv) q (recL hs (t, u)).length 0) = T_po (shU t u k hv) from lkc_0 (shP t u k hv) (shU t u k hv) q ((recL hs (t, u)).length)) ?_
          refine lv_iload hx hb dL_shoots_278 (lv_at hl 5 rfl) ?_
          refine lv_iload hx hb dL_shoots_280 (lv_at hl 9 rfl) ?_
          refine lv_iadd hx hb dL_shoots_282 ?_
          refine lv_icmp_ne (tgt := 398) hx hb dL_shoots_283 (by decide) (fun h9 => absurd ((sh_po hlp)) h9) (fun _ => ?_)
          refine lv_aload_n hx hb dL_shoots_286 rfl (lv_at hl 15 rfl) ?_
          refine lv_iconst (v := 3) hx hb dL_shoots_287 (by decide) ?_
          refine lr_count (rest := []) (w := 3) S hK hN ht0 ht1 hA hD hW hS (shP_til u k hv htl)  (cwV 1 hts gL_shoots_X6_count rfl rfl rfl hdv_X6_count ⟨Nat.le_of_ble_eq_true rfl, Nat.le_of_ble_eq_true rfl⟩) rfl hl.1 (Nat.le_of_ble_eq_true rfl) dL_shoots_288 ⟨Nat.zero_le _, Nat.zero_le _⟩ (fun H locs hW hS => ?_)
          show W p9 l e9 (eR 20 1000) s9 m9 a9 b9 t9 c9 H locs 0 0 Q (F0 m9 291 ls [.int (couA (shP t u k hv) (shU t u k hv) q (recL hs (t, u)).length 3)])
          have hW : SW D cI cT o aT aB aS g y z ad (shP t u k hv) (shU t u k hv) (recL hs (t, u)) sn q f s0 s1 s2 H := hW
          refine ej_topi (show (couA (shP t u k hv) (shU t u k hv) q (recL hs (t, u)).length 3) = T_lo (shU t u k hv) from lkc_3 (shP t u k hv) (shU t u k hv) q ((recL hs (t, u)).length)) ?_
          refine lv_iload hx hb dL_shoots_291 (lv_at hl 4 rfl) ?_
          refine lv_iload hx hb dL_shoots_293 (lv_at hl 8 rfl) ?_
          refine lv_iadd hx hb dL_shoots_295 ?_
          refine lv_icmp_ne (tgt := 398) hx hb dL_shoots_296 (by decide) (fun h9 => absurd ((sh_lo hlp)) h9) (fun _ => ?_)
          refine lv_aload_n hx hb dL_shoots_299 rfl (lv_at hl 15 rfl) ?_
          refine lv_iconst (v := 0) hx hb dL_shoots_300 (by decide) ?_
          refine lr_reach0 (rest := [])  S hK hN ht0 ht1 hA hD hW hS (shP_til u k hv htl)  (cwV 1 hts gL_shoots_X6_reach rfl rfl rfl hdv_X6_reach ⟨Nat.le_of_ble_eq_true rfl, Nat.le_of_ble_eq_true rfl⟩) rfl hl.1 (Nat.le_of_ble_eq_true rfl) dL_shoots_301 ⟨Nat.zero_le _, Nat.zero_le _⟩ (fun H locs hW hS => ?_)
          show W p9 l e9 (eR 20 1000) s9 m9 a9 b9 t9 c9 H locs 0 0 Q (F0 m9 304 ls [.int (nI (fwdM (shP t u k hv) 5))])
          have hW : SW D cI cT o aT aB aS g y z ad (shP t u k hv) (shU t u k hv) (recL hs (t, u)) sn q f s0 s1 s2 H := hW
          refine lv_iload hx hb dL_shoots_304 (lv_at hl 7 rfl) ?_
          refine lv_icmp_ne (tgt := 398) hx hb dL_shoots_306 (by decide) (fun h9 => absurd (rfl) h9) (fun _ => ?_)
          refine lv_aload_n hx hb dL_shoots_309 rfl (lv_at hl 15 rfl) ?_
          refine lv_iload hx hb dL_shoots_310 (lv_at hl 10 rfl) ?_
          refine lv_iconst (v := 3) hx hb dL_shoots_312 (by decide) ?_
          refine lr_pocket (rest := []) (k := posT t k 5) (w := 3) S hK hN ht0 ht1 hA hD hW hS (shP_til u k hv htl) (by omega) (cwV 2 hts gL_shoots_X6_pocket rfl rfl rfl hdv_X6_pocket ⟨Nat.le_of_ble_eq_true rfl, Nat.le_of_ble_eq_true rfl⟩) rfl hl.1 (Nat.le_of_ble_eq_true rfl) dL_shoots_313 ⟨Nat.zero_le _, Nat.zero_le _⟩ (fun H locs hW hS => ?_)
          show W p9 l e9 (eR 20 1000) s9 m9 a9 b9 t9 c9 H locs 0 0 Q (F0 m9 316 ls [.int (pocR (shP t u k hv) (shU t u k hv) (posT t k 5) 3)])
          have hW : SW D cI cT o aT aB aS g y z ad (shP t u k hv) (shU t u k hv) (recL hs (t, u)) sn q f s0 s1 s2 H := hW
          refine ej_topi (show (pocR (shP t u k hv) (shU t u k hv) (posT t k 5) 3) = T_en (shU t u k hv) (posT t k 5) from lkw_3 (shP t u k hv) (shU t u k hv) (posT t k 5)) ?_
          refine lv_iload hx hb dL_shoots_316 (lv_at hl 6 rfl) ?_
          refine lv_iconst (v := 1) hx hb dL_shoots_318 (by decide) ?_
          refine lv_iadd hx hb dL_shoots_319 ?_
          refine lv_icmp_ne (tgt := 398) hx hb dL_shoots_320 (by decide) (fun h9 => absurd ((sh_en hlp hk)) h9) (fun _ => ?_)
          refine lv_iload_n hx hb dL_shoots_323 rfl (lv_at hl 13 rfl) ?_
          refine lv_if_ne (tgt := 338) hx hb dL_shoots_324 (by decide) (fun c_324 => ?_) (fun c_324 => ?_)
          · refine lv_aload_n hx hb dL_shoots_338 rfl (lv_at hl 15 rfl) ?_
            refine lv_bipush (v := 6) hx hb dL_shoots_339 (by decide) ?_
            refine lr_count (rest := []) (w := 6) S hK hN ht0 ht1 hA hD hW hS (shP_til u k hv htl)  (cwV 1 hts gL_shoots_X6_count rfl rfl rfl hdv_X6_count ⟨Nat.le_of_ble_eq_true rfl, Nat.le_of_ble_eq_true rfl⟩) rfl hl.1 (Nat.le_of_ble_eq_true rfl) dL_shoots_341 ⟨Nat.zero_le _, Nat.zero_le _⟩ (fun H locs hW hS => ?_)
            show W p9 l e9 (eR 20 1000) s9 m9 a9 b9 t9 c9 H locs 0 0 Q (F0 m9 344 ls [.int (couA (shP t u k hv) (shU t u k hv) q (recL hs (t, u)).length 6)])
            have hW : SW D cI cT o aT aB aS g y z ad (shP t u k hv) (shU t u k hv) (recL hs (t, u)) sn q f s0 s1 s2 H := hW
            refine ej_topi (show (couA (shP t u k hv) (shU t u k hv) q (recL hs (t, u)).length 6) = bndS (shP t u k hv) from lkc_6 (shP t u k hv) (shU t u k hv) q ((recL hs (t, u)).length)) ?_
            refine lv_iload hx hb dL_shoots_344 (lv_at hl 3 rfl) ?_
            refine lv_iconst (v := 5) hx hb dL_shoots_346 (by decide) ?_
            refine lv_iadd hx hb dL_shoots_347 ?_
            refine lv_icmp_gt (tgt := 398) hx hb dL_shoots_348 (by decide) (fun h9 => absurd h9 ((bnd_hard hv hk hlp htl ho.2.2.1))) (fun _ => ?_)
            refine lv_aload_n hx hb dL_shoots_351 rfl (lv_at hl 15 rfl) ?_
            refine lv_bipush (v := 12) hx hb dL_shoots_352 (by decide) ?_
            refine lr_count (rest := []) (w := 12) S hK hN ht0 ht1 hA hD hW hS (shP_til u k hv htl)  (cwV 1 hts gL_shoots_X6_count rfl rfl rfl hdv_X6_count ⟨Nat.le_of_ble_eq_true rfl, Nat.le_of_ble_eq_true rfl⟩) rfl hl.1 (Nat.le_of_ble_eq_true rfl) dL_shoots_354 ⟨Nat.zero_le _, Nat.zero_le _⟩ (fun H locs hW hS => ?_)
            show W p9 l e9 (eR 20 1000) s9 m9 a9 b9 t9 c9 H locs 0 0 Q (F0 m9 357 ls [.int (couA (shP t u k hv) (shU t u k hv) q (recL hs (t, u)).length 12)])
            have hW : SW D cI cT o aT aB aS g y z ad (shP t u k hv) (shU t u k hv) (recL hs (t, u)) sn q f s0 s1 s2 H := hW
            refine ej_topi (show (couA (shP t u k hv) (shU t u k hv) q (recL hs (t, u)).length 12) = P_ri (shP t u k hv) from lkc_12 (shP t u k hv) (shU t u k hv) q ((recL hs (t, u)).length)) ?_
            refine lv_iload hx hb dL_shoots_357 (lv_at hl 2 rfl) ?_
            refine lv_isub hx hb dL_shoots_359 ?_
            refine lv_iload hx hb dL_shoots_360 (lv_at hl 9 rfl) ?_
            refine lv_iload hx hb dL_shoots_362 (lv_at hl 8 rfl) ?_
            refine lv_iconst (v := 1) hx hb dL_shoots_364 (by decide) ?_
            refine lv_icmp_ne (tgt := 372) hx hb dL_shoots_365 (by decide) (fun c_365 => ?_) (fun c_365 => ?_)
            · refine lv_aload_n hx hb dL_shoots_372 rfl (lv_at hl 15 rfl) ?_
              refine lv_iload hx hb dL_shoots_373 (lv_at hl 10 rfl) ?_
              refine lv_iconst (v := 0) hx hb dL_shoots_375 (by decide) ?_
              refine lr_pocket (rest := [.int (shG t u k hv), .int ((P_ri (shP t u k hv)) - (P_ri t))]) (k := posT t k 5) (w := 0) S hK hN ht0 ht1 hA hD hW hS (shP_til u k hv htl) (by omega) (cwV 2 hts gL_shoots_X6_pocket rfl rfl rfl hdv_X6_pocket ⟨Nat.le_of_ble_eq_true rfl, Nat.le_of_ble_eq_true rfl⟩) rfl hl.1 (Nat.le_of_ble_eq_true rfl) dL_shoots_376 ⟨Nat.zero_le _, Nat.zero_le _⟩ (fun H locs hW hS => ?_)
              show W p9 l e9 (eR 20 1000) s9 m9 a9 b9 t9 c9 H locs 0 0 Q (F0 m9 379 ls [.int (pocR (shP t u k hv) (shU t u k hv) (posT t k 5) 0), .int (shG t u k hv), .int ((P_ri (shP t u k hv)) - (P_ri t))])
              have hW : SW D cI cT o aT aB aS g y z ad (shP t u k hv) (shU t u k hv) (recL hs (t, u)) sn q f s0 s1 s2 H := hW
              refine ej_topi (show (pocR (shP t u k hv) (shU t u k hv) (posT t k 5) 0) = T_wo (shU t u k hv) (posT t k 5) from lkw_0 (shP t u k hv) (shU t u k hv) (posT t k 5)) ?_
              refine lv_isub hx hb dL_shoots_379 ?_
              refine lv_icmp_ne (tgt := 398) hx hb dL_shoots_380 (by decide) (fun h9 => absurd ((sh_ri0 hlp hk c_365)) h9) (fun _ => ?_)
              refine lv_aload_n hx hb dL_shoots_383 rfl (lv_at hl 15 rfl) ?_
              refine lv_bipush (v := 14) hx hb dL_shoots_384 (by decide) ?_
              refine lr_count (rest := []) (w := 14) S hK hN ht0 ht1 hA hD hW hS (shP_til u k hv htl)  (cwV 1 hts gL_shoots_X6_count rfl rfl rfl hdv_X6_count ⟨Nat.le_of_ble_eq_true rfl, Nat.le_of_ble_eq_true rfl⟩) rfl hl.1 (Nat.le_of_ble_eq_true rfl) dL_shoots_386 ⟨Nat.zero_le _, Nat.zero_le _⟩ (fun H locs hW hS => ?_)
              show W p9 l e9 (eR 20 1000) s9 m9 a9 b9 t9 c9 H locs 0 0 Q (F0 m9 389 ls [.int (couA (shP t u k hv) (shU t u k hv) q (recL hs (t, u)).length 14)])
              have hW : SW D cI cT o aT aB aS g y z ad (shP t u k hv) (shU t u k hv) (recL hs (t, u)) sn q f s0 s1 s2 H := hW
              refine ej_topi (show (couA (shP t u k hv) (shU t u k hv) q (recL hs (t, u)).length 14) = T_re (shU t u k hv) from lkc_14 (shP t u k hv) (shU t u k hv) q ((recL hs (t, u)).length)) ?_
              refine lv_iload hx hb dL_shoots_389 (lv_at hl 1 rfl) ?_
              refine lv_icmp_ne (tgt := 398) hx hb dL_shoots_391 (by decide) (fun h9 => absurd ((sh_re hlp)) h9) (fun _ => ?_)
              refine lv_iconst (v := 1) hx hb dL_shoots_394 (by decide) ?_
              refine lv_goto (tgt := 399) hx hb dL_shoots_395 (by decide) ?_
              exact hQ _ _ _ _ _ _ _ _ _ _ _ _ _ dL_shoots_399 rfl (by exact ⟨rfl, okS_up (okS_sh hv hk ho) (by omega), Or.inr rfl⟩) hW hS
            · refine lv_iconst (v := 0) hx hb dL_shoots_368 (by decide) ?_
              refine lv_goto (tgt := 379) hx hb dL_shoots_369 (by decide) ?_
              refine lv_isub hx hb dL_shoots_379 ?_
              refine lv_icmp_ne (tgt := 398) hx hb dL_shoots_380 (by decide) (fun h9 => absurd ((sh_ri1 hlp c_365)) h9) (fun _ => ?_)
              refine lv_aload_n hx hb dL_shoots_383 rfl (lv_at hl 15 rfl) ?_
              refine lv_bipush (v := 14) hx hb dL_shoots_384 (by decide) ?_
              refine lr_count (rest := []) (w := 14) S hK hN ht0 ht1 hA hD hW hS (shP_til u k hv htl)  (cwV 1 hts gL_shoots_X6_count rfl rfl rfl hdv_X6_count ⟨Nat.le_of_ble_eq_true rfl, Nat.le_of_ble_eq_true rfl⟩) rfl hl.1 (Nat.le_of_ble_eq_true rfl) dL_shoots_386 ⟨Nat.zero_le _, Nat.zero_le _⟩ (fun H locs hW hS => ?_)
              show W p9 l e9 (eR 20 1000) s9 m9 a9 b9 t9 c9 H locs 0 0 Q (F0 m9 389 ls [.int (couA (shP t u k hv) (shU t u k hv) q (recL hs (t, u)).length 14)])
              have hW : SW D cI cT o aT aB aS g y z ad (shP t u k hv) (shU t u k hv) (recL hs (t, u)) sn q f s0 s1 s2 H := hW
              refine ej_topi (show (couA (shP t u k hv) (shU t u k hv) q (recL hs (t, u)).length 14) = T_re (shU t u k hv) from lkc_14 (shP t u k hv) (shU t u k hv) q ((recL hs (t, u)).length)) ?_
              refine lv_iload hx hb dL_shoots_389 (lv_at hl 1 rfl) ?_
              refine lv_icmp_ne (tgt := 398) hx hb dL_shoots_391 (by decide) (fun h9 => absurd ((sh_re hlp)) h9) (fun _ => ?_)
              refine lv_iconst (v := 1) hx hb dL_shoots_394 (by decide) ?_
              refine lv_goto (tgt := 399) hx hb dL_shoots_395 (by decide) ?_
              exact hQ _ _ _ _ _ _ _ _ _ _ _ _ _ dL_shoots_399 rfl (by exact ⟨rfl, okS_up (okS_sh hv hk ho) (by omega), Or.inr rfl⟩) hW hS
          · refine lv_aload_n hx hb dL_shoots_327 rfl (lv_at hl 15 rfl) ?_
            refine lv_bipush (v := 6) hx hb dL_shoots_328 (by decide) ?_
            refine lr_count (rest := []) (w := 6) S hK hN ht0 ht1 hA hD hW hS (shP_til u k hv htl)  (cwV 1 hts gL_shoots_X6_count rfl rfl rfl hdv_X6_count ⟨Nat.le_of_ble_eq_true rfl, Nat.le_of_ble_eq_true rfl⟩) rfl hl.1 (Nat.le_of_ble_eq_true rfl) dL_shoots_330 ⟨Nat.zero_le _, Nat.zero_le _⟩ (fun H locs hW hS => ?_)
            show W p9 l e9 (eR 20 1000) s9 m9 a9 b9 t9 c9 H locs 0 0 Q (F0 m9 333 ls [.int (couA (shP t u k hv) (shU t u k hv) q (recL hs (t, u)).length 6)])
            have hW : SW D cI cT o aT aB aS g y z ad (shP t u k hv) (shU t u k hv) (recL hs (t, u)) sn q f s0 s1 s2 H := hW
            refine ej_topi (show (couA (shP t u k hv) (shU t u k hv) q (recL hs (t, u)).length 6) = bndS (shP t u k hv) from lkc_6 (shP t u k hv) (shU t u k hv) q ((recL hs (t, u)).length)) ?_
            refine lv_iload hx hb dL_shoots_333 (lv_at hl 3 rfl) ?_
            refine lv_icmp_ne (tgt := 398) hx hb dL_shoots_335 (by decide) (fun h9 => absurd ((bnd_soft c_324 hk hlp)) h9) (fun _ => ?_)
            refine lv_aload_n hx hb dL_shoots_338 rfl (lv_at hl 15 rfl) ?_
            refine lv_bipush (v := 6) hx hb dL_shoots_339 (by decide) ?_
            refine lr_count (rest := []) (w := 6) S hK hN ht0 ht1 hA hD hW hS (shP_til u k hv htl)  (cwV 1 hts gL_shoots_X6_count rfl rfl rfl hdv_X6_count ⟨Nat.le_of_ble_eq_true rfl, Nat.le_of_ble_eq_true rfl⟩) rfl hl.1 (Nat.le_of_ble_eq_true rfl) dL_shoots_341 ⟨Nat.zero_le _, Nat.zero_le _⟩ (fun H locs hW hS => ?_)
            show W p9 l e9 (eR 20 1000) s9 m9 a9 b9 t9 c9 H locs 0 0 Q (F0 m9 344 ls [.int (couA (shP t u k hv) (shU t u k hv) q (recL hs (t, u)).length 6)])
            have hW : SW D cI cT o aT aB aS g y z ad (shP t u k hv) (shU t u k hv) (recL hs (t, u)) sn q f s0 s1 s2 H := hW
            refine ej_topi (show (couA (shP t u k hv) (shU t u k hv) q (recL hs (t, u)).length 6) = bndS (shP t u k hv) from lkc_6 (shP t u k hv) (shU t u k hv) q ((recL hs (t, u)).length)) ?_
            refine lv_iload hx hb dL_shoots_344 (lv_at hl 3 rfl) ?_
            refine lv_iconst (v := 5) hx hb dL_shoots_346 (by decide) ?_
            refine lv_iadd hx hb dL_shoots_347 ?_
            refine lv_icmp_gt (tgt := 398) hx hb dL_shoots_348 (by decide) (fun h9 => absurd h9 ((bnd_hard hv hk hlp htl ho.2.2.1))) (fun _ => ?_)
            refine lv_aload_n hx hb dL_shoots_351 rfl (lv_at hl 15 rfl) ?_
            refine lv_bipush (v := 12) hx hb dL_shoots_352 (by decide) ?_
            refine lr_count (rest := []) (w := 12) S hK hN ht0 ht1 hA hD hW hS (shP_til u k hv htl)  (cwV 1 hts gL_shoots_X6_count rfl rfl rfl hdv_X6_count ⟨Nat.le_of_ble_eq_true rfl, Nat.le_of_ble_eq_true rfl⟩) rfl hl.1 (Nat.le_of_ble_eq_true rfl) dL_shoots_354 ⟨Nat.zero_le _, Nat.zero_le _⟩ (fun H locs hW hS => ?_)
            show W p9 l e9 (eR 20 1000) s9 m9 a9 b9 t9 c9 H locs 0 0 Q (F0 m9 357 ls [.int (couA (shP t u k hv) (shU t u k hv) q (recL hs (t, u)).length 12)])
            have hW : SW D cI cT o aT aB aS g y z ad (shP t u k hv) (shU t u k hv) (recL hs (t, u)) sn q f s0 s1 s2 H := hW
            refine ej_topi (show (couA (shP t u k hv) (shU t u k hv) q (recL hs (t, u)).length 12) = P_ri (shP t u k hv) from lkc_12 (shP t u k hv) (shU t u k hv) q ((recL hs (t, u)).length)) ?_
            refine lv_iload hx hb dL_shoots_357 (lv_at hl 2 rfl) ?_
            refine lv_isub hx hb dL_shoots_359 ?_
            refine lv_iload hx hb dL_shoots_360 (lv_at hl 9 rfl) ?_
            refine lv_iload hx hb dL_shoots_362 (lv_at hl 8 rfl) ?_
            refine lv_iconst (v := 1) hx hb dL_shoots_364 (by decide) ?_
            refine lv_icmp_ne (tgt := 372) hx hb dL_shoots_365 (by decide) (fun c_365 => ?_) (fun c_365 => ?_)
            · refine lv_aload_n hx hb dL_shoots_372 rfl (lv_at hl 15 rfl) ?_
              refine lv_iload hx hb dL_shoots_373 (lv_at hl 10 rfl) ?_
              refine lv_iconst (v := 0) hx hb dL_shoots_375 (by decide) ?_
              refine lr_pocket (rest := [.int (shG t u k hv), .int ((P_ri (shP t u k hv)) - (P_ri t))]) (k := posT t k 5) (w := 0) S hK hN ht0 ht1 hA hD hW hS (shP_til u k hv htl) (by omega) (cwV 2 hts gL_shoots_X6_pocket rfl rfl rfl hdv_X6_pocket ⟨Nat.le_of_ble_eq_true rfl, Nat.le_of_ble_eq_true rfl⟩) rfl hl.1 (Nat.le_of_ble_eq_true rfl) dL_shoots_376 ⟨Nat.zero_le _, Nat.zero_le _⟩ (fun H locs hW hS => ?_)
              show W p9 l e9 (eR 20 1000) s9 m9 a9 b9 t9 c9 H locs 0 0 Q (F0 m9 379 ls [.int (pocR (shP t u k hv) (shU t u k hv) (posT t k 5) 0), .int (shG t u k hv), .int ((P_ri (shP t u k hv)) - (P_ri t))])
              have hW : SW D cI cT o aT aB aS g y z ad (shP t u k hv) (shU t u k hv) (recL hs (t, u)) sn q f s0 s1 s2 H := hW
              refine ej_topi (show (pocR (shP t u k hv) (shU t u k hv) (posT t k 5) 0) = T_wo (shU t u k hv) (posT t k 5) from lkw_0 (shP t u k hv) (shU t u k hv) (posT t k 5)) ?_
              refine lv_isub hx hb dL_shoots_379 ?_
              refine lv_icmp_ne (tgt := 398) hx hb dL_shoots_380 (by decide) (fun h9 => absurd ((sh_ri0 hlp hk c_365)) h9) (fun _ => ?_)
              refine lv_aload_n hx hb dL_shoots_383 rfl (lv_at hl 15 rfl) ?_
              refine lv_bipush (v := 14) hx hb dL_shoots_384 (by decide) ?_
              refine lr_count (rest := []) (w := 14) S hK hN ht0 ht1 hA hD hW hS (shP_til u k hv htl)  (cwV 1 hts gL_shoots_X6_count rfl rfl rfl hdv_X6_count ⟨Nat.le_of_ble_eq_true rfl, Nat.le_of_ble_eq_true rfl⟩) rfl hl.1 (Nat.le_of_ble_eq_true rfl) dL_shoots_386 ⟨Nat.zero_le _, Nat.zero_le _⟩ (fun H locs hW hS => ?_)
              show W p9 l e9 (eR 20 1000) s9 m9 a9 b9 t9 c9 H locs 0 0 Q (F0 m9 389 ls [.int (couA (shP t u k hv) (shU t u k hv) q (recL hs (t, u)).length 14)])
              have hW : SW D cI cT o aT aB aS g y z ad (shP t u k hv) (shU t u k hv) (recL hs (t, u)) sn q f s0 s1 s2 H := hW
              refine ej_topi (show (couA (shP t u k hv) (shU t u k hv) q (recL hs (t, u)).length 14) = T_re (shU t u k hv) from lkc_14 (shP t u k hv) (shU t u k hv) q ((recL hs (t, u)).length)) ?_
              refine lv_iload hx hb dL_shoots_389 (lv_at hl 1 rfl) ?_
              refine lv_icmp_ne (tgt := 398) hx hb dL_shoots_391 (by decide) (fun h9 => absurd ((sh_re hlp)) h9) (fun _ => ?_)
              refine lv_iconst (v := 1) hx hb dL_shoots_394 (by decide) ?_
              refine lv_goto (tgt := 399) hx hb dL_shoots_395 (by decide) ?_
              exact hQ _ _ _ _ _ _ _ _ _ _ _ _ _ dL_shoots_399 rfl (by exact ⟨rfl, okS_up (okS_sh hv hk ho) (by omega), Or.inr rfl⟩) hW hS
            · refine lv_iconst (v := 0) hx hb dL_shoots_368 (by decide) ?_
              refine lv_goto (tgt := 379) hx hb dL_shoots_369 (by decide) ?_
              refine lv_isub hx hb dL_shoots_379 ?_
              refine lv_icmp_ne (tgt := 398) hx hb dL_shoots_380 (by decide) (fun h9 => absurd ((sh_ri1 hlp c_365)) h9) (fun _ => ?_)
              refine lv_aload_n hx hb dL_shoots_383 rfl (lv_at hl 15 rfl) ?_
              refine lv_bipush (v := 14) hx hb dL_shoots_384 (by decide) ?_
              refine lr_count (rest := []) (w := 14) S hK hN ht0 ht1 hA hD hW hS (shP_til u k hv htl)  (cwV 1 hts gL_shoots_X6_count rfl rfl rfl hdv_X6_count ⟨Nat.le_of_ble_eq_true rfl, Nat.le_of_ble_eq_true rfl⟩) rfl hl.1 (Nat.le_of_ble_eq_true rfl) dL_shoots_386 ⟨Nat.zero_le _, Nat.zero_le _⟩ (fun H locs hW hS => ?_)
              show W p9 l e9 (eR 20 1000) s9 m9 a9 b9 t9 c9 H locs 0 0 Q (F0 m9 389 ls [.int (couA (shP t u k hv) (shU t u k hv) q (recL hs (t, u)).length 14)])
              have hW : SW D cI cT o aT aB aS g y z ad (shP t u k hv) (shU t u k hv) (recL hs (t, u)) sn q f s0 s1 s2 H := hW
              refine ej_topi (show (couA (shP t u k hv) (shU t u k hv) q (recL hs (t, u)).length 14) = T_re (shU t u k hv) from lkc_14 (shP t u k hv) (shU t u k hv) q ((recL hs (t, u)).length)) ?_
              refine lv_iload hx hb dL_shoots_389 (lv_at hl 1 rfl) ?_
              refine lv_icmp_ne (tgt := 398) hx hb dL_shoots_391 (by decide) (fun h9 => absurd ((sh_re hlp)) h9) (fun _ => ?_)
              refine lv_iconst (v := 1) hx hb dL_shoots_394 (by decide) ?_
              refine lv_goto (tgt := 399) hx hb dL_shoots_395 (by decide) ?_
              exact hQ _ _ _ _ _ _ _ _ _ _ _ _ _ dL_shoots_399 rfl (by exact ⟨rfl, okS_up (okS_sh hv hk ho) (by omega), Or.inr rfl⟩) hW hS
      refine lv_if_le (tgt := 38) hx hb dL_shoots_31 (by decide) (fun c_31 => ?_) (fun c_31 => ?_)
      · have n_31 : (lowN (yv >>> (4 &&& 31)) 3) ≤ 0 := ej_tle (a := (lowN (yv >>> (4 &&& 31)) 3)) (b := 0) (by omega) (by omega) c_31
        refine lv_iconst (v := 0) hx hb dL_shoots_38 (by decide) ?_
        refine ej_topi (show (0 : Int32) = hv from (by rw [e_hv, if_pos n_31])) ?_
        exact jp39 _ _ _ hW hS (lv_sub hl [0, 1, 2] rfl)
      · have n_31 : 0 < (lowN (yv >>> (4 &&& 31)) 3) := ej_tnle (a := (lowN (yv >>> (4 &&& 31)) 3)) (b := 0) (by omega) (by omega) c_31
        refine lv_iconst (v := 1) hx hb dL_shoots_34 (by decide) ?_
        refine lv_goto (tgt := 39) hx hb dL_shoots_35 (by decide) ?_
        refine ej_topi (show (1 : Int32) = hv from (by rw [e_hv, if_neg (by omega)])) ?_
        exact jp39 _ _ _ hW hS (lv_sub hl [0, 1, 2] rfl)
  refine lv_if_ne (tgt := 18) hx hb dL_shoots_10 (by decide) (fun c_10 => ?_) (fun c_10 => ?_)
  · have n_10 : (lowN (yv >>> (9 &&& 31)) 9) ≠ 0 := ej_tne (a := (lowN (yv >>> (9 &&& 31)) 9)) (b := 0) (by omega) (by omega) c_10
    refine lv_bipush (v := 7) hx hb dL_shoots_18 (by decide) ?_
    refine ej_topi (show (7 : Int32) = nI N9 from (by rw [e_N9, if_neg n_10]; rfl)) ?_
    exact jp20 _ _ _ hW hS (lv_sub hl [0, 1] rfl)
  · have n_10 : (lowN (yv >>> (9 &&& 31)) 9) = 0 := ej_teq (a := (lowN (yv >>> (9 &&& 31)) 9)) (b := 0) (by omega) (by omega) c_10
    refine lv_bipush (v := 8) hx hb dL_shoots_13 (by decide) ?_
    refine lv_goto (tgt := 20) hx hb dL_shoots_15 (by decide) ?_
    refine ej_topi (show (8 : Int32) = nI N9 from (by rw [e_N9, if_pos n_10]; rfl)) ?_
    exact jp20 _ _ _ hW hS (lv_sub hl [0, 1] rfl)
