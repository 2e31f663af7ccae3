set_option maxHeartbeats 4000000 in
set_option maxRecDepth 100000 in
theorem k_sent (l : Launch) (D : va_G) (tys : eT) (cI cT : ClassId) (ht0 : tys[0]? = some (cI, .int)) (ht1 : tys[1]? = some (cT, .object RX5)) (o aT aB aS g y z : Nat → Nat) (ad : Nat → Nat → Nat) (t : Pn) (u : Tr) (hs : List (Pn × Tr)) (sn : Option (Pn × Tr)) (q : Nat) (f : Nat → Int32) (s0 s1 s2 : Int32) (p : Nat) (htl : tilOK t) (hpn : pinOK t) (hp : p < 35) : lc l D tys cI cT o aT aB aS g y z ad yL_sent wsL_sent (eR 12 400) [.ref (o 0), .int (nI p)] t u hs sn q f s0 s1 s2 (sameL t u hs q f s0 s1 s2 (fun v => v = .int (nI (nextM t p)))) := by
  refine lc_int cL_sent 7 (by decide +kernel) rfl (Nat.le_of_ble_eq_true rfl) ?_
  intro p9 e9 s9 m9 a9 b9 t9 c9 H0 A Q ls S hK hN hA hD hW hS hl hQ
  have S : CallFix p9 m9 c9 cL_sent 7 s9 a9 wsL_sent RL := S
  obtain ⟨hx, hb, hml, hown, hts⟩ := id S
  have hl : lv_has ls 7 [(0, .ref (o 0)), (1, .int (nI p))] := hl
  refine lv_iload_n hx hb dL_sent_0 rfl (lv_at hl 1 rfl) ?_
  refine lv_bipush (v := 7) hx hb dL_sent_1 (by decide) ?_
  refine lv_irem hx hb dL_sent_3 (by decide) ?_
  refine ej_topi (show (nI p) - (nI p) / 7 * 7 = nI (p % 7) from pk_rem (a := p) (d := 7) (by omega) (by decide) (by decide)) ?_
  refine lv_istore_n (lv' := [(2, .int (nI (p % 7))), (0, .ref (o 0)), (1, .int (nI p))]) hx hb dL_sent_4 rfl hl (by decide) rfl (fun ls hl => ?_)
  refine lv_iconst (v := 1) hx hb dL_sent_5 (by decide) ?_
  refine lv_iload_n hx hb dL_sent_6 rfl (lv_at hl 0 rfl) ?_
  have jp17 : ∀ (H : Heap) (locs : List Loc) (ls : Array Slot), SW D cI cT o aT aB aS g y z ad t u hs sn q f s0 s1 s2 H → va_S A H0 H locs → lv_has ls 7 [(2, .int (nI (p % 7))), (0, .ref (o 0)), (1, .int (nI p))] → W p9 l e9 (eR 12 400) s9 m9 a9 b9 t9 c9 H locs 0 0 Q (F0 m9 17 ls [.int (nI (p % 7 - 1)), .int 1]) := by
    intro H locs ls hW hS hl
    refine lv_ishl hx hb dL_sent_17 ?_
    refine ej_topi (show (1 <<< ((nI (p % 7 - 1)) &&& 31)) = nI (2 ^ (p % 7 - 1)) from ej_shl1 (p % 7 - 1) (by omega)) ?_
    refine lv_istore_n (lv' := [(3, .int (nI (2 ^ (p % 7 - 1)))), (2, .int (nI (p % 7))), (0, .ref (o 0)), (1, .int (nI p))]) hx hb dL_sent_18 rfl hl (by decide) rfl (fun ls hl => ?_)
    refine lv_iconst (v := 1) hx hb dL_sent_19 (by decide) ?_
    refine lv_iload_n hx hb dL_sent_20 rfl (lv_at hl 1 rfl) ?_
    refine lv_bipush (v := 6) hx hb dL_sent_21 (by decide) ?_
    have jp34 : ∀ (H : Heap) (locs : List Loc) (ls : Array Slot), SW D cI cT o aT aB aS g y z ad t u hs sn q f s0 s1 s2 H → va_S A H0 H locs → lv_has ls 7 [(3, .int (nI (2 ^ (p % 7 - 1)))), (2, .int (nI (p % 7))), (0, .ref (o 0)), (1, .int (nI p))] → W p9 l e9 (eR 12 400) s9 m9 a9 b9 t9 c9 H locs 0 0 Q (F0 m9 34 ls [.int (nI (bes (p % 7) 1)), .int 1]) := by
      intro H locs ls hW hS hl
      refine lv_ishl hx hb dL_sent_34 ?_
      refine ej_topi (show (1 <<< ((nI (bes (p % 7) 1)) &&& 31)) = nI (2 ^ bes (p % 7) 1) from ej_shl1 (bes (p % 7) 1) (bes_31 1 (by omega))) ?_
      refine lv_istore (lv' := [(4, .int (nI (2 ^ bes (p % 7) 1))), (3, .int (nI (2 ^ (p % 7 - 1)))), (2, .int (nI (p % 7))), (0, .ref (o 0)), (1, .int (nI p))]) hx hb dL_sent_35 hl (by decide) rfl (fun ls hl => ?_)
      refine lv_aload_n hx hb dL_sent_37 rfl (lv_at hl 3 rfl) ?_
      refine lv_iload_n hx hb dL_sent_38 rfl (lv_at hl 4 rfl) ?_
      refine lv_iconst (v := 0) hx hb dL_sent_39 (by decide) ?_
      refine lr_pin (rest := []) (k := p) (w := 0) S hK hN ht0 ht1 hA hD hW hS htl (by omega) (cwV 2 hts gL_sent_X6_pin rfl rfl rfl hdv_X6_pin ⟨Nat.le_of_ble_eq_true rfl, Nat.le_of_ble_eq_true rfl⟩) rfl hl.1 (Nat.le_of_ble_eq_true rfl) dL_sent_40 ⟨Nat.zero_le _, Nat.zero_le _⟩ (fun H locs hW hS => ?_)
      show W p9 l e9 (eR 12 400) s9 m9 a9 b9 t9 c9 H locs 0 0 Q (F0 m9 43 ls [.int (pinR t p 0)])
      have hW : SW D cI cT o aT aB aS g y z ad t u hs sn q f s0 s1 s2 H := hW
      refine ej_topi (show (pinR t p 0) = if P_ou t p = 0 then P_be t p + 3 else -4 from lkp_0 t p) ?_
      rcases hpn p hp with ⟨ho, hbe⟩ | ⟨ho, b, hb6, hbe⟩
      · refine ej_topi (show (if P_ou t p = 0 then P_be t p + 3 else -4) = -4 from if_neg (by rw [ho]; decide)) ?_
        refine lv_istore (lv' := [(5, .int (-4)), (4, .int (nI (2 ^ bes (p % 7) 1))), (3, .int (nI (2 ^ (p % 7 - 1)))), (2, .int (nI (p % 7))), (0, .ref (o 0)), (1, .int (nI p))]) hx hb dL_sent_43 hl (by decide) rfl (fun ls hl => ?_)
        refine lv_aload_n hx hb dL_sent_45 rfl (lv_at hl 4 rfl) ?_
        refine lv_bipush (v := 15) hx hb dL_sent_46 (by decide) ?_
        refine lr_count (rest := []) (w := 15) S hK hN ht0 ht1 hA hD hW hS htl  (cwV 1 hts gL_sent_X6_count rfl rfl rfl hdv_X6_count ⟨Nat.le_of_ble_eq_true rfl, Nat.le_of_ble_eq_true rfl⟩) rfl hl.1 (Nat.le_of_ble_eq_true rfl) dL_sent_48 ⟨Nat.zero_le _, Nat.zero_le _⟩ (fun H locs hW hS => ?_)
        show W p9 l e9 (eR 12 400) s9 m9 a9 b9 t9 c9 H locs 0 0 Q (F0 m9 51 ls [.int (couA t u q hs.length 15)])
        have hW : SW D cI cT o aT aB aS g y z ad t u hs sn q f s0 s1 s2 H := hW
        refine ej_topi (show (couA t u q hs.length 15) = P_ti t from lkc_15 t u q hs.length) ?_
        rcases htl with hti | hti | hti
        · refine ej_topi hti ?_
          refine lv_istore (lv' := [(6, .int 0), (5, .int (-4)), (4, .int (nI (2 ^ bes (p % 7) 1))), (3, .int (nI (2 ^ (p % 7 - 1)))), (2, .int (nI (p % 7))), (0, .ref (o 0)), (1, .int (nI p))]) hx hb dL_sent_51 hl (by decide) rfl (fun ls hl => ?_)
          refine lv_iload hx hb dL_sent_53 (lv_at hl 1 rfl) ?_
          refine lv_bipush (v := (-4)) hx hb dL_sent_55 (by decide) ?_
          refine lv_icmp_ne (tgt := 66) hx hb dL_sent_57 (by decide) (fun h9 => absurd (show ((-4) : Int32) = (-4) from by decide) h9) (fun _ => ?_)
          refine lv_iconst (v := 1) hx hb dL_sent_60 (by decide) ?_
          refine lv_iload_n hx hb dL_sent_61 rfl (lv_at hl 4 rfl) ?_
          refine lv_ishl hx hb dL_sent_62 ?_
          refine ej_topi (show (1 <<< ((nI (p % 7)) &&& 31)) = nI (2 ^ (p % 7)) from ej_shl1 (p % 7) (by omega)) ?_
          refine lv_goto (tgt := 108) hx hb dL_sent_63 (by decide) ?_
          exact hQ _ _ _ _ _ _ _ _ _ _ _ _ _ dL_sent_108 rfl (by refine ⟨?_, rfl, rfl, rfl, rfl, rfl, rfl, rfl, rfl⟩; exact congrArg Value.int (congrArg nI (Eq.symm (by first | (rw [next_out ho]; done) | (exfalso; omega) | (rw [next_in ho hb6 hbe, lean_l hb6 hbe (by omega), if_neg (by decide), bes_m]; done) | (rw [next_in ho hb6 hbe, lean_r hb6 hbe (by omega), if_neg (by decide)]; done) | (rw [next_in ho hb6 hbe, lean_0 hb6 hbe (by omega), hti]; first | (rw [if_pos (by decide), bes_m]; done) | (rw [if_neg (by decide), show (0 : Int32) - 1 = -1 by decide, bes_m]; done) | (rw [if_neg (by decide), show (2 : Int32) - 1 = 1 by decide]; done)))))) hW hS
        · refine ej_topi hti ?_
          refine lv_istore (lv' := [(6, .int 1), (5, .int (-4)), (4, .int (nI (2 ^ bes (p % 7) 1))), (3, .int (nI (2 ^ (p % 7 - 1)))), (2, .int (nI (p % 7))), (0, .ref (o 0)), (1, .int (nI p))]) hx hb dL_sent_51 hl (by decide) rfl (fun ls hl => ?_)
          refine lv_iload hx hb dL_sent_53 (lv_at hl 1 rfl) ?_
          refine lv_bipush (v := (-4)) hx hb dL_sent_55 (by decide) ?_
          refine lv_icmp_ne (tgt := 66) hx hb dL_sent_57 (by decide) (fun h9 => absurd (show ((-4) : Int32) = (-4) from by decide) h9) (fun _ => ?_)
          refine lv_iconst (v := 1) hx hb dL_sent_60 (by decide) ?_
          refine lv_iload_n hx hb dL_sent_61 rfl (lv_at hl 4 rfl) ?_
          refine lv_ishl hx hb dL_sent_62 ?_
          refine ej_topi (show (1 <<< ((nI (p % 7)) &&& 31)) = nI (2 ^ (p % 7)) from ej_shl1 (p % 7) (by omega)) ?_
          refine lv_goto (tgt := 108) hx hb dL_sent_63 (by decide) ?_
          exact hQ _ _ _ _ _ _ _ _ _ _ _ _ _ dL_sent_108 rfl (by refine ⟨?_, rfl, rfl, rfl, rfl, rfl, rfl, rfl, rfl⟩; exact congrArg Value.int (congrArg nI (Eq.symm (by first | (rw [next_out ho]; done) | (exfalso; omega) | (rw [next_in ho hb6 hbe, lean_l hb6 hbe (by omega), if_neg (by decide), bes_m]; done) | (rw [next_in ho hb6 hbe, lean_r hb6 hbe (by omega), if_neg (by decide)]; done) | (rw [next_in ho hb6 hbe, lean_0 hb6 hbe (by omega), hti]; first | (rw [if_pos (by decide), bes_m]; done) | (rw [if_neg (by decide), show (0 : Int32) - 1 = -1 by decide, bes_m]; done) | (rw [if_neg (by decide), show (2 : Int32) - 1 = 1 by decide]; done)))))) hW hS
        · refine ej_topi hti ?_
          refine lv_istore (lv' := [(6, .int 2), (5, .int (-4)), (4, .int (nI (2 ^ bes (p % 7) 1))), (3, .int (nI (2 ^ (p % 7 - 1)))), (2, .int (nI (p % 7))), (0, .ref (o 0)), (1, .int (nI p))]) hx hb dL_sent_51 hl (by decide) rfl (fun ls hl => ?_)
          refine lv_iload hx hb dL_sent_53 (lv_at hl 1 rfl) ?_
          refine lv_bipush (v := (-4)) hx hb dL_sent_55 (by decide) ?_
          refine lv_icmp_ne (tgt := 66) hx hb dL_sent_57 (by decide) (fun h9 => absurd (show ((-4) : Int32) = (-4) from by decide) h9) (fun _ => ?_)
          refine lv_iconst (v := 1) hx hb dL_sent_60 (by decide) ?_
          refine lv_iload_n hx hb dL_sent_61 rfl (lv_at hl 4 rfl) ?_
          refine lv_ishl hx hb dL_sent_62 ?_
          refine ej_topi (show (1 <<< ((nI (p % 7)) &&& 31)) = nI (2 ^ (p % 7)) from ej_shl1 (p % 7) (by omega)) ?_
          refine lv_goto (tgt := 108) hx hb dL_sent_63 (by decide) ?_
          exact hQ _ _ _ _ _ _ _ _ _ _ _ _ _ dL_sent_108 rfl (by refine ⟨?_, rfl, rfl, rfl, rfl, rfl, rfl, rfl, rfl⟩; exact congrArg Value.int (congrArg nI (Eq.symm (by first | (rw [next_out ho]; done) | (exfalso; omega) | (rw [next_in ho hb6 hbe, lean_l hb6 hbe (by omega), if_neg (by decide), bes_m]; done) | (rw [next_in ho hb6 hbe, lean_r hb6 hbe (by omega), if_neg (by decide)]; done) | (rw [next_in ho hb6 hbe, lean_0 hb6 hbe (by omega), hti]; first | (rw [if_pos (by decide), bes_m]; done) | (rw [if_neg (by decide), show (0 : Int32) - 1 = -1 by decide, bes_m]; done) | (rw [if_neg (by decide), show (2 : Int32) - 1 = 1 by decide]; done)))))) hW hS
      · refine ej_topi (show (if P_ou t p = 0 then P_be t p + 3 else -4) = nI b from (if_pos ho).trans hbe) ?_
        refine lv_istore (lv' := [(5, .int (nI b)), (4, .int (nI (2 ^ bes (p % 7) 1))), (3, .int (nI (2 ^ (p % 7 - 1)))), (2, .int (nI (p % 7))), (0, .ref (o 0)), (1, .int (nI p))]) hx hb dL_sent_43 hl (by decide) rfl (fun ls hl => ?_)
        refine lv_aload_n hx hb dL_sent_45 rfl (lv_at hl 4 rfl) ?_
        refine lv_bipush (v := 15) hx hb dL_sent_46 (by decide) ?_
        refine lr_count (rest := []) (w := 15) S hK hN ht0 ht1 hA hD hW hS htl  (cwV 1 hts gL_sent_X6_count rfl rfl rfl hdv_X6_count ⟨Nat.le_of_ble_eq_true rfl, Nat.le_of_ble_eq_true rfl⟩) rfl hl.1 (Nat.le_of_ble_eq_true rfl) dL_sent_48 ⟨Nat.zero_le _, Nat.zero_le _⟩ (fun H locs hW hS => ?_)
        show W p9 l e9 (eR 12 400) s9 m9 a9 b9 t9 c9 H locs 0 0 Q (F0 m9 51 ls [.int (couA t u q hs.length 15)])
        have hW : SW D cI cT o aT aB aS g y z ad t u hs sn q f s0 s1 s2 H := hW
        refine ej_topi (show (couA t u q hs.length 15) = P_ti t from lkc_15 t u q hs.length) ?_
        rcases htl with hti | hti | hti
        · refine ej_topi hti ?_
          refine lv_istore (lv' := [(6, .int 0), (5, .int (nI b)), (4, .int (nI (2 ^ bes (p % 7) 1))), (3, .int (nI (2 ^ (p % 7 - 1)))), (2, .int (nI (p % 7))), (0, .ref (o 0)), (1, .int (nI p))]) hx hb dL_sent_51 hl (by decide) rfl (fun ls hl => ?_)
          refine lv_iload hx hb dL_sent_53 (lv_at hl 1 rfl) ?_
          refine lv_bipush (v := (-4)) hx hb dL_sent_55 (by decide) ?_
          refine lv_icmp_ne (tgt := 66) hx hb dL_sent_57 (by decide) (fun _ => ?_) (fun h9 => absurd h9 (nI_ne4 (by omega)))
          refine lv_iload hx hb dL_sent_66 (lv_at hl 1 rfl) ?_
          refine lv_iconst (v := 3) hx hb dL_sent_68 (by decide) ?_
          refine lv_icmp_lt (tgt := 83) hx hb dL_sent_69 (by decide) (fun c_69 => ?_) (fun c_69 => ?_)
          · have n_69 : b < 3 := ej_tlt (a := b) (b := 3) (by omega) (by omega) c_69
            refine lv_iload_n hx hb dL_sent_83 rfl (lv_at hl 3 rfl) ?_
            refine lv_goto (tgt := 108) hx hb dL_sent_84 (by decide) ?_
            exact hQ _ _ _ _ _ _ _ _ _ _ _ _ _ dL_sent_108 rfl (by refine ⟨?_, rfl, rfl, rfl, rfl, rfl, rfl, rfl, rfl⟩; exact congrArg Value.int (congrArg nI (Eq.symm (by first | (rw [next_out ho]; done) | (exfalso; omega) | (rw [next_in ho hb6 hbe, lean_l hb6 hbe (by omega), if_neg (by decide), bes_m]; done) | (rw [next_in ho hb6 hbe, lean_r hb6 hbe (by omega), if_neg (by decide)]; done) | (rw [next_in ho hb6 hbe, lean_0 hb6 hbe (by omega), hti]; first | (rw [if_pos (by decide), bes_m]; done) | (rw [if_neg (by decide), show (0 : Int32) - 1 = -1 by decide, bes_m]; done) | (rw [if_neg (by decide), show (2 : Int32) - 1 = 1 by decide]; done)))))) hW hS
          · have n_69 : 3 ≤ b := ej_tnlt (a := b) (b := 3) (by omega) (by omega) c_69
            refine lv_iload hx hb dL_sent_72 (lv_at hl 1 rfl) ?_
            refine lv_iconst (v := 3) hx hb dL_sent_74 (by decide) ?_
            refine lv_icmp_ne (tgt := 87) hx hb dL_sent_75 (by decide) (fun c_75 => ?_) (fun c_75 => ?_)
            · have n_75 : b ≠ 3 := ej_tne (a := b) (b := 3) (by omega) (by omega) c_75
              refine lv_iload hx hb dL_sent_87 (lv_at hl 1 rfl) ?_
              refine lv_iconst (v := 3) hx hb dL_sent_89 (by decide) ?_
              refine lv_icmp_gt (tgt := 99) hx hb dL_sent_90 (by decide) (fun c_90 => ?_) (fun c_90 => ?_)
              · have n_90 : 3 < b := ej_tlt (a := 3) (b := b) (by omega) (by omega) c_90
                refine lv_iload hx hb dL_sent_99 (lv_at hl 2 rfl) ?_
                refine lv_goto (tgt := 108) hx hb dL_sent_101 (by decide) ?_
                exact hQ _ _ _ _ _ _ _ _ _ _ _ _ _ dL_sent_108 rfl (by refine ⟨?_, rfl, rfl, rfl, rfl, rfl, rfl, rfl, rfl⟩; exact congrArg Value.int (congrArg nI (Eq.symm (by first | (rw [next_out ho]; done) | (exfalso; omega) | (rw [next_in ho hb6 hbe, lean_l hb6 hbe (by omega), if_neg (by decide), bes_m]; done) | (rw [next_in ho hb6 hbe, lean_r hb6 hbe (by omega), if_neg (by decide)]; done) | (rw [next_in ho hb6 hbe, lean_0 hb6 hbe (by omega), hti]; first | (rw [if_pos (by decide), bes_m]; done) | (rw [if_neg (by decide), show (0 : Int32) - 1 = -1 by decide, bes_m]; done) | (rw [if_neg (by decide), show (2 : Int32) - 1 = 1 by decide]; done)))))) hW hS
              · have n_90 : b ≤ 3 := ej_tnlt (a := 3) (b := b) (by omega) (by omega) c_90
                refine lv_iload hx hb dL_sent_93 (lv_at hl 0 rfl) ?_
                refine lv_iconst (v := 2) hx hb dL_sent_95 (by decide) ?_
                refine lv_icmp_ne (tgt := 104) hx hb dL_sent_96 (by decide) (fun _ => ?_) (fun h9 => absurd h9 (show ¬ (0 : Int32) = 2 from by decide))
                refine lv_iload_n hx hb dL_sent_104 rfl (lv_at hl 3 rfl) ?_
                refine lv_iload hx hb dL_sent_105 (lv_at hl 2 rfl) ?_
                refine lv_ior hx hb dL_sent_107 ?_
                refine ej_topi (show (nI (2 ^ (p % 7 - 1))) ||| (nI (2 ^ bes (p % 7) 1)) = nI ((2 ^ (p % 7 - 1)) ||| (2 ^ bes (p % 7) 1)) from fa_or (2 ^ (p % 7 - 1)) (2 ^ bes (p % 7) 1)) ?_
                exact hQ _ _ _ _ _ _ _ _ _ _ _ _ _ dL_sent_108 rfl (by refine ⟨?_, rfl, rfl, rfl, rfl, rfl, rfl, rfl, rfl⟩; exact congrArg Value.int (congrArg nI (Eq.symm (by first | (rw [next_out ho]; done) | (exfalso; omega) | (rw [next_in ho hb6 hbe, lean_l hb6 hbe (by omega), if_neg (by decide), bes_m]; done) | (rw [next_in ho hb6 hbe, lean_r hb6 hbe (by omega), if_neg (by decide)]; done) | (rw [next_in ho hb6 hbe, lean_0 hb6 hbe (by omega), hti]; first | (rw [if_pos (by decide), bes_m]; done) | (rw [if_neg (by decide), show (0 : Int32) - 1 = -1 by decide, bes_m]; done) | (rw [if_neg (by decide), show (2 : Int32) - 1 = 1 by decide]; done)))))) hW hS
            · have n_75 : b = 3 := ej_teq (a := b) (b := 3) (by omega) (by omega) c_75
              refine lv_iload hx hb dL_sent_78 (lv_at hl 0 rfl) ?_
              refine lv_if_ne (tgt := 87) hx hb dL_sent_80 (by decide) (fun h9 => absurd (show (0 : Int32) = 0 from by decide) h9) (fun _ => ?_)
              refine lv_iload_n hx hb dL_sent_83 rfl (lv_at hl 3 rfl) ?_
              refine lv_goto (tgt := 108) hx hb dL_sent_84 (by decide) ?_
              exact hQ _ _ _ _ _ _ _ _ _ _ _ _ _ dL_sent_108 rfl (by refine ⟨?_, rfl, rfl, rfl, rfl, rfl, rfl, rfl, rfl⟩; exact congrArg Value.int (congrArg nI (Eq.symm (by first | (rw [next_out ho]; done) | (exfalso; omega) | (rw [next_in ho hb6 hbe, lean_l hb6 hbe (by omega), if_neg (by decide), bes_m]; done) | (rw [next_in ho hb6 hbe, lean_r hb6 hbe (by omega), if_neg (by decide)]; done) | (rw [next_in ho hb6 hbe, lean_0 hb6 hbe (by omega), hti]; first | (rw [if_pos (by decide), bes_m]; done) | (rw [if_neg (by decide), show (0 : Int32) - 1 = -1 by decide, bes_m]; done) | (rw [if_neg (by decide), show (2 : Int32) - 1 = 1 by decide]; done)))))) hW hS
        · refine ej_topi hti ?_
          refine lv_istore (lv' := [(6, .int 1), (5, .int (nI b)), (4, .int (nI (2 ^ bes (p % 7) 1))), (3, .int (nI (2 ^ (p % 7 - 1)))), (2, .int (nI (p % 7))), (0, .ref (o 0)), (1, .int (nI p))]) hx hb dL_sent_51 hl (by decide) rfl (fun ls hl => ?_)
          refine lv_iload hx hb dL_sent_53 (lv_at hl 1 rfl) ?_
          refine lv_bipush (v := (-4)) hx hb dL_sent_55 (by decide) ?_
          refine lv_icmp_ne (tgt := 66) hx hb dL_sent_57 (by decide) (fun _ => ?_) (fun h9 => absurd h9 (nI_ne4 (by omega)))
          refine lv_iload hx hb dL_sent_66 (lv_at hl 1 rfl) ?_
          refine lv_iconst (v := 3) hx hb dL_sent_68 (by decide) ?_
          refine lv_icmp_lt (tgt := 83) hx hb dL_sent_69 (by decide) (fun c_69 => ?_) (fun c_69 => ?_)
          · have n_69 : b < 3 := ej_tlt (a := b) (b := 3) (by omega) (by omega) c_69
            refine lv_iload_n hx hb dL_sent_83 rfl (lv_at hl 3 rfl) ?_
            refine lv_goto (tgt := 108) hx hb dL_sent_84 (by decide) ?_
            exact hQ _ _ _ _ _ _ _ _ _ _ _ _ _ dL_sent_108 rfl (by refine ⟨?_, rfl, rfl, rfl, rfl, rfl, rfl, rfl, rfl⟩; exact congrArg Value.int (congrArg nI (Eq.symm (by first | (rw [next_out ho]; done) | (exfalso; omega) | (rw [next_in ho hb6 hbe, lean_l hb6 hbe (by omega), if_neg (by decide), bes_m]; done) | (rw [next_in ho hb6 hbe, lean_r hb6 hbe (by omega), if_neg (by decide)]; done) | (rw [next_in ho hb6 hbe, lean_0 hb6 hbe (by omega), hti]; first | (rw [if_pos (by decide), bes_m]; done) | (rw [if_neg (by decide), show (0 : Int32) - 1 = -1 by decide, bes_m]; done) | (rw [if_neg (by decide), show (2 : Int32) - 1 = 1 by decide]; done)))))) hW hS
          · have n_69 : 3 ≤ b := ej_tnlt (a := b) (b := 3) (by omega) (by omega) c_69
            refine lv_iload hx hb dL_sent_72 (lv_at hl 1 rfl) ?_
            refine lv_iconst (v := 3) hx hb dL_sent_74 (by decide) ?_
            refine lv_icmp_ne (tgt := 87) hx hb dL_sent_75 (by decide) (fun c_75 => ?_) (fun c_75 => ?_)
            · have n_75 : b ≠ 3 := ej_tne (a := b) (b := 3) (by omega) (by omega) c_75
              refine lv_iload hx hb dL_sent_87 (lv_at hl 1 rfl) ?_
              refine lv_iconst (v := 3) hx hb dL_sent_89 (by decide) ?_
              refine lv_icmp_gt (tgt := 99) hx hb dL_sent_90 (by decide) (fun c_90 => ?_) (fun c_90 => ?_)
              · have n_90 : 3 < b := ej_tlt (a := 3) (b := b) (by omega) (by omega) c_90
                refine lv_iload hx hb dL_sent_99 (lv_at hl 2 rfl) ?_
                refine lv_goto (tgt := 108) hx hb dL_sent_101 (by decide) ?_
                exact hQ _ _ _ _ _ _ _ _ _ _ _ _ _ dL_sent_108 rfl (by refine ⟨?_, rfl, rfl, rfl, rfl, rfl, rfl, rfl, rfl⟩; exact congrArg Value.int (congrArg nI (Eq.symm (by first | (rw [next_out ho]; done) | (exfalso; omega) | (rw [next_in ho hb6 hbe, lean_l hb6 hbe (by omega), if_neg (by decide), bes_m]; done) | (rw [next_in ho hb6 hbe, lean_r hb6 hbe (by omega), if_neg (by decide)]; done) | (rw [next_in ho hb6 hbe, lean_0 hb6 hbe (by omega), hti]; first | (rw [if_pos (by decide), bes_m]; done) | (rw [if_neg (by decide), show (0 : Int32) - 1 = -1 by decide, bes_m]; done) | (rw [if_neg (by decide), show (2 : Int32) - 1 = 1 by decide]; done)))))) hW hS
              · have n_90 : b ≤ 3 := ej_tnlt (a := 3) (b := b) (by omega) (by omega) c_90
                refine lv_iload hx hb dL_sent_93 (lv_at hl 0 rfl) ?_
                refine lv_iconst (v := 2) hx hb dL_sent_95 (by decide) ?_
                refine lv_icmp_ne (tgt := 104) hx hb dL_sent_96 (by decide) (fun _ => ?_) (fun h9 => absurd h9 (show ¬ (1 : Int32) = 2 from by decide))
                refine lv_iload_n hx hb dL_sent_104 rfl (lv_at hl 3 rfl) ?_
                refine lv_iload hx hb dL_sent_105 (lv_at hl 2 rfl) ?_
                refine lv_ior hx hb dL_sent_107 ?_
                refine ej_topi (show (nI (2 ^ (p % 7 - 1))) ||| (nI (2 ^ bes (p % 7) 1)) = nI ((2 ^ (p % 7 - 1)) ||| (2 ^ bes (p % 7) 1)) from fa_or (2 ^ (p % 7 - 1)) (2 ^ bes (p % 7) 1)) ?_
                exact hQ _ _ _ _ _ _ _ _ _ _ _ _ _ dL_sent_108 rfl (by refine ⟨?_, rfl, rfl, rfl, rfl, rfl, rfl, rfl, rfl⟩; exact congrArg Value.int (congrArg nI (Eq.symm (by first | (rw [next_out ho]; done) | (exfalso; omega) | (rw [next_in ho hb6 hbe, lean_l hb6 hbe (by omega), if_neg (by decide), bes_m]; done) | (rw [next_in ho hb6 hbe, lean_r hb6 hbe (by omega), if_neg (by decide)]; done) | (rw [next_in ho hb6 hbe, lean_0 hb6 hbe (by omega), hti]; first | (rw [if_pos (by decide), bes_m]; done) | (rw [if_neg (by decide), show (0 : Int32) - 1 = -1 by decide, bes_m]; done) | (rw [if_neg (by decide), show (2 : Int32) - 1 = 1 by decide]; done)))))) hW hS
            · have n_75 : b = 3 := ej_teq (a := b) (b := 3) (by omega) (by omega) c_75
              refine lv_iload hx hb dL_sent_78 (lv_at hl 0 rfl) ?_
              refine lv_if_ne (tgt := 87) hx hb dL_sent_80 (by decide) (fun _ => ?_) (fun h9 => absurd h9 (show ¬ (1 : Int32) = 0 from by decide))
              refine lv_iload hx hb dL_sent_87 (lv_at hl 1 rfl) ?_
              refine lv_iconst (v := 3) hx hb dL_sent_89 (by decide) ?_
              refine lv_icmp_gt (tgt := 99) hx hb dL_sent_90 (by decide) (fun c_90 => ?_) (fun c_90 => ?_)
              · have n_90 : 3 < b := ej_tlt (a := 3) (b := b) (by omega) (by omega) c_90
                refine lv_iload hx hb dL_sent_99 (lv_at hl 2 rfl) ?_
                refine lv_goto (tgt := 108) hx hb dL_sent_101 (by decide) ?_
                exact hQ _ _ _ _ _ _ _ _ _ _ _ _ _ dL_sent_108 rfl (by refine ⟨?_, rfl, rfl, rfl, rfl, rfl, rfl, rfl, rfl⟩; exact congrArg Value.int (congrArg nI (Eq.symm (by first | (rw [next_out ho]; done) | (exfalso; omega) | (rw [next_in ho hb6 hbe, lean_l hb6 hbe (by omega), if_neg (by decide), bes_m]; done) | (rw [next_in ho hb6 hbe, lean_r hb6 hbe (by omega), if_neg (by decide)]; done) | (rw [next_in ho hb6 hbe, lean_0 hb6 hbe (by omega), hti]; first | (rw [if_pos (by decide), bes_m]; done) | (rw [if_neg (by decide), show (0 : Int32) - 1 = -1 by decide, bes_m]; done) | (rw [if_neg (by decide), show (2 : Int32) - 1 = 1 by decide]; done)))))) hW hS
              · have n_90 : b ≤ 3 := ej_tnlt (a := 3) (b := b) (by omega) (by omega) c_90
                refine lv_iload hx hb dL_sent_93 (lv_at hl 0 rfl) ?_
                refine lv_iconst (v := 2) hx hb dL_sent_95 (by decide) ?_
                refine lv_icmp_ne (tgt := 104) hx hb dL_sent_96 (by decide) (fun _ => ?_) (fun h9 => absurd h9 (show ¬ (1 : Int32) = 2 from by decide))
                refine lv_iload_n hx hb dL_sent_104 rfl (lv_at hl 3 rfl) ?_
                refine lv_iload hx hb dL_sent_105 (lv_at hl 2 rfl) ?_
                refine lv_ior hx hb dL_sent_107 ?_
                refine ej_topi (show (nI (2 ^ (p % 7 - 1))) ||| (nI (2 ^ bes (p % 7) 1)) = nI ((2 ^ (p % 7 - 1)) ||| (2 ^ bes (p % 7) 1)) from fa_or (2 ^ (p % 7 - 1)) (2 ^ bes (p % 7) 1)) ?_
                exact hQ _ _ _ _ _ _ _ _ _ _ _ _ _ dL_sent_108 rfl (by refine ⟨?_, rfl, rfl, rfl, rfl, rfl, rfl, rfl, rfl⟩; exact congrArg Value.int (congrArg nI (Eq.symm (by first | (rw [next_out ho]; done) | (exfalso; omega) | (rw [next_in ho hb6 hbe, lean_l hb6 hbe (by omega), if_neg (by decide), bes_m]; done) | (rw [next_in ho hb6 hbe, lean_r hb6 hbe (by omega), if_neg (by decide)]; done) | (rw [next_in ho hb6 hbe, lean_0 hb6 hbe (by omega), hti]; first | (rw [if_pos (by decide), bes_m]; done) | (rw [if_neg (by decide), show (0 : Int32) - 1 = -1 by decide, bes_m]; done) | (rw [if_neg (by decide), show (2 : Int32) - 1 = 1 by decide]; done)))))) hW hS
        · refine ej_topi hti ?_
          refine lv_istore (lv' := [(6, .int 2), (5, .int (nI b)), (4, .int (nI (2 ^ bes (p % 7) 1))), (3, .int (nI (2 ^ (p % 7 - 1)))), (2, .int (nI (p % 7))), (0, .ref (o 0)), (1, .int (nI p))]) hx hb dL_sent_51 hl (by decide) rfl (fun ls hl => ?_)
          refine lv_iload hx hb dL_sent_53 (lv_at hl 1 rfl) ?_
          refine lv_bipush (v := (-4)) hx hb dL_sent_55 (by decide) ?_
          refine lv_icmp_ne (tgt := 66) hx hb dL_sent_57 (by decide) (fun _ => ?_) (fun h9 => absurd h9 (nI_ne4 (by omega)))
          refine lv_iload hx hb dL_sent_66 (lv_at hl 1 rfl) ?_
          refine lv_iconst (v := 3) hx hb dL_sent_68 (by decide) ?_
          refine lv_icmp_lt (tgt := 83) hx hb dL_sent_69 (by decide) (fun c_69 => ?_) (fun c_69 => ?_)
          · have n_69 : b < 3 := ej_tlt (a := b) (b := 3) (by omega) (by omega) c_69
            refine lv_iload_n hx hb dL_sent_83 rfl (lv_at hl 3 rfl) ?_
            refine lv_goto (tgt := 108) hx hb dL_sent_84 (by decide) ?_
            exact hQ _ _ _ _ _ _ _ _ _ _ _ _ _ dL_sent_108 rfl (by refine ⟨?_, rfl, rfl, rfl, rfl, rfl, rfl, rfl, rfl⟩; exact congrArg Value.int (congrArg nI (Eq.symm (by first | (rw [next_out ho]; done) | (exfalso; omega) | (rw [next_in ho hb6 hbe, lean_l hb6 hbe (by omega), if_neg (by decide), bes_m]; done) | (rw [next_in ho hb6 hbe, lean_r hb6 hbe (by omega), if_neg (by decide)]; done) | (rw [next_in ho hb6 hbe, lean_0 hb6 hbe (by omega), hti]; first | (rw [if_pos (by decide), bes_m]; done) | (rw [if_neg (by decide), show (0 : Int32) - 1 = -1 by decide, bes_m]; done) | (rw [if_neg (by decide), show (2 : Int32) - 1 = 1 by decide]; done)))))) hW hS
          · have n_69 : 3 ≤ b := ej_tnlt (a := b) (b := 3) (by omega) (by omega) c_69
            refine lv_iload hx hb dL_sent_72 (lv_at hl 1 rfl) ?_
            refine lv_iconst (v := 3) hx hb dL_sent_74 (by decide) ?_
            refine lv_icmp_ne (tgt := 87) hx hb dL_sent_75 (by decide) (fun c_75 => ?_) (fun c_75 => ?_)
            · have n_75 : b ≠ 3 := ej_tne (a := b) (b := 3) (by omega) (by omega) c_75
              refine lv_iload hx hb dL_sent_87 (lv_at hl 1 rfl) ?_
              refine lv_iconst (v := 3) hx hb dL_sent_89 (by decide) ?_
              refine lv_icmp_gt (tgt := 99) hx hb dL_sent_90 (by decide) (fun c_90 => ?_) (fun c_90 => ?_)
              · have n_90 : 3 < b := ej_tlt (a := 3) (b := b) (by omega) (by omega) c_90
                refine lv_iload hx hb dL_sent_99 (lv_at hl 2 rfl) ?_
                refine lv_goto (tgt := 108) hx hb dL_sent_101 (by decide) ?_
                exact hQ _ _ _ _ _ _ _ _ _ _ _ _ _ dL_sent_108 rfl (by refine ⟨?_, rfl, rfl, rfl, rfl, rfl, rfl, rfl, rfl⟩; exact congrArg Value.int (congrArg nI (Eq.symm (by first | (rw [next_out ho]; done) | (exfalso; omega) | (rw [next_in ho hb6 hbe, lean_l hb6 hbe (by omega), if_neg (by decide), bes_m]; done) | (rw [next_in ho hb6 hbe, lean_r hb6 hbe (by omega), if_neg (by decide)]; done) | (rw [next_in ho hb6 hbe, lean_0 hb6 hbe (by omega), hti]; first | (rw [if_pos (by decide), bes_m]; done) | (rw [if_neg (by decide), show (0 : Int32) - 1 = -1 by decide, bes_m]; done) | (rw [if_neg (by decide), show (2 : Int32) - 1 = 1 by decide]; done)))))) hW hS
              · have n_90 : b ≤ 3 := ej_tnlt (a := 3) (b := b) (by omega) (by omega) c_90
                refine lv_iload hx hb dL_sent_93 (lv_at hl 0 rfl) ?_
                refine lv_iconst (v := 2) hx hb dL_sent_95 (by decide) ?_
                refine lv_icmp_ne (tgt := 104) hx hb dL_sent_96 (by decide) (fun h9 => absurd (show (2 : Int32) = 2 from by decide) h9) (fun _ => ?_)
                refine lv_iload hx hb dL_sent_99 (lv_at hl 2 rfl) ?_
                refine lv_goto (tgt := 108) hx hb dL_sent_101 (by decide) ?_
                exact hQ _ _ _ _ _ _ _ _ _ _ _ _ _ dL_sent_108 rfl (by refine ⟨?_, rfl, rfl, rfl, rfl, rfl, rfl, rfl, rfl⟩; exact congrArg Value.int (congrArg nI (Eq.symm (by first | (rw [next_out ho]; done) | (exfalso; omega) | (rw [next_in ho hb6 hbe, lean_l hb6 hbe (by omega), if_neg (by decide), bes_m]; done) | (rw [next_in ho hb6 hbe, lean_r hb6 hbe (by omega), if_neg (by decide)]; done) | (rw [next_in ho hb6 hbe, lean_0 hb6 hbe (by omega), hti]; first | (rw [if_pos (by decide), bes_m]; done) | (rw [if_neg (by decide), show (0 : Int32) - 1 = -1 by decide, bes_m]; done) | (rw [if_neg (by decide), show (2 : Int32) - 1 = 1 by decide]; done)))))) hW hS
            · have n_75 : b = 3 := ej_teq (a := b) (b := 3) (by omega) (by omega) c_75
              refine lv_iload hx hb dL_sent_78 (lv_at hl 0 rfl) ?_
              refine lv_if_ne (tgt := 87) hx hb dL_sent_80 (by decide) (fun _ => ?_) (fun h9 => absurd h9 (show ¬ (2 : Int32) = 0 from by decide))
              refine lv_iload hx hb dL_sent_87 (lv_at hl 1 rfl) ?_
              refine lv_iconst (v := 3) hx hb dL_sent_89 (by decide) ?_
              refine lv_icmp_gt (tgt := 99) hx hb dL_sent_90 (by decide) (fun c_90 => ?_) (fun c_90 => ?_)
              · have n_90 : 3 < b := ej_tlt (a := 3) (b := b) (by omega) (by omega) c_90
                refine lv_iload hx hb dL_sent_99 (lv_at hl 2 rfl) ?_
                refine lv_goto (tgt := 108) hx hb dL_sent_101 (by decide) ?_
                exact hQ _ _ _ _ _ _ _ _ _ _ _ _ _ dL_sent_108 rfl (by refine ⟨?_, rfl, rfl, rfl, rfl, rfl, rfl, rfl, rfl⟩; exact congrArg Value.int (congrArg nI (Eq.symm (by first | (rw [next_out ho]; done) | (exfalso; omega) | (rw [next_in ho hb6 hbe, lean_l hb6 hbe (by omega), if_neg (by decide), bes_m]; done) | (rw [next_in ho hb6 hbe, lean_r hb6 hbe (by omega), if_neg (by decide)]; done) | (rw [next_in ho hb6 hbe, lean_0 hb6 hbe (by omega), hti]; first | (rw [if_pos (by decide), bes_m]; done) | (rw [if_neg (by decide), show (0 : Int32) - 1 = -1 by decide, bes_m]; done) | (rw [if_neg (by decide), show (2 : Int32) - 1 = 1 by decide]; done)))))) hW hS
              · have n_90 : b ≤ 3 := ej_tnlt (a := 3) (b := b) (by omega) (by omega) c_90
                refine lv_iload hx hb dL_sent_93 (lv_at hl 0 rfl) ?_
                refine lv_iconst (v := 2) hx hb dL_sent_95 (by decide) ?_
                refine lv_icmp_ne (tgt := 104) hx hb dL_sent_96 (by decide) (fun h9 => absurd (show (2 : Int32) = 2 from by decide) h9) (fun _ => ?_)
                refine lv_iload hx hb dL_sent_99 (lv_at hl 2 rfl) ?_
                refine lv_goto (tgt := 108) hx hb dL_sent_101 (by decide) ?_
                exact hQ _ _ _ _ _ _ _ _ _ _ _ _ _ dL_sent_108 rfl (by refine ⟨?_, rfl, rfl, rfl, rfl, rfl, rfl, rfl, rfl⟩; exact congrArg Value.int (congrArg nI (Eq.symm (by first | (rw [next_out ho]; done) | (exfalso; omega) | (rw [next_in ho hb6 hbe, lean_l hb6 hbe (by omega), if_neg (by decide), bes_m]; done) | (rw [next_in ho hb6 hbe, lean_r hb6 hbe (by omega), if_neg (by decide)]; done) | (rw [next_in ho hb6 hbe, lean_0 hb6 hbe (by omega), hti]; first | (rw [if_pos (by decide), bes_m]; done) | (rw [if_neg (by decide), show (0 : Int32) - 1 = -1 by decide, bes_m]; done) | (rw [if_neg (by decide), show (2 : Int32) - 1 = 1 by decide]; done)))))) hW hS
    refine lv_icmp_ge (tgt := 32) hx hb dL_sent_23 (by decide) (fun c_23 => ?_) (fun c_23 => ?_)
    · have n_23 : 6 ≤ (p % 7) := ej_tle (a := 6) (b := (p % 7)) (by omega) (by omega) c_23
      refine lv_bipush (v := 6) hx hb dL_sent_32 (by decide) ?_
      refine ej_topi (show (6 : Int32) = nI (bes (p % 7) 1) from (by rw [bes_p, if_pos (by omega)]; rfl)) ?_
      exact jp34 _ _ _ hW hS (lv_sub hl [0, 1, 2, 3] rfl)
    · have n_23 : (p % 7) < 6 := ej_tnle (a := 6) (b := (p % 7)) (by omega) (by omega) c_23
      refine lv_iload_n hx hb dL_sent_26 rfl (lv_at hl 1 rfl) ?_
      refine lv_iconst (v := 1) hx hb dL_sent_27 (by decide) ?_
      refine lv_iadd hx hb dL_sent_28 ?_
      refine ej_topi (show (nI (p % 7)) + 1 = nI ((p % 7) + 1) from nI_add (p % 7) 1) ?_
      refine lv_goto (tgt := 34) hx hb dL_sent_29 (by decide) ?_
      refine ej_topi (show (nI ((p % 7) + 1)) = nI (bes (p % 7) 1) from (by rw [bes_p, if_neg (by omega)])) ?_
      exact jp34 _ _ _ hW hS (lv_sub hl [0, 1, 2, 3] rfl)
  refine lv_if_le (tgt := 16) hx hb dL_sent_7 (by decide) (fun c_7 => ?_) (fun c_7 => ?_)
  · have n_7 : (p % 7) ≤ 0 := ej_tle (a := (p % 7)) (b := 0) (by omega) (by omega) c_7
    refine lv_iconst (v := 0) hx hb dL_sent_16 (by decide) ?_
    refine ej_topi (show (0 : Int32) = nI (p % 7 - 1) from (by rw [show p % 7 - 1 = 0 by omega]; rfl)) ?_
    exact jp17 _ _ _ hW hS (lv_sub hl [0, 1, 2] rfl)
  · have n_7 : 0 < (p % 7) := ej_tnle (a := (p % 7)) (b := 0) (by omega) (by omega) c_7
    refine lv_iload_n hx hb dL_sent_10 rfl (lv_at hl 0 rfl) ?_
    refine lv_iconst (v := 1) hx hb dL_sent_11 (by decide) ?_
    refine lv_isub hx hb dL_sent_12 ?_
    refine lv_goto (tgt := 17) hx hb dL_sent_13 (by decide) ?_
    refine ej_topi (show ((nI (p % 7)) - 1) = nI (p % 7 - 1) from pk_sub (a := p % 7) (b := 1) (by omega)) ?_
    exact jp17 _ _ _ hW hS (lv_sub hl [0, 1, 2] rfl)
