set_option maxHeartbeats 4000000 in
set_option maxRecDepth 100000 in
theorem k_would (l : Launch) (D : va_G) (tys : eT) (cI cT : ClassId) (ht0 : tys[0]? = some (cI, .int)) (ht1 : tys[1]? = some (cT, .object RX5)) (o aT aB aS g y z : Nat → Nat) (ad : Nat → Nat → Nat) (t : Pn) (u : Tr) (hs : List (Pn × Tr)) (sn : Option (Pn × Tr)) (q : Nat) (f : Nat → Int32) (s0 s1 s2 : Int32) (x : Int32) (m : Nat) (htl : tilOK t) (ho : okS m t u) : lc l D tys cI cT o aT aB aS g y z ad yL_would wsL_would (eR 20 1000) [.ref (o 0), .int x] t u hs sn q f s0 s1 s2 (sameL t u hs q f s0 s1 s2 (fun v => v = .int 1)) := by
  refine lc_int cL_would 13 (by decide +kernel) rfl (Nat.le_of_ble_eq_true rfl) ?_
  intro p9 e9 s9 m9 a9 b9 t9 c9 H0 A Q ls S hK hN hA hD hW hS hl hQ
  have S : CallFix p9 m9 c9 cL_would 13 s9 a9 wsL_would RL := S
  obtain ⟨hx, hb, hml, hown, hts⟩ := id S
  have hl : lv_has ls 13 [(0, .ref (o 0)), (1, .int x)] := hl
  obtain ⟨L, hL, eL⟩ := le_20 ho.2.1.1
  obtain ⟨hv, e_hv⟩ : ∃ z9 : Int32, z9 = if lowN (x >>> (4 &&& 31)) 2 = 0 then 1 else 0 := ⟨_, rfl⟩
  refine lv_iload_n hx hb dL_would_0 rfl (lv_at hl 1 rfl) ?_
  refine lv_bipush (v := 9) hx hb dL_would_1 (by decide) ?_
  refine ej_L0 (rest := []) (As := [.int x, .int 9]) S hK hN hA hD hW hS (c_L_low l D tys cI ht0 x 9 (by omega) (by omega)) (va_cwS 2 hts gL_would_L_low rfl rfl rfl hds_L_low ⟨Nat.le_of_ble_eq_true rfl, Nat.le_of_ble_eq_true rfl⟩) rfl rfl hl.1 (Nat.le_of_ble_eq_true rfl) dL_would_3 ⟨Nat.zero_le _, Nat.zero_le _⟩ (fun H locs hW hS => ?_)
  show W p9 l e9 (eR 20 1000) s9 m9 a9 b9 t9 c9 H locs 0 0 Q (F0 m9 6 ls [.int (nI (lowN x 9))])
  have lw_3 := lowN_lt x (n := 9) (by omega)
  refine lv_iconst (v := 1) hx hb dL_would_6 (by decide) ?_
  refine lv_isub hx hb dL_would_7 ?_
  rcases (show lowN x 9 = 0 ∨ lowN x 9 = 8 ∨ (0 < lowN x 9 ∧ lowN x 9 < 8) by omega) with z8 | z8 | z8
  · refine ej_topi (show nI (lowN x 9) - 1 = -1 from by rw [z8]; decide) ?_
    refine lv_istore_n (lv' := [(2, .int (-1)), (0, .ref (o 0)), (1, .int x)]) hx hb dL_would_8 rfl hl (by decide) rfl (fun ls hl => ?_)
    refine lv_iload_n hx hb dL_would_9 rfl (lv_at hl 2 rfl) ?_
    refine lv_iconst (v := 4) hx hb dL_would_10 (by decide) ?_
    refine lv_ishr hx hb dL_would_11 ?_
    refine lv_iconst (v := 2) hx hb dL_would_12 (by decide) ?_
    refine ej_L0 (rest := []) (As := [.int (x >>> (4 &&& 31)), .int 2]) S hK hN hA hD hW hS (c_L_low l D tys cI ht0 (x >>> (4 &&& 31)) 2 (by omega) (by omega)) (va_cwS 2 hts gL_would_L_low rfl rfl rfl hds_L_low ⟨Nat.le_of_ble_eq_true rfl, Nat.le_of_ble_eq_true rfl⟩) rfl rfl hl.1 (Nat.le_of_ble_eq_true rfl) dL_would_13 ⟨Nat.zero_le _, Nat.zero_le _⟩ (fun H locs hW hS => ?_)
    show W p9 l e9 (eR 20 1000) s9 m9 a9 b9 t9 c9 H locs 0 0 Q (F0 m9 16 ls [.int (nI (lowN (x >>> (4 &&& 31)) 2))])
    have lw_13 := lowN_lt (x >>> (4 &&& 31)) (n := 2) (by omega)
    have jp24 : ∀ (H : Heap) (locs : List Loc) (ls : Array Slot), SW D cI cT o aT aB aS g y z ad t u hs sn q f s0 s1 s2 H → va_S A H0 H locs → lv_has ls 13 [(2, .int (-1)), (0, .ref (o 0)), (1, .int x)] → W p9 l e9 (eR 20 1000) s9 m9 a9 b9 t9 c9 H locs 0 0 Q (F0 m9 24 ls [.int hv]) := by
      intro H locs ls hW hS hl
      refine lv_istore_n (lv' := [(3, .int hv), (2, .int (-1)), (0, .ref (o 0)), (1, .int x)]) hx hb dL_would_24 rfl hl (by decide) rfl (fun ls hl => ?_)
      have jp267 : ∀ (H : Heap) (locs : List Loc) (ls : Array Slot), SW D cI cT o aT aB aS g y z ad t u hs sn q f s0 s1 s2 H → va_S A H0 H locs → lv_has ls 13 [(0, .ref (o 0)), (2, .int (-1)), (3, .int hv), (8, .int (if 0 < T_le u then nI (bstG t u hv 7).1 else -2)), (9, .int (nI L)), (10, .int 1)] → W p9 l e9 (eR 20 1000) s9 m9 a9 b9 t9 c9 H locs 0 0 Q (F0 m9 267 ls [.int 1]) := by
        intro H locs ls  hW hS hl
        refine lv_istore (lv' := [(12, .int 1), (0, .ref (o 0)), (2, .int (-1)), (3, .int hv), (8, .int (if 0 < T_le u then nI (bstG t u hv 7).1 else -2)), (9, .int (nI L)), (10, .int 1)]) hx hb dL_would_267 hl (by decide) rfl (fun ls hl => ?_)
        by_cases hz : L = 0
        · have hl : lv_has ls 13 [(12, .int 1), (0, .ref (o 0)), (2, .int (-1)), (3, .int hv), (8, .int (-2)), (9, .int 0), (10, .int 1)] := by rw [if_neg (show ¬ 0 < T_le u by rw [eL, hz]; decide), hz] at hl; exact hl
          refine lv_iload hx hb dL_would_269 (lv_at hl 0 rfl) ?_
          refine lv_if_eq (tgt := 330) hx hb dL_would_271 (by decide) (fun h9 => absurd h9 (show ¬ (1 : Int32) = 0 from by decide)) (fun _ => ?_)
          refine lv_iload hx hb dL_would_274 (lv_at hl 5 rfl) ?_
          refine lv_if_ne (tgt := 289) hx hb dL_would_276 (by decide) (fun h9 => absurd (show (0 : Int32) = 0 from by decide) h9) (fun _ => ?_)
          refine lv_iload hx hb dL_would_279 (lv_at hl 4 rfl) ?_
          refine lv_bipush (v := (-2)) hx hb dL_would_281 (by decide) ?_
          refine lv_icmp_ne (tgt := 330) hx hb dL_would_283 (by decide) (fun h9 => absurd (show ((-2) : Int32) = (-2) from by decide) h9) (fun _ => ?_)
          refine lv_goto (tgt := 326) hx hb dL_would_286 (by decide) ?_
          refine lv_iconst (v := 1) hx hb dL_would_326 (by decide) ?_
          refine lv_goto (tgt := 331) hx hb dL_would_327 (by decide) ?_
          exact hQ _ _ _ _ _ _ _ _ _ _ _ _ _ dL_would_331 rfl (by exact ⟨rfl, rfl, rfl, rfl, rfl, rfl, rfl, rfl, rfl⟩) hW hS
        · have hlp : 0 < T_le u := by rw [eL]; exact ej_lt (a := 0) (b := L) (by omega) (by omega)
          have hl : lv_has ls 13 [(12, .int 1), (0, .ref (o 0)), (2, .int (-1)), (3, .int hv), (8, .int (nI ((bstG t u hv 7).1))), (9, .int (nI L)), (10, .int 1)] := by rw [if_pos hlp] at hl; exact hl
          have hb7 := bst_lt hv ho.1 ho.2.1 hlp
          refine lv_iload hx hb dL_would_269 (lv_at hl 0 rfl) ?_
          refine lv_if_eq (tgt := 330) hx hb dL_would_271 (by decide) (fun h9 => absurd h9 (show ¬ (1 : Int32) = 0 from by decide)) (fun _ => ?_)
          refine lv_iload hx hb dL_would_274 (lv_at hl 5 rfl) ?_
          refine lv_if_ne (tgt := 289) hx hb dL_would_276 (by decide) (fun _ => ?_) (fun h9 => absurd h9 (ej_ne (a := L) (b := 0) (by omega) (by omega) (show L ≠ 0 from by omega)))
          refine lv_iload hx hb dL_would_289 (lv_at hl 4 rfl) ?_
          refine lv_if_lt (tgt := 330) hx hb dL_would_291 (by decide) (fun h9 => absurd h9 (ej_nlt (a := ((bstG t u hv 7).1)) (b := 0) (by omega) (show 0 ≤ ((bstG t u hv 7).1) from by omega))) (fun _ => ?_)
          refine lv_iload hx hb dL_would_294 (lv_at hl 4 rfl) ?_
          refine lv_bipush (v := 7) hx hb dL_would_296 (by decide) ?_
          refine lv_icmp_ge (tgt := 330) hx hb dL_would_298 (by decide) (fun h9 => absurd h9 (ej_ge (a := ((bstG t u hv 7).1)) (b := 7) (by omega) (show ((bstG t u hv 7).1) < 7 from by omega))) (fun _ => ?_)
          refine lv_iload hx hb dL_would_301 (lv_at hl 6 rfl) ?_
          refine lv_if_ne (tgt := 326) hx hb dL_would_303 (by decide) (fun _ => ?_) (fun h9 => absurd h9 (show ¬ (1 : Int32) = 0 from by decide))
          refine lv_iconst (v := 1) hx hb dL_would_326 (by decide) ?_
          refine lv_goto (tgt := 331) hx hb dL_would_327 (by decide) ?_
          exact hQ _ _ _ _ _ _ _ _ _ _ _ _ _ dL_would_331 rfl (by exact ⟨rfl, rfl, rfl, rfl, rfl, rfl, rfl, rfl, rfl⟩) hW hS
      refine lv_iload_n hx hb dL_would_25 rfl (lv_at hl 3 rfl) ?_
      refine lv_iconst (v := 5) hx hb dL_would_26 (by decide) ?_
      refine lv_ishr hx hb dL_would_27 ?_
      refine lv_bipush (v := 22) hx hb dL_would_28 (by decide) ?_
      refine ej_L0 (rest := []) (As := [.int (x >>> (5 &&& 31)), .int 22]) S hK hN hA hD hW hS (c_L_low l D tys cI ht0 (x >>> (5 &&& 31)) 22 (by omega) (by omega)) (va_cwS 2 hts gL_would_L_low rfl rfl rfl hds_L_low ⟨Nat.le_of_ble_eq_true rfl, Nat.le_of_ble_eq_true rfl⟩) rfl rfl hl.1 (Nat.le_of_ble_eq_true rfl) dL_would_30 ⟨Nat.zero_le _, Nat.zero_le _⟩ (fun H locs hW hS => ?_)
      show W p9 l e9 (eR 20 1000) s9 m9 a9 b9 t9 c9 H locs 0 0 Q (F0 m9 33 ls [.int (nI (lowN (x >>> (5 &&& 31)) 22))])
      have lw_30 := lowN_lt (x >>> (5 &&& 31)) (n := 22) (by omega)
      refine lv_istore (lv' := [(4, .int (nI (lowN (x >>> (5 &&& 31)) 22))), (3, .int hv), (2, .int (-1)), (0, .ref (o 0)), (1, .int x)]) hx hb dL_would_33 hl (by decide) rfl (fun ls hl => ?_)
      refine lv_iload_n hx hb dL_would_35 rfl (lv_at hl 4 rfl) ?_
      refine lv_bipush (v := 9) hx hb dL_would_36 (by decide) ?_
      refine lv_ishr hx hb dL_would_38 ?_
      refine lv_iconst (v := 5) hx hb dL_would_39 (by decide) ?_
      refine ej_L0 (rest := []) (As := [.int (x >>> (9 &&& 31)), .int 5]) S hK hN hA hD hW hS (c_L_low l D tys cI ht0 (x >>> (9 &&& 31)) 5 (by omega) (by omega)) (va_cwS 2 hts gL_would_L_low rfl rfl rfl hds_L_low ⟨Nat.le_of_ble_eq_true rfl, Nat.le_of_ble_eq_true rfl⟩) rfl rfl hl.1 (Nat.le_of_ble_eq_true rfl) dL_would_40 ⟨Nat.zero_le _, Nat.zero_le _⟩ (fun H locs hW hS => ?_)
      show W p9 l e9 (eR 20 1000) s9 m9 a9 b9 t9 c9 H locs 0 0 Q (F0 m9 43 ls [.int (nI (lowN (x >>> (9 &&& 31)) 5))])
      have lw_40 := lowN_lt (x >>> (9 &&& 31)) (n := 5) (by omega)
      refine lv_iconst (v := 1) hx hb dL_would_43 (by decide) ?_
      refine lv_isub hx hb dL_would_44 ?_
      refine lv_istore (lv' := [(5, .int ((nI (lowN (x >>> (9 &&& 31)) 5)) - 1)), (4, .int (nI (lowN (x >>> (5 &&& 31)) 22))), (3, .int hv), (2, .int (-1)), (0, .ref (o 0)), (1, .int x)]) hx hb dL_would_45 hl (by decide) rfl (fun ls hl => ?_)
      refine lv_aload_n hx hb dL_would_47 rfl (lv_at hl 4 rfl) ?_
      refine lv_iload_n hx hb dL_would_48 rfl (lv_at hl 3 rfl) ?_
      refine lr_ends_no (rest := []) (v := (-1)) S hK hN ht0 ht1 hA hD hW hS htl (by decide) (cwV 1 hts gL_would_X6_ends rfl rfl rfl hdv_X6_ends ⟨Nat.le_of_ble_eq_true rfl, Nat.le_of_ble_eq_true rfl⟩) rfl hl.1 (Nat.le_of_ble_eq_true rfl) dL_would_49 ⟨Nat.zero_le _, Nat.zero_le _⟩ (fun H locs hW hS => ?_)
      show W p9 l e9 (eR 20 1000) s9 m9 a9 b9 t9 c9 H locs 0 0 Q (F0 m9 52 ls [.int (-1)])
      have hW : SW D cI cT o aT aB aS g y z ad t u hs sn q f s0 s1 s2 H := hW
      refine lv_istore (lv' := [(6, .int (-1)), (5, .int ((nI (lowN (x >>> (9 &&& 31)) 5)) - 1)), (4, .int (nI (lowN (x >>> (5 &&& 31)) 22))), (3, .int hv), (2, .int (-1)), (0, .ref (o 0)), (1, .int x)]) hx hb dL_would_52 hl (by decide) rfl (fun ls hl => ?_)
      refine lv_aload_n hx hb dL_would_54 rfl (lv_at hl 5 rfl) ?_
      refine lv_iload_n hx hb dL_would_55 rfl (lv_at hl 4 rfl) ?_
      refine lv_iload_n hx hb dL_would_56 rfl (lv_at hl 3 rfl) ?_
      refine lv_iload hx hb dL_would_57 (lv_at hl 2 rfl) ?_
      refine lv_iload hx hb dL_would_59 (lv_at hl 1 rfl) ?_
      refine lr_ifShot_no (rest := []) (v := (-1)) (h := hv) (m9 := nI (lowN (x >>> (5 &&& 31)) 22)) (w := (nI (lowN (x >>> (9 &&& 31)) 5)) - 1) S hK hN ht0 ht1 hA hD hW hS htl (fun z => absurd z.1 (by decide)) (cwV 4 hts gL_would_X6_ifShot rfl rfl rfl hdv_X6_ifShot ⟨Nat.le_of_ble_eq_true rfl, Nat.le_of_ble_eq_true rfl⟩) rfl hl.1 (Nat.le_of_ble_eq_true rfl) dL_would_61 ⟨Nat.zero_le _, Nat.zero_le _⟩ (fun H locs hW hS => ?_)
      show W p9 l e9 (eR 20 1000) s9 m9 a9 b9 t9 c9 H locs 0 0 Q (F0 m9 64 ls [.int (-1)])
      have hW : SW D cI cT o aT aB aS g y z ad t u hs sn q f s0 s1 s2 H := hW
      refine lv_istore (lv' := [(7, .int (-1)), (6, .int (-1)), (5, .int ((nI (lowN (x >>> (9 &&& 31)) 5)) - 1)), (4, .int (nI (lowN (x >>> (5 &&& 31)) 22))), (3, .int hv), (2, .int (-1)), (0, .ref (o 0)), (1, .int x)]) hx hb dL_would_64 hl (by decide) rfl (fun ls hl => ?_)
      refine lv_aload_n hx hb dL_would_66 rfl (lv_at hl 6 rfl) ?_
      refine lv_iload_n hx hb dL_would_67 rfl (lv_at hl 4 rfl) ?_
      refine lr_bestA (rest := []) (h := hv) S hK hN ht0 ht1 hA hD hW hS htl  (cwV 1 hts gL_would_X6_best rfl rfl rfl hdv_X6_best ⟨Nat.le_of_ble_eq_true rfl, Nat.le_of_ble_eq_true rfl⟩) rfl hl.1 (Nat.le_of_ble_eq_true rfl) dL_would_68 ⟨Nat.zero_le _, Nat.zero_le _⟩ (fun H locs hW hS => ?_)
      show W p9 l e9 (eR 20 1000) s9 m9 a9 b9 t9 c9 H locs 0 0 Q (F0 m9 71 ls [.int (if 0 < T_le u then nI (bstG t u hv 7).1 else -2)])
      have hW : SW D cI cT o aT aB aS g y z ad t u hs sn q f s0 s1 s2 H := hW
      refine lv_istore (lv' := [(8, .int (if 0 < T_le u then nI (bstG t u hv 7).1 else -2)), (7, .int (-1)), (6, .int (-1)), (5, .int ((nI (lowN (x >>> (9 &&& 31)) 5)) - 1)), (4, .int (nI (lowN (x >>> (5 &&& 31)) 22))), (3, .int hv), (2, .int (-1)), (0, .ref (o 0)), (1, .int x)]) hx hb dL_would_71 hl (by decide) rfl (fun ls hl => ?_)
      refine lv_aload_n hx hb dL_would_73 rfl (lv_at hl 7 rfl) ?_
      refine lv_iconst (v := 1) hx hb dL_would_74 (by decide) ?_
      refine lr_count (rest := []) (w := 1) S hK hN ht0 ht1 hA hD hW hS htl  (cwV 1 hts gL_would_X6_count rfl rfl rfl hdv_X6_count ⟨Nat.le_of_ble_eq_true rfl, Nat.le_of_ble_eq_true rfl⟩) rfl hl.1 (Nat.le_of_ble_eq_true rfl) dL_would_75 ⟨Nat.zero_le _, Nat.zero_le _⟩ (fun H locs hW hS => ?_)
      show W p9 l e9 (eR 20 1000) s9 m9 a9 b9 t9 c9 H locs 0 0 Q (F0 m9 78 ls [.int (couA t u q hs.length 1)])
      have hW : SW D cI cT o aT aB aS g y z ad t u hs sn q f s0 s1 s2 H := hW
      refine ej_topi (show (couA t u q hs.length 1) = T_le u from lkc_1 t u q hs.length) ?_
      refine ej_topi (show (T_le u) = nI L from eL) ?_
      refine lv_istore (lv' := [(9, .int (nI L)), (8, .int (if 0 < T_le u then nI (bstG t u hv 7).1 else -2)), (7, .int (-1)), (6, .int (-1)), (5, .int ((nI (lowN (x >>> (9 &&& 31)) 5)) - 1)), (4, .int (nI (lowN (x >>> (5 &&& 31)) 22))), (3, .int hv), (2, .int (-1)), (0, .ref (o 0)), (1, .int x)]) hx hb dL_would_78 hl (by decide) rfl (fun ls hl => ?_)
      refine lv_iload_n hx hb dL_would_80 rfl (lv_at hl 7 rfl) ?_
      refine lv_if_lt (tgt := 90) hx hb dL_would_81 (by decide) (fun _ => ?_) (fun h9 => absurd (show ((-1) : Int32) < 0 from by decide) h9)
      refine lv_iconst (v := 1) hx hb dL_would_90 (by decide) ?_
      refine lv_goto (tgt := 95) hx hb dL_would_91 (by decide) ?_
      refine lv_istore (lv' := [(10, .int 1), (9, .int (nI L)), (8, .int (if 0 < T_le u then nI (bstG t u hv 7).1 else -2)), (7, .int (-1)), (6, .int (-1)), (5, .int ((nI (lowN (x >>> (9 &&& 31)) 5)) - 1)), (4, .int (nI (lowN (x >>> (5 &&& 31)) 22))), (3, .int hv), (2, .int (-1)), (0, .ref (o 0)), (1, .int x)]) hx hb dL_would_95 hl (by decide) rfl (fun ls hl => ?_)
      refine lv_iload hx hb dL_would_97 (lv_at hl 0 rfl) ?_
      refine lv_if_ne (tgt := 125) hx hb dL_would_99 (by decide) (fun _ => ?_) (fun h9 => absurd h9 (show ¬ (1 : Int32) = 0 from by decide))
      refine lv_iconst (v := 1) hx hb dL_would_125 (by decide) ?_
      refine lv_goto (tgt := 130) hx hb dL_would_126 (by decide) ?_
      refine lv_istore (lv' := [(11, .int 1), (10, .int 1), (9, .int (nI L)), (8, .int (if 0 < T_le u then nI (bstG t u hv 7).1 else -2)), (7, .int (-1)), (6, .int (-1)), (5, .int ((nI (lowN (x >>> (9 &&& 31)) 5)) - 1)), (4, .int (nI (lowN (x >>> (5 &&& 31)) 22))), (3, .int hv), (2, .int (-1)), (0, .ref (o 0)), (1, .int x)]) hx hb dL_would_130 hl (by decide) rfl (fun ls hl => ?_)
      refine lv_iload hx hb dL_would_132 (lv_at hl 1 rfl) ?_
      refine lv_if_eq (tgt := 146) hx hb dL_would_134 (by decide) (fun h9 => absurd h9 (show ¬ (1 : Int32) = 0 from by decide)) (fun _ => ?_)
      refine lv_iload hx hb dL_would_137 (lv_at hl 5 rfl) ?_
      refine lv_iconst (v := (-1)) hx hb dL_would_139 (by decide) ?_
      refine lv_icmp_ne (tgt := 266) hx hb dL_would_140 (by decide) (fun h9 => absurd (show ((-1) : Int32) = (-1) from by decide) h9) (fun _ => ?_)
      refine lv_goto (tgt := 172) hx hb dL_would_143 (by decide) ?_
      refine lv_iload hx hb dL_would_172 (lv_at hl 0 rfl) ?_
      refine lv_if_eq (tgt := 186) hx hb dL_would_174 (by decide) (fun h9 => absurd h9 (show ¬ (1 : Int32) = 0 from by decide)) (fun _ => ?_)
      refine lv_iload hx hb dL_would_177 (lv_at hl 4 rfl) ?_
      refine lv_iconst (v := (-1)) hx hb dL_would_179 (by decide) ?_
      refine lv_icmp_ne (tgt := 266) hx hb dL_would_180 (by decide) (fun h9 => absurd (show ((-1) : Int32) = (-1) from by decide) h9) (fun _ => ?_)
      refine lv_goto (tgt := 262) hx hb dL_would_183 (by decide) ?_
      refine lv_iconst (v := 1) hx hb dL_would_262 (by decide) ?_
      refine lv_goto (tgt := 267) hx hb dL_would_263 (by decide) ?_
      exact jp267 _ _ _  hW hS (lv_sub hl [10, 9, 8, 3, 2, 1] rfl)
    refine lv_if_ne (tgt := 23) hx hb dL_would_16 (by decide) (fun c_16 => ?_) (fun c_16 => ?_)
    · have n_16 : (lowN (x >>> (4 &&& 31)) 2) ≠ 0 := ej_tne (a := (lowN (x >>> (4 &&& 31)) 2)) (b := 0) (by omega) (by omega) c_16
      refine lv_iconst (v := 0) hx hb dL_would_23 (by decide) ?_
      refine ej_topi (show (0 : Int32) = hv from (by rw [e_hv, if_neg n_16])) ?_
      exact jp24 _ _ _ hW hS (lv_sub hl [0, 1, 2] rfl)
    · have n_16 : (lowN (x >>> (4 &&& 31)) 2) = 0 := ej_teq (a := (lowN (x >>> (4 &&& 31)) 2)) (b := 0) (by omega) (by omega) c_16
      refine lv_iconst (v := 1) hx hb dL_would_19 (by decide) ?_
      refine lv_goto (tgt := 24) hx hb dL_would_20 (by decide) ?_
      refine ej_topi (show (1 : Int32) = hv from (by rw [e_hv, if_pos n_16])) ?_
      exact jp24 _ _ _ hW hS (lv_sub hl [0, 1, 2] rfl)
  · refine ej_topi (show nI (lowN x 9) - 1 = 7 from by rw [z8]; decide) ?_
    refine lv_istore_n (lv' := [(2, .int 7), (0, .ref (o 0)), (1, .int x)]) hx hb dL_would_8 rfl hl (by decide) rfl (fun ls hl => ?_)
    refine lv_iload_n hx hb dL_would_9 rfl (lv_at hl 2 rfl) ?_
    refine lv_iconst (v := 4) hx hb dL_would_10 (by decide) ?_
    refine lv_ishr hx hb dL_would_11 ?_
    refine lv_iconst (v := 2) hx hb dL_would_12 (by decide) ?_
    refine ej_L0 (rest := []) (As := [.int (x >>> (4 &&& 31)), .int 2]) S hK hN hA hD hW hS (c_L_low l D tys cI ht0 (x >>> (4 &&& 31)) 2 (by omega) (by omega)) (va_cwS 2 hts gL_would_L_low rfl rfl rfl hds_L_low ⟨Nat.le_of_ble_eq_true rfl, Nat.le_of_ble_eq_true rfl⟩) rfl rfl hl.1 (Nat.le_of_ble_eq_true rfl) dL_would_13 ⟨Nat.zero_le _, Nat.zero_le _⟩ (fun H locs hW hS => ?_)
    show W p9 l e9 (eR 20 1000) s9 m9 a9 b9 t9 c9 H locs 0 0 Q (F0 m9 16 ls [.int (nI (lowN (x >>> (4 &&& 31)) 2))])
    have lw_13 := lowN_lt (x >>> (4 &&& 31)) (n := 2) (by omega)
    have jp24 : ∀ (H : Heap) (locs : List Loc) (ls : Array Slot), SW D cI cT o aT aB aS g y z ad t u hs sn q f s0 s1 s2 H → va_S A H0 H locs → lv_has ls 13 [(2, .int 7), (0, .ref (o 0)), (1, .int x)] → W p9 l e9 (eR 20 1000) s9 m9 a9 b9 t9 c9 H locs 0 0 Q (F0 m9 24 ls [.int hv]) := by
      intro H locs ls hW hS hl
      refine lv_istore_n (lv' := [(3, .int hv), (2, .int 7), (0, .ref (o 0)), (1, .int x)]) hx hb dL_would_24 rfl hl (by decide) rfl (fun ls hl => ?_)
      have jp267 : ∀ (H : Heap) (locs : List Loc) (ls : Array Slot), SW D cI cT o aT aB aS g y z ad t u hs sn q f s0 s1 s2 H → va_S A H0 H locs → lv_has ls 13 [(0, .ref (o 0)), (2, .int 7), (3, .int hv), (8, .int (if 0 < T_le u then nI (bstG t u hv 7).1 else -2)), (9, .int (nI L)), (10, .int 1)] → W p9 l e9 (eR 20 1000) s9 m9 a9 b9 t9 c9 H locs 0 0 Q (F0 m9 267 ls [.int 1]) := by
        intro H locs ls  hW hS hl
        refine lv_istore (lv' := [(12, .int 1), (0, .ref (o 0)), (2, .int 7), (3, .int hv), (8, .int (if 0 < T_le u then nI (bstG t u hv 7).1 else -2)), (9, .int (nI L)), (10, .int 1)]) hx hb dL_would_267 hl (by decide) rfl (fun ls hl => ?_)
        by_cases hz : L = 0
        · have hl : lv_has ls 13 [(12, .int 1), (0, .ref (o 0)), (2, .int 7), (3, .int hv), (8, .int (-2)), (9, .int 0), (10, .int 1)] := by rw [if_neg (show ¬ 0 < T_le u by rw [eL, hz]; decide), hz] at hl; exact hl
          refine lv_iload hx hb dL_would_269 (lv_at hl 0 rfl) ?_
          refine lv_if_eq (tgt := 330) hx hb dL_would_271 (by decide) (fun h9 => absurd h9 (show ¬ (1 : Int32) = 0 from by decide)) (fun _ => ?_)
          refine lv_iload hx hb dL_would_274 (lv_at hl 5 rfl) ?_
          refine lv_if_ne (tgt := 289) hx hb dL_would_276 (by decide) (fun h9 => absurd (show (0 : Int32) = 0 from by decide) h9) (fun _ => ?_)
          refine lv_iload hx hb dL_would_279 (lv_at hl 4 rfl) ?_
          refine lv_bipush (v := (-2)) hx hb dL_would_281 (by decide) ?_
          refine lv_icmp_ne (tgt := 330) hx hb dL_would_283 (by decide) (fun h9 => absurd (show ((-2) : Int32) = (-2) from by decide) h9) (fun _ => ?_)
          refine lv_goto (tgt := 326) hx hb dL_would_286 (by decide) ?_
          refine lv_iconst (v := 1) hx hb dL_would_326 (by decide) ?_
          refine lv_goto (tgt := 331) hx hb dL_would_327 (by decide) ?_
          exact hQ _ _ _ _ _ _ _ _ _ _ _ _ _ dL_would_331 rfl (by exact ⟨rfl, rfl, rfl, rfl, rfl, rfl, rfl, rfl, rfl⟩) hW hS
        · have hlp : 0 < T_le u := by rw [eL]; exact ej_lt (a := 0) (b := L) (by omega) (by omega)
          have hl : lv_has ls 13 [(12, .int 1), (0, .ref (o 0)), (2, .int 7), (3, .int hv), (8, .int (nI ((bstG t u hv 7).1))), (9, .int (nI L)), (10, .int 1)] := by rw [if_pos hlp] at hl; exact hl
          have hb7 := bst_lt hv ho.1 ho.2.1 hlp
          refine lv_iload hx hb dL_would_269 (lv_at hl 0 rfl) ?_
          refine lv_if_eq (tgt := 330) hx hb dL_would_271 (by decide) (fun h9 => absurd h9 (show ¬ (1 : Int32) = 0 from by decide)) (fun _ => ?_)
          refine lv_iload hx hb dL_would_274 (lv_at hl 5 rfl) ?_
          refine lv_if_ne (tgt := 289) hx hb dL_would_276 (by decide) (fun _ => ?_) (fun h9 => absurd h9 (ej_ne (a := L) (b := 0) (by omega) (by omega) (show L ≠ 0 from by omega)))
          refine lv_iload hx hb dL_would_289 (lv_at hl 4 rfl) ?_
          refine lv_if_lt (tgt := 330) hx hb dL_would_291 (by decide) (fun h9 => absurd h9 (ej_nlt (a := ((bstG t u hv 7).1)) (b := 0) (by omega) (show 0 ≤ ((bstG t u hv 7).1) from by omega))) (fun _ => ?_)
          refine lv_iload hx hb dL_would_294 (lv_at hl 4 rfl) ?_
          refine lv_bipush (v := 7) hx hb dL_would_296 (by decide) ?_
          refine lv_icmp_ge (tgt := 330) hx hb dL_would_298 (by decide) (fun h9 => absurd h9 (ej_ge (a := ((bstG t u hv 7).1)) (b := 7) (by omega) (show ((bstG t u hv 7).1) < 7 from by omega))) (fun _ => ?_)
          refine lv_iload hx hb dL_would_301 (lv_at hl 6 rfl) ?_
          refine lv_if_ne (tgt := 326) hx hb dL_would_303 (by decide) (fun _ => ?_) (fun h9 => absurd h9 (show ¬ (1 : Int32) = 0 from by decide))
          refine lv_iconst (v := 1) hx hb dL_would_326 (by decide) ?_
          refine lv_goto (tgt := 331) hx hb dL_would_327 (by decide) ?_
          exact hQ _ _ _ _ _ _ _ _ _ _ _ _ _ dL_would_331 rfl (by exact ⟨rfl, rfl, rfl, rfl, rfl, rfl, rfl, rfl, rfl⟩) hW hS
      refine lv_iload_n hx hb dL_would_25 rfl (lv_at hl 3 rfl) ?_
      refine lv_iconst (v := 5) hx hb dL_would_26 (by decide) ?_
      refine lv_ishr hx hb dL_would_27 ?_
      refine lv_bipush (v := 22) hx hb dL_would_28 (by decide) ?_
      refine ej_L0 (rest := []) (As := [.int (x >>> (5 &&& 31)), .int 22]) S hK hN hA hD hW hS (c_L_low l D tys cI ht0 (x >>> (5 &&& 31)) 22 (by omega) (by omega)) (va_cwS 2 hts gL_would_L_low rfl rfl rfl hds_L_low ⟨Nat.le_of_ble_eq_true rfl, Nat.le_of_ble_eq_true rfl⟩) rfl rfl hl.1 (Nat.le_of_ble_eq_true rfl) dL_would_30 ⟨Nat.zero_le _, Nat.zero_le _⟩ (fun H locs hW hS => ?_)
      show W p9 l e9 (eR 20 1000) s9 m9 a9 b9 t9 c9 H locs 0 0 Q (F0 m9 33 ls [.int (nI (lowN (x >>> (5 &&& 31)) 22))])
      have lw_30 := lowN_lt (x >>> (5 &&& 31)) (n := 22) (by omega)
      refine lv_istore (lv' := [(4, .int (nI (lowN (x >>> (5 &&& 31)) 22))), (3, .int hv), (2, .int 7), (0, .ref (o 0)), (1, .int x)]) hx hb dL_would_33 hl (by decide) rfl (fun ls hl => ?_)
      refine lv_iload_n hx hb dL_would_35 rfl (lv_at hl 4 rfl) ?_
      refine lv_bipush (v := 9) hx hb dL_would_36 (by decide) ?_
      refine lv_ishr hx hb dL_would_38 ?_
      refine lv_iconst (v := 5) hx hb dL_would_39 (by decide) ?_
      refine ej_L0 (rest := []) (As := [.int (x >>> (9 &&& 31)), .int 5]) S hK hN hA hD hW hS (c_L_low l D tys cI ht0 (x >>> (9 &&& 31)) 5 (by omega) (by omega)) (va_cwS 2 hts gL_would_L_low rfl rfl rfl hds_L_low ⟨Nat.le_of_ble_eq_true rfl, Nat.le_of_ble_eq_true rfl⟩) rfl rfl hl.1 (Nat.le_of_ble_eq_true rfl) dL_would_40 ⟨Nat.zero_le _, Nat.zero_le _⟩ (fun H locs hW hS => ?_)
      show W p9 l e9 (eR 20 1000) s9 m9 a9 b9 t9 c9 H locs 0 0 Q (F0 m9 43 ls [.int (nI (lowN (x >>> (9 &&& 31)) 5))])
      have lw_40 := lowN_lt (x >>> (9 &&& 31)) (n := 5) (by omega)
      refine lv_iconst (v := 1) hx hb dL_would_43 (by decide) ?_
      refine lv_isub hx hb dL_would_44 ?_
      refine lv_istore (lv' := [(5, .int ((nI (lowN (x >>> (9 &&& 31)) 5)) - 1)), (4, .int (nI (lowN (x >>> (5 &&& 31)) 22))), (3, .int hv), (2, .int 7), (0, .ref (o 0)), (1, .int x)]) hx hb dL_would_45 hl (by decide) rfl (fun ls hl => ?_)
      refine lv_aload_n hx hb dL_would_47 rfl (lv_at hl 4 rfl) ?_
      refine lv_iload_n hx hb dL_would_48 rfl (lv_at hl 3 rfl) ?_
      refine lr_ends_no (rest := []) (v := 7) S hK hN ht0 ht1 hA hD hW hS htl (by decide) (cwV 1 hts gL_would_X6_ends rfl rfl rfl hdv_X6_ends ⟨Nat.le_of_ble_eq_true rfl, Nat.le_of_ble_eq_true rfl⟩) rfl hl.1 (Nat.le_of_ble_eq_true rfl) dL_would_49 ⟨Nat.zero_le _, Nat.zero_le _⟩ (fun H locs hW hS => ?_)
      show W p9 l e9 (eR 20 1000) s9 m9 a9 b9 t9 c9 H locs 0 0 Q (F0 m9 52 ls [.int (-1)])
      have hW : SW D cI cT o aT aB aS g y z ad t u hs sn q f s0 s1 s2 H := hW
      refine lv_istore (lv' := [(6, .int (-1)), (5, .int ((nI (lowN (x >>> (9 &&& 31)) 5)) - 1)), (4, .int (nI (lowN (x >>> (5 &&& 31)) 22))), (3, .int hv), (2, .int 7), (0, .ref (o 0)), (1, .int x)]) hx hb dL_would_52 hl (by decide) rfl (fun ls hl => ?_)
      refine lv_aload_n hx hb dL_would_54 rfl (lv_at hl 5 rfl) ?_
      refine lv_iload_n hx hb dL_would_55 rfl (lv_at hl 4 rfl) ?_
      refine lv_iload_n hx hb dL_would_56 rfl (lv_at hl 3 rfl) ?_
      refine lv_iload hx hb dL_would_57 (lv_at hl 2 rfl) ?_
      refine lv_iload hx hb dL_would_59 (lv_at hl 1 rfl) ?_
      refine lr_ifShot_no (rest := []) (v := 7) (h := hv) (m9 := nI (lowN (x >>> (5 &&& 31)) 22)) (w := (nI (lowN (x >>> (9 &&& 31)) 5)) - 1) S hK hN ht0 ht1 hA hD hW hS htl (fun z => absurd z.1 (by decide)) (cwV 4 hts gL_would_X6_ifShot rfl rfl rfl hdv_X6_ifShot ⟨Nat.le_of_ble_eq_true rfl, Nat.le_of_ble_eq_true rfl⟩) rfl hl.1 (Nat.le_of_ble_eq_true rfl) dL_would_61 ⟨Nat.zero_le _, Nat.zero_le _⟩ (fun H locs hW hS => ?_)
      show W p9 l e9 (eR 20 1000) s9 m9 a9 b9 t9 c9 H locs 0 0 Q (F0 m9 64 ls [.int (-1)])
      have hW : SW D cI cT o aT aB aS g y z ad t u hs sn q f s0 s1 s2 H := hW
      refine lv_istore (lv' := [(7, .int (-1)), (6, .int (-1)), (5, .int ((nI (lowN (x >>> (9 &&& 31)) 5)) - 1)), (4, .int (nI (lowN (x >>> (5 &&& 31)) 22))), (3, .int hv), (2, .int 7), (0, .ref (o 0)), (1, .int x)]) hx hb dL_would_64 hl (by decide) rfl (fun ls hl => ?_)
      refine lv_aload_n hx hb dL_would_66 rfl (lv_at hl 6 rfl) ?_
      refine lv_iload_n hx hb dL_would_67 rfl (lv_at hl 4 rfl) ?_
      refine lr_bestA (rest := []) (h := hv) S hK hN ht0 ht1 hA hD hW hS htl  (cwV 1 hts gL_would_X6_best rfl rfl rfl hdv_X6_best ⟨Nat.le_of_ble_eq_true rfl, Nat.le_of_ble_eq_true rfl⟩) rfl hl.1 (Nat.le_of_ble_eq_true rfl) dL_would_68 ⟨Nat.zero_le _, Nat.zero_le _⟩ (fun H locs hW hS => ?_)
      show W p9 l e9 (eR 20 1000) s9 m9 a9 b9 t9 c9 H locs 0 0 Q (F0 m9 71 ls [.int (if 0 < T_le u then nI (bstG t u hv 7).1 else -2)])
      have hW : SW D cI cT o aT aB aS g y z ad t u hs sn q f s0 s1 s2 H := hW
      refine lv_istore (lv' := [(8, .int (if 0 < T_le u then nI (bstG t u hv 7).1 else -2)), (7, .int (-1)), (6, .int (-1)), (5, .int ((nI (lowN (x >>> (9 &&& 31)) 5)) - 1)), (4, .int (nI (lowN (x >>> (5 &&& 31)) 22))), (3, .int hv), (2, .int 7), (0, .ref (o 0)), (1, .int x)]) hx hb dL_would_71 hl (by decide) rfl (fun ls hl => ?_)
      refine lv_aload_n hx hb dL_would_73 rfl (lv_at hl 7 rfl) ?_
      refine lv_iconst (v := 1) hx hb dL_would_74 (by decide) ?_
      refine lr_count (rest := []) (w := 1) S hK hN ht0 ht1 hA hD hW hS htl  (cwV 1 hts gL_would_X6_count rfl rfl rfl hdv_X6_count ⟨Nat.le_of_ble_eq_true rfl, Nat.le_of_ble_eq_true rfl⟩) rfl hl.1 (Nat.le_of_ble_eq_true rfl) dL_would_75 ⟨Nat.zero_le _, Nat.zero_le _⟩ (fun H locs hW hS => ?_)
      show W p9 l e9 (eR 20 1000) s9 m9 a9 b9 t9 c9 H locs 0 0 Q (F0 m9 78 ls [.int (couA t u q hs.length 1)])
      have hW : SW D cI cT o aT aB aS g y z ad t u hs sn q f s0 s1 s2 H := hW
      refine ej_topi (show (couA t u q hs.length 1) = T_le u from lkc_1 t u q hs.length) ?_
      refine ej_topi (show (T_le u) = nI L from eL) ?_
      refine lv_istore (lv' := [(9, .int (nI L)), (8, .int (if 0 < T_le u then nI (bstG t u hv 7).1 else -2)), (7, .int (-1)), (6, .int (-1)), (5, .int ((nI (lowN (x >>> (9 &&& 31)) 5)) - 1)), (4, .int (nI (lowN (x >>> (5 &&& 31)) 22))), (3, .int hv), (2, .int 7), (0, .ref (o 0)), (1, .int x)]) hx hb dL_would_78 hl (by decide) rfl (fun ls hl => ?_)
      refine lv_iload_n hx hb dL_would_80 rfl (lv_at hl 7 rfl) ?_
      refine lv_if_lt (tgt := 90) hx hb dL_would_81 (by decide) (fun h9 => absurd h9 (show ¬ (7 : Int32) < 0 from by decide)) (fun _ => ?_)
      refine lv_iload_n hx hb dL_would_84 rfl (lv_at hl 7 rfl) ?_
      refine lv_bipush (v := 6) hx hb dL_would_85 (by decide) ?_
      refine lv_icmp_le (tgt := 94) hx hb dL_would_87 (by decide) (fun h9 => absurd h9 (show ¬ (7 : Int32) ≤ 6 from by decide)) (fun _ => ?_)
      refine lv_iconst (v := 1) hx hb dL_would_90 (by decide) ?_
      refine lv_goto (tgt := 95) hx hb dL_would_91 (by decide) ?_
      refine lv_istore (lv' := [(10, .int 1), (9, .int (nI L)), (8, .int (if 0 < T_le u then nI (bstG t u hv 7).1 else -2)), (7, .int (-1)), (6, .int (-1)), (5, .int ((nI (lowN (x >>> (9 &&& 31)) 5)) - 1)), (4, .int (nI (lowN (x >>> (5 &&& 31)) 22))), (3, .int hv), (2, .int 7), (0, .ref (o 0)), (1, .int x)]) hx hb dL_would_95 hl (by decide) rfl (fun ls hl => ?_)
      refine lv_iload hx hb dL_would_97 (lv_at hl 0 rfl) ?_
      refine lv_if_ne (tgt := 125) hx hb dL_would_99 (by decide) (fun _ => ?_) (fun h9 => absurd h9 (show ¬ (1 : Int32) = 0 from by decide))
      refine lv_iconst (v := 1) hx hb dL_would_125 (by decide) ?_
      refine lv_goto (tgt := 130) hx hb dL_would_126 (by decide) ?_
      refine lv_istore (lv' := [(11, .int 1), (10, .int 1), (9, .int (nI L)), (8, .int (if 0 < T_le u then nI (bstG t u hv 7).1 else -2)), (7, .int (-1)), (6, .int (-1)), (5, .int ((nI (lowN (x >>> (9 &&& 31)) 5)) - 1)), (4, .int (nI (lowN (x >>> (5 &&& 31)) 22))), (3, .int hv), (2, .int 7), (0, .ref (o 0)), (1, .int x)]) hx hb dL_would_130 hl (by decide) rfl (fun ls hl => ?_)
      refine lv_iload hx hb dL_would_132 (lv_at hl 1 rfl) ?_
      refine lv_if_eq (tgt := 146) hx hb dL_would_134 (by decide) (fun h9 => absurd h9 (show ¬ (1 : Int32) = 0 from by decide)) (fun _ => ?_)
      refine lv_iload hx hb dL_would_137 (lv_at hl 5 rfl) ?_
      refine lv_iconst (v := (-1)) hx hb dL_would_139 (by decide) ?_
      refine lv_icmp_ne (tgt := 266) hx hb dL_would_140 (by decide) (fun h9 => absurd (show ((-1) : Int32) = (-1) from by decide) h9) (fun _ => ?_)
      refine lv_goto (tgt := 172) hx hb dL_would_143 (by decide) ?_
      refine lv_iload hx hb dL_would_172 (lv_at hl 0 rfl) ?_
      refine lv_if_eq (tgt := 186) hx hb dL_would_174 (by decide) (fun h9 => absurd h9 (show ¬ (1 : Int32) = 0 from by decide)) (fun _ => ?_)
      refine lv_iload hx hb dL_would_177 (lv_at hl 4 rfl) ?_
      refine lv_iconst (v := (-1)) hx hb dL_would_179 (by decide) ?_
      refine lv_icmp_ne (tgt := 266) hx hb dL_would_180 (by decide) (fun h9 => absurd (show ((-1) : Int32) = (-1) from by decide) h9) (fun _ => ?_)
      refine lv_goto (tgt := 262) hx hb dL_would_183 (by decide) ?_
      refine lv_iconst (v := 1) hx hb dL_would_262 (by decide) ?_
      refine lv_goto (tgt := 267) hx hb dL_would_263 (by decide) ?_
      exact jp267 _ _ _  hW hS (lv_sub hl [10, 9, 8, 3, 2, 1] rfl)
    refine lv_if_ne (tgt := 23) hx hb dL_would_16 (by decide) (fun c_16 => ?_) (fun c_16 => ?_)
    · have n_16 : (lowN (x >>> (4 &&& 31)) 2) ≠ 0 := ej_tne (a := (lowN (x >>> (4 &&& 31)) 2)) (b := 0) (by omega) (by omega) c_16
      refine lv_iconst (v := 0) hx hb dL_would_23 (by decide) ?_
      refine ej_topi (show (0 : Int32) = hv from (by rw [e_hv, if_neg n_16])) ?_
      exact jp24 _ _ _ hW hS (lv_sub hl [0, 1, 2] rfl)
    · have n_16 : (lowN (x >>> (4 &&& 31)) 2) = 0 := ej_teq (a := (lowN (x >>> (4 &&& 31)) 2)) (b := 0) (by omega) (by omega) c_16
      refine lv_iconst (v := 1) hx hb dL_would_19 (by decide) ?_
      refine lv_goto (tgt := 24) hx hb dL_would_20 (by decide) ?_
      refine ej_topi (show (1 : Int32) = hv from (by rw [e_hv, if_pos n_16])) ?_
      exact jp24 _ _ _ hW hS (lv_sub hl [0, 1, 2] rfl)
  · obtain ⟨k, hk, ek⟩ : ∃ k : Nat, k < 7 ∧ lowN x 9 = k + 1 := ⟨lowN x 9 - 1, by omega, by omega⟩
    refine ej_topi (show nI (lowN x 9) - 1 = nI k from by rw [ek]; exact nI_pred k) ?_
    have hpe := posT_lt t hk 5
    refine lv_istore_n (lv' := [(2, .int (nI k)), (0, .ref (o 0)), (1, .int x)]) hx hb dL_would_8 rfl hl (by decide) rfl (fun ls hl => ?_)
    refine lv_iload_n hx hb dL_would_9 rfl (lv_at hl 2 rfl) ?_
    refine lv_iconst (v := 4) hx hb dL_would_10 (by decide) ?_
    refine lv_ishr hx hb dL_would_11 ?_
    refine lv_iconst (v := 2) hx hb dL_would_12 (by decide) ?_
    refine ej_L0 (rest := []) (As := [.int (x >>> (4 &&& 31)), .int 2]) S hK hN hA hD hW hS (c_L_low l D tys cI ht0 (x >>> (4 &&& 31)) 2 (by omega) (by omega)) (va_cwS 2 hts gL_would_L_low rfl rfl rfl hds_L_low ⟨Nat.le_of_ble_eq_true rfl, Nat.le_of_ble_eq_true rfl⟩) rfl rfl hl.1 (Nat.le_of_ble_eq_true rfl) dL_would_13 ⟨Nat.zero_le _, Nat.zero_le _⟩ (fun H locs hW hS => ?_)
    show W p9 l e9 (eR 20 1000) s9 m9 a9 b9 t9 c9 H locs 0 0 Q (F0 m9 16 ls [.int (nI (lowN (x >>> (4 &&& 31)) 2))])
    have lw_13 := lowN_lt (x >>> (4 &&& 31)) (n := 2) (by omega)
    have jp24 : ∀ (H : Heap) (locs : List Loc) (ls : Array Slot), SW D cI cT o aT aB aS g y z ad t u hs sn q f s0 s1 s2 H → va_S A H0 H locs → lv_has ls 13 [(2, .int (nI k)), (0, .ref (o 0)), (1, .int x)] → W p9 l e9 (eR 20 1000) s9 m9 a9 b9 t9 c9 H locs 0 0 Q (F0 m9 24 ls [.int hv]) := by
      intro H locs ls hW hS hl
      refine lv_istore_n (lv' := [(3, .int hv), (2, .int (nI k)), (0, .ref (o 0)), (1, .int x)]) hx hb dL_would_24 rfl hl (by decide) rfl (fun ls hl => ?_)
      have jp267 : ∀ (H : Heap) (locs : List Loc) (ls : Array Slot), SW D cI cT o aT aB aS g y z ad t u hs sn q f s0 s1 s2 H → va_S A H0 H locs → lv_has ls 13 [(0, .ref (o 0)), (2, .int (nI k)), (3, .int hv), (8, .int (if 0 < T_le u then nI (bstG t u hv 7).1 else -2)), (9, .int (nI L)), (10, .int 0)] → W p9 l e9 (eR 20 1000) s9 m9 a9 b9 t9 c9 H locs 0 0 Q (F0 m9 267 ls [.int 1]) := by
        intro H locs ls  hW hS hl
        refine lv_istore (lv' := [(12, .int 1), (0, .ref (o 0)), (2, .int (nI k)), (3, .int hv), (8, .int (if 0 < T_le u then nI (bstG t u hv 7).1 else -2)), (9, .int (nI L)), (10, .int 0)]) hx hb dL_would_267 hl (by decide) rfl (fun ls hl => ?_)
        by_cases hz : L = 0
        · have hl : lv_has ls 13 [(12, .int 1), (0, .ref (o 0)), (2, .int (nI k)), (3, .int hv), (8, .int (-2)), (9, .int 0), (10, .int 0)] := by rw [if_neg (show ¬ 0 < T_le u by rw [eL, hz]; decide), hz] at hl; exact hl
          refine lv_iload hx hb dL_would_269 (lv_at hl 0 rfl) ?_
          refine lv_if_eq (tgt := 330) hx hb dL_would_271 (by decide) (fun h9 => absurd h9 (show ¬ (1 : Int32) = 0 from by decide)) (fun _ => ?_)
          refine lv_iload hx hb dL_would_274 (lv_at hl 5 rfl) ?_
          refine lv_if_ne (tgt := 289) hx hb dL_would_276 (by decide) (fun h9 => absurd (show (0 : Int32) = 0 from by decide) h9) (fun _ => ?_)
          refine lv_iload hx hb dL_would_279 (lv_at hl 4 rfl) ?_
          refine lv_bipush (v := (-2)) hx hb dL_would_281 (by decide) ?_
          refine lv_icmp_ne (tgt := 330) hx hb dL_would_283 (by decide) (fun h9 => absurd (show ((-2) : Int32) = (-2) from by decide) h9) (fun _ => ?_)
          refine lv_goto (tgt := 326) hx hb dL_would_286 (by decide) ?_
          refine lv_iconst (v := 1) hx hb dL_would_326 (by decide) ?_
          refine lv_goto (tgt := 331) hx hb dL_would_327 (by decide) ?_
          exact hQ _ _ _ _ _ _ _ _ _ _ _ _ _ dL_would_331 rfl (by exact ⟨rfl, rfl, rfl, rfl, rfl, rfl, rfl, rfl, rfl⟩) hW hS
        · have hlp : 0 < T_le u := by rw [eL]; exact ej_lt (a := 0) (b := L) (by omega) (by omega)
          have hl : lv_has ls 13 [(12, .int 1), (0, .ref (o 0)), (2, .int (nI k)), (3, .int hv), (8, .int (nI ((bstG t u hv 7).1))), (9, .int (nI L)), (10, .int 0)] := by rw [if_pos hlp] at hl; exact hl
          have hb7 := bst_lt hv ho.1 ho.2.1 hlp
          refine lv_iload hx hb dL_would_269 (lv_at hl 0 rfl) ?_
          refine lv_if_eq (tgt := 330) hx hb dL_would_271 (by decide) (fun h9 => absurd h9 (show ¬ (1 : Int32) = 0 from by decide)) (fun _ => ?_)
          refine lv_iload hx hb dL_would_274 (lv_at hl 5 rfl) ?_
          refine lv_if_ne (tgt := 289) hx hb dL_would_276 (by decide) (fun _ => ?_) (fun h9 => absurd h9 (ej_ne (a := L) (b := 0) (by omega) (by omega) (show L ≠ 0 from by omega)))
          refine lv_iload hx hb dL_would_289 (lv_at hl 4 rfl) ?_
          refine lv_if_lt (tgt := 330) hx hb dL_would_291 (by decide) (fun h9 => absurd h9 (ej_nlt (a := ((bstG t u hv 7).1)) (b := 0) (by omega) (show 0 ≤ ((bstG t u hv 7).1) from by omega))) (fun _ => ?_)
          refine lv_iload hx hb dL_would_294 (lv_at hl 4 rfl) ?_
          refine lv_bipush (v := 7) hx hb dL_would_296 (by decide) ?_
          refine lv_icmp_ge (tgt := 330) hx hb dL_would_298 (by decide) (fun h9 => absurd h9 (ej_ge (a := ((bstG t u hv 7).1)) (b := 7) (by omega) (show ((bstG t u hv 7).1) < 7 from by omega))) (fun _ => ?_)
          refine lv_iload hx hb dL_would_301 (lv_at hl 6 rfl) ?_
          refine lv_if_ne (tgt := 326) hx hb dL_would_303 (by decide) (fun h9 => absurd (show (0 : Int32) = 0 from by decide) h9) (fun _ => ?_)
          refine lv_aload_n hx hb dL_would_306 rfl (lv_at hl 1 rfl) ?_
          refine lv_iload hx hb dL_would_307 (lv_at hl 4 rfl) ?_
          refine lv_iload_n hx hb dL_would_309 rfl (lv_at hl 3 rfl) ?_
          refine lv_iconst (v := 1) hx hb dL_would_310 (by decide) ?_
          refine lv_iconst (v := 0) hx hb dL_would_311 (by decide) ?_
          refine lr_ifShot (rest := []) (k := (bstG t u hv 7).1) (h := hv) (j := 1) (w := 0) S hK hN ht0 ht1 hA hD hW hS htl (by omega) (by omega) (by omega) (by decide) (cwV 4 hts gL_would_X6_ifShot rfl rfl rfl hdv_X6_ifShot ⟨Nat.le_of_ble_eq_true rfl, Nat.le_of_ble_eq_true rfl⟩) rfl hl.1 (Nat.le_of_ble_eq_true rfl) dL_would_312 ⟨Nat.zero_le _, Nat.zero_le _⟩ (fun H locs hW hS => ?_)
          show W p9 l e9 (eR 20 1000) s9 m9 a9 b9 t9 c9 H locs 0 0 Q (F0 m9 315 ls [.int (ifR t u (ifG t u ((bstG t u hv 7).1) hv 1) 0)])
          have hW : SW D cI cT o aT aB aS g y z ad t u hs sn q f s0 s1 s2 H := hW
          refine ej_topi (show (ifR t u (ifG t u ((bstG t u hv 7).1) hv 1) 0) = T_po (ifG t u ((bstG t u hv 7).1) hv 1).2 - T_po u from rfl) ?_
          refine lv_aload_n hx hb dL_would_315 rfl (lv_at hl 1 rfl) ?_
          refine lv_iload_n hx hb dL_would_316 rfl (lv_at hl 2 rfl) ?_
          refine lv_iload_n hx hb dL_would_317 rfl (lv_at hl 3 rfl) ?_
          refine lv_iconst (v := 1) hx hb dL_would_318 (by decide) ?_
          refine lv_iconst (v := 0) hx hb dL_would_319 (by decide) ?_
          refine lr_ifShot (rest := [.int (T_po (ifG t u ((bstG t u hv 7).1) hv 1).2 - T_po u)]) (k := k) (h := hv) (j := 1) (w := 0) S hK hN ht0 ht1 hA hD hW hS htl (by omega) (by omega) (by omega) (by decide) (cwV 4 hts gL_would_X6_ifShot rfl rfl rfl hdv_X6_ifShot ⟨Nat.le_of_ble_eq_true rfl, Nat.le_of_ble_eq_true rfl⟩) rfl hl.1 (Nat.le_of_ble_eq_true rfl) dL_would_320 ⟨Nat.zero_le _, Nat.zero_le _⟩ (fun H locs hW hS => ?_)
          show W p9 l e9 (eR 20 1000) s9 m9 a9 b9 t9 c9 H locs 0 0 Q (F0 m9 323 ls [.int (ifR t u (ifG t u k hv 1) 0), .int (T_po (ifG t u ((bstG t u hv 7).1) hv 1).2 - T_po u)])
          have hW : SW D cI cT o aT aB aS g y z ad t u hs sn q f s0 s1 s2 H := hW
          refine ej_topi (show (ifR t u (ifG t u k hv 1) 0) = T_po (ifG t u k hv 1).2 - T_po u from rfl) ?_
          refine lv_icmp_lt (tgt := 330) hx hb dL_would_323 (by decide) (fun h9 => absurd h9 (best_max hv ho.1 ho.2.1 hlp hk)) (fun _ => ?_)
          refine lv_iconst (v := 1) hx hb dL_would_326 (by decide) ?_
          refine lv_goto (tgt := 331) hx hb dL_would_327 (by decide) ?_
          exact hQ _ _ _ _ _ _ _ _ _ _ _ _ _ dL_would_331 rfl (by exact ⟨rfl, rfl, rfl, rfl, rfl, rfl, rfl, rfl, rfl⟩) hW hS
      refine lv_iload_n hx hb dL_would_25 rfl (lv_at hl 3 rfl) ?_
      refine lv_iconst (v := 5) hx hb dL_would_26 (by decide) ?_
      refine lv_ishr hx hb dL_would_27 ?_
      refine lv_bipush (v := 22) hx hb dL_would_28 (by decide) ?_
      refine ej_L0 (rest := []) (As := [.int (x >>> (5 &&& 31)), .int 22]) S hK hN hA hD hW hS (c_L_low l D tys cI ht0 (x >>> (5 &&& 31)) 22 (by omega) (by omega)) (va_cwS 2 hts gL_would_L_low rfl rfl rfl hds_L_low ⟨Nat.le_of_ble_eq_true rfl, Nat.le_of_ble_eq_true rfl⟩) rfl rfl hl.1 (Nat.le_of_ble_eq_true rfl) dL_would_30 ⟨Nat.zero_le _, Nat.zero_le _⟩ (fun H locs hW hS => ?_)
      show W p9 l e9 (eR 20 1000) s9 m9 a9 b9 t9 c9 H locs 0 0 Q (F0 m9 33 ls [.int (nI (lowN (x >>> (5 &&& 31)) 22))])
      have lw_30 := lowN_lt (x >>> (5 &&& 31)) (n := 22) (by omega)
      refine lv_istore (lv' := [(4, .int (nI (lowN (x >>> (5 &&& 31)) 22))), (3, .int hv), (2, .int (nI k)), (0, .ref (o 0)), (1, .int x)]) hx hb dL_would_33 hl (by decide) rfl (fun ls hl => ?_)
      refine lv_iload_n hx hb dL_would_35 rfl (lv_at hl 4 rfl) ?_
      refine lv_bipush (v := 9) hx hb dL_would_36 (by decide) ?_
      refine lv_ishr hx hb dL_would_38 ?_
      refine lv_iconst (v := 5) hx hb dL_would_39 (by decide) ?_
      refine ej_L0 (rest := []) (As := [.int (x >>> (9 &&& 31)), .int 5]) S hK hN hA hD hW hS (c_L_low l D tys cI ht0 (x >>> (9 &&& 31)) 5 (by omega) (by omega)) (va_cwS 2 hts gL_would_L_low rfl rfl rfl hds_L_low ⟨Nat.le_of_ble_eq_true rfl, Nat.le_of_ble_eq_true rfl⟩) rfl rfl hl.1 (Nat.le_of_ble_eq_true rfl) dL_would_40 ⟨Nat.zero_le _, Nat.zero_le _⟩ (fun H locs hW hS => ?_)
      show W p9 l e9 (eR 20 1000) s9 m9 a9 b9 t9 c9 H locs 0 0 Q (F0 m9 43 ls [.int (nI (lowN (x >>> (9 &&& 31)) 5))])
      have lw_40 := lowN_lt (x >>> (9 &&& 31)) (n := 5) (by omega)
      refine lv_iconst (v := 1) hx hb dL_would_43 (by decide) ?_
      refine lv_isub hx hb dL_would_44 ?_
      rcases (show lowN (x >>> (9 &&& 31)) 5 = 0 ∨ lowN (x >>> (9 &&& 31)) 5 = 1 ∨ lowN (x >>> (9 &&& 31)) 5 = 2 ∨ lowN (x >>> (9 &&& 31)) 5 = 3 ∨ lowN (x >>> (9 &&& 31)) 5 = 4 by omega) with w9 | w9 | w9 | w9 | w9
      · refine ej_topi (show nI (lowN (x >>> (9 &&& 31)) 5) - 1 = (-1) from by rw [w9]; decide) ?_
        refine lv_istore (lv' := [(5, .int (-1)), (4, .int (nI (lowN (x >>> (5 &&& 31)) 22))), (3, .int hv), (2, .int (nI k)), (0, .ref (o 0)), (1, .int x)]) hx hb dL_would_45 hl (by decide) rfl (fun ls hl => ?_)
        refine lv_aload_n hx hb dL_would_47 rfl (lv_at hl 4 rfl) ?_
        refine lv_iload_n hx hb dL_would_48 rfl (lv_at hl 3 rfl) ?_
        refine lr_ends (rest := []) (k := k) S hK hN ht0 ht1 hA hD hW hS htl (by omega) (cwV 1 hts gL_would_X6_ends rfl rfl rfl hdv_X6_ends ⟨Nat.le_of_ble_eq_true rfl, Nat.le_of_ble_eq_true rfl⟩) rfl hl.1 (Nat.le_of_ble_eq_true rfl) dL_would_49 ⟨Nat.zero_le _, Nat.zero_le _⟩ (fun H locs hW hS => ?_)
        show W p9 l e9 (eR 20 1000) s9 m9 a9 b9 t9 c9 H locs 0 0 Q (F0 m9 52 ls [.int (nI (posT t k 5))])
        have hW : SW D cI cT o aT aB aS g y z ad t u hs sn q f s0 s1 s2 H := hW
        refine lv_istore (lv' := [(6, .int (nI (posT t k 5))), (5, .int (-1)), (4, .int (nI (lowN (x >>> (5 &&& 31)) 22))), (3, .int hv), (2, .int (nI k)), (0, .ref (o 0)), (1, .int x)]) hx hb dL_would_52 hl (by decide) rfl (fun ls hl => ?_)
        refine lv_aload_n hx hb dL_would_54 rfl (lv_at hl 5 rfl) ?_
        refine lv_iload_n hx hb dL_would_55 rfl (lv_at hl 4 rfl) ?_
        refine lv_iload_n hx hb dL_would_56 rfl (lv_at hl 3 rfl) ?_
        refine lv_iload hx hb dL_would_57 (lv_at hl 2 rfl) ?_
        refine lv_iload hx hb dL_would_59 (lv_at hl 1 rfl) ?_
        refine lr_ifShot_no (rest := []) (v := nI k) (h := hv) (m9 := nI (lowN (x >>> (5 &&& 31)) 22)) (w := (-1)) S hK hN ht0 ht1 hA hD hW hS htl (fun z => absurd z.2.2 (by decide)) (cwV 4 hts gL_would_X6_ifShot rfl rfl rfl hdv_X6_ifShot ⟨Nat.le_of_ble_eq_true rfl, Nat.le_of_ble_eq_true rfl⟩) rfl hl.1 (Nat.le_of_ble_eq_true rfl) dL_would_61 ⟨Nat.zero_le _, Nat.zero_le _⟩ (fun H locs hW hS => ?_)
        show W p9 l e9 (eR 20 1000) s9 m9 a9 b9 t9 c9 H locs 0 0 Q (F0 m9 64 ls [.int (-1)])
        have hW : SW D cI cT o aT aB aS g y z ad t u hs sn q f s0 s1 s2 H := hW
        refine lv_istore (lv' := [(7, .int (-1)), (6, .int (nI (posT t k 5))), (5, .int (-1)), (4, .int (nI (lowN (x >>> (5 &&& 31)) 22))), (3, .int hv), (2, .int (nI k)), (0, .ref (o 0)), (1, .int x)]) hx hb dL_would_64 hl (by decide) rfl (fun ls hl => ?_)
        refine lv_aload_n hx hb dL_would_66 rfl (lv_at hl 6 rfl) ?_
        refine lv_iload_n hx hb dL_would_67 rfl (lv_at hl 4 rfl) ?_
        refine lr_bestA (rest := []) (h := hv) S hK hN ht0 ht1 hA hD hW hS htl  (cwV 1 hts gL_would_X6_best rfl rfl rfl hdv_X6_best ⟨Nat.le_of_ble_eq_true rfl, Nat.le_of_ble_eq_true rfl⟩) rfl hl.1 (Nat.le_of_ble_eq_true rfl) dL_would_68 ⟨Nat.zero_le _, Nat.zero_le _⟩ (fun H locs hW hS => ?_)
        show W p9 l e9 (eR 20 1000) s9 m9 a9 b9 t9 c9 H locs 0 0 Q (F0 m9 71 ls [.int (if 0 < T_le u then nI (bstG t u hv 7).1 else -2)])
        have hW : SW D cI cT o aT aB aS g y z ad t u hs sn q f s0 s1 s2 H := hW
        refine lv_istore (lv' := [(8, .int (if 0 < T_le u then nI (bstG t u hv 7).1 else -2)), (7, .int (-1)), (6, .int (nI (posT t k 5))), (5, .int (-1)), (4, .int (nI (lowN (x >>> (5 &&& 31)) 22))), (3, .int hv), (2, .int (nI k)), (0, .ref (o 0)), (1, .int x)]) hx hb dL_would_71 hl (by decide) rfl (fun ls hl => ?_)
        refine lv_aload_n hx hb dL_would_73 rfl (lv_at hl 7 rfl) ?_
        refine lv_iconst (v := 1) hx hb dL_would_74 (by decide) ?_
        refine lr_count (rest := []) (w := 1) S hK hN ht0 ht1 hA hD hW hS htl  (cwV 1 hts gL_would_X6_count rfl rfl rfl hdv_X6_count ⟨Nat.le_of_ble_eq_true rfl, Nat.le_of_ble_eq_true rfl⟩) rfl hl.1 (Nat.le_of_ble_eq_true rfl) dL_would_75 ⟨Nat.zero_le _, Nat.zero_le _⟩ (fun H locs hW hS => ?_)
        show W p9 l e9 (eR 20 1000) s9 m9 a9 b9 t9 c9 H locs 0 0 Q (F0 m9 78 ls [.int (couA t u q hs.length 1)])
        have hW : SW D cI cT o aT aB aS g y z ad t u hs sn q f s0 s1 s2 H := hW
        refine ej_topi (show (couA t u q hs.length 1) = T_le u from lkc_1 t u q hs.length) ?_
        refine ej_topi (show (T_le u) = nI L from eL) ?_
        refine lv_istore (lv' := [(9, .int (nI L)), (8, .int (if 0 < T_le u then nI (bstG t u hv 7).1 else -2)), (7, .int (-1)), (6, .int (nI (posT t k 5))), (5, .int (-1)), (4, .int (nI (lowN (x >>> (5 &&& 31)) 22))), (3, .int hv), (2, .int (nI k)), (0, .ref (o 0)), (1, .int x)]) hx hb dL_would_78 hl (by decide) rfl (fun ls hl => ?_)
        refine lv_iload_n hx hb dL_would_80 rfl (lv_at hl 7 rfl) ?_
        refine lv_if_lt (tgt := 90) hx hb dL_would_81 (by decide) (fun h9 => absurd h9 (ej_nlt (a := k) (b := 0) (by omega) (show 0 ≤ k from by omega))) (fun _ => ?_)
        refine lv_iload_n hx hb dL_would_84 rfl (lv_at hl 7 rfl) ?_
        refine lv_bipush (v := 6) hx hb dL_would_85 (by decide) ?_
        refine lv_icmp_le (tgt := 94) hx hb dL_would_87 (by decide) (fun _ => ?_) (fun h9 => absurd (ej_le (a := k) (b := 6) (by omega) (show k ≤ 6 from by omega)) h9)
        refine lv_iconst (v := 0) hx hb dL_would_94 (by decide) ?_
        refine lv_istore (lv' := [(10, .int 0), (9, .int (nI L)), (8, .int (if 0 < T_le u then nI (bstG t u hv 7).1 else -2)), (7, .int (-1)), (6, .int (nI (posT t k 5))), (5, .int (-1)), (4, .int (nI (lowN (x >>> (5 &&& 31)) 22))), (3, .int hv), (2, .int (nI k)), (0, .ref (o 0)), (1, .int x)]) hx hb dL_would_95 hl (by decide) rfl (fun ls hl => ?_)
        refine lv_iload hx hb dL_would_97 (lv_at hl 0 rfl) ?_
        refine lv_if_ne (tgt := 125) hx hb dL_would_99 (by decide) (fun h9 => absurd (show (0 : Int32) = 0 from by decide) h9) (fun _ => ?_)
        refine lv_iload hx hb dL_would_102 (lv_at hl 6 rfl) ?_
        refine lv_if_eq (tgt := 125) hx hb dL_would_104 (by decide) (fun c_104 => ?_) (fun c_104 => ?_)
        · have n_104 : (lowN (x >>> (5 &&& 31)) 22) = 0 := ej_teq (a := (lowN (x >>> (5 &&& 31)) 22)) (b := 0) (by omega) (by omega) c_104
          refine lv_iconst (v := 1) hx hb dL_would_125 (by decide) ?_
          refine lv_goto (tgt := 130) hx hb dL_would_126 (by decide) ?_
          refine lv_istore (lv' := [(11, .int 1), (10, .int 0), (9, .int (nI L)), (8, .int (if 0 < T_le u then nI (bstG t u hv 7).1 else -2)), (7, .int (-1)), (6, .int (nI (posT t k 5))), (5, .int (-1)), (4, .int (nI (lowN (x >>> (5 &&& 31)) 22))), (3, .int hv), (2, .int (nI k)), (0, .ref (o 0)), (1, .int x)]) hx hb dL_would_130 hl (by decide) rfl (fun ls hl => ?_)
          refine lv_iload hx hb dL_would_132 (lv_at hl 1 rfl) ?_
          refine lv_if_eq (tgt := 146) hx hb dL_would_134 (by decide) (fun _ => ?_) (fun h9 => absurd (show (0 : Int32) = 0 from by decide) h9)
          refine lv_iload hx hb dL_would_146 (lv_at hl 5 rfl) ?_
          refine lv_if_lt (tgt := 266) hx hb dL_would_148 (by decide) (fun h9 => absurd h9 (ej_nlt (a := (posT t k 5)) (b := 0) (by omega) (show 0 ≤ (posT t k 5) from by omega))) (fun _ => ?_)
          refine lv_iload hx hb dL_would_151 (lv_at hl 5 rfl) ?_
          refine lv_bipush (v := 7) hx hb dL_would_153 (by decide) ?_
          refine lv_icmp_ge (tgt := 266) hx hb dL_would_155 (by decide) (fun h9 => absurd h9 (ej_ge (a := (posT t k 5)) (b := 7) (by omega) (show (posT t k 5) < 7 from by omega))) (fun _ => ?_)
          refine lv_aload_n hx hb dL_would_158 rfl (lv_at hl 10 rfl) ?_
          refine lv_iconst (v := 0) hx hb dL_would_159 (by decide) ?_
          refine lr_reach0 (rest := [])  S hK hN ht0 ht1 hA hD hW hS htl  (cwV 1 hts gL_would_X6_reach rfl rfl rfl hdv_X6_reach ⟨Nat.le_of_ble_eq_true rfl, Nat.le_of_ble_eq_true rfl⟩) rfl hl.1 (Nat.le_of_ble_eq_true rfl) dL_would_160 ⟨Nat.zero_le _, Nat.zero_le _⟩ (fun H locs hW hS => ?_)
          show W p9 l e9 (eR 20 1000) s9 m9 a9 b9 t9 c9 H locs 0 0 Q (F0 m9 163 ls [.int (nI (fwdM t 5))])
          have hW : SW D cI cT o aT aB aS g y z ad t u hs sn q f s0 s1 s2 H := hW
          refine lv_iload hx hb dL_would_163 (lv_at hl 5 rfl) ?_
          refine lv_ishr hx hb dL_would_165 ?_
          refine lv_iconst (v := 1) hx hb dL_would_166 (by decide) ?_
          refine lv_iand hx hb dL_would_167 ?_
          refine ej_topi (show (((nI (fwdM t 5)) >>> ((nI (posT t k 5)) &&& 31)) &&& 1) = 1 from (bit_ok (fwdM t 5) (fwdM_lt t 5) (posT t k 5) hpe).trans (if_pos (end_bit htl hk 5))) ?_
          refine lv_iconst (v := 1) hx hb dL_would_168 (by decide) ?_
          refine lv_icmp_ne (tgt := 266) hx hb dL_would_169 (by decide) (fun h9 => absurd (show (1 : Int32) = 1 from by decide) h9) (fun _ => ?_)
          refine lv_iload hx hb dL_would_172 (lv_at hl 0 rfl) ?_
          refine lv_if_eq (tgt := 186) hx hb dL_would_174 (by decide) (fun h9 => absurd h9 (show ¬ (1 : Int32) = 0 from by decide)) (fun _ => ?_)
          refine lv_iload hx hb dL_would_177 (lv_at hl 4 rfl) ?_
          refine lv_iconst (v := (-1)) hx hb dL_would_179 (by decide) ?_
          refine lv_icmp_ne (tgt := 266) hx hb dL_would_180 (by decide) (fun h9 => absurd (show ((-1) : Int32) = (-1) from by decide) h9) (fun _ => ?_)
          refine lv_goto (tgt := 262) hx hb dL_would_183 (by decide) ?_
          refine lv_iconst (v := 1) hx hb dL_would_262 (by decide) ?_
          refine lv_goto (tgt := 267) hx hb dL_would_263 (by decide) ?_
          exact jp267 _ _ _  hW hS (lv_sub hl [10, 9, 8, 3, 2, 1] rfl)
        · have n_104 : (lowN (x >>> (5 &&& 31)) 22) ≠ 0 := ej_tne (a := (lowN (x >>> (5 &&& 31)) 22)) (b := 0) (by omega) (by omega) c_104
          refine lv_iload hx hb dL_would_107 (lv_at hl 6 rfl) ?_
          refine lv_bipush (v := 21) hx hb dL_would_109 (by decide) ?_
          refine lv_icmp_eq (tgt := 125) hx hb dL_would_111 (by decide) (fun c_111 => ?_) (fun c_111 => ?_)
          · have n_111 : (lowN (x >>> (5 &&& 31)) 22) = 21 := ej_teq (a := (lowN (x >>> (5 &&& 31)) 22)) (b := 21) (by omega) (by omega) c_111
            refine lv_iconst (v := 1) hx hb dL_would_125 (by decide) ?_
            refine lv_goto (tgt := 130) hx hb dL_would_126 (by decide) ?_
            refine lv_istore (lv' := [(11, .int 1), (10, .int 0), (9, .int (nI L)), (8, .int (if 0 < T_le u then nI (bstG t u hv 7).1 else -2)), (7, .int (-1)), (6, .int (nI (posT t k 5))), (5, .int (-1)), (4, .int (nI (lowN (x >>> (5 &&& 31)) 22))), (3, .int hv), (2, .int (nI k)), (0, .ref (o 0)), (1, .int x)]) hx hb dL_would_130 hl (by decide) rfl (fun ls hl => ?_)
            refine lv_iload hx hb dL_would_132 (lv_at hl 1 rfl) ?_
            refine lv_if_eq (tgt := 146) hx hb dL_would_134 (by decide) (fun _ => ?_) (fun h9 => absurd (show (0 : Int32) = 0 from by decide) h9)
            refine lv_iload hx hb dL_would_146 (lv_at hl 5 rfl) ?_
            refine lv_if_lt (tgt := 266) hx hb dL_would_148 (by decide) (fun h9 => absurd h9 (ej_nlt (a := (posT t k 5)) (b := 0) (by omega) (show 0 ≤ (posT t k 5) from by omega))) (fun _ => ?_)
            refine lv_iload hx hb dL_would_151 (lv_at hl 5 rfl) ?_
            refine lv_bipush (v := 7) hx hb dL_would_153 (by decide) ?_
            refine lv_icmp_ge (tgt := 266) hx hb dL_would_155 (by decide) (fun h9 => absurd h9 (ej_ge (a := (posT t k 5)) (b := 7) (by omega) (show (posT t k 5) < 7 from by omega))) (fun _ => ?_)
            refine lv_aload_n hx hb dL_would_158 rfl (lv_at hl 10 rfl) ?_
            refine lv_iconst (v := 0) hx hb dL_would_159 (by decide) ?_
            refine lr_reach0 (rest := [])  S hK hN ht0 ht1 hA hD hW hS htl  (cwV 1 hts gL_would_X6_reach rfl rfl rfl hdv_X6_reach ⟨Nat.le_of_ble_eq_true rfl, Nat.le_of_ble_eq_true rfl⟩) rfl hl.1 (Nat.le_of_ble_eq_true rfl) dL_would_160 ⟨Nat.zero_le _, Nat.zero_le _⟩ (fun H locs hW hS => ?_)
            show W p9 l e9 (eR 20 1000) s9 m9 a9 b9 t9 c9 H locs 0 0 Q (F0 m9 163 ls [.int (nI (fwdM t 5))])
            have hW : SW D cI cT o aT aB aS g y z ad t u hs sn q f s0 s1 s2 H := hW
            refine lv_iload hx hb dL_would_163 (lv_at hl 5 rfl) ?_
            refine lv_ishr hx hb dL_would_165 ?_
            refine lv_iconst (v := 1) hx hb dL_would_166 (by decide) ?_
            refine lv_iand hx hb dL_would_167 ?_
            refine ej_topi (show (((nI (fwdM t 5)) >>> ((nI (posT t k 5)) &&& 31)) &&& 1) = 1 from (bit_ok (fwdM t 5) (fwdM_lt t 5) (posT t k 5) hpe).trans (if_pos (end_bit htl hk 5))) ?_
            refine lv_iconst (v := 1) hx hb dL_would_168 (by decide) ?_
            refine lv_icmp_ne (tgt := 266) hx hb dL_would_169 (by decide) (fun h9 => absurd (show (1 : Int32) = 1 from by decide) h9) (fun _ => ?_)
            refine lv_iload hx hb dL_would_172 (lv_at hl 0 rfl) ?_
            refine lv_if_eq (tgt := 186) hx hb dL_would_174 (by decide) (fun h9 => absurd h9 (show ¬ (1 : Int32) = 0 from by decide)) (fun _ => ?_)
            refine lv_iload hx hb dL_would_177 (lv_at hl 4 rfl) ?_
            refine lv_iconst (v := (-1)) hx hb dL_would_179 (by decide) ?_
            refine lv_icmp_ne (tgt := 266) hx hb dL_would_180 (by decide) (fun h9 => absurd (show ((-1) : Int32) = (-1) from by decide) h9) (fun _ => ?_)
            refine lv_goto (tgt := 262) hx hb dL_would_183 (by decide) ?_
            refine lv_iconst (v := 1) hx hb dL_would_262 (by decide) ?_
            refine lv_goto (tgt := 267) hx hb dL_would_263 (by decide) ?_
            exact jp267 _ _ _  hW hS (lv_sub hl [10, 9, 8, 3, 2, 1] rfl)
          · have n_111 : (lowN (x >>> (5 &&& 31)) 22) ≠ 21 := ej_tne (a := (lowN (x >>> (5 &&& 31)) 22)) (b := 21) (by omega) (by omega) c_111
            refine lv_iload hx hb dL_would_114 (lv_at hl 5 rfl) ?_
            refine lv_if_lt (tgt := 125) hx hb dL_would_116 (by decide) (fun _ => ?_) (fun h9 => absurd (show ((-1) : Int32) < 0 from by decide) h9)
            refine lv_iconst (v := 1) hx hb dL_would_125 (by decide) ?_
            refine lv_goto (tgt := 130) hx hb dL_would_126 (by decide) ?_
            refine lv_istore (lv' := [(11, .int 1), (10, .int 0), (9, .int (nI L)), (8, .int (if 0 < T_le u then nI (bstG t u hv 7).1 else -2)), (7, .int (-1)), (6, .int (nI (posT t k 5))), (5, .int (-1)), (4, .int (nI (lowN (x >>> (5 &&& 31)) 22))), (3, .int hv), (2, .int (nI k)), (0, .ref (o 0)), (1, .int x)]) hx hb dL_would_130 hl (by decide) rfl (fun ls hl => ?_)
            refine lv_iload hx hb dL_would_132 (lv_at hl 1 rfl) ?_
            refine lv_if_eq (tgt := 146) hx hb dL_would_134 (by decide) (fun _ => ?_) (fun h9 => absurd (show (0 : Int32) = 0 from by decide) h9)
            refine lv_iload hx hb dL_would_146 (lv_at hl 5 rfl) ?_
            refine lv_if_lt (tgt := 266) hx hb dL_would_148 (by decide) (fun h9 => absurd h9 (ej_nlt (a := (posT t k 5)) (b := 0) (by omega) (show 0 ≤ (posT t k 5) from by omega))) (fun _ => ?_)
            refine lv_iload hx hb dL_would_151 (lv_at hl 5 rfl) ?_
            refine lv_bipush (v := 7) hx hb dL_would_153 (by decide) ?_
            refine lv_icmp_ge (tgt := 266) hx hb dL_would_155 (by decide) (fun h9 => absurd h9 (ej_ge (a := (posT t k 5)) (b := 7) (by omega) (show (posT t k 5) < 7 from by omega))) (fun _ => ?_)
            refine lv_aload_n hx hb dL_would_158 rfl (lv_at hl 10 rfl) ?_
            refine lv_iconst (v := 0) hx hb dL_would_159 (by decide) ?_
            refine lr_reach0 (rest := [])  S hK hN ht0 ht1 hA hD hW hS htl  (cwV 1 hts gL_would_X6_reach rfl rfl rfl hdv_X6_reach ⟨Nat.le_of_ble_eq_true rfl, Nat.le_of_ble_eq_true rfl⟩) rfl hl.1 (Nat.le_of_ble_eq_true rfl) dL_would_160 ⟨Nat.zero_le _, Nat.zero_le _⟩ (fun H locs hW hS => ?_)
            show W p9 l e9 (eR 20 1000) s9 m9 a9 b9 t9 c9 H locs 0 0 Q (F0 m9 163 ls [.int (nI (fwdM t 5))])
            have hW : SW D cI cT o aT aB aS g y z ad t u hs sn q f s0 s1 s2 H := hW
            refine lv_iload hx hb dL_would_163 (lv_at hl 5 rfl) ?_
            refine lv_ishr hx hb dL_would_165 ?_
            refine lv_iconst (v := 1) hx hb dL_would_166 (by decide) ?_
            refine lv_iand hx hb dL_would_167 ?_
            refine ej_topi (show (((nI (fwdM t 5)) >>> ((nI (posT t k 5)) &&& 31)) &&& 1) = 1 from (bit_ok (fwdM t 5) (fwdM_lt t 5) (posT t k 5) hpe).trans (if_pos (end_bit htl hk 5))) ?_
            refine lv_iconst (v := 1) hx hb dL_would_168 (by decide) ?_
            refine lv_icmp_ne (tgt := 266) hx hb dL_would_169 (by decide) (fun h9 => absurd (show (1 : Int32) = 1 from by decide) h9) (fun _ => ?_)
            refine lv_iload hx hb dL_would_172 (lv_at hl 0 rfl) ?_
            refine lv_if_eq (tgt := 186) hx hb dL_would_174 (by decide) (fun h9 => absurd h9 (show ¬ (1 : Int32) = 0 from by decide)) (fun _ => ?_)
            refine lv_iload hx hb dL_would_177 (lv_at hl 4 rfl) ?_
            refine lv_iconst (v := (-1)) hx hb dL_would_179 (by decide) ?_
            refine lv_icmp_ne (tgt := 266) hx hb dL_would_180 (by decide) (fun h9 => absurd (show ((-1) : Int32) = (-1) from by decide) h9) (fun _ => ?_)
            refine lv_goto (tgt := 262) hx hb dL_would_183 (by decide) ?_
            refine lv_iconst (v := 1) hx hb dL_would_262 (by decide) ?_
            refine lv_goto (tgt := 267) hx hb dL_would_263 (by decide) ?_
            exact jp267 _ _ _  hW hS (lv_sub hl [10, 9, 8, 3, 2, 1] rfl)
      · refine ej_topi (show nI (lowN (x >>> (9 &&& 31)) 5) - 1 = 0 from by rw [w9]; decide) ?_
        refine lv_istore (lv' := [(5, .int 0), (4, .int (nI (lowN (x >>> (5 &&& 31)) 22))), (3, .int hv), (2, .int (nI k)), (0, .ref (o 0)), (1, .int x)]) hx hb dL_would_45 hl (by decide) rfl (fun ls hl => ?_)
        by_cases hs9 : 0 < lowN (x >>> (5 &&& 31)) 22 ∧ lowN (x >>> (5 &&& 31)) 22 ≤ 20
        · have hs0 := hs9.1
          have hs1 := hs9.2
          refine lv_aload_n hx hb dL_would_47 rfl (lv_at hl 4 rfl) ?_
          refine lv_iload_n hx hb dL_would_48 rfl (lv_at hl 3 rfl) ?_
          refine lr_ends (rest := []) (k := k) S hK hN ht0 ht1 hA hD hW hS htl (by omega) (cwV 1 hts gL_would_X6_ends rfl rfl rfl hdv_X6_ends ⟨Nat.le_of_ble_eq_true rfl, Nat.le_of_ble_eq_true rfl⟩) rfl hl.1 (Nat.le_of_ble_eq_true rfl) dL_would_49 ⟨Nat.zero_le _, Nat.zero_le _⟩ (fun H locs hW hS => ?_)
          show W p9 l e9 (eR 20 1000) s9 m9 a9 b9 t9 c9 H locs 0 0 Q (F0 m9 52 ls [.int (nI (posT t k 5))])
          have hW : SW D cI cT o aT aB aS g y z ad t u hs sn q f s0 s1 s2 H := hW
          refine lv_istore (lv' := [(6, .int (nI (posT t k 5))), (5, .int 0), (4, .int (nI (lowN (x >>> (5 &&& 31)) 22))), (3, .int hv), (2, .int (nI k)), (0, .ref (o 0)), (1, .int x)]) hx hb dL_would_52 hl (by decide) rfl (fun ls hl => ?_)
          refine lv_aload_n hx hb dL_would_54 rfl (lv_at hl 5 rfl) ?_
          refine lv_iload_n hx hb dL_would_55 rfl (lv_at hl 4 rfl) ?_
          refine lv_iload_n hx hb dL_would_56 rfl (lv_at hl 3 rfl) ?_
          refine lv_iload hx hb dL_would_57 (lv_at hl 2 rfl) ?_
          refine lv_iload hx hb dL_would_59 (lv_at hl 1 rfl) ?_
          refine lr_ifShot (rest := []) (k := k) (h := hv) (j := lowN (x >>> (5 &&& 31)) 22) (w := 0) S hK hN ht0 ht1 hA hD hW hS htl (by omega) (by omega) (by omega) (by decide) (cwV 4 hts gL_would_X6_ifShot rfl rfl rfl hdv_X6_ifShot ⟨Nat.le_of_ble_eq_true rfl, Nat.le_of_ble_eq_true rfl⟩) rfl hl.1 (Nat.le_of_ble_eq_true rfl) dL_would_61 ⟨Nat.zero_le _, Nat.zero_le _⟩ (fun H locs hW hS => ?_)
          show W p9 l e9 (eR 20 1000) s9 m9 a9 b9 t9 c9 H locs 0 0 Q (F0 m9 64 ls [.int (ifR t u (ifG t u k hv (lowN (x >>> (5 &&& 31)) 22)) 0)])
          have hW : SW D cI cT o aT aB aS g y z ad t u hs sn q f s0 s1 s2 H := hW
          refine ej_topi (show (ifR t u (ifG t u k hv (lowN (x >>> (5 &&& 31)) 22)) 0) = T_po (ifG t u k hv (lowN (x >>> (5 &&& 31)) 22)).2 - T_po u from rfl) ?_
          obtain ⟨okj, elj, ⟨d, hd1, hd2, ed⟩, e, he1, he2, ee⟩ := ifW hv hk ho hL eL (lowN (x >>> (5 &&& 31)) 22)
          refine ej_topi (show T_po (ifG t u k hv (lowN (x >>> (5 &&& 31)) 22)).2 - T_po u = nI d from by rw [ed]; exact i32_ad _ _) ?_
          refine lv_istore (lv' := [(7, .int (nI d)), (6, .int (nI (posT t k 5))), (5, .int 0), (4, .int (nI (lowN (x >>> (5 &&& 31)) 22))), (3, .int hv), (2, .int (nI k)), (0, .ref (o 0)), (1, .int x)]) hx hb dL_would_64 hl (by decide) rfl (fun ls hl => ?_)
          refine lv_aload_n hx hb dL_would_66 rfl (lv_at hl 6 rfl) ?_
          refine lv_iload_n hx hb dL_would_67 rfl (lv_at hl 4 rfl) ?_
          refine lr_bestA (rest := []) (h := hv) S hK hN ht0 ht1 hA hD hW hS htl  (cwV 1 hts gL_would_X6_best rfl rfl rfl hdv_X6_best ⟨Nat.le_of_ble_eq_true rfl, Nat.le_of_ble_eq_true rfl⟩) rfl hl.1 (Nat.le_of_ble_eq_true rfl) dL_would_68 ⟨Nat.zero_le _, Nat.zero_le _⟩ (fun H locs hW hS => ?_)
          show W p9 l e9 (eR 20 1000) s9 m9 a9 b9 t9 c9 H locs 0 0 Q (F0 m9 71 ls [.int (if 0 < T_le u then nI (bstG t u hv 7).1 else -2)])
          have hW : SW D cI cT o aT aB aS g y z ad t u hs sn q f s0 s1 s2 H := hW
          refine lv_istore (lv' := [(8, .int (if 0 < T_le u then nI (bstG t u hv 7).1 else -2)), (7, .int (nI d)), (6, .int (nI (posT t k 5))), (5, .int 0), (4, .int (nI (lowN (x >>> (5 &&& 31)) 22))), (3, .int hv), (2, .int (nI k)), (0, .ref (o 0)), (1, .int x)]) hx hb dL_would_71 hl (by decide) rfl (fun ls hl => ?_)
          refine lv_aload_n hx hb dL_would_73 rfl (lv_at hl 7 rfl) ?_
          refine lv_iconst (v := 1) hx hb dL_would_74 (by decide) ?_
          refine lr_count (rest := []) (w := 1) S hK hN ht0 ht1 hA hD hW hS htl  (cwV 1 hts gL_would_X6_count rfl rfl rfl hdv_X6_count ⟨Nat.le_of_ble_eq_true rfl, Nat.le_of_ble_eq_true rfl⟩) rfl hl.1 (Nat.le_of_ble_eq_true rfl) dL_would_75 ⟨Nat.zero_le _, Nat.zero_le _⟩ (fun H locs hW hS => ?_)
          show W p9 l e9 (eR 20 1000) s9 m9 a9 b9 t9 c9 H locs 0 0 Q (F0 m9 78 ls [.int (couA t u q hs.length 1)])
          have hW : SW D cI cT o aT aB aS g y z ad t u hs sn q f s0 s1 s2 H := hW
          refine ej_topi (show (couA t u q hs.length 1) = T_le u from lkc_1 t u q hs.length) ?_
          refine ej_topi (show (T_le u) = nI L from eL) ?_
          refine lv_istore (lv' := [(9, .int (nI L)), (8, .int (if 0 < T_le u then nI (bstG t u hv 7).1 else -2)), (7, .int (nI d)), (6, .int (nI (posT t k 5))), (5, .int 0), (4, .int (nI (lowN (x >>> (5 &&& 31)) 22))), (3, .int hv), (2, .int (nI k)), (0, .ref (o 0)), (1, .int x)]) hx hb dL_would_78 hl (by decide) rfl (fun ls hl => ?_)
          refine lv_iload_n hx hb dL_would_80 rfl (lv_at hl 7 rfl) ?_
          refine lv_if_lt (tgt := 90) hx hb dL_would_81 (by decide) (fun h9 => absurd h9 (ej_nlt (a := k) (b := 0) (by omega) (show 0 ≤ k from by omega))) (fun _ => ?_)
          refine lv_iload_n hx hb dL_would_84 rfl (lv_at hl 7 rfl) ?_
          refine lv_bipush (v := 6) hx hb dL_would_85 (by decide) ?_
          refine lv_icmp_le (tgt := 94) hx hb dL_would_87 (by decide) (fun _ => ?_) (fun h9 => absurd (ej_le (a := k) (b := 6) (by omega) (show k ≤ 6 from by omega)) h9)
          refine lv_iconst (v := 0) hx hb dL_would_94 (by decide) ?_
          refine lv_istore (lv' := [(10, .int 0), (9, .int (nI L)), (8, .int (if 0 < T_le u then nI (bstG t u hv 7).1 else -2)), (7, .int (nI d)), (6, .int (nI (posT t k 5))), (5, .int 0), (4, .int (nI (lowN (x >>> (5 &&& 31)) 22))), (3, .int hv), (2, .int (nI k)), (0, .ref (o 0)), (1, .int x)]) hx hb dL_would_95 hl (by decide) rfl (fun ls hl => ?_)
          refine lv_iload hx hb dL_would_97 (lv_at hl 0 rfl) ?_
          refine lv_if_ne (tgt := 125) hx hb dL_would_99 (by decide) (fun h9 => absurd (show (0 : Int32) = 0 from by decide) h9) (fun _ => ?_)
          refine lv_iload hx hb dL_would_102 (lv_at hl 6 rfl) ?_
          refine lv_if_eq (tgt := 125) hx hb dL_would_104 (by decide) (fun h9 => absurd h9 (ej_ne (a := (lowN (x >>> (5 &&& 31)) 22)) (b := 0) (by omega) (by omega) (show (lowN (x >>> (5 &&& 31)) 22) ≠ 0 from by omega))) (fun _ => ?_)
          refine lv_iload hx hb dL_would_107 (lv_at hl 6 rfl) ?_
          refine lv_bipush (v := 21) hx hb dL_would_109 (by decide) ?_
          refine lv_icmp_eq (tgt := 125) hx hb dL_would_111 (by decide) (fun h9 => absurd h9 (ej_ne (a := (lowN (x >>> (5 &&& 31)) 22)) (b := 21) (by omega) (by omega) (show (lowN (x >>> (5 &&& 31)) 22) ≠ 21 from by omega))) (fun _ => ?_)
          refine lv_iload hx hb dL_would_114 (lv_at hl 5 rfl) ?_
          refine lv_if_lt (tgt := 125) hx hb dL_would_116 (by decide) (fun h9 => absurd h9 (show ¬ (0 : Int32) < 0 from by decide)) (fun _ => ?_)
          refine lv_iload hx hb dL_would_119 (lv_at hl 5 rfl) ?_
          refine lv_iconst (v := 2) hx hb dL_would_121 (by decide) ?_
          refine lv_icmp_le (tgt := 129) hx hb dL_would_122 (by decide) (fun _ => ?_) (fun h9 => absurd (show (0 : Int32) ≤ 2 from by decide) h9)
          refine lv_iconst (v := 0) hx hb dL_would_129 (by decide) ?_
          refine lv_istore (lv' := [(11, .int 0), (10, .int 0), (9, .int (nI L)), (8, .int (if 0 < T_le u then nI (bstG t u hv 7).1 else -2)), (7, .int (nI d)), (6, .int (nI (posT t k 5))), (5, .int 0), (4, .int (nI (lowN (x >>> (5 &&& 31)) 22))), (3, .int hv), (2, .int (nI k)), (0, .ref (o 0)), (1, .int x)]) hx hb dL_would_130 hl (by decide) rfl (fun ls hl => ?_)
          refine lv_iload hx hb dL_would_132 (lv_at hl 1 rfl) ?_
          refine lv_if_eq (tgt := 146) hx hb dL_would_134 (by decide) (fun _ => ?_) (fun h9 => absurd (show (0 : Int32) = 0 from by decide) h9)
          refine lv_iload hx hb dL_would_146 (lv_at hl 5 rfl) ?_
          refine lv_if_lt (tgt := 266) hx hb dL_would_148 (by decide) (fun h9 => absurd h9 (ej_nlt (a := (posT t k 5)) (b := 0) (by omega) (show 0 ≤ (posT t k 5) from by omega))) (fun _ => ?_)
          refine lv_iload hx hb dL_would_151 (lv_at hl 5 rfl) ?_
          refine lv_bipush (v := 7) hx hb dL_would_153 (by decide) ?_
          refine lv_icmp_ge (tgt := 266) hx hb dL_would_155 (by decide) (fun h9 => absurd h9 (ej_ge (a := (posT t k 5)) (b := 7) (by omega) (show (posT t k 5) < 7 from by omega))) (fun _ => ?_)
          refine lv_aload_n hx hb dL_would_158 rfl (lv_at hl 10 rfl) ?_
          refine lv_iconst (v := 0) hx hb dL_would_159 (by decide) ?_
          refine lr_reach0 (rest := [])  S hK hN ht0 ht1 hA hD hW hS htl  (cwV 1 hts gL_would_X6_reach rfl rfl rfl hdv_X6_reach ⟨Nat.le_of_ble_eq_true rfl, Nat.le_of_ble_eq_true rfl⟩) rfl hl.1 (Nat.le_of_ble_eq_true rfl) dL_would_160 ⟨Nat.zero_le _, Nat.zero_le _⟩ (fun H locs hW hS => ?_)
          show W p9 l e9 (eR 20 1000) s9 m9 a9 b9 t9 c9 H locs 0 0 Q (F0 m9 163 ls [.int (nI (fwdM t 5))])
          have hW : SW D cI cT o aT aB aS g y z ad t u hs sn q f s0 s1 s2 H := hW
          refine lv_iload hx hb dL_would_163 (lv_at hl 5 rfl) ?_
          refine lv_ishr hx hb dL_would_165 ?_
          refine lv_iconst (v := 1) hx hb dL_would_166 (by decide) ?_
          refine lv_iand hx hb dL_would_167 ?_
          refine ej_topi (show (((nI (fwdM t 5)) >>> ((nI (posT t k 5)) &&& 31)) &&& 1) = 1 from (bit_ok (fwdM t 5) (fwdM_lt t 5) (posT t k 5) hpe).trans (if_pos (end_bit htl hk 5))) ?_
          refine lv_iconst (v := 1) hx hb dL_would_168 (by decide) ?_
          refine lv_icmp_ne (tgt := 266) hx hb dL_would_169 (by decide) (fun h9 => absurd (show (1 : Int32) = 1 from by decide) h9) (fun _ => ?_)
          refine lv_iload hx hb dL_would_172 (lv_at hl 0 rfl) ?_
          refine lv_if_eq (tgt := 186) hx hb dL_would_174 (by decide) (fun _ => ?_) (fun h9 => absurd (show (0 : Int32) = 0 from by decide) h9)
          refine lv_iload hx hb dL_would_186 (lv_at hl 6 rfl) ?_
          refine lv_if_ne (tgt := 221) hx hb dL_would_188 (by decide) (fun h9 => absurd (show (0 : Int32) = 0 from by decide) h9) (fun _ => ?_)
          refine lv_iload hx hb dL_would_191 (lv_at hl 4 rfl) ?_
          refine lv_if_lt (tgt := 266) hx hb dL_would_193 (by decide) (fun h9 => absurd h9 (ej_nlt (a := d) (b := 0) (by omega) (show 0 ≤ d from by omega))) (fun _ => ?_)
          refine lv_iload hx hb dL_would_196 (lv_at hl 4 rfl) ?_
          refine lv_bipush (v := 14) hx hb dL_would_198 (by decide) ?_
          refine lv_iload hx hb dL_would_200 (lv_at hl 7 rfl) ?_
          refine lv_iload hx hb dL_would_202 (lv_at hl 2 rfl) ?_
          refine lv_icmp_ge (tgt := 212) hx hb dL_would_204 (by decide) (fun c_204 => ?_) (fun c_204 => ?_)
          · have n_204 : L ≤ (lowN (x >>> (5 &&& 31)) 22) := ej_tle (a := L) (b := (lowN (x >>> (5 &&& 31)) 22)) (by omega) (by omega) c_204
            refine lv_iload hx hb dL_would_212 (lv_at hl 2 rfl) ?_
            refine lv_imul hx hb dL_would_214 ?_
            refine ej_topi (show (14 : Int32) * (nI L) = nI (14 * L) from pk_mul 14 L) ?_
            refine lv_icmp_gt (tgt := 266) hx hb dL_would_215 (by decide) (fun h9 => absurd h9 (ej_nlt (a := (14 * L)) (b := d) (by omega) (show d ≤ (14 * L) from by omega))) (fun _ => ?_)
            refine lv_goto (tgt := 262) hx hb dL_would_218 (by decide) ?_
            refine lv_iconst (v := 1) hx hb dL_would_262 (by decide) ?_
            refine lv_goto (tgt := 267) hx hb dL_would_263 (by decide) ?_
            exact jp267 _ _ _  hW hS (lv_sub hl [10, 9, 8, 3, 2, 1] rfl)
          · have n_204 : (lowN (x >>> (5 &&& 31)) 22) < L := ej_tnle (a := L) (b := (lowN (x >>> (5 &&& 31)) 22)) (by omega) (by omega) c_204
            refine lv_iload hx hb dL_would_207 (lv_at hl 7 rfl) ?_
            refine lv_goto (tgt := 214) hx hb dL_would_209 (by decide) ?_
            refine lv_imul hx hb dL_would_214 ?_
            refine ej_topi (show (14 : Int32) * (nI (lowN (x >>> (5 &&& 31)) 22)) = nI (14 * (lowN (x >>> (5 &&& 31)) 22)) from pk_mul 14 (lowN (x >>> (5 &&& 31)) 22)) ?_
            refine lv_icmp_gt (tgt := 266) hx hb dL_would_215 (by decide) (fun h9 => absurd h9 (ej_nlt (a := (14 * (lowN (x >>> (5 &&& 31)) 22))) (b := d) (by omega) (show d ≤ (14 * (lowN (x >>> (5 &&& 31)) 22)) from by omega))) (fun _ => ?_)
            refine lv_goto (tgt := 262) hx hb dL_would_218 (by decide) ?_
            refine lv_iconst (v := 1) hx hb dL_would_262 (by decide) ?_
            refine lv_goto (tgt := 267) hx hb dL_would_263 (by decide) ?_
            exact jp267 _ _ _  hW hS (lv_sub hl [10, 9, 8, 3, 2, 1] rfl)
        · have hs0 : lowN (x >>> (5 &&& 31)) 22 = 0 ∨ lowN (x >>> (5 &&& 31)) 22 = 21 := by omega
          refine lv_aload_n hx hb dL_would_47 rfl (lv_at hl 4 rfl) ?_
          refine lv_iload_n hx hb dL_would_48 rfl (lv_at hl 3 rfl) ?_
          refine lr_ends (rest := []) (k := k) S hK hN ht0 ht1 hA hD hW hS htl (by omega) (cwV 1 hts gL_would_X6_ends rfl rfl rfl hdv_X6_ends ⟨Nat.le_of_ble_eq_true rfl, Nat.le_of_ble_eq_true rfl⟩) rfl hl.1 (Nat.le_of_ble_eq_true rfl) dL_would_49 ⟨Nat.zero_le _, Nat.zero_le _⟩ (fun H locs hW hS => ?_)
          show W p9 l e9 (eR 20 1000) s9 m9 a9 b9 t9 c9 H locs 0 0 Q (F0 m9 52 ls [.int (nI (posT t k 5))])
          have hW : SW D cI cT o aT aB aS g y z ad t u hs sn q f s0 s1 s2 H := hW
          refine lv_istore (lv' := [(6, .int (nI (posT t k 5))), (5, .int 0), (4, .int (nI (lowN (x >>> (5 &&& 31)) 22))), (3, .int hv), (2, .int (nI k)), (0, .ref (o 0)), (1, .int x)]) hx hb dL_would_52 hl (by decide) rfl (fun ls hl => ?_)
          refine lv_aload_n hx hb dL_would_54 rfl (lv_at hl 5 rfl) ?_
          refine lv_iload_n hx hb dL_would_55 rfl (lv_at hl 4 rfl) ?_
          refine lv_iload_n hx hb dL_would_56 rfl (lv_at hl 3 rfl) ?_
          refine lv_iload hx hb dL_would_57 (lv_at hl 2 rfl) ?_
          refine lv_iload hx hb dL_would_59 (lv_at hl 1 rfl) ?_
          refine lr_ifShot_no (rest := []) (v := nI k) (h := hv) (m9 := nI (lowN (x >>> (5 &&& 31)) 22)) (w := 0) S hK hN ht0 ht1 hA hD hW hS htl (fun z => bad20 (by omega) hs9 z.2.1) (cwV 4 hts gL_would_X6_ifShot rfl rfl rfl hdv_X6_ifShot ⟨Nat.le_of_ble_eq_true rfl, Nat.le_of_ble_eq_true rfl⟩) rfl hl.1 (Nat.le_of_ble_eq_true rfl) dL_would_61 ⟨Nat.zero_le _, Nat.zero_le _⟩ (fun H locs hW hS => ?_)
          show W p9 l e9 (eR 20 1000) s9 m9 a9 b9 t9 c9 H locs 0 0 Q (F0 m9 64 ls [.int (-1)])
          have hW : SW D cI cT o aT aB aS g y z ad t u hs sn q f s0 s1 s2 H := hW
          refine lv_istore (lv' := [(7, .int (-1)), (6, .int (nI (posT t k 5))), (5, .int 0), (4, .int (nI (lowN (x >>> (5 &&& 31)) 22))), (3, .int hv), (2, .int (nI k)), (0, .ref (o 0)), (1, .int x)]) hx hb dL_would_64 hl (by decide) rfl (fun ls hl => ?_)
          refine lv_aload_n hx hb dL_would_66 rfl (lv_at hl 6 rfl) ?_
          refine lv_iload_n hx hb dL_would_67 rfl (lv_at hl 4 rfl) ?_
          refine lr_bestA (rest := []) (h := hv) S hK hN ht0 ht1 hA hD hW hS htl  (cwV 1 hts gL_would_X6_best rfl rfl rfl hdv_X6_best ⟨Nat.le_of_ble_eq_true rfl, Nat.le_of_ble_eq_true rfl⟩) rfl hl.1 (Nat.le_of_ble_eq_true rfl) dL_would_68 ⟨Nat.zero_le _, Nat.zero_le _⟩ (fun H locs hW hS => ?_)
          show W p9 l e9 (eR 20 1000) s9 m9 a9 b9 t9 c9 H locs 0 0 Q (F0 m9 71 ls [.int (if 0 < T_le u then nI (bstG t u hv 7).1 else -2)])
          have hW : SW D cI cT o aT aB aS g y z ad t u hs sn q f s0 s1 s2 H := hW
          refine lv_istore (lv' := [(8, .int (if 0 < T_le u then nI (bstG t u hv 7).1 else -2)), (7, .int (-1)), (6, .int (nI (posT t k 5))), (5, .int 0), (4, .int (nI (lowN (x >>> (5 &&& 31)) 22))), (3, .int hv), (2, .int (nI k)), (0, .ref (o 0)), (1, .int x)]) hx hb dL_would_71 hl (by decide) rfl (fun ls hl => ?_)
          refine lv_aload_n hx hb dL_would_73 rfl (lv_at hl 7 rfl) ?_
          refine lv_iconst (v := 1) hx hb dL_would_74 (by decide) ?_
          refine lr_count (rest := []) (w := 1) S hK hN ht0 ht1 hA hD hW hS htl  (cwV 1 hts gL_would_X6_count rfl rfl rfl hdv_X6_count ⟨Nat.le_of_ble_eq_true rfl, Nat.le_of_ble_eq_true rfl⟩) rfl hl.1 (Nat.le_of_ble_eq_true rfl) dL_would_75 ⟨Nat.zero_le _, Nat.zero_le _⟩ (fun H locs hW hS => ?_)
          show W p9 l e9 (eR 20 1000) s9 m9 a9 b9 t9 c9 H locs 0 0 Q (F0 m9 78 ls [.int (couA t u q hs.length 1)])
          have hW : SW D cI cT o aT aB aS g y z ad t u hs sn q f s0 s1 s2 H := hW
          refine ej_topi (show (couA t u q hs.length 1) = T_le u from lkc_1 t u q hs.length) ?_
          refine ej_topi (show (T_le u) = nI L from eL) ?_
          refine lv_istore (lv' := [(9, .int (nI L)), (8, .int (if 0 < T_le u then nI (bstG t u hv 7).1 else -2)), (7, .int (-1)), (6, .int (nI (posT t k 5))), (5, .int 0), (4, .int (nI (lowN (x >>> (5 &&& 31)) 22))), (3, .int hv), (2, .int (nI k)), (0, .ref (o 0)), (1, .int x)]) hx hb dL_would_78 hl (by decide) rfl (fun ls hl => ?_)
          refine lv_iload_n hx hb dL_would_80 rfl (lv_at hl 7 rfl) ?_
          refine lv_if_lt (tgt := 90) hx hb dL_would_81 (by decide) (fun h9 => absurd h9 (ej_nlt (a := k) (b := 0) (by omega) (show 0 ≤ k from by omega))) (fun _ => ?_)
          refine lv_iload_n hx hb dL_would_84 rfl (lv_at hl 7 rfl) ?_
          refine lv_bipush (v := 6) hx hb dL_would_85 (by decide) ?_
          refine lv_icmp_le (tgt := 94) hx hb dL_would_87 (by decide) (fun _ => ?_) (fun h9 => absurd (ej_le (a := k) (b := 6) (by omega) (show k ≤ 6 from by omega)) h9)
          refine lv_iconst (v := 0) hx hb dL_would_94 (by decide) ?_
          refine lv_istore (lv' := [(10, .int 0), (9, .int (nI L)), (8, .int (if 0 < T_le u then nI (bstG t u hv 7).1 else -2)), (7, .int (-1)), (6, .int (nI (posT t k 5))), (5, .int 0), (4, .int (nI (lowN (x >>> (5 &&& 31)) 22))), (3, .int hv), (2, .int (nI k)), (0, .ref (o 0)), (1, .int x)]) hx hb dL_would_95 hl (by decide) rfl (fun ls hl => ?_)
          refine lv_iload hx hb dL_would_97 (lv_at hl 0 rfl) ?_
          refine lv_if_ne (tgt := 125) hx hb dL_would_99 (by decide) (fun h9 => absurd (show (0 : Int32) = 0 from by decide) h9) (fun _ => ?_)
          refine lv_iload hx hb dL_would_102 (lv_at hl 6 rfl) ?_
          refine lv_if_eq (tgt := 125) hx hb dL_would_104 (by decide) (fun c_104 => ?_) (fun c_104 => ?_)
          · have n_104 : (lowN (x >>> (5 &&& 31)) 22) = 0 := ej_teq (a := (lowN (x >>> (5 &&& 31)) 22)) (b := 0) (by omega) (by omega) c_104
            refine lv_iconst (v := 1) hx hb dL_would_125 (by decide) ?_
            refine lv_goto (tgt := 130) hx hb dL_would_126 (by decide) ?_
            refine lv_istore (lv' := [(11, .int 1), (10, .int 0), (9, .int (nI L)), (8, .int (if 0 < T_le u then nI (bstG t u hv 7).1 else -2)), (7, .int (-1)), (6, .int (nI (posT t k 5))), (5, .int 0), (4, .int (nI (lowN (x >>> (5 &&& 31)) 22))), (3, .int hv), (2, .int (nI k)), (0, .ref (o 0)), (1, .int x)]) hx hb dL_would_130 hl (by decide) rfl (fun ls hl => ?_)
            refine lv_iload hx hb dL_would_132 (lv_at hl 1 rfl) ?_
            refine lv_if_eq (tgt := 146) hx hb dL_would_134 (by decide) (fun _ => ?_) (fun h9 => absurd (show (0 : Int32) = 0 from by decide) h9)
            refine lv_iload hx hb dL_would_146 (lv_at hl 5 rfl) ?_
            refine lv_if_lt (tgt := 266) hx hb dL_would_148 (by decide) (fun h9 => absurd h9 (ej_nlt (a := (posT t k 5)) (b := 0) (by omega) (show 0 ≤ (posT t k 5) from by omega))) (fun _ => ?_)
            refine lv_iload hx hb dL_would_151 (lv_at hl 5 rfl) ?_
            refine lv_bipush (v := 7) hx hb dL_would_153 (by decide) ?_
            refine lv_icmp_ge (tgt := 266) hx hb dL_would_155 (by decide) (fun h9 => absurd h9 (ej_ge (a := (posT t k 5)) (b := 7) (by omega) (show (posT t k 5) < 7 from by omega))) (fun _ => ?_)
            refine lv_aload_n hx hb dL_would_158 rfl (lv_at hl 10 rfl) ?_
            refine lv_iconst (v := 0) hx hb dL_would_159 (by decide) ?_
            refine lr_reach0 (rest := [])  S hK hN ht0 ht1 hA hD hW hS htl  (cwV 1 hts gL_would_X6_reach rfl rfl rfl hdv_X6_reach ⟨Nat.le_of_ble_eq_true rfl, Nat.le_of_ble_eq_true rfl⟩) rfl hl.1 (Nat.le_of_ble_eq_true rfl) dL_would_160 ⟨Nat.zero_le _, Nat.zero_le _⟩ (fun H locs hW hS => ?_)
            show W p9 l e9 (eR 20 1000) s9 m9 a9 b9 t9 c9 H locs 0 0 Q (F0 m9 163 ls [.int (nI (fwdM t 5))])
            have hW : SW D cI cT o aT aB aS g y z ad t u hs sn q f s0 s1 s2 H := hW
            refine lv_iload hx hb dL_would_163 (lv_at hl 5 rfl) ?_
            refine lv_ishr hx hb dL_would_165 ?_
            refine lv_iconst (v := 1) hx hb dL_would_166 (by decide) ?_
            refine lv_iand hx hb dL_would_167 ?_
            refine ej_topi (show (((nI (fwdM t 5)) >>> ((nI (posT t k 5)) &&& 31)) &&& 1) = 1 from (bit_ok (fwdM t 5) (fwdM_lt t 5) (posT t k 5) hpe).trans (if_pos (end_bit htl hk 5))) ?_
            refine lv_iconst (v := 1) hx hb dL_would_168 (by decide) ?_
            refine lv_icmp_ne (tgt := 266) hx hb dL_would_169 (by decide) (fun h9 => absurd (show (1 : Int32) = 1 from by decide) h9) (fun _ => ?_)
            refine lv_iload hx hb dL_would_172 (lv_at hl 0 rfl) ?_
            refine lv_if_eq (tgt := 186) hx hb dL_would_174 (by decide) (fun h9 => absurd h9 (show ¬ (1 : Int32) = 0 from by decide)) (fun _ => ?_)
            refine lv_iload hx hb dL_would_177 (lv_at hl 4 rfl) ?_
            refine lv_iconst (v := (-1)) hx hb dL_would_179 (by decide) ?_
            refine lv_icmp_ne (tgt := 266) hx hb dL_would_180 (by decide) (fun h9 => absurd (show ((-1) : Int32) = (-1) from by decide) h9) (fun _ => ?_)
            refine lv_goto (tgt := 262) hx hb dL_would_183 (by decide) ?_
            refine lv_iconst (v := 1) hx hb dL_would_262 (by decide) ?_
            refine lv_goto (tgt := 267) hx hb dL_would_263 (by decide) ?_
            exact jp267 _ _ _  hW hS (lv_sub hl [10, 9, 8, 3, 2, 1] rfl)
          · have n_104 : (lowN (x >>> (5 &&& 31)) 22) ≠ 0 := ej_tne (a := (lowN (x >>> (5 &&& 31)) 22)) (b := 0) (by omega) (by omega) c_104
            refine lv_iload hx hb dL_would_107 (lv_at hl 6 rfl) ?_
            refine lv_bipush (v := 21) hx hb dL_would_109 (by decide) ?_
            refine lv_icmp_eq (tgt := 125) hx hb dL_would_111 (by decide) (fun _ => ?_) (fun h9 => absurd (congrArg nI (show (lowN (x >>> (5 &&& 31)) 22) = 21 from by omega)) h9)
            refine lv_iconst (v := 1) hx hb dL_would_125 (by decide) ?_
            refine lv_goto (tgt := 130) hx hb dL_would_126 (by decide) ?_
            refine lv_istore (lv' := [(11, .int 1), (10, .int 0), (9, .int (nI L)), (8, .int (if 0 < T_le u then nI (bstG t u hv 7).1 else -2)), (7, .int (-1)), (6, .int (nI (posT t k 5))), (5, .int 0), (4, .int (nI (lowN (x >>> (5 &&& 31)) 22))), (3, .int hv), (2, .int (nI k)), (0, .ref (o 0)), (1, .int x)]) hx hb dL_would_130 hl (by decide) rfl (fun ls hl => ?_)
            refine lv_iload hx hb dL_would_132 (lv_at hl 1 rfl) ?_
            refine lv_if_eq (tgt := 146) hx hb dL_would_134 (by decide) (fun _ => ?_) (fun h9 => absurd (show (0 : Int32) = 0 from by decide) h9)
            refine lv_iload hx hb dL_would_146 (lv_at hl 5 rfl) ?_
            refine lv_if_lt (tgt := 266) hx hb dL_would_148 (by decide) (fun h9 => absurd h9 (ej_nlt (a := (posT t k 5)) (b := 0) (by omega) (show 0 ≤ (posT t k 5) from by omega))) (fun _ => ?_)
            refine lv_iload hx hb dL_would_151 (lv_at hl 5 rfl) ?_
            refine lv_bipush (v := 7) hx hb dL_would_153 (by decide) ?_
            refine lv_icmp_ge (tgt := 266) hx hb dL_would_155 (by decide) (fun h9 => absurd h9 (ej_ge (a := (posT t k 5)) (b := 7) (by omega) (show (posT t k 5) < 7 from by omega))) (fun _ => ?_)
            refine lv_aload_n hx hb dL_would_158 rfl (lv_at hl 10 rfl) ?_
            refine lv_iconst (v := 0) hx hb dL_would_159 (by decide) ?_
            refine lr_reach0 (rest := [])  S hK hN ht0 ht1 hA hD hW hS htl  (cwV 1 hts gL_would_X6_reach rfl rfl rfl hdv_X6_reach ⟨Nat.le_of_ble_eq_true rfl, Nat.le_of_ble_eq_true rfl⟩) rfl hl.1 (Nat.le_of_ble_eq_true rfl) dL_would_160 ⟨Nat.zero_le _, Nat.zero_le _⟩ (fun H locs hW hS => ?_)
            show W p9 l e9 (eR 20 1000) s9 m9 a9 b9 t9 c9 H locs 0 0 Q (F0 m9 163 ls [.int (nI (fwdM t 5))])
            have hW : SW D cI cT o aT aB aS g y z ad t u hs sn q f s0 s1 s2 H := hW
            refine lv_iload hx hb dL_would_163 (lv_at hl 5 rfl) ?_
            refine lv_ishr hx hb dL_would_165 ?_
            refine lv_iconst (v := 1) hx hb dL_would_166 (by decide) ?_
            refine lv_iand hx hb dL_would_167 ?_
            refine ej_topi (show (((nI (fwdM t 5)) >>> ((nI (posT t k 5)) &&& 31)) &&& 1) = 1 from (bit_ok (fwdM t 5) (fwdM_lt t 5) (posT t k 5) hpe).trans (if_pos (end_bit htl hk 5))) ?_
            refine lv_iconst (v := 1) hx hb dL_would_168 (by decide) ?_
            refine lv_icmp_ne (tgt := 266) hx hb dL_would_169 (by decide) (fun h9 => absurd (show (1 : Int32) = 1 from by decide) h9) (fun _ => ?_)
            refine lv_iload hx hb dL_would_172 (lv_at hl 0 rfl) ?_
            refine lv_if_eq (tgt := 186) hx hb dL_would_174 (by decide) (fun h9 => absurd h9 (show ¬ (1 : Int32) = 0 from by decide)) (fun _ => ?_)
            refine lv_iload hx hb dL_would_177 (lv_at hl 4 rfl) ?_
            refine lv_iconst (v := (-1)) hx hb dL_would_179 (by decide) ?_
            refine lv_icmp_ne (tgt := 266) hx hb dL_would_180 (by decide) (fun h9 => absurd (show ((-1) : Int32) = (-1) from by decide) h9) (fun _ => ?_)
            refine lv_goto (tgt := 262) hx hb dL_would_183 (by decide) ?_
            refine lv_iconst (v := 1) hx hb dL_would_262 (by decide) ?_
            refine lv_goto (tgt := 267) hx hb dL_would_263 (by decide) ?_
            exact jp267 _ _ _  hW hS (lv_sub hl [10, 9, 8, 3, 2, 1] rfl)
      · refine ej_topi (show nI (lowN (x >>> (9 &&& 31)) 5) - 1 = 1 from by rw [w9]; decide) ?_
        refine lv_istore (lv' := [(5, .int 1), (4, .int (nI (lowN (x >>> (5 &&& 31)) 22))), (3, .int hv), (2, .int (nI k)), (0, .ref (o 0)), (1, .int x)]) hx hb dL_would_45 hl (by decide) rfl (fun ls hl => ?_)
        by_cases hs9 : 0 < lowN (x >>> (5 &&& 31)) 22 ∧ lowN (x >>> (5 &&& 31)) 22 ≤ 20
        · have hs0 := hs9.1
          have hs1 := hs9.2
          refine lv_aload_n hx hb dL_would_47 rfl (lv_at hl 4 rfl) ?_
          refine lv_iload_n hx hb dL_would_48 rfl (lv_at hl 3 rfl) ?_
          refine lr_ends (rest := []) (k := k) S hK hN ht0 ht1 hA hD hW hS htl (by omega) (cwV 1 hts gL_would_X6_ends rfl rfl rfl hdv_X6_ends ⟨Nat.le_of_ble_eq_true rfl, Nat.le_of_ble_eq_true rfl⟩) rfl hl.1 (Nat.le_of_ble_eq_true rfl) dL_would_49 ⟨Nat.zero_le _, Nat.zero_le _⟩ (fun H locs hW hS => ?_)
          show W p9 l e9 (eR 20 1000) s9 m9 a9 b9 t9 c9 H locs 0 0 Q (F0 m9 52 ls [.int (nI (posT t k 5))])
          have hW : SW D cI cT o aT aB aS g y z ad t u hs sn q f s0 s1 s2 H := hW
          refine lv_istore (lv' := [(6, .int (nI (posT t k 5))), (5, .int 1), (4, .int (nI (lowN (x >>> (5 &&& 31)) 22))), (3, .int hv), (2, .int (nI k)), (0, .ref (o 0)), (1, .int x)]) hx hb dL_would_52 hl (by decide) rfl (fun ls hl => ?_)
          refine lv_aload_n hx hb dL_would_54 rfl (lv_at hl 5 rfl) ?_
          refine lv_iload_n hx hb dL_would_55 rfl (lv_at hl 4 rfl) ?_
          refine lv_iload_n hx hb dL_would_56 rfl (lv_at hl 3 rfl) ?_
          refine lv_iload hx hb dL_would_57 (lv_at hl 2 rfl) ?_
          refine lv_iload hx hb dL_would_59 (lv_at hl 1 rfl) ?_
          refine lr_ifShot (rest := []) (k := k) (h := hv) (j := lowN (x >>> (5 &&& 31)) 22) (w := 1) S hK hN ht0 ht1 hA hD hW hS htl (by omega) (by omega) (by omega) (by decide) (cwV 4 hts gL_would_X6_ifShot rfl rfl rfl hdv_X6_ifShot ⟨Nat.le_of_ble_eq_true rfl, Nat.le_of_ble_eq_true rfl⟩) rfl hl.1 (Nat.le_of_ble_eq_true rfl) dL_would_61 ⟨Nat.zero_le _, Nat.zero_le _⟩ (fun H locs hW hS => ?_)
          show W p9 l e9 (eR 20 1000) s9 m9 a9 b9 t9 c9 H locs 0 0 Q (F0 m9 64 ls [.int (ifR t u (ifG t u k hv (lowN (x >>> (5 &&& 31)) 22)) 1)])
          have hW : SW D cI cT o aT aB aS g y z ad t u hs sn q f s0 s1 s2 H := hW
          refine ej_topi (show (ifR t u (ifG t u k hv (lowN (x >>> (5 &&& 31)) 22)) 1) = T_lo (ifG t u k hv (lowN (x >>> (5 &&& 31)) 22)).2 - T_lo u from rfl) ?_
          obtain ⟨okj, elj, ⟨d, hd1, hd2, ed⟩, e, he1, he2, ee⟩ := ifW hv hk ho hL eL (lowN (x >>> (5 &&& 31)) 22)
          refine ej_topi (show T_lo (ifG t u k hv (lowN (x >>> (5 &&& 31)) 22)).2 - T_lo u = nI e from by rw [ee]; exact i32_ad _ _) ?_
          refine lv_istore (lv' := [(7, .int (nI e)), (6, .int (nI (posT t k 5))), (5, .int 1), (4, .int (nI (lowN (x >>> (5 &&& 31)) 22))), (3, .int hv), (2, .int (nI k)), (0, .ref (o 0)), (1, .int x)]) hx hb dL_would_64 hl (by decide) rfl (fun ls hl => ?_)
          refine lv_aload_n hx hb dL_would_66 rfl (lv_at hl 6 rfl) ?_
          refine lv_iload_n hx hb dL_would_67 rfl (lv_at hl 4 rfl) ?_
          refine lr_bestA (rest := []) (h := hv) S hK hN ht0 ht1 hA hD hW hS htl  (cwV 1 hts gL_would_X6_best rfl rfl rfl hdv_X6_best ⟨Nat.le_of_ble_eq_true rfl, Nat.le_of_ble_eq_true rfl⟩) rfl hl.1 (Nat.le_of_ble_eq_true rfl) dL_would_68 ⟨Nat.zero_le _, Nat.zero_le _⟩ (fun H locs hW hS => ?_)
          show W p9 l e9 (eR 20 1000) s9 m9 a9 b9 t9 c9 H locs 0 0 Q (F0 m9 71 ls [.int (if 0 < T_le u then nI (bstG t u hv 7).1 else -2)])
          have hW : SW D cI cT o aT aB aS g y z ad t u hs sn q f s0 s1 s2 H := hW
          refine lv_istore (lv' := [(8, .int (if 0 < T_le u then nI (bstG t u hv 7).1 else -2)), (7, .int (nI e)), (6, .int (nI (posT t k 5))), (5, .int 1), (4, .int (nI (lowN (x >>> (5 &&& 31)) 22))), (3, .int hv), (2, .int (nI k)), (0, .ref (o 0)), (1, .int x)]) hx hb dL_would_71 hl (by decide) rfl (fun ls hl => ?_)
          refine lv_aload_n hx hb dL_would_73 rfl (lv_at hl 7 rfl) ?_
          refine lv_iconst (v := 1) hx hb dL_would_74 (by decide) ?_
          refine lr_count (rest := []) (w := 1) S hK hN ht0 ht1 hA hD hW hS htl  (cwV 1 hts gL_would_X6_count rfl rfl rfl hdv_X6_count ⟨Nat.le_of_ble_eq_true rfl, Nat.le_of_ble_eq_true rfl⟩) rfl hl.1 (Nat.le_of_ble_eq_true rfl) dL_would_75 ⟨Nat.zero_le _, Nat.zero_le _⟩ (fun H locs hW hS => ?_)
          show W p9 l e9 (eR 20 1000) s9 m9 a9 b9 t9 c9 H locs 0 0 Q (F0 m9 78 ls [.int (couA t u q hs.length 1)])
          have hW : SW D cI cT o aT aB aS g y z ad t u hs sn q f s0 s1 s2 H := hW
          refine ej_topi (show (couA t u q hs.length 1) = T_le u from lkc_1 t u q hs.length) ?_
          refine ej_topi (show (T_le u) = nI L from eL) ?_
          refine lv_istore (lv' := [(9, .int (nI L)), (8, .int (if 0 < T_le u then nI (bstG t u hv 7).1 else -2)), (7, .int (nI e)), (6, .int (nI (posT t k 5))), (5, .int 1), (4, .int (nI (lowN (x >>> (5 &&& 31)) 22))), (3, .int hv), (2, .int (nI k)), (0, .ref (o 0)), (1, .int x)]) hx hb dL_would_78 hl (by decide) rfl (fun ls hl => ?_)
          refine lv_iload_n hx hb dL_would_80 rfl (lv_at hl 7 rfl) ?_
          refine lv_if_lt (tgt := 90) hx hb dL_would_81 (by decide) (fun h9 => absurd h9 (ej_nlt (a := k) (b := 0) (by omega) (show 0 ≤ k from by omega))) (fun _ => ?_)
          refine lv_iload_n hx hb dL_would_84 rfl (lv_at hl 7 rfl) ?_
          refine lv_bipush (v := 6) hx hb dL_would_85 (by decide) ?_
          refine lv_icmp_le (tgt := 94) hx hb dL_would_87 (by decide) (fun _ => ?_) (fun h9 => absurd (ej_le (a := k) (b := 6) (by omega) (show k ≤ 6 from by omega)) h9)
          refine lv_iconst (v := 0) hx hb dL_would_94 (by decide) ?_
          refine lv_istore (lv' := [(10, .int 0), (9, .int (nI L)), (8, .int (if 0 < T_le u then nI (bstG t u hv 7).1 else -2)), (7, .int (nI e)), (6, .int (nI (posT t k 5))), (5, .int 1), (4, .int (nI (lowN (x >>> (5 &&& 31)) 22))), (3, .int hv), (2, .int (nI k)), (0, .ref (o 0)), (1, .int x)]) hx hb dL_would_95 hl (by decide) rfl (fun ls hl => ?_)
          refine lv_iload hx hb dL_would_97 (lv_at hl 0 rfl) ?_
          refine lv_if_ne (tgt := 125) hx hb dL_would_99 (by decide) (fun h9 => absurd (show (0 : Int32) = 0 from by decide) h9) (fun _ => ?_)
          refine lv_iload hx hb dL_would_102 (lv_at hl 6 rfl) ?_
          refine lv_if_eq (tgt := 125) hx hb dL_would_104 (by decide) (fun h9 => absurd h9 (ej_ne (a := (lowN (x >>> (5 &&& 31)) 22)) (b := 0) (by omega) (by omega) (show (lowN (x >>> (5 &&& 31)) 22) ≠ 0 from by omega))) (fun _ => ?_)
          refine lv_iload hx hb dL_would_107 (lv_at hl 6 rfl) ?_
          refine lv_bipush (v := 21) hx hb dL_would_109 (by decide) ?_
          refine lv_icmp_eq (tgt := 125) hx hb dL_would_111 (by decide) (fun h9 => absurd h9 (ej_ne (a := (lowN (x >>> (5 &&& 31)) 22)) (b := 21) (by omega) (by omega) (show (lowN (x >>> (5 &&& 31)) 22) ≠ 21 from by omega))) (fun _ => ?_)
          refine lv_iload hx hb dL_would_114 (lv_at hl 5 rfl) ?_
          refine lv_if_lt (tgt := 125) hx hb dL_would_116 (by decide) (fun h9 => absurd h9 (show ¬ (1 : Int32) < 0 from by decide)) (fun _ => ?_)
          refine lv_iload hx hb dL_would_119 (lv_at hl 5 rfl) ?_
          refine lv_iconst (v := 2) hx hb dL_would_121 (by decide) ?_
          refine lv_icmp_le (tgt := 129) hx hb dL_would_122 (by decide) (fun _ => ?_) (fun h9 => absurd (show (1 : Int32) ≤ 2 from by decide) h9)
          refine lv_iconst (v := 0) hx hb dL_would_129 (by decide) ?_
          refine lv_istore (lv' := [(11, .int 0), (10, .int 0), (9, .int (nI L)), (8, .int (if 0 < T_le u then nI (bstG t u hv 7).1 else -2)), (7, .int (nI e)), (6, .int (nI (posT t k 5))), (5, .int 1), (4, .int (nI (lowN (x >>> (5 &&& 31)) 22))), (3, .int hv), (2, .int (nI k)), (0, .ref (o 0)), (1, .int x)]) hx hb dL_would_130 hl (by decide) rfl (fun ls hl => ?_)
          refine lv_iload hx hb dL_would_132 (lv_at hl 1 rfl) ?_
          refine lv_if_eq (tgt := 146) hx hb dL_would_134 (by decide) (fun _ => ?_) (fun h9 => absurd (show (0 : Int32) = 0 from by decide) h9)
          refine lv_iload hx hb dL_would_146 (lv_at hl 5 rfl) ?_
          refine lv_if_lt (tgt := 266) hx hb dL_would_148 (by decide) (fun h9 => absurd h9 (ej_nlt (a := (posT t k 5)) (b := 0) (by omega) (show 0 ≤ (posT t k 5) from by omega))) (fun _ => ?_)
          refine lv_iload hx hb dL_would_151 (lv_at hl 5 rfl) ?_
          refine lv_bipush (v := 7) hx hb dL_would_153 (by decide) ?_
          refine lv_icmp_ge (tgt := 266) hx hb dL_would_155 (by decide) (fun h9 => absurd h9 (ej_ge (a := (posT t k 5)) (b := 7) (by omega) (show (posT t k 5) < 7 from by omega))) (fun _ => ?_)
          refine lv_aload_n hx hb dL_would_158 rfl (lv_at hl 10 rfl) ?_
          refine lv_iconst (v := 0) hx hb dL_would_159 (by decide) ?_
          refine lr_reach0 (rest := [])  S hK hN ht0 ht1 hA hD hW hS htl  (cwV 1 hts gL_would_X6_reach rfl rfl rfl hdv_X6_reach ⟨Nat.le_of_ble_eq_true rfl, Nat.le_of_ble_eq_true rfl⟩) rfl hl.1 (Nat.le_of_ble_eq_true rfl) dL_would_160 ⟨Nat.zero_le _, Nat.zero_le _⟩ (fun H locs hW hS => ?_)
          show W p9 l e9 (eR 20 1000) s9 m9 a9 b9 t9 c9 H locs 0 0 Q (F0 m9 163 ls [.int (nI (fwdM t 5))])
          have hW : SW D cI cT o aT aB aS g y z ad t u hs sn q f s0 s1 s2 H := hW
          refine lv_iload hx hb dL_would_163 (lv_at hl 5 rfl) ?_
          refine lv_ishr hx hb dL_would_165 ?_
          refine lv_iconst (v := 1) hx hb dL_would_166 (by decide) ?_
          refine lv_iand hx hb dL_would_167 ?_
          refine ej_topi (show (((nI (fwdM t 5)) >>> ((nI (posT t k 5)) &&& 31)) &&& 1) = 1 from (bit_ok (fwdM t 5) (fwdM_lt t 5) (posT t k 5) hpe).trans (if_pos (end_bit htl hk 5))) ?_
          refine lv_iconst (v := 1) hx hb dL_would_168 (by decide) ?_
          refine lv_icmp_ne (tgt := 266) hx hb dL_would_169 (by decide) (fun h9 => absurd (show (1 : Int32) = 1 from by decide) h9) (fun _ => ?_)
          refine lv_iload hx hb dL_would_172 (lv_at hl 0 rfl) ?_
          refine lv_if_eq (tgt := 186) hx hb dL_would_174 (by decide) (fun _ => ?_) (fun h9 => absurd (show (0 : Int32) = 0 from by decide) h9)
          refine lv_iload hx hb dL_would_186 (lv_at hl 6 rfl) ?_
          refine lv_if_ne (tgt := 221) hx hb dL_would_188 (by decide) (fun _ => ?_) (fun h9 => absurd h9 (show ¬ (1 : Int32) = 0 from by decide))
          refine lv_iload hx hb dL_would_221 (lv_at hl 6 rfl) ?_
          refine lv_iconst (v := 1) hx hb dL_would_223 (by decide) ?_
          refine lv_icmp_ne (tgt := 249) hx hb dL_would_224 (by decide) (fun h9 => absurd (show (1 : Int32) = 1 from by decide) h9) (fun _ => ?_)
          refine lv_iload hx hb dL_would_227 (lv_at hl 4 rfl) ?_
          refine lv_if_lt (tgt := 266) hx hb dL_would_229 (by decide) (fun h9 => absurd h9 (ej_nlt (a := e) (b := 0) (by omega) (show 0 ≤ e from by omega))) (fun _ => ?_)
          refine lv_iload hx hb dL_would_232 (lv_at hl 4 rfl) ?_
          refine lv_iload hx hb dL_would_234 (lv_at hl 7 rfl) ?_
          refine lv_icmp_gt (tgt := 266) hx hb dL_would_236 (by decide) (fun h9 => absurd h9 (ej_nlt (a := (lowN (x >>> (5 &&& 31)) 22)) (b := e) (by omega) (show e ≤ (lowN (x >>> (5 &&& 31)) 22) from by omega))) (fun _ => ?_)
          refine lv_iload hx hb dL_would_239 (lv_at hl 4 rfl) ?_
          refine lv_iload hx hb dL_would_241 (lv_at hl 2 rfl) ?_
          refine lv_icmp_gt (tgt := 266) hx hb dL_would_243 (by decide) (fun h9 => absurd h9 (ej_nlt (a := L) (b := e) (by omega) (show e ≤ L from by omega))) (fun _ => ?_)
          refine lv_goto (tgt := 262) hx hb dL_would_246 (by decide) ?_
          refine lv_iconst (v := 1) hx hb dL_would_262 (by decide) ?_
          refine lv_goto (tgt := 267) hx hb dL_would_263 (by decide) ?_
          exact jp267 _ _ _  hW hS (lv_sub hl [10, 9, 8, 3, 2, 1] rfl)
        · have hs0 : lowN (x >>> (5 &&& 31)) 22 = 0 ∨ lowN (x >>> (5 &&& 31)) 22 = 21 := by omega
          refine lv_aload_n hx hb dL_would_47 rfl (lv_at hl 4 rfl) ?_
          refine lv_iload_n hx hb dL_would_48 rfl (lv_at hl 3 rfl) ?_
          refine lr_ends (rest := []) (k := k) S hK hN ht0 ht1 hA hD hW hS htl (by omega) (cwV 1 hts gL_would_X6_ends rfl rfl rfl hdv_X6_ends ⟨Nat.le_of_ble_eq_true rfl, Nat.le_of_ble_eq_true rfl⟩) rfl hl.1 (Nat.le_of_ble_eq_true rfl) dL_would_49 ⟨Nat.zero_le _, Nat.zero_le _⟩ (fun H locs hW hS => ?_)
          show W p9 l e9 (eR 20 1000) s9 m9 a9 b9 t9 c9 H locs 0 0 Q (F0 m9 52 ls [.int (nI (posT t k 5))])
          have hW : SW D cI cT o aT aB aS g y z ad t u hs sn q f s0 s1 s2 H := hW
          refine lv_istore (lv' := [(6, .int (nI (posT t k 5))), (5, .int 1), (4, .int (nI (lowN (x >>> (5 &&& 31)) 22))), (3, .int hv), (2, .int (nI k)), (0, .ref (o 0)), (1, .int x)]) hx hb dL_would_52 hl (by decide) rfl (fun ls hl => ?_)
          refine lv_aload_n hx hb dL_would_54 rfl (lv_at hl 5 rfl) ?_
          refine lv_iload_n hx hb dL_would_55 rfl (lv_at hl 4 rfl) ?_
          refine lv_iload_n hx hb dL_would_56 rfl (lv_at hl 3 rfl) ?_
          refine lv_iload hx hb dL_would_57 (lv_at hl 2 rfl) ?_
          refine lv_iload hx hb dL_would_59 (lv_at hl 1 rfl) ?_
          refine lr_ifShot_no (rest := []) (v := nI k) (h := hv) (m9 := nI (lowN (x >>> (5 &&& 31)) 22)) (w := 1) S hK hN ht0 ht1 hA hD hW hS htl (fun z => bad20 (by omega) hs9 z.2.1) (cwV 4 hts gL_would_X6_ifShot rfl rfl rfl hdv_X6_ifShot ⟨Nat.le_of_ble_eq_true rfl, Nat.le_of_ble_eq_true rfl⟩) rfl hl.1 (Nat.le_of_ble_eq_true rfl) dL_would_61 ⟨Nat.zero_le _, Nat.zero_le _⟩ (fun H locs hW hS => ?_)
          show W p9 l e9 (eR 20 1000) s9 m9 a9 b9 t9 c9 H locs 0 0 Q (F0 m9 64 ls [.int (-1)])
          have hW : SW D cI cT o aT aB aS g y z ad t u hs sn q f s0 s1 s2 H := hW
          refine lv_istore (lv' := [(7, .int (-1)), (6, .int (nI (posT t k 5))), (5, .int 1), (4, .int (nI (lowN (x >>> (5 &&& 31)) 22))), (3, .int hv), (2, .int (nI k)), (0, .ref (o 0)), (1, .int x)]) hx hb dL_would_64 hl (by decide) rfl (fun ls hl => ?_)
          refine lv_aload_n hx hb dL_would_66 rfl (lv_at hl 6 rfl) ?_
          refine lv_iload_n hx hb dL_would_67 rfl (lv_at hl 4 rfl) ?_
          refine lr_bestA (rest := []) (h := hv) S hK hN ht0 ht1 hA hD hW hS htl  (cwV 1 hts gL_would_X6_best rfl rfl rfl hdv_X6_best ⟨Nat.le_of_ble_eq_true rfl, Nat.le_of_ble_eq_true rfl⟩) rfl hl.1 (Nat.le_of_ble_eq_true rfl) dL_would_68 ⟨Nat.zero_le _, Nat.zero_le _⟩ (fun H locs hW hS => ?_)
          show W p9 l e9 (eR 20 1000) s9 m9 a9 b9 t9 c9 H locs 0 0 Q (F0 m9 71 ls [.int (if 0 < T_le u then nI (bstG t u hv 7).1 else -2)])
          have hW : SW D cI cT o aT aB aS g y z ad t u hs sn q f s0 s1 s2 H := hW
          refine lv_istore (lv' := [(8, .int (if 0 < T_le u then nI (bstG t u hv 7).1 else -2)), (7, .int (-1)), (6, .int (nI (posT t k 5))), (5, .int 1), (4, .int (nI (lowN (x >>> (5 &&& 31)) 22))), (3, .int hv), (2, .int (nI k)), (0, .ref (o 0)), (1, .int x)]) hx hb dL_would_71 hl (by decide) rfl (fun ls hl => ?_)
          refine lv_aload_n hx hb dL_would_73 rfl (lv_at hl 7 rfl) ?_
          refine lv_iconst (v := 1) hx hb dL_would_74 (by decide) ?_
          refine lr_count (rest := []) (w := 1) S hK hN ht0 ht1 hA hD hW hS htl  (cwV 1 hts gL_would_X6_count rfl rfl rfl hdv_X6_count ⟨Nat.le_of_ble_eq_true rfl, Nat.le_of_ble_eq_true rfl⟩) rfl hl.1 (Nat.le_of_ble_eq_true rfl) dL_would_75 ⟨Nat.zero_le _, Nat.zero_le _⟩ (fun H locs hW hS => ?_)
          show W p9 l e9 (eR 20 1000) s9 m9 a9 b9 t9 c9 H locs 0 0 Q (F0 m9 78 ls [.int (couA t u q hs.length 1)])
          have hW : SW D cI cT o aT aB aS g y z ad t u hs sn q f s0 s1 s2 H := hW
          refine ej_topi (show (couA t u q hs.length 1) = T_le u from lkc_1 t u q hs.length) ?_
          refine ej_topi (show (T_le u) = nI L from eL) ?_
          refine lv_istore (lv' := [(9, .int (nI L)), (8, .int (if 0 < T_le u then nI (bstG t u hv 7).1 else -2)), (7, .int (-1)), (6, .int (nI (posT t k 5))), (5, .int 1), (4, .int (nI (lowN (x >>> (5 &&& 31)) 22))), (3, .int hv), (2, .int (nI k)), (0, .ref (o 0)), (1, .int x)]) hx hb dL_would_78 hl (by decide) rfl (fun ls hl => ?_)
          refine lv_iload_n hx hb dL_would_80 rfl (lv_at hl 7 rfl) ?_
          refine lv_if_lt (tgt := 90) hx hb dL_would_81 (by decide) (fun h9 => absurd h9 (ej_nlt (a := k) (b := 0) (by omega) (show 0 ≤ k from by omega))) (fun _ => ?_)
          refine lv_iload_n hx hb dL_would_84 rfl (lv_at hl 7 rfl) ?_
          refine lv_bipush (v := 6) hx hb dL_would_85 (by decide) ?_
          refine lv_icmp_le (tgt := 94) hx hb dL_would_87 (by decide) (fun _ => ?_) (fun h9 => absurd (ej_le (a := k) (b := 6) (by omega) (show k ≤ 6 from by omega)) h9)
          refine lv_iconst (v := 0) hx hb dL_would_94 (by decide) ?_
          refine lv_istore (lv' := [(10, .int 0), (9, .int (nI L)), (8, .int (if 0 < T_le u then nI (bstG t u hv 7).1 else -2)), (7, .int (-1)), (6, .int (nI (posT t k 5))), (5, .int 1), (4, .int (nI (lowN (x >>> (5 &&& 31)) 22))), (3, .int hv), (2, .int (nI k)), (0, .ref (o 0)), (1, .int x)]) hx hb dL_would_95 hl (by decide) rfl (fun ls hl => ?_)
          refine lv_iload hx hb dL_would_97 (lv_at hl 0 rfl) ?_
          refine lv_if_ne (tgt := 125) hx hb dL_would_99 (by decide) (fun h9 => absurd (show (0 : Int32) = 0 from by decide) h9) (fun _ => ?_)
          refine lv_iload hx hb dL_would_102 (lv_at hl 6 rfl) ?_
          refine lv_if_eq (tgt := 125) hx hb dL_would_104 (by decide) (fun c_104 => ?_) (fun c_104 => ?_)
          · have n_104 : (lowN (x >>> (5 &&& 31)) 22) = 0 := ej_teq (a := (lowN (x >>> (5 &&& 31)) 22)) (b := 0) (by omega) (by omega) c_104
            refine lv_iconst (v := 1) hx hb dL_would_125 (by decide) ?_
            refine lv_goto (tgt := 130) hx hb dL_would_126 (by decide) ?_
            refine lv_istore (lv' := [(11, .int 1), (10, .int 0), (9, .int (nI L)), (8, .int (if 0 < T_le u then nI (bstG t u hv 7).1 else -2)), (7, .int (-1)), (6, .int (nI (posT t k 5))), (5, .int 1), (4, .int (nI (lowN (x >>> (5 &&& 31)) 22))), (3, .int hv), (2, .int (nI k)), (0, .ref (o 0)), (1, .int x)]) hx hb dL_would_130 hl (by decide) rfl (fun ls hl => ?_)
            refine lv_iload hx hb dL_would_132 (lv_at hl 1 rfl) ?_
            refine lv_if_eq (tgt := 146) hx hb dL_would_134 (by decide) (fun _ => ?_) (fun h9 => absurd (show (0 : Int32) = 0 from by decide) h9)
            refine lv_iload hx hb dL_would_146 (lv_at hl 5 rfl) ?_
            refine lv_if_lt (tgt := 266) hx hb dL_would_148 (by decide) (fun h9 => absurd h9 (ej_nlt (a := (posT t k 5)) (b := 0) (by omega) (show 0 ≤ (posT t k 5) from by omega))) (fun _ => ?_)
            refine lv_iload hx hb dL_would_151 (lv_at hl 5 rfl) ?_
            refine lv_bipush (v := 7) hx hb dL_would_153 (by decide) ?_
            refine lv_icmp_ge (tgt := 266) hx hb dL_would_155 (by decide) (fun h9 => absurd h9 (ej_ge (a := (posT t k 5)) (b := 7) (by omega) (show (posT t k 5) < 7 from by omega))) (fun _ => ?_)
            refine lv_aload_n hx hb dL_would_158 rfl (lv_at hl 10 rfl) ?_
            refine lv_iconst (v := 0) hx hb dL_would_159 (by decide) ?_
            refine lr_reach0 (rest := [])  S hK hN ht0 ht1 hA hD hW hS htl  (cwV 1 hts gL_would_X6_reach rfl rfl rfl hdv_X6_reach ⟨Nat.le_of_ble_eq_true rfl, Nat.le_of_ble_eq_true rfl⟩) rfl hl.1 (Nat.le_of_ble_eq_true rfl) dL_would_160 ⟨Nat.zero_le _, Nat.zero_le _⟩ (fun H locs hW hS => ?_)
            show W p9 l e9 (eR 20 1000) s9 m9 a9 b9 t9 c9 H locs 0 0 Q (F0 m9 163 ls [.int (nI (fwdM t 5))])
            have hW : SW D cI cT o aT aB aS g y z ad t u hs sn q f s0 s1 s2 H := hW
            refine lv_iload hx hb dL_would_163 (lv_at hl 5 rfl) ?_
            refine lv_ishr hx hb dL_would_165 ?_
            refine lv_iconst (v := 1) hx hb dL_would_166 (by decide) ?_
            refine lv_iand hx hb dL_would_167 ?_
            refine ej_topi (show (((nI (fwdM t 5)) >>> ((nI (posT t k 5)) &&& 31)) &&& 1) = 1 from (bit_ok (fwdM t 5) (fwdM_lt t 5) (posT t k 5) hpe).trans (if_pos (end_bit htl hk 5))) ?_
            refine lv_iconst (v := 1) hx hb dL_would_168 (by decide) ?_
            refine lv_icmp_ne (tgt := 266) hx hb dL_would_169 (by decide) (fun h9 => absurd (show (1 : Int32) = 1 from by decide) h9) (fun _ => ?_)
            refine lv_iload hx hb dL_would_172 (lv_at hl 0 rfl) ?_
            refine lv_if_eq (tgt := 186) hx hb dL_would_174 (by decide) (fun h9 => absurd h9 (show ¬ (1 : Int32) = 0 from by decide)) (fun _ => ?_)
            refine lv_iload hx hb dL_would_177 (lv_at hl 4 rfl) ?_
            refine lv_iconst (v := (-1)) hx hb dL_would_179 (by decide) ?_
            refine lv_icmp_ne (tgt := 266) hx hb dL_would_180 (by decide) (fun h9 => absurd (show ((-1) : Int32) = (-1) from by decide) h9) (fun _ => ?_)
            refine lv_goto (tgt := 262) hx hb dL_would_183 (by decide) ?_
            refine lv_iconst (v := 1) hx hb dL_would_262 (by decide) ?_
            refine lv_goto (tgt := 267) hx hb dL_would_263 (by decide) ?_
            exact jp267 _ _ _  hW hS (lv_sub hl [10, 9, 8, 3, 2, 1] rfl)
          · have n_104 : (lowN (x >>> (5 &&& 31)) 22) ≠ 0 := ej_tne (a := (lowN (x >>> (5 &&& 31)) 22)) (b := 0) (by omega) (by omega) c_104
            refine lv_iload hx hb dL_would_107 (lv_at hl 6 rfl) ?_
            refine lv_bipush (v := 21) hx hb dL_would_109 (by decide) ?_
            refine lv_icmp_eq (tgt := 125) hx hb dL_would_111 (by decide) (fun _ => ?_) (fun h9 => absurd (congrArg nI (show (lowN (x >>> (5 &&& 31)) 22) = 21 from by omega)) h9)
            refine lv_iconst (v := 1) hx hb dL_would_125 (by decide) ?_
            refine lv_goto (tgt := 130) hx hb dL_would_126 (by decide) ?_
            refine lv_istore (lv' := [(11, .int 1), (10, .int 0), (9, .int (nI L)), (8, .int (if 0 < T_le u then nI (bstG t u hv 7).1 else -2)), (7, .int (-1)), (6, .int (nI (posT t k 5))), (5, .int 1), (4, .int (nI (lowN (x >>> (5 &&& 31)) 22))), (3, .int hv), (2, .int (nI k)), (0, .ref (o 0)), (1, .int x)]) hx hb dL_would_130 hl (by decide) rfl (fun ls hl => ?_)
            refine lv_iload hx hb dL_would_132 (lv_at hl 1 rfl) ?_
            refine lv_if_eq (tgt := 146) hx hb dL_would_134 (by decide) (fun _ => ?_) (fun h9 => absurd (show (0 : Int32) = 0 from by decide) h9)
            refine lv_iload hx hb dL_would_146 (lv_at hl 5 rfl) ?_
            refine lv_if_lt (tgt := 266) hx hb dL_would_148 (by decide) (fun h9 => absurd h9 (ej_nlt (a := (posT t k 5)) (b := 0) (by omega) (show 0 ≤ (posT t k 5) from by omega))) (fun _ => ?_)
            refine lv_iload hx hb dL_would_151 (lv_at hl 5 rfl) ?_
            refine lv_bipush (v := 7) hx hb dL_would_153 (by decide) ?_
            refine lv_icmp_ge (tgt := 266) hx hb dL_would_155 (by decide) (fun h9 => absurd h9 (ej_ge (a := (posT t k 5)) (b := 7) (by omega) (show (posT t k 5) < 7 from by omega))) (fun _ => ?_)
            refine lv_aload_n hx hb dL_would_158 rfl (lv_at hl 10 rfl) ?_
            refine lv_iconst (v := 0) hx hb dL_would_159 (by decide) ?_
            refine lr_reach0 (rest := [])  S hK hN ht0 ht1 hA hD hW hS htl  (cwV 1 hts gL_would_X6_reach rfl rfl rfl hdv_X6_reach ⟨Nat.le_of_ble_eq_true rfl, Nat.le_of_ble_eq_true rfl⟩) rfl hl.1 (Nat.le_of_ble_eq_true rfl) dL_would_160 ⟨Nat.zero_le _, Nat.zero_le _⟩ (fun H locs hW hS => ?_)
            show W p9 l e9 (eR 20 1000) s9 m9 a9 b9 t9 c9 H locs 0 0 Q (F0 m9 163 ls [.int (nI (fwdM t 5))])
            have hW : SW D cI cT o aT aB aS g y z ad t u hs sn q f s0 s1 s2 H := hW
            refine lv_iload hx hb dL_would_163 (lv_at hl 5 rfl) ?_
            refine lv_ishr hx hb dL_would_165 ?_
            refine lv_iconst (v := 1) hx hb dL_would_166 (by decide) ?_
            refine lv_iand hx hb dL_would_167 ?_
            refine ej_topi (show (((nI (fwdM t 5)) >>> ((nI (posT t k 5)) &&& 31)) &&& 1) = 1 from (bit_ok (fwdM t 5) (fwdM_lt t 5) (posT t k 5) hpe).trans (if_pos (end_bit htl hk 5))) ?_
            refine lv_iconst (v := 1) hx hb dL_would_168 (by decide) ?_
            refine lv_icmp_ne (tgt := 266) hx hb dL_would_169 (by decide) (fun h9 => absurd (show (1 : Int32) = 1 from by decide) h9) (fun _ => ?_)
            refine lv_iload hx hb dL_would_172 (lv_at hl 0 rfl) ?_
            refine lv_if_eq (tgt := 186) hx hb dL_would_174 (by decide) (fun h9 => absurd h9 (show ¬ (1 : Int32) = 0 from by decide)) (fun _ => ?_)
            refine lv_iload hx hb dL_would_177 (lv_at hl 4 rfl) ?_
            refine lv_iconst (v := (-1)) hx hb dL_would_179 (by decide) ?_
            refine lv_icmp_ne (tgt := 266) hx hb dL_would_180 (by decide) (fun h9 => absurd (show ((-1) : Int32) = (-1) from by decide) h9) (fun _ => ?_)
            refine lv_goto (tgt := 262) hx hb dL_would_183 (by decide) ?_
            refine lv_iconst (v := 1) hx hb dL_would_262 (by decide) ?_
            refine lv_goto (tgt := 267) hx hb dL_would_263 (by decide) ?_
            exact jp267 _ _ _  hW hS (lv_sub hl [10, 9, 8, 3, 2, 1] rfl)
      · refine ej_topi (show nI (lowN (x >>> (9 &&& 31)) 5) - 1 = 2 from by rw [w9]; decide) ?_
        refine lv_istore (lv' := [(5, .int 2), (4, .int (nI (lowN (x >>> (5 &&& 31)) 22))), (3, .int hv), (2, .int (nI k)), (0, .ref (o 0)), (1, .int x)]) hx hb dL_would_45 hl (by decide) rfl (fun ls hl => ?_)
        by_cases hs9 : 0 < lowN (x >>> (5 &&& 31)) 22 ∧ lowN (x >>> (5 &&& 31)) 22 ≤ 20
        · have hs0 := hs9.1
          have hs1 := hs9.2
          refine lv_aload_n hx hb dL_would_47 rfl (lv_at hl 4 rfl) ?_
          refine lv_iload_n hx hb dL_would_48 rfl (lv_at hl 3 rfl) ?_
          refine lr_ends (rest := []) (k := k) S hK hN ht0 ht1 hA hD hW hS htl (by omega) (cwV 1 hts gL_would_X6_ends rfl rfl rfl hdv_X6_ends ⟨Nat.le_of_ble_eq_true rfl, Nat.le_of_ble_eq_true rfl⟩) rfl hl.1 (Nat.le_of_ble_eq_true rfl) dL_would_49 ⟨Nat.zero_le _, Nat.zero_le _⟩ (fun H locs hW hS => ?_)
          show W p9 l e9 (eR 20 1000) s9 m9 a9 b9 t9 c9 H locs 0 0 Q (F0 m9 52 ls [.int (nI (posT t k 5))])
          have hW : SW D cI cT o aT aB aS g y z ad t u hs sn q f s0 s1 s2 H := hW
          refine lv_istore (lv' := [(6, .int (nI (posT t k 5))), (5, .int 2), (4, .int (nI (lowN (x >>> (5 &&& 31)) 22))), (3, .int hv), (2, .int (nI k)), (0, .ref (o 0)), (1, .int x)]) hx hb dL_would_52 hl (by decide) rfl (fun ls hl => ?_)
          refine lv_aload_n hx hb dL_would_54 rfl (lv_at hl 5 rfl) ?_
          refine lv_iload_n hx hb dL_would_55 rfl (lv_at hl 4 rfl) ?_
          refine lv_iload_n hx hb dL_would_56 rfl (lv_at hl 3 rfl) ?_
          refine lv_iload hx hb dL_would_57 (lv_at hl 2 rfl) ?_
          refine lv_iload hx hb dL_would_59 (lv_at hl 1 rfl) ?_
          refine lr_ifShot (rest := []) (k := k) (h := hv) (j := lowN (x >>> (5 &&& 31)) 22) (w := 2) S hK hN ht0 ht1 hA hD hW hS htl (by omega) (by omega) (by omega) (by decide) (cwV 4 hts gL_would_X6_ifShot rfl rfl rfl hdv_X6_ifShot ⟨Nat.le_of_ble_eq_true rfl, Nat.le_of_ble_eq_true rfl⟩) rfl hl.1 (Nat.le_of_ble_eq_true rfl) dL_would_61 ⟨Nat.zero_le _, Nat.zero_le _⟩ (fun H locs hW hS => ?_)
          show W p9 l e9 (eR 20 1000) s9 m9 a9 b9 t9 c9 H locs 0 0 Q (F0 m9 64 ls [.int (ifR t u (ifG t u k hv (lowN (x >>> (5 &&& 31)) 22)) 2)])
          have hW : SW D cI cT o aT aB aS g y z ad t u hs sn q f s0 s1 s2 H := hW
          refine ej_topi (show (ifR t u (ifG t u k hv (lowN (x >>> (5 &&& 31)) 22)) 2) = nI (fwdM (ifG t u k hv (lowN (x >>> (5 &&& 31)) 22)).1 5) from rfl) ?_
          obtain ⟨okj, elj, ⟨d, hd1, hd2, ed⟩, e, he1, he2, ee⟩ := ifW hv hk ho hL eL (lowN (x >>> (5 &&& 31)) 22)
          have hf0 := fwd_pos okj.1.1
          have hf1 := fwdM_lt (ifG t u k hv (lowN (x >>> (5 &&& 31)) 22)).1 5
          refine lv_istore (lv' := [(7, .int (nI (fwdM (ifG t u k hv (lowN (x >>> (5 &&& 31)) 22)).1 5))), (6, .int (nI (posT t k 5))), (5, .int 2), (4, .int (nI (lowN (x >>> (5 &&& 31)) 22))), (3, .int hv), (2, .int (nI k)), (0, .ref (o 0)), (1, .int x)]) hx hb dL_would_64 hl (by decide) rfl (fun ls hl => ?_)
          refine lv_aload_n hx hb dL_would_66 rfl (lv_at hl 6 rfl) ?_
          refine lv_iload_n hx hb dL_would_67 rfl (lv_at hl 4 rfl) ?_
          refine lr_bestA (rest := []) (h := hv) S hK hN ht0 ht1 hA hD hW hS htl  (cwV 1 hts gL_would_X6_best rfl rfl rfl hdv_X6_best ⟨Nat.le_of_ble_eq_true rfl, Nat.le_of_ble_eq_true rfl⟩) rfl hl.1 (Nat.le_of_ble_eq_true rfl) dL_would_68 ⟨Nat.zero_le _, Nat.zero_le _⟩ (fun H locs hW hS => ?_)
          show W p9 l e9 (eR 20 1000) s9 m9 a9 b9 t9 c9 H locs 0 0 Q (F0 m9 71 ls [.int (if 0 < T_le u then nI (bstG t u hv 7).1 else -2)])
          have hW : SW D cI cT o aT aB aS g y z ad t u hs sn q f s0 s1 s2 H := hW
          refine lv_istore (lv' := [(8, .int (if 0 < T_le u then nI (bstG t u hv 7).1 else -2)), (7, .int (nI (fwdM (ifG t u k hv (lowN (x >>> (5 &&& 31)) 22)).1 5))), (6, .int (nI (posT t k 5))), (5, .int 2), (4, .int (nI (lowN (x >>> (5 &&& 31)) 22))), (3, .int hv), (2, .int (nI k)), (0, .ref (o 0)), (1, .int x)]) hx hb dL_would_71 hl (by decide) rfl (fun ls hl => ?_)
          refine lv_aload_n hx hb dL_would_73 rfl (lv_at hl 7 rfl) ?_
          refine lv_iconst (v := 1) hx hb dL_would_74 (by decide) ?_
          refine lr_count (rest := []) (w := 1) S hK hN ht0 ht1 hA hD hW hS htl  (cwV 1 hts gL_would_X6_count rfl rfl rfl hdv_X6_count ⟨Nat.le_of_ble_eq_true rfl, Nat.le_of_ble_eq_true rfl⟩) rfl hl.1 (Nat.le_of_ble_eq_true rfl) dL_would_75 ⟨Nat.zero_le _, Nat.zero_le _⟩ (fun H locs hW hS => ?_)
          show W p9 l e9 (eR 20 1000) s9 m9 a9 b9 t9 c9 H locs 0 0 Q (F0 m9 78 ls [.int (couA t u q hs.length 1)])
          have hW : SW D cI cT o aT aB aS g y z ad t u hs sn q f s0 s1 s2 H := hW
          refine ej_topi (show (couA t u q hs.length 1) = T_le u from lkc_1 t u q hs.length) ?_
          refine ej_topi (show (T_le u) = nI L from eL) ?_
          refine lv_istore (lv' := [(9, .int (nI L)), (8, .int (if 0 < T_le u then nI (bstG t u hv 7).1 else -2)), (7, .int (nI (fwdM (ifG t u k hv (lowN (x >>> (5 &&& 31)) 22)).1 5))), (6, .int (nI (posT t k 5))), (5, .int 2), (4, .int (nI (lowN (x >>> (5 &&& 31)) 22))), (3, .int hv), (2, .int (nI k)), (0, .ref (o 0)), (1, .int x)]) hx hb dL_would_78 hl (by decide) rfl (fun ls hl => ?_)
          refine lv_iload_n hx hb dL_would_80 rfl (lv_at hl 7 rfl) ?_
          refine lv_if_lt (tgt := 90) hx hb dL_would_81 (by decide) (fun h9 => absurd h9 (ej_nlt (a := k) (b := 0) (by omega) (show 0 ≤ k from by omega))) (fun _ => ?_)
          refine lv_iload_n hx hb dL_would_84 rfl (lv_at hl 7 rfl) ?_
          refine lv_bipush (v := 6) hx hb dL_would_85 (by decide) ?_
          refine lv_icmp_le (tgt := 94) hx hb dL_would_87 (by decide) (fun _ => ?_) (fun h9 => absurd (ej_le (a := k) (b := 6) (by omega) (show k ≤ 6 from by omega)) h9)
          refine lv_iconst (v := 0) hx hb dL_would_94 (by decide) ?_
          refine lv_istore (lv' := [(10, .int 0), (9, .int (nI L)), (8, .int (if 0 < T_le u then nI (bstG t u hv 7).1 else -2)), (7, .int (nI (fwdM (ifG t u k hv (lowN (x >>> (5 &&& 31)) 22)).1 5))), (6, .int (nI (posT t k 5))), (5, .int 2), (4, .int (nI (lowN (x >>> (5 &&& 31)) 22))), (3, .int hv), (2, .int (nI k)), (0, .ref (o 0)), (1, .int x)]) hx hb dL_would_95 hl (by decide) rfl (fun ls hl => ?_)
          refine lv_iload hx hb dL_would_97 (lv_at hl 0 rfl) ?_
          refine lv_if_ne (tgt := 125) hx hb dL_would_99 (by decide) (fun h9 => absurd (show (0 : Int32) = 0 from by decide) h9) (fun _ => ?_)
          refine lv_iload hx hb dL_would_102 (lv_at hl 6 rfl) ?_
          refine lv_if_eq (tgt := 125) hx hb dL_would_104 (by decide) (fun h9 => absurd h9 (ej_ne (a := (lowN (x >>> (5 &&& 31)) 22)) (b := 0) (by omega) (by omega) (show (lowN (x >>> (5 &&& 31)) 22) ≠ 0 from by omega))) (fun _ => ?_)
          refine lv_iload hx hb dL_would_107 (lv_at hl 6 rfl) ?_
          refine lv_bipush (v := 21) hx hb dL_would_109 (by decide) ?_
          refine lv_icmp_eq (tgt := 125) hx hb dL_would_111 (by decide) (fun h9 => absurd h9 (ej_ne (a := (lowN (x >>> (5 &&& 31)) 22)) (b := 21) (by omega) (by omega) (show (lowN (x >>> (5 &&& 31)) 22) ≠ 21 from by omega))) (fun _ => ?_)
          refine lv_iload hx hb dL_would_114 (lv_at hl 5 rfl) ?_
          refine lv_if_lt (tgt := 125) hx hb dL_would_116 (by decide) (fun h9 => absurd h9 (show ¬ (2 : Int32) < 0 from by decide)) (fun _ => ?_)
          refine lv_iload hx hb dL_would_119 (lv_at hl 5 rfl) ?_
          refine lv_iconst (v := 2) hx hb dL_would_121 (by decide) ?_
          refine lv_icmp_le (tgt := 129) hx hb dL_would_122 (by decide) (fun _ => ?_) (fun h9 => absurd (show (2 : Int32) ≤ 2 from by decide) h9)
          refine lv_iconst (v := 0) hx hb dL_would_129 (by decide) ?_
          refine lv_istore (lv' := [(11, .int 0), (10, .int 0), (9, .int (nI L)), (8, .int (if 0 < T_le u then nI (bstG t u hv 7).1 else -2)), (7, .int (nI (fwdM (ifG t u k hv (lowN (x >>> (5 &&& 31)) 22)).1 5))), (6, .int (nI (posT t k 5))), (5, .int 2), (4, .int (nI (lowN (x >>> (5 &&& 31)) 22))), (3, .int hv), (2, .int (nI k)), (0, .ref (o 0)), (1, .int x)]) hx hb dL_would_130 hl (by decide) rfl (fun ls hl => ?_)
          refine lv_iload hx hb dL_would_132 (lv_at hl 1 rfl) ?_
          refine lv_if_eq (tgt := 146) hx hb dL_would_134 (by decide) (fun _ => ?_) (fun h9 => absurd (show (0 : Int32) = 0 from by decide) h9)
          refine lv_iload hx hb dL_would_146 (lv_at hl 5 rfl) ?_
          refine lv_if_lt (tgt := 266) hx hb dL_would_148 (by decide) (fun h9 => absurd h9 (ej_nlt (a := (posT t k 5)) (b := 0) (by omega) (show 0 ≤ (posT t k 5) from by omega))) (fun _ => ?_)
          refine lv_iload hx hb dL_would_151 (lv_at hl 5 rfl) ?_
          refine lv_bipush (v := 7) hx hb dL_would_153 (by decide) ?_
          refine lv_icmp_ge (tgt := 266) hx hb dL_would_155 (by decide) (fun h9 => absurd h9 (ej_ge (a := (posT t k 5)) (b := 7) (by omega) (show (posT t k 5) < 7 from by omega))) (fun _ => ?_)
          refine lv_aload_n hx hb dL_would_158 rfl (lv_at hl 10 rfl) ?_
          refine lv_iconst (v := 0) hx hb dL_would_159 (by decide) ?_
          refine lr_reach0 (rest := [])  S hK hN ht0 ht1 hA hD hW hS htl  (cwV 1 hts gL_would_X6_reach rfl rfl rfl hdv_X6_reach ⟨Nat.le_of_ble_eq_true rfl, Nat.le_of_ble_eq_true rfl⟩) rfl hl.1 (Nat.le_of_ble_eq_true rfl) dL_would_160 ⟨Nat.zero_le _, Nat.zero_le _⟩ (fun H locs hW hS => ?_)
          show W p9 l e9 (eR 20 1000) s9 m9 a9 b9 t9 c9 H locs 0 0 Q (F0 m9 163 ls [.int (nI (fwdM t 5))])
          have hW : SW D cI cT o aT aB aS g y z ad t u hs sn q f s0 s1 s2 H := hW
          refine lv_iload hx hb dL_would_163 (lv_at hl 5 rfl) ?_
          refine lv_ishr hx hb dL_would_165 ?_
          refine lv_iconst (v := 1) hx hb dL_would_166 (by decide) ?_
          refine lv_iand hx hb dL_would_167 ?_
          refine ej_topi (show (((nI (fwdM t 5)) >>> ((nI (posT t k 5)) &&& 31)) &&& 1) = 1 from (bit_ok (fwdM t 5) (fwdM_lt t 5) (posT t k 5) hpe).trans (if_pos (end_bit htl hk 5))) ?_
          refine lv_iconst (v := 1) hx hb dL_would_168 (by decide) ?_
          refine lv_icmp_ne (tgt := 266) hx hb dL_would_169 (by decide) (fun h9 => absurd (show (1 : Int32) = 1 from by decide) h9) (fun _ => ?_)
          refine lv_iload hx hb dL_would_172 (lv_at hl 0 rfl) ?_
          refine lv_if_eq (tgt := 186) hx hb dL_would_174 (by decide) (fun _ => ?_) (fun h9 => absurd (show (0 : Int32) = 0 from by decide) h9)
          refine lv_iload hx hb dL_would_186 (lv_at hl 6 rfl) ?_
          refine lv_if_ne (tgt := 221) hx hb dL_would_188 (by decide) (fun _ => ?_) (fun h9 => absurd h9 (show ¬ (2 : Int32) = 0 from by decide))
          refine lv_iload hx hb dL_would_221 (lv_at hl 6 rfl) ?_
          refine lv_iconst (v := 1) hx hb dL_would_223 (by decide) ?_
          refine lv_icmp_ne (tgt := 249) hx hb dL_would_224 (by decide) (fun _ => ?_) (fun h9 => absurd h9 (show ¬ (2 : Int32) = 1 from by decide))
          refine lv_iload hx hb dL_would_249 (lv_at hl 4 rfl) ?_
          refine lv_if_le (tgt := 266) hx hb dL_would_251 (by decide) (fun h9 => absurd h9 (ej_ge (a := 0) (b := (fwdM (ifG t u k hv (lowN (x >>> (5 &&& 31)) 22)).1 5)) (by omega) (show 0 < (fwdM (ifG t u k hv (lowN (x >>> (5 &&& 31)) 22)).1 5) from by omega))) (fun _ => ?_)
          refine lv_iload hx hb dL_would_254 (lv_at hl 4 rfl) ?_
          refine lv_sipush (v := 128) hx hb dL_would_256 (by decide) ?_
          refine lv_icmp_ge (tgt := 266) hx hb dL_would_259 (by decide) (fun h9 => absurd h9 (ej_ge (a := (fwdM (ifG t u k hv (lowN (x >>> (5 &&& 31)) 22)).1 5)) (b := 128) (by omega) (show (fwdM (ifG t u k hv (lowN (x >>> (5 &&& 31)) 22)).1 5) < 128 from by omega))) (fun _ => ?_)
          refine lv_iconst (v := 1) hx hb dL_would_262 (by decide) ?_
          refine lv_goto (tgt := 267) hx hb dL_would_263 (by decide) ?_
          exact jp267 _ _ _  hW hS (lv_sub hl [10, 9, 8, 3, 2, 1] rfl)
        · have hs0 : lowN (x >>> (5 &&& 31)) 22 = 0 ∨ lowN (x >>> (5 &&& 31)) 22 = 21 := by omega
          refine lv_aload_n hx hb dL_would_47 rfl (lv_at hl 4 rfl) ?_
          refine lv_iload_n hx hb dL_would_48 rfl (lv_at hl 3 rfl) ?_
          refine lr_ends (rest := []) (k := k) S hK hN ht0 ht1 hA hD hW hS htl (by omega) (cwV 1 hts gL_would_X6_ends rfl rfl rfl hdv_X6_ends ⟨Nat.le_of_ble_eq_true rfl, Nat.le_of_ble_eq_true rfl⟩) rfl hl.1 (Nat.le_of_ble_eq_true rfl) dL_would_49 ⟨Nat.zero_le _, Nat.zero_le _⟩ (fun H locs hW hS => ?_)
          show W p9 l e9 (eR 20 1000) s9 m9 a9 b9 t9 c9 H locs 0 0 Q (F0 m9 52 ls [.int (nI (posT t k 5))])
          have hW : SW D cI cT o aT aB aS g y z ad t u hs sn q f s0 s1 s2 H := hW
          refine lv_istore (lv' := [(6, .int (nI (posT t k 5))), (5, .int 2), (4, .int (nI (lowN (x >>> (5 &&& 31)) 22))), (3, .int hv), (2, .int (nI k)), (0, .ref (o 0)), (1, .int x)]) hx hb dL_would_52 hl (by decide) rfl (fun ls hl => ?_)
          refine lv_aload_n hx hb dL_would_54 rfl (lv_at hl 5 rfl) ?_
          refine lv_iload_n hx hb dL_would_55 rfl (lv_at hl 4 rfl) ?_
          refine lv_iload_n hx hb dL_would_56 rfl (lv_at hl 3 rfl) ?_
          refine lv_iload hx hb dL_would_57 (lv_at hl 2 rfl) ?_
          refine lv_iload hx hb dL_would_59 (lv_at hl 1 rfl) ?_
          refine lr_ifShot_no (rest := []) (v := nI k) (h := hv) (m9 := nI (lowN (x >>> (5 &&& 31)) 22)) (w := 2) S hK hN ht0 ht1 hA hD hW hS htl (fun z => bad20 (by omega) hs9 z.2.1) (cwV 4 hts gL_would_X6_ifShot rfl rfl rfl hdv_X6_ifShot ⟨Nat.le_of_ble_eq_true rfl, Nat.le_of_ble_eq_true rfl⟩) rfl hl.1 (Nat.le_of_ble_eq_true rfl) dL_would_61 ⟨Nat.zero_le _, Nat.zero_le _⟩ (fun H locs hW hS => ?_)
          show W p9 l e9 (eR 20 1000) s9 m9 a9 b9 t9 c9 H locs 0 0 Q (F0 m9 64 ls [.int (-1)])
          have hW : SW D cI cT o aT aB aS g y z ad t u hs sn q f s0 s1 s2 H := hW
          refine lv_istore (lv' := [(7, .int (-1)), (6, .int (nI (posT t k 5))), (5, .int 2), (4, .int (nI (lowN (x >>> (5 &&& 31)) 22))), (3, .int hv), (2, .int (nI k)), (0, .ref (o 0)), (1, .int x)]) hx hb dL_would_64 hl (by decide) rfl (fun ls hl => ?_)
          refine lv_aload_n hx hb dL_would_66 rfl (lv_at hl 6 rfl) ?_
          refine lv_iload_n hx hb dL_would_67 rfl (lv_at hl 4 rfl) ?_
          refine lr_bestA (rest := []) (h := hv) S hK hN ht0 ht1 hA hD hW hS htl  (cwV 1 hts gL_would_X6_best rfl rfl rfl hdv_X6_best ⟨Nat.le_of_ble_eq_true rfl, Nat.le_of_ble_eq_true rfl⟩) rfl hl.1 (Nat.le_of_ble_eq_true rfl) dL_would_68 ⟨Nat.zero_le _, Nat.zero_le _⟩ (fun H locs hW hS => ?_)
          show W p9 l e9 (eR 20 1000) s9 m9 a9 b9 t9 c9 H locs 0 0 Q (F0 m9 71 ls [.int (if 0 < T_le u then nI (bstG t u hv 7).1 else -2)])
          have hW : SW D cI cT o aT aB aS g y z ad t u hs sn q f s0 s1 s2 H := hW
          refine lv_istore (lv' := [(8, .int (if 0 < T_le u then nI (bstG t u hv 7).1 else -2)), (7, .int (-1)), (6, .int (nI (posT t k 5))), (5, .int 2), (4, .int (nI (lowN (x >>> (5 &&& 31)) 22))), (3, .int hv), (2, .int (nI k)), (0, .ref (o 0)), (1, .int x)]) hx hb dL_would_71 hl (by decide) rfl (fun ls hl => ?_)
          refine lv_aload_n hx hb dL_would_73 rfl (lv_at hl 7 rfl) ?_
          refine lv_iconst (v := 1) hx hb dL_would_74 (by decide) ?_
          refine lr_count (rest := []) (w := 1) S hK hN ht0 ht1 hA hD hW hS htl  (cwV 1 hts gL_would_X6_count rfl rfl rfl hdv_X6_count ⟨Nat.le_of_ble_eq_true rfl, Nat.le_of_ble_eq_true rfl⟩) rfl hl.1 (Nat.le_of_ble_eq_true rfl) dL_would_75 ⟨Nat.zero_le _, Nat.zero_le _⟩ (fun H locs hW hS => ?_)
          show W p9 l e9 (eR 20 1000) s9 m9 a9 b9 t9 c9 H locs 0 0 Q (F0 m9 78 ls [.int (couA t u q hs.length 1)])
          have hW : SW D cI cT o aT aB aS g y z ad t u hs sn q f s0 s1 s2 H := hW
          refine ej_topi (show (couA t u q hs.length 1) = T_le u from lkc_1 t u q hs.length) ?_
          refine ej_topi (show (T_le u) = nI L from eL) ?_
          refine lv_istore (lv' := [(9, .int (nI L)), (8, .int (if 0 < T_le u then nI (bstG t u hv 7).1 else -2)), (7, .int (-1)), (6, .int (nI (posT t k 5))), (5, .int 2), (4, .int (nI (lowN (x >>> (5 &&& 31)) 22))), (3, .int hv), (2, .int (nI k)), (0, .ref (o 0)), (1, .int x)]) hx hb dL_would_78 hl (by decide) rfl (fun ls hl => ?_)
          refine lv_iload_n hx hb dL_would_80 rfl (lv_at hl 7 rfl) ?_
          refine lv_if_lt (tgt := 90) hx hb dL_would_81 (by decide) (fun h9 => absurd h9 (ej_nlt (a := k) (b := 0) (by omega) (show 0 ≤ k from by omega))) (fun _ => ?_)
          refine lv_iload_n hx hb dL_would_84 rfl (lv_at hl 7 rfl) ?_
          refine lv_bipush (v := 6) hx hb dL_would_85 (by decide) ?_
          refine lv_icmp_le (tgt := 94) hx hb dL_would_87 (by decide) (fun _ => ?_) (fun h9 => absurd (ej_le (a := k) (b := 6) (by omega) (show k ≤ 6 from by omega)) h9)
          refine lv_iconst (v := 0) hx hb dL_would_94 (by decide) ?_
          refine lv_istore (lv' := [(10, .int 0), (9, .int (nI L)), (8, .int (if 0 < T_le u then nI (bstG t u hv 7).1 else -2)), (7, .int (-1)), (6, .int (nI (posT t k 5))), (5, .int 2), (4, .int (nI (lowN (x >>> (5 &&& 31)) 22))), (3, .int hv), (2, .int (nI k)), (0, .ref (o 0)), (1, .int x)]) hx hb dL_would_95 hl (by decide) rfl (fun ls hl => ?_)
          refine lv_iload hx hb dL_would_97 (lv_at hl 0 rfl) ?_
          refine lv_if_ne (tgt := 125) hx hb dL_would_99 (by decide) (fun h9 => absurd (show (0 : Int32) = 0 from by decide) h9) (fun _ => ?_)
          refine lv_iload hx hb dL_would_102 (lv_at hl 6 rfl) ?_
          refine lv_if_eq (tgt := 125) hx hb dL_would_104 (by decide) (fun c_104 => ?_) (fun c_104 => ?_)
          · have n_104 : (lowN (x >>> (5 &&& 31)) 22) = 0 := ej_teq (a := (lowN (x >>> (5 &&& 31)) 22)) (b := 0) (by omega) (by omega) c_104
            refine lv_iconst (v := 1) hx hb dL_would_125 (by decide) ?_
            refine lv_goto (tgt := 130) hx hb dL_would_126 (by decide) ?_
            refine lv_istore (lv' := [(11, .int 1), (10, .int 0), (9, .int (nI L)), (8, .int (if 0 < T_le u then nI (bstG t u hv 7).1 else -2)), (7, .int (-1)), (6, .int (nI (posT t k 5))), (5, .int 2), (4, .int (nI (lowN (x >>> (5 &&& 31)) 22))), (3, .int hv), (2, .int (nI k)), (0, .ref (o 0)), (1, .int x)]) hx hb dL_would_130 hl (by decide) rfl (fun ls hl => ?_)
            refine lv_iload hx hb dL_would_132 (lv_at hl 1 rfl) ?_
            refine lv_if_eq (tgt := 146) hx hb dL_would_134 (by decide) (fun _ => ?_) (fun h9 => absurd (show (0 : Int32) = 0 from by decide) h9)
            refine lv_iload hx hb dL_would_146 (lv_at hl 5 rfl) ?_
            refine lv_if_lt (tgt := 266) hx hb dL_would_148 (by decide) (fun h9 => absurd h9 (ej_nlt (a := (posT t k 5)) (b := 0) (by omega) (show 0 ≤ (posT t k 5) from by omega))) (fun _ => ?_)
            refine lv_iload hx hb dL_would_151 (lv_at hl 5 rfl) ?_
            refine lv_bipush (v := 7) hx hb dL_would_153 (by decide) ?_
            refine lv_icmp_ge (tgt := 266) hx hb dL_would_155 (by decide) (fun h9 => absurd h9 (ej_ge (a := (posT t k 5)) (b := 7) (by omega) (show (posT t k 5) < 7 from by omega))) (fun _ => ?_)
            refine lv_aload_n hx hb dL_would_158 rfl (lv_at hl 10 rfl) ?_
            refine lv_iconst (v := 0) hx hb dL_would_159 (by decide) ?_
            refine lr_reach0 (rest := [])  S hK hN ht0 ht1 hA hD hW hS htl  (cwV 1 hts gL_would_X6_reach rfl rfl rfl hdv_X6_reach ⟨Nat.le_of_ble_eq_true rfl, Nat.le_of_ble_eq_true rfl⟩) rfl hl.1 (Nat.le_of_ble_eq_true rfl) dL_would_160 ⟨Nat.zero_le _, Nat.zero_le _⟩ (fun H locs hW hS => ?_)
            show W p9 l e9 (eR 20 1000) s9 m9 a9 b9 t9 c9 H locs 0 0 Q (F0 m9 163 ls [.int (nI (fwdM t 5))])
            have hW : SW D cI cT o aT aB aS g y z ad t u hs sn q f s0 s1 s2 H := hW
            refine lv_iload hx hb dL_would_163 (lv_at hl 5 rfl) ?_
            refine lv_ishr hx hb dL_would_165 ?_
            refine lv_iconst (v := 1) hx hb dL_would_166 (by decide) ?_
            refine lv_iand hx hb dL_would_167 ?_
            refine ej_topi (show (((nI (fwdM t 5)) >>> ((nI (posT t k 5)) &&& 31)) &&& 1) = 1 from (bit_ok (fwdM t 5) (fwdM_lt t 5) (posT t k 5) hpe).trans (if_pos (end_bit htl hk 5))) ?_
            refine lv_iconst (v := 1) hx hb dL_would_168 (by decide) ?_
            refine lv_icmp_ne (tgt := 266) hx hb dL_would_169 (by decide) (fun h9 => absurd (show (1 : Int32) = 1 from by decide) h9) (fun _ => ?_)
            refine lv_iload hx hb dL_would_172 (lv_at hl 0 rfl) ?_
            refine lv_if_eq (tgt := 186) hx hb dL_would_174 (by decide) (fun h9 => absurd h9 (show ¬ (1 : Int32) = 0 from by decide)) (fun _ => ?_)
            refine lv_iload hx hb dL_would_177 (lv_at hl 4 rfl) ?_
            refine lv_iconst (v := (-1)) hx hb dL_would_179 (by decide) ?_
            refine lv_icmp_ne (tgt := 266) hx hb dL_would_180 (by decide) (fun h9 => absurd (show ((-1) : Int32) = (-1) from by decide) h9) (fun _ => ?_)
            refine lv_goto (tgt := 262) hx hb dL_would_183 (by decide) ?_
            refine lv_iconst (v := 1) hx hb dL_would_262 (by decide) ?_
            refine lv_goto (tgt := 267) hx hb dL_would_263 (by decide) ?_
            exact jp267 _ _ _  hW hS (lv_sub hl [10, 9, 8, 3, 2, 1] rfl)
          · have n_104 : (lowN (x >>> (5 &&& 31)) 22) ≠ 0 := ej_tne (a := (lowN (x >>> (5 &&& 31)) 22)) (b := 0) (by omega) (by omega) c_104
            refine lv_iload hx hb dL_would_107 (lv_at hl 6 rfl) ?_
            refine lv_bipush (v := 21) hx hb dL_would_109 (by decide) ?_
            refine lv_icmp_eq (tgt := 125) hx hb dL_would_111 (by decide) (fun _ => ?_) (fun h9 => absurd (congrArg nI (show (lowN (x >>> (5 &&& 31)) 22) = 21 from by omega)) h9)
            refine lv_iconst (v := 1) hx hb dL_would_125 (by decide) ?_
            refine lv_goto (tgt := 130) hx hb dL_would_126 (by decide) ?_
            refine lv_istore (lv' := [(11, .int 1), (10, .int 0), (9, .int (nI L)), (8, .int (if 0 < T_le u then nI (bstG t u hv 7).1 else -2)), (7, .int (-1)), (6, .int (nI (posT t k 5))), (5, .int 2), (4, .int (nI (lowN (x >>> (5 &&& 31)) 22))), (3, .int hv), (2, .int (nI k)), (0, .ref (o 0)), (1, .int x)]) hx hb dL_would_130 hl (by decide) rfl (fun ls hl => ?_)
            refine lv_iload hx hb dL_would_132 (lv_at hl 1 rfl) ?_
            refine lv_if_eq (tgt := 146) hx hb dL_would_134 (by decide) (fun _ => ?_) (fun h9 => absurd (show (0 : Int32) = 0 from by decide) h9)
            refine lv_iload hx hb dL_would_146 (lv_at hl 5 rfl) ?_
            refine lv_if_lt (tgt := 266) hx hb dL_would_148 (by decide) (fun h9 => absurd h9 (ej_nlt (a := (posT t k 5)) (b := 0) (by omega) (show 0 ≤ (posT t k 5) from by omega))) (fun _ => ?_)
            refine lv_iload hx hb dL_would_151 (lv_at hl 5 rfl) ?_
            refine lv_bipush (v := 7) hx hb dL_would_153 (by decide) ?_
            refine lv_icmp_ge (tgt := 266) hx hb dL_would_155 (by decide) (fun h9 => absurd h9 (ej_ge (a := (posT t k 5)) (b := 7) (by omega) (show (posT t k 5) < 7 from by omega))) (fun _ => ?_)
            refine lv_aload_n hx hb dL_would_158 rfl (lv_at hl 10 rfl) ?_
            refine lv_iconst (v := 0) hx hb dL_would_159 (by decide) ?_
            refine lr_reach0 (rest := [])  S hK hN ht0 ht1 hA hD hW hS htl  (cwV 1 hts gL_would_X6_reach rfl rfl rfl hdv_X6_reach ⟨Nat.le_of_ble_eq_true rfl, Nat.le_of_ble_eq_true rfl⟩) rfl hl.1 (Nat.le_of_ble_eq_true rfl) dL_would_160 ⟨Nat.zero_le _, Nat.zero_le _⟩ (fun H locs hW hS => ?_)
            show W p9 l e9 (eR 20 1000) s9 m9 a9 b9 t9 c9 H locs 0 0 Q (F0 m9 163 ls [.int (nI (fwdM t 5))])
            have hW : SW D cI cT o aT aB aS g y z ad t u hs sn q f s0 s1 s2 H := hW
            refine lv_iload hx hb dL_would_163 (lv_at hl 5 rfl) ?_
            refine lv_ishr hx hb dL_would_165 ?_
            refine lv_iconst (v := 1) hx hb dL_would_166 (by decide) ?_
            refine lv_iand hx hb dL_would_167 ?_
            refine ej_topi (show (((nI (fwdM t 5)) >>> ((nI (posT t k 5)) &&& 31)) &&& 1) = 1 from (bit_ok (fwdM t 5) (fwdM_lt t 5) (posT t k 5) hpe).trans (if_pos (end_bit htl hk 5))) ?_
            refine lv_iconst (v := 1) hx hb dL_would_168 (by decide) ?_
            refine lv_icmp_ne (tgt := 266) hx hb dL_would_169 (by decide) (fun h9 => absurd (show (1 : Int32) = 1 from by decide) h9) (fun _ => ?_)
            refine lv_iload hx hb dL_would_172 (lv_at hl 0 rfl) ?_
            refine lv_if_eq (tgt := 186) hx hb dL_would_174 (by decide) (fun h9 => absurd h9 (show ¬ (1 : Int32) = 0 from by decide)) (fun _ => ?_)
            refine lv_iload hx hb dL_would_177 (lv_at hl 4 rfl) ?_
            refine lv_iconst (v := (-1)) hx hb dL_would_179 (by decide) ?_
            refine lv_icmp_ne (tgt := 266) hx hb dL_would_180 (by decide) (fun h9 => absurd (show ((-1) : Int32) = (-1) from by decide) h9) (fun _ => ?_)
            refine lv_goto (tgt := 262) hx hb dL_would_183 (by decide) ?_
            refine lv_iconst (v := 1) hx hb dL_would_262 (by decide) ?_
            refine lv_goto (tgt := 267) hx hb dL_would_263 (by decide) ?_
            exact jp267 _ _ _  hW hS (lv_sub hl [10, 9, 8, 3, 2, 1] rfl)
      · refine ej_topi (show nI (lowN (x >>> (9 &&& 31)) 5) - 1 = 3 from by rw [w9]; decide) ?_
        refine lv_istore (lv' := [(5, .int 3), (4, .int (nI (lowN (x >>> (5 &&& 31)) 22))), (3, .int hv), (2, .int (nI k)), (0, .ref (o 0)), (1, .int x)]) hx hb dL_would_45 hl (by decide) rfl (fun ls hl => ?_)
        refine lv_aload_n hx hb dL_would_47 rfl (lv_at hl 4 rfl) ?_
        refine lv_iload_n hx hb dL_would_48 rfl (lv_at hl 3 rfl) ?_
        refine lr_ends (rest := []) (k := k) S hK hN ht0 ht1 hA hD hW hS htl (by omega) (cwV 1 hts gL_would_X6_ends rfl rfl rfl hdv_X6_ends ⟨Nat.le_of_ble_eq_true rfl, Nat.le_of_ble_eq_true rfl⟩) rfl hl.1 (Nat.le_of_ble_eq_true rfl) dL_would_49 ⟨Nat.zero_le _, Nat.zero_le _⟩ (fun H locs hW hS => ?_)
        show W p9 l e9 (eR 20 1000) s9 m9 a9 b9 t9 c9 H locs 0 0 Q (F0 m9 52 ls [.int (nI (posT t k 5))])
        have hW : SW D cI cT o aT aB aS g y z ad t u hs sn q f s0 s1 s2 H := hW
        refine lv_istore (lv' := [(6, .int (nI (posT t k 5))), (5, .int 3), (4, .int (nI (lowN (x >>> (5 &&& 31)) 22))), (3, .int hv), (2, .int (nI k)), (0, .ref (o 0)), (1, .int x)]) hx hb dL_would_52 hl (by decide) rfl (fun ls hl => ?_)
        refine lv_aload_n hx hb dL_would_54 rfl (lv_at hl 5 rfl) ?_
        refine lv_iload_n hx hb dL_would_55 rfl (lv_at hl 4 rfl) ?_
        refine lv_iload_n hx hb dL_would_56 rfl (lv_at hl 3 rfl) ?_
        refine lv_iload hx hb dL_would_57 (lv_at hl 2 rfl) ?_
        refine lv_iload hx hb dL_would_59 (lv_at hl 1 rfl) ?_
        refine lr_ifShot_no (rest := []) (v := nI k) (h := hv) (m9 := nI (lowN (x >>> (5 &&& 31)) 22)) (w := 3) S hK hN ht0 ht1 hA hD hW hS htl (fun z => absurd z.2.2 (by decide)) (cwV 4 hts gL_would_X6_ifShot rfl rfl rfl hdv_X6_ifShot ⟨Nat.le_of_ble_eq_true rfl, Nat.le_of_ble_eq_true rfl⟩) rfl hl.1 (Nat.le_of_ble_eq_true rfl) dL_would_61 ⟨Nat.zero_le _, Nat.zero_le _⟩ (fun H locs hW hS => ?_)
        show W p9 l e9 (eR 20 1000) s9 m9 a9 b9 t9 c9 H locs 0 0 Q (F0 m9 64 ls [.int (-1)])
        have hW : SW D cI cT o aT aB aS g y z ad t u hs sn q f s0 s1 s2 H := hW
        refine lv_istore (lv' := [(7, .int (-1)), (6, .int (nI (posT t k 5))), (5, .int 3), (4, .int (nI (lowN (x >>> (5 &&& 31)) 22))), (3, .int hv), (2, .int (nI k)), (0, .ref (o 0)), (1, .int x)]) hx hb dL_would_64 hl (by decide) rfl (fun ls hl => ?_)
        refine lv_aload_n hx hb dL_would_66 rfl (lv_at hl 6 rfl) ?_
        refine lv_iload_n hx hb dL_would_67 rfl (lv_at hl 4 rfl) ?_
        refine lr_bestA (rest := []) (h := hv) S hK hN ht0 ht1 hA hD hW hS htl  (cwV 1 hts gL_would_X6_best rfl rfl rfl hdv_X6_best ⟨Nat.le_of_ble_eq_true rfl, Nat.le_of_ble_eq_true rfl⟩) rfl hl.1 (Nat.le_of_ble_eq_true rfl) dL_would_68 ⟨Nat.zero_le _, Nat.zero_le _⟩ (fun H locs hW hS => ?_)
        show W p9 l e9 (eR 20 1000) s9 m9 a9 b9 t9 c9 H locs 0 0 Q (F0 m9 71 ls [.int (if 0 < T_le u then nI (bstG t u hv 7).1 else -2)])
        have hW : SW D cI cT o aT aB aS g y z ad t u hs sn q f s0 s1 s2 H := hW
        refine lv_istore (lv' := [(8, .int (if 0 < T_le u then nI (bstG t u hv 7).1 else -2)), (7, .int (-1)), (6, .int (nI (posT t k 5))), (5, .int 3), (4, .int (nI (lowN (x >>> (5 &&& 31)) 22))), (3, .int hv), (2, .int (nI k)), (0, .ref (o 0)), (1, .int x)]) hx hb dL_would_71 hl (by decide) rfl (fun ls hl => ?_)
        refine lv_aload_n hx hb dL_would_73 rfl (lv_at hl 7 rfl) ?_
        refine lv_iconst (v := 1) hx hb dL_would_74 (by decide) ?_
        refine lr_count (rest := []) (w := 1) S hK hN ht0 ht1 hA hD hW hS htl  (cwV 1 hts gL_would_X6_count rfl rfl rfl hdv_X6_count ⟨Nat.le_of_ble_eq_true rfl, Nat.le_of_ble_eq_true rfl⟩) rfl hl.1 (Nat.le_of_ble_eq_true rfl) dL_would_75 ⟨Nat.zero_le _, Nat.zero_le _⟩ (fun H locs hW hS => ?_)
        show W p9 l e9 (eR 20 1000) s9 m9 a9 b9 t9 c9 H locs 0 0 Q (F0 m9 78 ls [.int (couA t u q hs.length 1)])
        have hW : SW D cI cT o aT aB aS g y z ad t u hs sn q f s0 s1 s2 H := hW
        refine ej_topi (show (couA t u q hs.length 1) = T_le u from lkc_1 t u q hs.length) ?_
        refine ej_topi (show (T_le u) = nI L from eL) ?_
        refine lv_istore (lv' := [(9, .int (nI L)), (8, .int (if 0 < T_le u then nI (bstG t u hv 7).1 else -2)), (7, .int (-1)), (6, .int (nI (posT t k 5))), (5, .int 3), (4, .int (nI (lowN (x >>> (5 &&& 31)) 22))), (3, .int hv), (2, .int (nI k)), (0, .ref (o 0)), (1, .int x)]) hx hb dL_would_78 hl (by decide) rfl (fun ls hl => ?_)
        refine lv_iload_n hx hb dL_would_80 rfl (lv_at hl 7 rfl) ?_
        refine lv_if_lt (tgt := 90) hx hb dL_would_81 (by decide) (fun h9 => absurd h9 (ej_nlt (a := k) (b := 0) (by omega) (show 0 ≤ k from by omega))) (fun _ => ?_)
        refine lv_iload_n hx hb dL_would_84 rfl (lv_at hl 7 rfl) ?_
        refine lv_bipush (v := 6) hx hb dL_would_85 (by decide) ?_
        refine lv_icmp_le (tgt := 94) hx hb dL_would_87 (by decide) (fun _ => ?_) (fun h9 => absurd (ej_le (a := k) (b := 6) (by omega) (show k ≤ 6 from by omega)) h9)
        refine lv_iconst (v := 0) hx hb dL_would_94 (by decide) ?_
        refine lv_istore (lv' := [(10, .int 0), (9, .int (nI L)), (8, .int (if 0 < T_le u then nI (bstG t u hv 7).1 else -2)), (7, .int (-1)), (6, .int (nI (posT t k 5))), (5, .int 3), (4, .int (nI (lowN (x >>> (5 &&& 31)) 22))), (3, .int hv), (2, .int (nI k)), (0, .ref (o 0)), (1, .int x)]) hx hb dL_would_95 hl (by decide) rfl (fun ls hl => ?_)
        refine lv_iload hx hb dL_would_97 (lv_at hl 0 rfl) ?_
        refine lv_if_ne (tgt := 125) hx hb dL_would_99 (by decide) (fun h9 => absurd (show (0 : Int32) = 0 from by decide) h9) (fun _ => ?_)
        refine lv_iload hx hb dL_would_102 (lv_at hl 6 rfl) ?_
        refine lv_if_eq (tgt := 125) hx hb dL_would_104 (by decide) (fun c_104 => ?_) (fun c_104 => ?_)
        · have n_104 : (lowN (x >>> (5 &&& 31)) 22) = 0 := ej_teq (a := (lowN (x >>> (5 &&& 31)) 22)) (b := 0) (by omega) (by omega) c_104
          refine lv_iconst (v := 1) hx hb dL_would_125 (by decide) ?_
          refine lv_goto (tgt := 130) hx hb dL_would_126 (by decide) ?_
          refine lv_istore (lv' := [(11, .int 1), (10, .int 0), (9, .int (nI L)), (8, .int (if 0 < T_le u then nI (bstG t u hv 7).1 else -2)), (7, .int (-1)), (6, .int (nI (posT t k 5))), (5, .int 3), (4, .int (nI (lowN (x >>> (5 &&& 31)) 22))), (3, .int hv), (2, .int (nI k)), (0, .ref (o 0)), (1, .int x)]) hx hb dL_would_130 hl (by decide) rfl (fun ls hl => ?_)
          refine lv_iload hx hb dL_would_132 (lv_at hl 1 rfl) ?_
          refine lv_if_eq (tgt := 146) hx hb dL_would_134 (by decide) (fun _ => ?_) (fun h9 => absurd (show (0 : Int32) = 0 from by decide) h9)
          refine lv_iload hx hb dL_would_146 (lv_at hl 5 rfl) ?_
          refine lv_if_lt (tgt := 266) hx hb dL_would_148 (by decide) (fun h9 => absurd h9 (ej_nlt (a := (posT t k 5)) (b := 0) (by omega) (show 0 ≤ (posT t k 5) from by omega))) (fun _ => ?_)
          refine lv_iload hx hb dL_would_151 (lv_at hl 5 rfl) ?_
          refine lv_bipush (v := 7) hx hb dL_would_153 (by decide) ?_
          refine lv_icmp_ge (tgt := 266) hx hb dL_would_155 (by decide) (fun h9 => absurd h9 (ej_ge (a := (posT t k 5)) (b := 7) (by omega) (show (posT t k 5) < 7 from by omega))) (fun _ => ?_)
          refine lv_aload_n hx hb dL_would_158 rfl (lv_at hl 10 rfl) ?_
          refine lv_iconst (v := 0) hx hb dL_would_159 (by decide) ?_
          refine lr_reach0 (rest := [])  S hK hN ht0 ht1 hA hD hW hS htl  (cwV 1 hts gL_would_X6_reach rfl rfl rfl hdv_X6_reach ⟨Nat.le_of_ble_eq_true rfl, Nat.le_of_ble_eq_true rfl⟩) rfl hl.1 (Nat.le_of_ble_eq_true rfl) dL_would_160 ⟨Nat.zero_le _, Nat.zero_le _⟩ (fun H locs hW hS => ?_)
          show W p9 l e9 (eR 20 1000) s9 m9 a9 b9 t9 c9 H locs 0 0 Q (F0 m9 163 ls [.int (nI (fwdM t 5))])
          have hW : SW D cI cT o aT aB aS g y z ad t u hs sn q f s0 s1 s2 H := hW
          refine lv_iload hx hb dL_would_163 (lv_at hl 5 rfl) ?_
          refine lv_ishr hx hb dL_would_165 ?_
          refine lv_iconst (v := 1) hx hb dL_would_166 (by decide) ?_
          refine lv_iand hx hb dL_would_167 ?_
          refine ej_topi (show (((nI (fwdM t 5)) >>> ((nI (posT t k 5)) &&& 31)) &&& 1) = 1 from (bit_ok (fwdM t 5) (fwdM_lt t 5) (posT t k 5) hpe).trans (if_pos (end_bit htl hk 5))) ?_
          refine lv_iconst (v := 1) hx hb dL_would_168 (by decide) ?_
          refine lv_icmp_ne (tgt := 266) hx hb dL_would_169 (by decide) (fun h9 => absurd (show (1 : Int32) = 1 from by decide) h9) (fun _ => ?_)
          refine lv_iload hx hb dL_would_172 (lv_at hl 0 rfl) ?_
          refine lv_if_eq (tgt := 186) hx hb dL_would_174 (by decide) (fun h9 => absurd h9 (show ¬ (1 : Int32) = 0 from by decide)) (fun _ => ?_)
          refine lv_iload hx hb dL_would_177 (lv_at hl 4 rfl) ?_
          refine lv_iconst (v := (-1)) hx hb dL_would_179 (by decide) ?_
          refine lv_icmp_ne (tgt := 266) hx hb dL_would_180 (by decide) (fun h9 => absurd (show ((-1) : Int32) = (-1) from by decide) h9) (fun _ => ?_)
          refine lv_goto (tgt := 262) hx hb dL_would_183 (by decide) ?_
          refine lv_iconst (v := 1) hx hb dL_would_262 (by decide) ?_
          refine lv_goto (tgt := 267) hx hb dL_would_263 (by decide) ?_
          exact jp267 _ _ _  hW hS (lv_sub hl [10, 9, 8, 3, 2, 1] rfl)
        · have n_104 : (lowN (x >>> (5 &&& 31)) 22) ≠ 0 := ej_tne (a := (lowN (x >>> (5 &&& 31)) 22)) (b := 0) (by omega) (by omega) c_104
          refine lv_iload hx hb dL_would_107 (lv_at hl 6 rfl) ?_
          refine lv_bipush (v := 21) hx hb dL_would_109 (by decide) ?_
          refine lv_icmp_eq (tgt := 125) hx hb dL_would_111 (by decide) (fun c_111 => ?_) (fun c_111 => ?_)
          · have n_111 : (lowN (x >>> (5 &&& 31)) 22) = 21 := ej_teq (a := (lowN (x >>> (5 &&& 31)) 22)) (b := 21) (by omega) (by omega) c_111
            refine lv_iconst (v := 1) hx hb dL_would_125 (by decide) ?_
            refine lv_goto (tgt := 130) hx hb dL_would_126 (by decide) ?_
            refine lv_istore (lv' := [(11, .int 1), (10, .int 0), (9, .int (nI L)), (8, .int (if 0 < T_le u then nI (bstG t u hv 7).1 else -2)), (7, .int (-1)), (6, .int (nI (posT t k 5))), (5, .int 3), (4, .int (nI (lowN (x >>> (5 &&& 31)) 22))), (3, .int hv), (2, .int (nI k)), (0, .ref (o 0)), (1, .int x)]) hx hb dL_would_130 hl (by decide) rfl (fun ls hl => ?_)
            refine lv_iload hx hb dL_would_132 (lv_at hl 1 rfl) ?_
            refine lv_if_eq (tgt := 146) hx hb dL_would_134 (by decide) (fun _ => ?_) (fun h9 => absurd (show (0 : Int32) = 0 from by decide) h9)
            refine lv_iload hx hb dL_would_146 (lv_at hl 5 rfl) ?_
            refine lv_if_lt (tgt := 266) hx hb dL_would_148 (by decide) (fun h9 => absurd h9 (ej_nlt (a := (posT t k 5)) (b := 0) (by omega) (show 0 ≤ (posT t k 5) from by omega))) (fun _ => ?_)
            refine lv_iload hx hb dL_would_151 (lv_at hl 5 rfl) ?_
            refine lv_bipush (v := 7) hx hb dL_would_153 (by decide) ?_
            refine lv_icmp_ge (tgt := 266) hx hb dL_would_155 (by decide) (fun h9 => absurd h9 (ej_ge (a := (posT t k 5)) (b := 7) (by omega) (show (posT t k 5) < 7 from by omega))) (fun _ => ?_)
            refine lv_aload_n hx hb dL_would_158 rfl (lv_at hl 10 rfl) ?_
            refine lv_iconst (v := 0) hx hb dL_would_159 (by decide) ?_
            refine lr_reach0 (rest := [])  S hK hN ht0 ht1 hA hD hW hS htl  (cwV 1 hts gL_would_X6_reach rfl rfl rfl hdv_X6_reach ⟨Nat.le_of_ble_eq_true rfl, Nat.le_of_ble_eq_true rfl⟩) rfl hl.1 (Nat.le_of_ble_eq_true rfl) dL_would_160 ⟨Nat.zero_le _, Nat.zero_le _⟩ (fun H locs hW hS => ?_)
            show W p9 l e9 (eR 20 1000) s9 m9 a9 b9 t9 c9 H locs 0 0 Q (F0 m9 163 ls [.int (nI (fwdM t 5))])
            have hW : SW D cI cT o aT aB aS g y z ad t u hs sn q f s0 s1 s2 H := hW
            refine lv_iload hx hb dL_would_163 (lv_at hl 5 rfl) ?_
            refine lv_ishr hx hb dL_would_165 ?_
            refine lv_iconst (v := 1) hx hb dL_would_166 (by decide) ?_
            refine lv_iand hx hb dL_would_167 ?_
            refine ej_topi (show (((nI (fwdM t 5)) >>> ((nI (posT t k 5)) &&& 31)) &&& 1) = 1 from (bit_ok (fwdM t 5) (fwdM_lt t 5) (posT t k 5) hpe).trans (if_pos (end_bit htl hk 5))) ?_
            refine lv_iconst (v := 1) hx hb dL_would_168 (by decide) ?_
            refine lv_icmp_ne (tgt := 266) hx hb dL_would_169 (by decide) (fun h9 => absurd (show (1 : Int32) = 1 from by decide) h9) (fun _ => ?_)
            refine lv_iload hx hb dL_would_172 (lv_at hl 0 rfl) ?_
            refine lv_if_eq (tgt := 186) hx hb dL_would_174 (by decide) (fun h9 => absurd h9 (show ¬ (1 : Int32) = 0 from by decide)) (fun _ => ?_)
            refine lv_iload hx hb dL_would_177 (lv_at hl 4 rfl) ?_
            refine lv_iconst (v := (-1)) hx hb dL_would_179 (by decide) ?_
            refine lv_icmp_ne (tgt := 266) hx hb dL_would_180 (by decide) (fun h9 => absurd (show ((-1) : Int32) = (-1) from by decide) h9) (fun _ => ?_)
            refine lv_goto (tgt := 262) hx hb dL_would_183 (by decide) ?_
            refine lv_iconst (v := 1) hx hb dL_would_262 (by decide) ?_
            refine lv_goto (tgt := 267) hx hb dL_would_263 (by decide) ?_
            exact jp267 _ _ _  hW hS (lv_sub hl [10, 9, 8, 3, 2, 1] rfl)
          · have n_111 : (lowN (x >>> (5 &&& 31)) 22) ≠ 21 := ej_tne (a := (lowN (x >>> (5 &&& 31)) 22)) (b := 21) (by omega) (by omega) c_111
            refine lv_iload hx hb dL_would_114 (lv_at hl 5 rfl) ?_
            refine lv_if_lt (tgt := 125) hx hb dL_would_116 (by decide) (fun h9 => absurd h9 (show ¬ (3 : Int32) < 0 from by decide)) (fun _ => ?_)
            refine lv_iload hx hb dL_would_119 (lv_at hl 5 rfl) ?_
            refine lv_iconst (v := 2) hx hb dL_would_121 (by decide) ?_
            refine lv_icmp_le (tgt := 129) hx hb dL_would_122 (by decide) (fun h9 => absurd h9 (show ¬ (3 : Int32) ≤ 2 from by decide)) (fun _ => ?_)
            refine lv_iconst (v := 1) hx hb dL_would_125 (by decide) ?_
            refine lv_goto (tgt := 130) hx hb dL_would_126 (by decide) ?_
            refine lv_istore (lv' := [(11, .int 1), (10, .int 0), (9, .int (nI L)), (8, .int (if 0 < T_le u then nI (bstG t u hv 7).1 else -2)), (7, .int (-1)), (6, .int (nI (posT t k 5))), (5, .int 3), (4, .int (nI (lowN (x >>> (5 &&& 31)) 22))), (3, .int hv), (2, .int (nI k)), (0, .ref (o 0)), (1, .int x)]) hx hb dL_would_130 hl (by decide) rfl (fun ls hl => ?_)
            refine lv_iload hx hb dL_would_132 (lv_at hl 1 rfl) ?_
            refine lv_if_eq (tgt := 146) hx hb dL_would_134 (by decide) (fun _ => ?_) (fun h9 => absurd (show (0 : Int32) = 0 from by decide) h9)
            refine lv_iload hx hb dL_would_146 (lv_at hl 5 rfl) ?_
            refine lv_if_lt (tgt := 266) hx hb dL_would_148 (by decide) (fun h9 => absurd h9 (ej_nlt (a := (posT t k 5)) (b := 0) (by omega) (show 0 ≤ (posT t k 5) from by omega))) (fun _ => ?_)
            refine lv_iload hx hb dL_would_151 (lv_at hl 5 rfl) ?_
            refine lv_bipush (v := 7) hx hb dL_would_153 (by decide) ?_
            refine lv_icmp_ge (tgt := 266) hx hb dL_would_155 (by decide) (fun h9 => absurd h9 (ej_ge (a := (posT t k 5)) (b := 7) (by omega) (show (posT t k 5) < 7 from by omega))) (fun _ => ?_)
            refine lv_aload_n hx hb dL_would_158 rfl (lv_at hl 10 rfl) ?_
            refine lv_iconst (v := 0) hx hb dL_would_159 (by decide) ?_
            refine lr_reach0 (rest := [])  S hK hN ht0 ht1 hA hD hW hS htl  (cwV 1 hts gL_would_X6_reach rfl rfl rfl hdv_X6_reach ⟨Nat.le_of_ble_eq_true rfl, Nat.le_of_ble_eq_true rfl⟩) rfl hl.1 (Nat.le_of_ble_eq_true rfl) dL_would_160 ⟨Nat.zero_le _, Nat.zero_le _⟩ (fun H locs hW hS => ?_)
            show W p9 l e9 (eR 20 1000) s9 m9 a9 b9 t9 c9 H locs 0 0 Q (F0 m9 163 ls [.int (nI (fwdM t 5))])
            have hW : SW D cI cT o aT aB aS g y z ad t u hs sn q f s0 s1 s2 H := hW
            refine lv_iload hx hb dL_would_163 (lv_at hl 5 rfl) ?_
            refine lv_ishr hx hb dL_would_165 ?_
            refine lv_iconst (v := 1) hx hb dL_would_166 (by decide) ?_
            refine lv_iand hx hb dL_would_167 ?_
            refine ej_topi (show (((nI (fwdM t 5)) >>> ((nI (posT t k 5)) &&& 31)) &&& 1) = 1 from (bit_ok (fwdM t 5) (fwdM_lt t 5) (posT t k 5) hpe).trans (if_pos (end_bit htl hk 5))) ?_
            refine lv_iconst (v := 1) hx hb dL_would_168 (by decide) ?_
            refine lv_icmp_ne (tgt := 266) hx hb dL_would_169 (by decide) (fun h9 => absurd (show (1 : Int32) = 1 from by decide) h9) (fun _ => ?_)
            refine lv_iload hx hb dL_would_172 (lv_at hl 0 rfl) ?_
            refine lv_if_eq (tgt := 186) hx hb dL_would_174 (by decide) (fun h9 => absurd h9 (show ¬ (1 : Int32) = 0 from by decide)) (fun _ => ?_)
            refine lv_iload hx hb dL_would_177 (lv_at hl 4 rfl) ?_
            refine lv_iconst (v := (-1)) hx hb dL_would_179 (by decide) ?_
            refine lv_icmp_ne (tgt := 266) hx hb dL_would_180 (by decide) (fun h9 => absurd (show ((-1) : Int32) = (-1) from by decide) h9) (fun _ => ?_)
            refine lv_goto (tgt := 262) hx hb dL_would_183 (by decide) ?_
            refine lv_iconst (v := 1) hx hb dL_would_262 (by decide) ?_
            refine lv_goto (tgt := 267) hx hb dL_would_263 (by decide) ?_
            exact jp267 _ _ _  hW hS (lv_sub hl [10, 9, 8, 3, 2, 1] rfl)
    refine lv_if_ne (tgt := 23) hx hb dL_would_16 (by decide) (fun c_16 => ?_) (fun c_16 => ?_)
    · have n_16 : (lowN (x >>> (4 &&& 31)) 2) ≠ 0 := ej_tne (a := (lowN (x >>> (4 &&& 31)) 2)) (b := 0) (by omega) (by omega) c_16
      refine lv_iconst (v := 0) hx hb dL_would_23 (by decide) ?_
      refine ej_topi (show (0 : Int32) = hv from (by rw [e_hv, if_neg n_16])) ?_
      exact jp24 _ _ _ hW hS (lv_sub hl [0, 1, 2] rfl)
    · have n_16 : (lowN (x >>> (4 &&& 31)) 2) = 0 := ej_teq (a := (lowN (x >>> (4 &&& 31)) 2)) (b := 0) (by omega) (by omega) c_16
      refine lv_iconst (v := 1) hx hb dL_would_19 (by decide) ?_
      refine lv_goto (tgt := 24) hx hb dL_would_20 (by decide) ?_
      refine ej_topi (show (1 : Int32) = hv from (by rw [e_hv, if_pos n_16])) ?_
      exact jp24 _ _ _ hW hS (lv_sub hl [0, 1, 2] rfl)
