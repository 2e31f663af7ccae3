set_option maxHeartbeats 4000000 in
set_option maxRecDepth 100000 in
theorem k_holds (l : Launch) (D : va_G) (tys : eT) (cI cT : ClassId) (ht0 : tys[0]? = some (cI, .int)) (ht1 : tys[1]? = some (cT, .object RX5)) (o aT aB aS g y z : Nat → Nat) (ad : Nat → Nat → Nat) (t : Pn) (u : Tr) (hs : List (Pn × Tr)) (sn : Option (Pn × Tr)) (q : Nat) (f : Nat → Int32) (s0 s1 s2 : Int32) (m : Nat) (hm9 : m ≤ 1000000) (htl : tilOK t) (ho : okS m t u) : lc l D tys cI cT o aT aB aS g y z ad yL_holds wsL_holds (eR 20 1000) [.ref (o 0)] t u hs sn q f s0 s1 s2 (sameL t u hs q f s0 s1 s2 (fun v => v = .int 1)) := by
  refine lc_int cL_holds 15 (by decide +kernel) rfl (Nat.le_of_ble_eq_true rfl) ?_
  intro p9 e9 s9 m9 a9 b9 t9 c9 H0 A Q ls S hK hN hA hD hW hS hl hQ
  have S : CallFix p9 m9 c9 cL_holds 15 s9 a9 wsL_holds RL := S
  obtain ⟨hx, hb, hml, hown, hts⟩ := id S
  have hl : lv_has ls 15 [(0, .ref (o 0))] := hl
  obtain ⟨na, nb, nl, ea, eb, el, hs20, hhe⟩ := okU_sum ho.2.1.1
  obtain ⟨⟨nS, nH, nB, nP, hnS, hnH, hnB, hnP, eS, eH, eB, eP⟩, hrows, hens, henk⟩ := id ho.2.2.2.2
  obtain ⟨nT, hnT, eT⟩ := til_nat htl
  obtain ⟨nF, hnF1, hnF9, eF⟩ := ho.2.2.2.1
  refine lv_iconst (v := 0) hx hb dL_holds_0 (by decide) ?_
  refine lv_istore_n (lv' := [(1, .int 0), (0, .ref (o 0))]) hx hb dL_holds_1 rfl hl (by decide) rfl (fun ls hl => ?_)
  refine lv_iconst (v := 0) hx hb dL_holds_2 (by decide) ?_
  refine lv_istore_n (lv' := [(2, .int 0), (1, .int 0), (0, .ref (o 0))]) hx hb dL_holds_3 rfl hl (by decide) rfl (fun ls hl => ?_)
  refine lv_iconst (v := 0) hx hb dL_holds_4 (by decide) ?_
  refine lv_istore_n (lv' := [(3, .int 0), (2, .int 0), (1, .int 0), (0, .ref (o 0))]) hx hb dL_holds_5 rfl hl (by decide) rfl (fun ls hl => ?_)
  refine lv_iconst (v := 0) hx hb dL_holds_6 (by decide) ?_
  refine lv_istore (lv' := [(4, .int 0), (3, .int 0), (2, .int 0), (1, .int 0), (0, .ref (o 0))]) hx hb dL_holds_7 hl (by decide) rfl (fun ls hl => ?_)
  refine lv_bipush (v := 127) hx hb dL_holds_9 (by decide) ?_
  refine lv_istore (lv' := [(5, .int 127), (4, .int 0), (3, .int 0), (2, .int 0), (1, .int 0), (0, .ref (o 0))]) hx hb dL_holds_11 hl (by decide) rfl (fun ls hl => ?_)
  have jp163 : ∀ (H : Heap) (locs : List Loc) (ls : Array Slot), SW D cI cT o aT aB aS g y z ad t u hs sn q f s0 s1 s2 H → va_S A H0 H locs → lv_has ls 15 [(0, .ref (o 0)), (1, .int 0), (2, .int 0), (3, .int 0), (4, .int 0), (5, .int 127)] → W p9 l e9 (eR 20 1000) s9 m9 a9 b9 t9 c9 H locs 0 0 Q (F0 m9 163 ls [.int 1]) := by
    intro  H locs ls  hW hS hl
    refine lv_istore (lv' := [(6, .int 1), (0, .ref (o 0)), (1, .int 0), (2, .int 0), (3, .int 0), (4, .int 0), (5, .int 127)]) hx hb dL_holds_163 hl (by decide) rfl (fun ls hl => ?_)
    refine lv_iconst (v := 0) hx hb dL_holds_165 (by decide) ?_
    refine lv_istore (lv' := [(7, .int 0), (6, .int 1), (0, .ref (o 0)), (1, .int 0), (2, .int 0), (3, .int 0), (4, .int 0), (5, .int 127)]) hx hb dL_holds_166 hl (by decide) rfl (fun ls hl => ?_)
    have lp168 : ∀ (n168 : Nat) (r : Nat), 5 - r < n168 → (r ≤ 5) → ∀ (H : Heap) (locs : List Loc) (ls : Array Slot), SW D cI cT o aT aB aS g y z ad t u hs sn q f s0 s1 s2 H → va_S A H0 H locs → lv_has ls 15 [(0, .ref (o 0)), (1, .int (pinQ t (7 * r))), (2, .int (strQ t (7 * r))), (3, .int (bndQ t (7 * r))), (4, .int (sumI (P_bl t) (7 * r))), (5, .int (nI (fwdM t r))), (6, .int 1), (7, .int (nI r))] → W p9 l e9 (eR 20 1000) s9 m9 a9 b9 t9 c9 H locs 0 0 Q (F0 m9 168 ls []) := by
      intro n168
      induction n168 with
      | zero => intro r hm9; exact absurd hm9 (Nat.not_lt_zero _)
      | succ n168 ih168 =>
        intro r hm168 hr H locs ls hW hS hl
        refine lv_iload hx hb dL_holds_168 (lv_at hl 7 rfl) ?_
        refine lv_iconst (v := 5) hx hb dL_holds_170 (by decide) ?_
        refine lv_icmp_ge (tgt := 523) hx hb dL_holds_171 (by decide) (fun c_171 => ?_) (fun c_171 => ?_)
        · have n_171 : 5 ≤ r := ej_tle (a := 5) (b := r) (by omega) (by omega) c_171
          have hr5 : r = 5 := by omega
          have hl : lv_has ls 15 [(0, .ref (o 0)), (1, .int (pinQ t (7 * r))), (2, .int (strQ t (7 * r))), (3, .int (bndQ t (7 * r))), (4, .int (sumI (P_bl t) (7 * r))), (5, .int (nI (fwdM t r))), (6, .int 1)] := lv_sub hl [0, 1, 2, 3, 4, 5, 6] rfl
          have hl : lv_has ls 15 [(0, .ref (o 0)), (1, .int (pinQ t 35)), (2, .int (strQ t 35)), (3, .int (bndQ t 35)), (4, .int (sumI (P_bl t) 35)), (5, .int (nI (fwdM t 5))), (6, .int 1)] := by rw [hr5] at hl; exact hl
          refine lv_iconst (v := 0) hx hb dL_holds_523 (by decide) ?_
          refine lv_istore (lv' := [(7, .int 0), (0, .ref (o 0)), (1, .int (pinQ t 35)), (2, .int (strQ t 35)), (3, .int (bndQ t 35)), (4, .int (sumI (P_bl t) 35)), (5, .int (nI (fwdM t 5))), (6, .int 1)]) hx hb dL_holds_524 hl (by decide) rfl (fun ls hl => ?_)
          refine lv_iconst (v := 0) hx hb dL_holds_526 (by decide) ?_
          refine lv_istore (lv' := [(8, .int 0), (7, .int 0), (0, .ref (o 0)), (1, .int (pinQ t 35)), (2, .int (strQ t 35)), (3, .int (bndQ t 35)), (4, .int (sumI (P_bl t) 35)), (5, .int (nI (fwdM t 5))), (6, .int 1)]) hx hb dL_holds_527 hl (by decide) rfl (fun ls hl => ?_)
          refine lv_iconst (v := 0) hx hb dL_holds_529 (by decide) ?_
          refine lv_istore (lv' := [(9, .int 0), (8, .int 0), (7, .int 0), (0, .ref (o 0)), (1, .int (pinQ t 35)), (2, .int (strQ t 35)), (3, .int (bndQ t 35)), (4, .int (sumI (P_bl t) 35)), (5, .int (nI (fwdM t 5))), (6, .int 1)]) hx hb dL_holds_530 hl (by decide) rfl (fun ls hl => ?_)
          refine lv_iconst (v := 0) hx hb dL_holds_532 (by decide) ?_
          refine lv_istore (lv' := [(10, .int 0), (9, .int 0), (8, .int 0), (7, .int 0), (0, .ref (o 0)), (1, .int (pinQ t 35)), (2, .int (strQ t 35)), (3, .int (bndQ t 35)), (4, .int (sumI (P_bl t) 35)), (5, .int (nI (fwdM t 5))), (6, .int 1)]) hx hb dL_holds_533 hl (by decide) rfl (fun ls hl => ?_)
          refine lv_iconst (v := 0) hx hb dL_holds_535 (by decide) ?_
          refine lv_istore (lv' := [(11, .int 0), (10, .int 0), (9, .int 0), (8, .int 0), (7, .int 0), (0, .ref (o 0)), (1, .int (pinQ t 35)), (2, .int (strQ t 35)), (3, .int (bndQ t 35)), (4, .int (sumI (P_bl t) 35)), (5, .int (nI (fwdM t 5))), (6, .int 1)]) hx hb dL_holds_536 hl (by decide) rfl (fun ls hl => ?_)
          have lp538 : ∀ (n538 : Nat) (k : Nat), 7 - k < n538 → (k ≤ 7) → ∀ (H : Heap) (locs : List Loc) (ls : Array Slot), SW D cI cT o aT aB aS g y z ad t u hs sn q f s0 s1 s2 H → va_S A H0 H locs → lv_has ls 15 [(0, .ref (o 0)), (1, .int (pinQ t 35)), (2, .int (strQ t 35)), (3, .int (bndQ t 35)), (4, .int (sumI (P_bl t) 35)), (5, .int (nI (fwdM t 5))), (6, .int 1), (7, .int (sumI (T_he u) k)), (8, .int (sumI (fun j => if ¬ T_he u j < T_fu u then 1 else 0) k)), (9, .int (sumI (T_en u) k)), (10, .int (sumI (whG t 5) k)), (11, .int (nI k))] → W p9 l e9 (eR 20 1000) s9 m9 a9 b9 t9 c9 H locs 0 0 Q (F0 m9 538 ls []) := by
            intro n538
            induction n538 with
            | zero => intro k hm9; exact absurd hm9 (Nat.not_lt_zero _)
            | succ n538 ih538 =>
              intro k hm538 hk H locs ls hW hS hl
              refine lv_iload hx hb dL_holds_538 (lv_at hl 11 rfl) ?_
              refine lv_bipush (v := 7) hx hb dL_holds_540 (by decide) ?_
              refine lv_icmp_ge (tgt := 755) hx hb dL_holds_542 (by decide) (fun c_542 => ?_) (fun c_542 => ?_)
              · have n_542 : 7 ≤ k := ej_tle (a := 7) (b := k) (by omega) (by omega) c_542
                have hk7 : k = 7 := by omega
                obtain ⟨wt, hwt7, hwt224, ewt⟩ := wh_tot t
                have hl : lv_has ls 15 [(0, .ref (o 0)), (1, .int (pinQ t 35)), (2, .int (strQ t 35)), (3, .int (bndQ t 35)), (4, .int (sumI (P_bl t) 35)), (5, .int (nI (fwdM t 5))), (6, .int 1), (7, .int (sumI (T_he u) 7)), (8, .int (fulS u)), (9, .int (sumI (T_en u) 7)), (10, .int (nI wt)), (11, .int (nI 7))] := by rw [hk7, ewt] at hl; exact hl
                refine lv_iload hx hb dL_holds_755 (lv_at hl 6 rfl) ?_
                refine lv_if_eq (tgt := 884) hx hb dL_holds_757 (by decide) (fun h9 => absurd h9 (show ¬ (1 : Int32) = 0 from by decide)) (fun _ => ?_)
                refine lv_iload hx hb dL_holds_760 (lv_at hl 5 rfl) ?_
                refine lv_aload_n hx hb dL_holds_762 rfl (lv_at hl 0 rfl) ?_
                refine lv_iconst (v := 0) hx hb dL_holds_763 (by decide) ?_
                refine lr_reach0 (rest := [.int (nI (fwdM t 5))])  S hK hN ht0 ht1 hA hD hW hS htl  (cwV 1 hts gL_holds_X6_reach rfl rfl rfl hdv_X6_reach ⟨Nat.le_of_ble_eq_true rfl, Nat.le_of_ble_eq_true rfl⟩) rfl hl.1 (Nat.le_of_ble_eq_true rfl) dL_holds_764 ⟨Nat.zero_le _, Nat.zero_le _⟩ (fun H locs hW hS => ?_)
                show W p9 l e9 (eR 20 1000) s9 m9 a9 b9 t9 c9 H locs 0 0 Q (F0 m9 767 ls [.int (nI (fwdM t 5)), .int (nI (fwdM t 5))])
                have hW : SW D cI cT o aT aB aS g y z ad t u hs sn q f s0 s1 s2 H := hW
                refine lv_icmp_ne (tgt := 884) hx hb dL_holds_767 (by decide) (fun h9 => absurd (congrArg nI (show (fwdM t 5) = (fwdM t 5) from by omega)) h9) (fun _ => ?_)
                refine lv_iload hx hb dL_holds_770 (lv_at hl 5 rfl) ?_
                refine lv_aload_n hx hb dL_holds_772 rfl (lv_at hl 0 rfl) ?_
                refine lv_iconst (v := 1) hx hb dL_holds_773 (by decide) ?_
                refine lr_reach1 (rest := [.int (nI (fwdM t 5))])  S hK hN ht0 ht1 hA hD hW hS htl  (cwV 1 hts gL_holds_X6_reach rfl rfl rfl hdv_X6_reach ⟨Nat.le_of_ble_eq_true rfl, Nat.le_of_ble_eq_true rfl⟩) rfl hl.1 (Nat.le_of_ble_eq_true rfl) dL_holds_774 ⟨Nat.zero_le _, Nat.zero_le _⟩ (fun H locs hW hS => ?_)
                show W p9 l e9 (eR 20 1000) s9 m9 a9 b9 t9 c9 H locs 0 0 Q (F0 m9 777 ls [.int (nI (bkG t 7)), .int (nI (fwdM t 5))])
                have hW : SW D cI cT o aT aB aS g y z ad t u hs sn q f s0 s1 s2 H := hW
                refine lv_icmp_ne (tgt := 884) hx hb dL_holds_777 (by decide) (fun h9 => absurd ((by rw [bk_fwd])) h9) (fun _ => ?_)
                refine lv_iload hx hb dL_holds_780 (lv_at hl 5 rfl) ?_
                refine ej_L0 (rest := []) (As := [.int (nI (fwdM t 5))]) S hK hN hA hD hW hS (c_L_ones l D tys cI ht0 (fwdM t 5) (fwdM_lt t 5)) (va_cwS 1 hts gL_holds_L_ones rfl rfl rfl hds_L_ones ⟨Nat.le_of_ble_eq_true rfl, Nat.le_of_ble_eq_true rfl⟩) rfl rfl hl.1 (Nat.le_of_ble_eq_true rfl) dL_holds_782 ⟨Nat.zero_le _, Nat.zero_le _⟩ (fun H locs hW hS => ?_)
                show W p9 l e9 (eR 20 1000) s9 m9 a9 b9 t9 c9 H locs 0 0 Q (F0 m9 785 ls [.int (nI (popc (fwdM t 5)))])
                refine lv_aload_n hx hb dL_holds_785 rfl (lv_at hl 0 rfl) ?_
                refine lv_bipush (v := 9) hx hb dL_holds_786 (by decide) ?_
                refine lr_count (rest := [.int (nI (popc (fwdM t 5)))]) (w := 9) S hK hN ht0 ht1 hA hD hW hS htl  (cwV 1 hts gL_holds_X6_count rfl rfl rfl hdv_X6_count ⟨Nat.le_of_ble_eq_true rfl, Nat.le_of_ble_eq_true rfl⟩) rfl hl.1 (Nat.le_of_ble_eq_true rfl) dL_holds_788 ⟨Nat.zero_le _, Nat.zero_le _⟩ (fun H locs hW hS => ?_)
                show W p9 l e9 (eR 20 1000) s9 m9 a9 b9 t9 c9 H locs 0 0 Q (F0 m9 791 ls [.int (couA t u q hs.length 9), .int (nI (popc (fwdM t 5)))])
                have hW : SW D cI cT o aT aB aS g y z ad t u hs sn q f s0 s1 s2 H := hW
                refine ej_topi (show (couA t u q hs.length 9) = nI (popc (fwdM t 5)) from lkc_9 t u q hs.length) ?_
                refine lv_icmp_ne (tgt := 884) hx hb dL_holds_791 (by decide) (fun h9 => absurd (congrArg nI (show (popc (fwdM t 5)) = (popc (fwdM t 5)) from by omega)) h9) (fun _ => ?_)
                refine lv_iload hx hb dL_holds_794 (lv_at hl 7 rfl) ?_
                refine lv_aload_n hx hb dL_holds_796 rfl (lv_at hl 0 rfl) ?_
                refine lv_iconst (v := 2) hx hb dL_holds_797 (by decide) ?_
                refine lr_count (rest := [.int (sumI (T_he u) 7)]) (w := 2) S hK hN ht0 ht1 hA hD hW hS htl  (cwV 1 hts gL_holds_X6_count rfl rfl rfl hdv_X6_count ⟨Nat.le_of_ble_eq_true rfl, Nat.le_of_ble_eq_true rfl⟩) rfl hl.1 (Nat.le_of_ble_eq_true rfl) dL_holds_798 ⟨Nat.zero_le _, Nat.zero_le _⟩ (fun H locs hW hS => ?_)
                show W p9 l e9 (eR 20 1000) s9 m9 a9 b9 t9 c9 H locs 0 0 Q (F0 m9 801 ls [.int (couA t u q hs.length 2), .int (sumI (T_he u) 7)])
                have hW : SW D cI cT o aT aB aS g y z ad t u hs sn q f s0 s1 s2 H := hW
                refine ej_topi (show (couA t u q hs.length 2) = sumI (T_he u) 7 from lkc_2 t u q hs.length) ?_
                refine lv_icmp_ne (tgt := 884) hx hb dL_holds_801 (by decide) (fun h9 => absurd (rfl) h9) (fun _ => ?_)
                refine lv_iload hx hb dL_holds_804 (lv_at hl 8 rfl) ?_
                refine lv_aload_n hx hb dL_holds_806 rfl (lv_at hl 0 rfl) ?_
                refine lv_bipush (v := 8) hx hb dL_holds_807 (by decide) ?_
                refine lr_count (rest := [.int (fulS u)]) (w := 8) S hK hN ht0 ht1 hA hD hW hS htl  (cwV 1 hts gL_holds_X6_count rfl rfl rfl hdv_X6_count ⟨Nat.le_of_ble_eq_true rfl, Nat.le_of_ble_eq_true rfl⟩) rfl hl.1 (Nat.le_of_ble_eq_true rfl) dL_holds_809 ⟨Nat.zero_le _, Nat.zero_le _⟩ (fun H locs hW hS => ?_)
                show W p9 l e9 (eR 20 1000) s9 m9 a9 b9 t9 c9 H locs 0 0 Q (F0 m9 812 ls [.int (couA t u q hs.length 8), .int (fulS u)])
                have hW : SW D cI cT o aT aB aS g y z ad t u hs sn q f s0 s1 s2 H := hW
                refine ej_topi (show (couA t u q hs.length 8) = fulS u from lkc_8 t u q hs.length) ?_
                refine lv_icmp_ne (tgt := 884) hx hb dL_holds_812 (by decide) (fun h9 => absurd (rfl) h9) (fun _ => ?_)
                refine lv_iload hx hb dL_holds_815 (lv_at hl 9 rfl) ?_
                refine lv_aload_n hx hb dL_holds_817 rfl (lv_at hl 0 rfl) ?_
                refine lv_bipush (v := 10) hx hb dL_holds_818 (by decide) ?_
                refine lr_count (rest := [.int (sumI (T_en u) 7)]) (w := 10) S hK hN ht0 ht1 hA hD hW hS htl  (cwV 1 hts gL_holds_X6_count rfl rfl rfl hdv_X6_count ⟨Nat.le_of_ble_eq_true rfl, Nat.le_of_ble_eq_true rfl⟩) rfl hl.1 (Nat.le_of_ble_eq_true rfl) dL_holds_820 ⟨Nat.zero_le _, Nat.zero_le _⟩ (fun H locs hW hS => ?_)
                show W p9 l e9 (eR 20 1000) s9 m9 a9 b9 t9 c9 H locs 0 0 Q (F0 m9 823 ls [.int (couA t u q hs.length 10), .int (sumI (T_en u) 7)])
                have hW : SW D cI cT o aT aB aS g y z ad t u hs sn q f s0 s1 s2 H := hW
                refine ej_topi (show (couA t u q hs.length 10) = T_sh u from lkc_10 t u q hs.length) ?_
                refine lv_icmp_ne (tgt := 884) hx hb dL_holds_823 (by decide) (fun h9 => absurd (hens) h9) (fun _ => ?_)
                refine lv_iload_n hx hb dL_holds_826 rfl (lv_at hl 1 rfl) ?_
                refine lv_aload_n hx hb dL_holds_827 rfl (lv_at hl 0 rfl) ?_
                refine lv_iconst (v := 4) hx hb dL_holds_828 (by decide) ?_
                refine lr_count (rest := [.int (pinQ t 35)]) (w := 4) S hK hN ht0 ht1 hA hD hW hS htl  (cwV 1 hts gL_holds_X6_count rfl rfl rfl hdv_X6_count ⟨Nat.le_of_ble_eq_true rfl, Nat.le_of_ble_eq_true rfl⟩) rfl hl.1 (Nat.le_of_ble_eq_true rfl) dL_holds_829 ⟨Nat.zero_le _, Nat.zero_le _⟩ (fun H locs hW hS => ?_)
                show W p9 l e9 (eR 20 1000) s9 m9 a9 b9 t9 c9 H locs 0 0 Q (F0 m9 832 ls [.int (couA t u q hs.length 4), .int (pinQ t 35)])
                have hW : SW D cI cT o aT aB aS g y z ad t u hs sn q f s0 s1 s2 H := hW
                refine ej_topi (show (couA t u q hs.length 4) = 35 - sumI (P_ou t) 35 from lkc_4 t u q hs.length) ?_
                refine lv_icmp_ne (tgt := 884) hx hb dL_holds_832 (by decide) (fun h9 => absurd (pinQ_all ho.1.2.1) h9) (fun _ => ?_)
                refine lv_iload_n hx hb dL_holds_835 rfl (lv_at hl 2 rfl) ?_
                refine lv_aload_n hx hb dL_holds_836 rfl (lv_at hl 0 rfl) ?_
                refine lv_iconst (v := 5) hx hb dL_holds_837 (by decide) ?_
                refine lr_count (rest := [.int (strQ t 35)]) (w := 5) S hK hN ht0 ht1 hA hD hW hS htl  (cwV 1 hts gL_holds_X6_count rfl rfl rfl hdv_X6_count ⟨Nat.le_of_ble_eq_true rfl, Nat.le_of_ble_eq_true rfl⟩) rfl hl.1 (Nat.le_of_ble_eq_true rfl) dL_holds_838 ⟨Nat.zero_le _, Nat.zero_le _⟩ (fun H locs hW hS => ?_)
                show W p9 l e9 (eR 20 1000) s9 m9 a9 b9 t9 c9 H locs 0 0 Q (F0 m9 841 ls [.int (couA t u q hs.length 5), .int (strQ t 35)])
                have hW : SW D cI cT o aT aB aS g y z ad t u hs sn q f s0 s1 s2 H := hW
                refine ej_topi (show (couA t u q hs.length 5) = strS t from lkc_5 t u q hs.length) ?_
                refine lv_icmp_ne (tgt := 884) hx hb dL_holds_841 (by decide) (fun h9 => absurd (rfl) h9) (fun _ => ?_)
                refine lv_iload_n hx hb dL_holds_844 rfl (lv_at hl 3 rfl) ?_
                refine lv_aload_n hx hb dL_holds_845 rfl (lv_at hl 0 rfl) ?_
                refine lv_bipush (v := 6) hx hb dL_holds_846 (by decide) ?_
                refine lr_count (rest := [.int (bndQ t 35)]) (w := 6) S hK hN ht0 ht1 hA hD hW hS htl  (cwV 1 hts gL_holds_X6_count rfl rfl rfl hdv_X6_count ⟨Nat.le_of_ble_eq_true rfl, Nat.le_of_ble_eq_true rfl⟩) rfl hl.1 (Nat.le_of_ble_eq_true rfl) dL_holds_848 ⟨Nat.zero_le _, Nat.zero_le _⟩ (fun H locs hW hS => ?_)
                show W p9 l e9 (eR 20 1000) s9 m9 a9 b9 t9 c9 H locs 0 0 Q (F0 m9 851 ls [.int (couA t u q hs.length 6), .int (bndQ t 35)])
                have hW : SW D cI cT o aT aB aS g y z ad t u hs sn q f s0 s1 s2 H := hW
                refine ej_topi (show (couA t u q hs.length 6) = bndS t from lkc_6 t u q hs.length) ?_
                refine lv_icmp_ne (tgt := 884) hx hb dL_holds_851 (by decide) (fun h9 => absurd (rfl) h9) (fun _ => ?_)
                refine lv_iload hx hb dL_holds_854 (lv_at hl 4 rfl) ?_
                refine lv_aload_n hx hb dL_holds_856 rfl (lv_at hl 0 rfl) ?_
                refine lv_bipush (v := 7) hx hb dL_holds_857 (by decide) ?_
                refine lr_count (rest := [.int (sumI (P_bl t) 35)]) (w := 7) S hK hN ht0 ht1 hA hD hW hS htl  (cwV 1 hts gL_holds_X6_count rfl rfl rfl hdv_X6_count ⟨Nat.le_of_ble_eq_true rfl, Nat.le_of_ble_eq_true rfl⟩) rfl hl.1 (Nat.le_of_ble_eq_true rfl) dL_holds_859 ⟨Nat.zero_le _, Nat.zero_le _⟩ (fun H locs hW hS => ?_)
                show W p9 l e9 (eR 20 1000) s9 m9 a9 b9 t9 c9 H locs 0 0 Q (F0 m9 862 ls [.int (couA t u q hs.length 7), .int (sumI (P_bl t) 35)])
                have hW : SW D cI cT o aT aB aS g y z ad t u hs sn q f s0 s1 s2 H := hW
                refine ej_topi (show (couA t u q hs.length 7) = sumI (P_bl t) 35 from lkc_7 t u q hs.length) ?_
                refine lv_icmp_ne (tgt := 884) hx hb dL_holds_862 (by decide) (fun h9 => absurd (rfl) h9) (fun _ => ?_)
                refine lv_iload hx hb dL_holds_865 (lv_at hl 10 rfl) ?_
                refine lv_bipush (v := 7) hx hb dL_holds_867 (by decide) ?_
                refine lv_icmp_lt (tgt := 884) hx hb dL_holds_869 (by decide) (fun h9 => absurd h9 (ej_nlt (a := wt) (b := 7) (by omega) (show 7 ≤ wt from by omega))) (fun _ => ?_)
                refine lv_iload hx hb dL_holds_872 (lv_at hl 10 rfl) ?_
                refine lv_sipush (v := 224) hx hb dL_holds_874 (by decide) ?_
                refine lv_icmp_gt (tgt := 884) hx hb dL_holds_877 (by decide) (fun h9 => absurd h9 (ej_nlt (a := 224) (b := wt) (by omega) (show wt ≤ 224 from by omega))) (fun _ => ?_)
                refine lv_iconst (v := 1) hx hb dL_holds_880 (by decide) ?_
                refine lv_goto (tgt := 885) hx hb dL_holds_881 (by decide) ?_
                exact hQ _ _ _ _ _ _ _ _ _ _ _ _ _ dL_holds_885 rfl (by exact ⟨rfl, rfl, rfl, rfl, rfl, rfl, rfl, rfl, rfl⟩) hW hS
              · have n_542 : k < 7 := ej_tnle (a := 7) (b := k) (by omega) (by omega) c_542
                refine lv_iload hx hb dL_holds_545 (lv_at hl 6 rfl) ?_
                refine lv_if_eq (tgt := 755) hx hb dL_holds_547 (by decide) (fun h9 => absurd h9 (show ¬ (1 : Int32) = 0 from by decide)) (fun _ => ?_)
                have hk7 : k < 7 := by omega
                obtain ⟨w, hw9, ew⟩ := ho.2.1.2 k hk7
                obtain ⟨ne, hne, ene⟩ := hhe k hk7
                obtain ⟨nn, hnn, enn⟩ := ho.2.2.2.2.2.2.2 k hk7
                have hset := st_set t k hk7
                have hpc := popc_le (stM t k) (stM_lt t k)
                obtain ⟨sb, esb⟩ : ∃ z9 : Nat, z9 = if (fwdM t 5).testBit k = true then 1 else 0 := ⟨_, rfl⟩
                rw [← esb] at hset
                have hsb1 : sb ≤ 1 := by rw [esb]; split <;> decide
                have hbn := bit_nat (fwdM_lt t 5) hk7
                rw [← esb] at hbn
                have hwa := wh_nat t hk7
                have hwp := st_ways t k
                have hwl := wh_le t k hk7
                generalize sumN (fun c => wN t k 5 0 c) 7 = wa at hwa hwp hwl
                refine lv_iload hx hb dL_holds_550 (lv_at hl 7 rfl) ?_
                refine lv_aload_n hx hb dL_holds_552 rfl (lv_at hl 0 rfl) ?_
                refine lv_iload hx hb dL_holds_553 (lv_at hl 11 rfl) ?_
                refine lv_iconst (v := 1) hx hb dL_holds_555 (by decide) ?_
                refine lr_pocket (rest := [.int (sumI (T_he u) k)]) (k := k) (w := 1) S hK hN ht0 ht1 hA hD hW hS htl (by omega) (cwV 2 hts gL_holds_X6_pocket rfl rfl rfl hdv_X6_pocket ⟨Nat.le_of_ble_eq_true rfl, Nat.le_of_ble_eq_true rfl⟩) rfl hl.1 (Nat.le_of_ble_eq_true rfl) dL_holds_556 ⟨Nat.zero_le _, Nat.zero_le _⟩ (fun H locs hW hS => ?_)
                show W p9 l e9 (eR 20 1000) s9 m9 a9 b9 t9 c9 H locs 0 0 Q (F0 m9 559 ls [.int (pocR t u k 1), .int (sumI (T_he u) k)])
                have hW : SW D cI cT o aT aB aS g y z ad t u hs sn q f s0 s1 s2 H := hW
                refine ej_topi (show (pocR t u k 1) = T_he u k from lkw_1 t u k) ?_
                refine lv_iadd hx hb dL_holds_559 ?_
                refine lv_istore (lv' := [(7, .int ((sumI (T_he u) k) + (T_he u k))), (0, .ref (o 0)), (1, .int (pinQ t 35)), (2, .int (strQ t 35)), (3, .int (bndQ t 35)), (4, .int (sumI (P_bl t) 35)), (5, .int (nI (fwdM t 5))), (6, .int 1), (8, .int (sumI (fun j => if ¬ T_he u j < T_fu u then 1 else 0) k)), (9, .int (sumI (T_en u) k)), (10, .int (sumI (whG t 5) k)), (11, .int (nI k))]) hx hb dL_holds_560 hl (by decide) rfl (fun ls hl => ?_)
                refine lv_iload hx hb dL_holds_562 (lv_at hl 8 rfl) ?_
                refine lv_aload_n hx hb dL_holds_564 rfl (lv_at hl 1 rfl) ?_
                refine lv_iload hx hb dL_holds_565 (lv_at hl 11 rfl) ?_
                refine lv_iconst (v := 2) hx hb dL_holds_567 (by decide) ?_
                refine lr_pocket (rest := [.int (sumI (fun j => if ¬ T_he u j < T_fu u then 1 else 0) k)]) (k := k) (w := 2) S hK hN ht0 ht1 hA hD hW hS htl (by omega) (cwV 2 hts gL_holds_X6_pocket rfl rfl rfl hdv_X6_pocket ⟨Nat.le_of_ble_eq_true rfl, Nat.le_of_ble_eq_true rfl⟩) rfl hl.1 (Nat.le_of_ble_eq_true rfl) dL_holds_568 ⟨Nat.zero_le _, Nat.zero_le _⟩ (fun H locs hW hS => ?_)
                show W p9 l e9 (eR 20 1000) s9 m9 a9 b9 t9 c9 H locs 0 0 Q (F0 m9 571 ls [.int (pocR t u k 2), .int (sumI (fun j => if ¬ T_he u j < T_fu u then 1 else 0) k)])
                have hW : SW D cI cT o aT aB aS g y z ad t u hs sn q f s0 s1 s2 H := hW
                refine ej_topi (show (pocR t u k 2) = if ¬ T_he u k < T_fu u then 1 else 0 from lkw_2 t u k) ?_
                refine lv_iadd hx hb dL_holds_571 ?_
                refine lv_istore (lv' := [(8, .int ((sumI (fun j => if ¬ T_he u j < T_fu u then 1 else 0) k) + (if ¬ T_he u k < T_fu u then 1 else 0))), (7, .int ((sumI (T_he u) k) + (T_he u k))), (0, .ref (o 0)), (1, .int (pinQ t 35)), (2, .int (strQ t 35)), (3, .int (bndQ t 35)), (4, .int (sumI (P_bl t) 35)), (5, .int (nI (fwdM t 5))), (6, .int 1), (9, .int (sumI (T_en u) k)), (10, .int (sumI (whG t 5) k)), (11, .int (nI k))]) hx hb dL_holds_572 hl (by decide) rfl (fun ls hl => ?_)
                refine lv_iload hx hb dL_holds_574 (lv_at hl 9 rfl) ?_
                refine lv_aload_n hx hb dL_holds_576 rfl (lv_at hl 2 rfl) ?_
                refine lv_iload hx hb dL_holds_577 (lv_at hl 11 rfl) ?_
                refine lv_iconst (v := 3) hx hb dL_holds_579 (by decide) ?_
                refine lr_pocket (rest := [.int (sumI (T_en u) k)]) (k := k) (w := 3) S hK hN ht0 ht1 hA hD hW hS htl (by omega) (cwV 2 hts gL_holds_X6_pocket rfl rfl rfl hdv_X6_pocket ⟨Nat.le_of_ble_eq_true rfl, Nat.le_of_ble_eq_true rfl⟩) rfl hl.1 (Nat.le_of_ble_eq_true rfl) dL_holds_580 ⟨Nat.zero_le _, Nat.zero_le _⟩ (fun H locs hW hS => ?_)
                show W p9 l e9 (eR 20 1000) s9 m9 a9 b9 t9 c9 H locs 0 0 Q (F0 m9 583 ls [.int (pocR t u k 3), .int (sumI (T_en u) k)])
                have hW : SW D cI cT o aT aB aS g y z ad t u hs sn q f s0 s1 s2 H := hW
                refine ej_topi (show (pocR t u k 3) = T_en u k from lkw_3 t u k) ?_
                refine lv_iadd hx hb dL_holds_583 ?_
                refine lv_istore (lv' := [(9, .int ((sumI (T_en u) k) + (T_en u k))), (8, .int ((sumI (fun j => if ¬ T_he u j < T_fu u then 1 else 0) k) + (if ¬ T_he u k < T_fu u then 1 else 0))), (7, .int ((sumI (T_he u) k) + (T_he u k))), (0, .ref (o 0)), (1, .int (pinQ t 35)), (2, .int (strQ t 35)), (3, .int (bndQ t 35)), (4, .int (sumI (P_bl t) 35)), (5, .int (nI (fwdM t 5))), (6, .int 1), (10, .int (sumI (whG t 5) k)), (11, .int (nI k))]) hx hb dL_holds_584 hl (by decide) rfl (fun ls hl => ?_)
                refine lv_iload hx hb dL_holds_586 (lv_at hl 10 rfl) ?_
                refine lv_aload_n hx hb dL_holds_588 rfl (lv_at hl 3 rfl) ?_
                refine lv_iload hx hb dL_holds_589 (lv_at hl 11 rfl) ?_
                refine lv_iconst (v := 0) hx hb dL_holds_591 (by decide) ?_
                refine lr_ways0 (rest := [.int (sumI (whG t 5) k)]) (k := k) S hK hN ht0 ht1 hA hD hW hS htl (by omega) (cwV 2 hts gL_holds_X6_ways rfl rfl rfl hdv_X6_ways ⟨Nat.le_of_ble_eq_true rfl, Nat.le_of_ble_eq_true rfl⟩) rfl hl.1 (Nat.le_of_ble_eq_true rfl) dL_holds_592 ⟨Nat.zero_le _, Nat.zero_le _⟩ (fun H locs hW hS => ?_)
                show W p9 l e9 (eR 20 1000) s9 m9 a9 b9 t9 c9 H locs 0 0 Q (F0 m9 595 ls [.int (whG t 5 k), .int (sumI (whG t 5) k)])
                have hW : SW D cI cT o aT aB aS g y z ad t u hs sn q f s0 s1 s2 H := hW
                refine lv_iadd hx hb dL_holds_595 ?_
                refine lv_istore (lv' := [(10, .int ((sumI (whG t 5) k) + (whG t 5 k))), (9, .int ((sumI (T_en u) k) + (T_en u k))), (8, .int ((sumI (fun j => if ¬ T_he u j < T_fu u then 1 else 0) k) + (if ¬ T_he u k < T_fu u then 1 else 0))), (7, .int ((sumI (T_he u) k) + (T_he u k))), (0, .ref (o 0)), (1, .int (pinQ t 35)), (2, .int (strQ t 35)), (3, .int (bndQ t 35)), (4, .int (sumI (P_bl t) 35)), (5, .int (nI (fwdM t 5))), (6, .int 1), (11, .int (nI k))]) hx hb dL_holds_596 hl (by decide) rfl (fun ls hl => ?_)
                refine lv_aload_n hx hb dL_holds_598 rfl (lv_at hl 4 rfl) ?_
                refine lv_iload hx hb dL_holds_599 (lv_at hl 11 rfl) ?_
                refine lv_iconst (v := 0) hx hb dL_holds_601 (by decide) ?_
                refine lr_pocket (rest := []) (k := k) (w := 0) S hK hN ht0 ht1 hA hD hW hS htl (by omega) (cwV 2 hts gL_holds_X6_pocket rfl rfl rfl hdv_X6_pocket ⟨Nat.le_of_ble_eq_true rfl, Nat.le_of_ble_eq_true rfl⟩) rfl hl.1 (Nat.le_of_ble_eq_true rfl) dL_holds_602 ⟨Nat.zero_le _, Nat.zero_le _⟩ (fun H locs hW hS => ?_)
                show W p9 l e9 (eR 20 1000) s9 m9 a9 b9 t9 c9 H locs 0 0 Q (F0 m9 605 ls [.int (pocR t u k 0)])
                have hW : SW D cI cT o aT aB aS g y z ad t u hs sn q f s0 s1 s2 H := hW
                refine ej_topi (show (pocR t u k 0) = T_wo u k from lkw_0 t u k) ?_
                refine ej_topi (show (T_wo u k) = nI w from ew) ?_
                refine lv_if_lt (tgt := 746) hx hb dL_holds_605 (by decide) (fun h9 => absurd h9 (ej_nlt (a := w) (b := 0) (by omega) (show 0 ≤ w from by omega))) (fun _ => ?_)
                refine lv_aload_n hx hb dL_holds_608 rfl (lv_at hl 4 rfl) ?_
                refine lv_iload hx hb dL_holds_609 (lv_at hl 11 rfl) ?_
                refine lv_iconst (v := 0) hx hb dL_holds_611 (by decide) ?_
                refine lr_pocket (rest := []) (k := k) (w := 0) S hK hN ht0 ht1 hA hD hW hS htl (by omega) (cwV 2 hts gL_holds_X6_pocket rfl rfl rfl hdv_X6_pocket ⟨Nat.le_of_ble_eq_true rfl, Nat.le_of_ble_eq_true rfl⟩) rfl hl.1 (Nat.le_of_ble_eq_true rfl) dL_holds_612 ⟨Nat.zero_le _, Nat.zero_le _⟩ (fun H locs hW hS => ?_)
                show W p9 l e9 (eR 20 1000) s9 m9 a9 b9 t9 c9 H locs 0 0 Q (F0 m9 615 ls [.int (pocR t u k 0)])
                have hW : SW D cI cT o aT aB aS g y z ad t u hs sn q f s0 s1 s2 H := hW
                refine ej_topi (show (pocR t u k 0) = T_wo u k from lkw_0 t u k) ?_
                refine ej_topi (show (T_wo u k) = nI w from ew) ?_
                refine lv_bipush (v := 9) hx hb dL_holds_615 (by decide) ?_
                refine lv_icmp_gt (tgt := 746) hx hb dL_holds_617 (by decide) (fun h9 => absurd h9 (ej_nlt (a := 9) (b := w) (by omega) (show w ≤ 9 from by omega))) (fun _ => ?_)
                refine lv_aload_n hx hb dL_holds_620 rfl (lv_at hl 4 rfl) ?_
                refine lv_iload hx hb dL_holds_621 (lv_at hl 11 rfl) ?_
                refine lv_iconst (v := 1) hx hb dL_holds_623 (by decide) ?_
                refine lr_pocket (rest := []) (k := k) (w := 1) S hK hN ht0 ht1 hA hD hW hS htl (by omega) (cwV 2 hts gL_holds_X6_pocket rfl rfl rfl hdv_X6_pocket ⟨Nat.le_of_ble_eq_true rfl, Nat.le_of_ble_eq_true rfl⟩) rfl hl.1 (Nat.le_of_ble_eq_true rfl) dL_holds_624 ⟨Nat.zero_le _, Nat.zero_le _⟩ (fun H locs hW hS => ?_)
                show W p9 l e9 (eR 20 1000) s9 m9 a9 b9 t9 c9 H locs 0 0 Q (F0 m9 627 ls [.int (pocR t u k 1)])
                have hW : SW D cI cT o aT aB aS g y z ad t u hs sn q f s0 s1 s2 H := hW
                refine ej_topi (show (pocR t u k 1) = T_he u k from lkw_1 t u k) ?_
                refine ej_topi (show (T_he u k) = nI ne from ene) ?_
                refine lv_if_lt (tgt := 746) hx hb dL_holds_627 (by decide) (fun h9 => absurd h9 (ej_nlt (a := ne) (b := 0) (by omega) (show 0 ≤ ne from by omega))) (fun _ => ?_)
                refine lv_aload_n hx hb dL_holds_630 rfl (lv_at hl 4 rfl) ?_
                refine lv_iload hx hb dL_holds_631 (lv_at hl 11 rfl) ?_
                refine lv_iconst (v := 2) hx hb dL_holds_633 (by decide) ?_
                refine lr_pocket (rest := []) (k := k) (w := 2) S hK hN ht0 ht1 hA hD hW hS htl (by omega) (cwV 2 hts gL_holds_X6_pocket rfl rfl rfl hdv_X6_pocket ⟨Nat.le_of_ble_eq_true rfl, Nat.le_of_ble_eq_true rfl⟩) rfl hl.1 (Nat.le_of_ble_eq_true rfl) dL_holds_634 ⟨Nat.zero_le _, Nat.zero_le _⟩ (fun H locs hW hS => ?_)
                show W p9 l e9 (eR 20 1000) s9 m9 a9 b9 t9 c9 H locs 0 0 Q (F0 m9 637 ls [.int (pocR t u k 2)])
                have hW : SW D cI cT o aT aB aS g y z ad t u hs sn q f s0 s1 s2 H := hW
                refine ej_topi (show (pocR t u k 2) = if ¬ T_he u k < T_fu u then 1 else 0 from lkw_2 t u k) ?_
                refine lv_aload_n hx hb dL_holds_637 rfl (lv_at hl 4 rfl) ?_
                refine lv_iload hx hb dL_holds_638 (lv_at hl 11 rfl) ?_
                refine lv_iconst (v := 1) hx hb dL_holds_640 (by decide) ?_
                refine lr_pocket (rest := [.int (if ¬ T_he u k < T_fu u then 1 else 0)]) (k := k) (w := 1) S hK hN ht0 ht1 hA hD hW hS htl (by omega) (cwV 2 hts gL_holds_X6_pocket rfl rfl rfl hdv_X6_pocket ⟨Nat.le_of_ble_eq_true rfl, Nat.le_of_ble_eq_true rfl⟩) rfl hl.1 (Nat.le_of_ble_eq_true rfl) dL_holds_641 ⟨Nat.zero_le _, Nat.zero_le _⟩ (fun H locs hW hS => ?_)
                show W p9 l e9 (eR 20 1000) s9 m9 a9 b9 t9 c9 H locs 0 0 Q (F0 m9 644 ls [.int (pocR t u k 1), .int (if ¬ T_he u k < T_fu u then 1 else 0)])
                have hW : SW D cI cT o aT aB aS g y z ad t u hs sn q f s0 s1 s2 H := hW
                refine ej_topi (show (pocR t u k 1) = T_he u k from lkw_1 t u k) ?_
                refine lv_aload_n hx hb dL_holds_644 rfl (lv_at hl 4 rfl) ?_
                refine lv_bipush (v := 16) hx hb dL_holds_645 (by decide) ?_
                refine lr_count (rest := [.int (T_he u k), .int (if ¬ T_he u k < T_fu u then 1 else 0)]) (w := 16) S hK hN ht0 ht1 hA hD hW hS htl  (cwV 1 hts gL_holds_X6_count rfl rfl rfl hdv_X6_count ⟨Nat.le_of_ble_eq_true rfl, Nat.le_of_ble_eq_true rfl⟩) rfl hl.1 (Nat.le_of_ble_eq_true rfl) dL_holds_647 ⟨Nat.zero_le _, Nat.zero_le _⟩ (fun H locs hW hS => ?_)
                show W p9 l e9 (eR 20 1000) s9 m9 a9 b9 t9 c9 H locs 0 0 Q (F0 m9 650 ls [.int (couA t u q hs.length 16), .int (T_he u k), .int (if ¬ T_he u k < T_fu u then 1 else 0)])
                have hW : SW D cI cT o aT aB aS g y z ad t u hs sn q f s0 s1 s2 H := hW
                refine ej_topi (show (couA t u q hs.length 16) = T_fu u from lkc_16 t u q hs.length) ?_
                have jp658 : ∀ (H : Heap) (locs : List Loc) (ls : Array Slot), SW D cI cT o aT aB aS g y z ad t u hs sn q f s0 s1 s2 H → va_S A H0 H locs → lv_has ls 15 [(10, .int ((sumI (whG t 5) k) + (whG t 5 k))), (9, .int ((sumI (T_en u) k) + (T_en u k))), (8, .int ((sumI (fun j => if ¬ T_he u j < T_fu u then 1 else 0) k) + (if ¬ T_he u k < T_fu u then 1 else 0))), (7, .int ((sumI (T_he u) k) + (T_he u k))), (0, .ref (o 0)), (1, .int (pinQ t 35)), (2, .int (strQ t 35)), (3, .int (bndQ t 35)), (4, .int (sumI (P_bl t) 35)), (5, .int (nI (fwdM t 5))), (6, .int 1), (11, .int (nI k))] → W p9 l e9 (eR 20 1000) s9 m9 a9 b9 t9 c9 H locs 0 0 Q (F0 m9 658 ls [.int (if ¬ T_he u k < T_fu u then 1 else 0), .int (if ¬ T_he u k < T_fu u then 1 else 0)]) := by
                  intro H locs ls hW hS hl
                  refine lv_icmp_ne (tgt := 746) hx hb dL_holds_658 (by decide) (fun h9 => absurd (rfl) h9) (fun _ => ?_)
                  refine lv_aload_n hx hb dL_holds_661 rfl (lv_at hl 4 rfl) ?_
                  refine lv_iload hx hb dL_holds_662 (lv_at hl 11 rfl) ?_
                  refine lv_iconst (v := 3) hx hb dL_holds_664 (by decide) ?_
                  refine lr_pocket (rest := []) (k := k) (w := 3) S hK hN ht0 ht1 hA hD hW hS htl (by omega) (cwV 2 hts gL_holds_X6_pocket rfl rfl rfl hdv_X6_pocket ⟨Nat.le_of_ble_eq_true rfl, Nat.le_of_ble_eq_true rfl⟩) rfl hl.1 (Nat.le_of_ble_eq_true rfl) dL_holds_665 ⟨Nat.zero_le _, Nat.zero_le _⟩ (fun H locs hW hS => ?_)
                  show W p9 l e9 (eR 20 1000) s9 m9 a9 b9 t9 c9 H locs 0 0 Q (F0 m9 668 ls [.int (pocR t u k 3)])
                  have hW : SW D cI cT o aT aB aS g y z ad t u hs sn q f s0 s1 s2 H := hW
                  refine ej_topi (show (pocR t u k 3) = T_en u k from lkw_3 t u k) ?_
                  refine ej_topi (show (T_en u k) = nI nn from enn) ?_
                  refine lv_if_lt (tgt := 746) hx hb dL_holds_668 (by decide) (fun h9 => absurd h9 (ej_nlt (a := nn) (b := 0) (by omega) (show 0 ≤ nn from by omega))) (fun _ => ?_)
                  refine lv_aload_n hx hb dL_holds_671 rfl (lv_at hl 4 rfl) ?_
                  refine lv_iload hx hb dL_holds_672 (lv_at hl 11 rfl) ?_
                  refine lv_iconst (v := 4) hx hb dL_holds_674 (by decide) ?_
                  refine lr_pocket (rest := []) (k := k) (w := 4) S hK hN ht0 ht1 hA hD hW hS htl (by omega) (cwV 2 hts gL_holds_X6_pocket rfl rfl rfl hdv_X6_pocket ⟨Nat.le_of_ble_eq_true rfl, Nat.le_of_ble_eq_true rfl⟩) rfl hl.1 (Nat.le_of_ble_eq_true rfl) dL_holds_675 ⟨Nat.zero_le _, Nat.zero_le _⟩ (fun H locs hW hS => ?_)
                  show W p9 l e9 (eR 20 1000) s9 m9 a9 b9 t9 c9 H locs 0 0 Q (F0 m9 678 ls [.int (pocR t u k 4)])
                  have hW : SW D cI cT o aT aB aS g y z ad t u hs sn q f s0 s1 s2 H := hW
                  refine ej_topi (show (pocR t u k 4) = nI (popc (stM t k)) from lkw_4 t u k) ?_
                  refine lv_iload hx hb dL_holds_678 (lv_at hl 9 rfl) ?_
                  refine lv_iload hx hb dL_holds_680 (lv_at hl 11 rfl) ?_
                  refine lv_ishr hx hb dL_holds_682 ?_
                  refine lv_iconst (v := 1) hx hb dL_holds_683 (by decide) ?_
                  refine lv_iand hx hb dL_holds_684 ?_
                  refine ej_topi (show (((nI (fwdM t 5)) >>> ((nI k) &&& 31)) &&& 1) = nI sb from hbn) ?_
                  refine lv_icmp_lt (tgt := 746) hx hb dL_holds_685 (by decide) (fun h9 => absurd h9 (ej_nlt (a := (popc (stM t k))) (b := sb) (by omega) (show sb ≤ (popc (stM t k)) from by omega))) (fun _ => ?_)
                  refine lv_aload_n hx hb dL_holds_688 rfl (lv_at hl 4 rfl) ?_
                  refine lv_iload hx hb dL_holds_689 (lv_at hl 11 rfl) ?_
                  refine lv_iconst (v := 4) hx hb dL_holds_691 (by decide) ?_
                  refine lr_pocket (rest := []) (k := k) (w := 4) S hK hN ht0 ht1 hA hD hW hS htl (by omega) (cwV 2 hts gL_holds_X6_pocket rfl rfl rfl hdv_X6_pocket ⟨Nat.le_of_ble_eq_true rfl, Nat.le_of_ble_eq_true rfl⟩) rfl hl.1 (Nat.le_of_ble_eq_true rfl) dL_holds_692 ⟨Nat.zero_le _, Nat.zero_le _⟩ (fun H locs hW hS => ?_)
                  show W p9 l e9 (eR 20 1000) s9 m9 a9 b9 t9 c9 H locs 0 0 Q (F0 m9 695 ls [.int (pocR t u k 4)])
                  have hW : SW D cI cT o aT aB aS g y z ad t u hs sn q f s0 s1 s2 H := hW
                  refine ej_topi (show (pocR t u k 4) = nI (popc (stM t k)) from lkw_4 t u k) ?_
                  refine lv_bipush (v := 7) hx hb dL_holds_695 (by decide) ?_
                  refine lv_iload hx hb dL_holds_697 (lv_at hl 9 rfl) ?_
                  refine lv_iload hx hb dL_holds_699 (lv_at hl 11 rfl) ?_
                  refine lv_ishr hx hb dL_holds_701 ?_
                  refine lv_iconst (v := 1) hx hb dL_holds_702 (by decide) ?_
                  refine lv_iand hx hb dL_holds_703 ?_
                  refine ej_topi (show (((nI (fwdM t 5)) >>> ((nI k) &&& 31)) &&& 1) = nI sb from hbn) ?_
                  refine lv_imul hx hb dL_holds_704 ?_
                  refine ej_topi (show (7 : Int32) * (nI sb) = nI (7 * sb) from pk_mul 7 sb) ?_
                  refine lv_icmp_gt (tgt := 746) hx hb dL_holds_705 (by decide) (fun h9 => absurd h9 (ej_nlt (a := (7 * sb)) (b := (popc (stM t k))) (by omega) (show (popc (stM t k)) ≤ (7 * sb) from by omega))) (fun _ => ?_)
                  refine lv_aload_n hx hb dL_holds_708 rfl (lv_at hl 4 rfl) ?_
                  refine lv_iload hx hb dL_holds_709 (lv_at hl 11 rfl) ?_
                  refine lv_iconst (v := 0) hx hb dL_holds_711 (by decide) ?_
                  refine lr_ways0 (rest := []) (k := k) S hK hN ht0 ht1 hA hD hW hS htl (by omega) (cwV 2 hts gL_holds_X6_ways rfl rfl rfl hdv_X6_ways ⟨Nat.le_of_ble_eq_true rfl, Nat.le_of_ble_eq_true rfl⟩) rfl hl.1 (Nat.le_of_ble_eq_true rfl) dL_holds_712 ⟨Nat.zero_le _, Nat.zero_le _⟩ (fun H locs hW hS => ?_)
                  show W p9 l e9 (eR 20 1000) s9 m9 a9 b9 t9 c9 H locs 0 0 Q (F0 m9 715 ls [.int (whG t 5 k)])
                  have hW : SW D cI cT o aT aB aS g y z ad t u hs sn q f s0 s1 s2 H := hW
                  refine lv_aload_n hx hb dL_holds_715 rfl (lv_at hl 4 rfl) ?_
                  refine lv_iload hx hb dL_holds_716 (lv_at hl 11 rfl) ?_
                  refine lv_iconst (v := 1) hx hb dL_holds_718 (by decide) ?_
                  refine lr_ways1 (rest := [.int (whG t 5 k)]) (k := k) S hK hN ht0 ht1 hA hD hW hS htl (by omega) (cwV 2 hts gL_holds_X6_ways rfl rfl rfl hdv_X6_ways ⟨Nat.le_of_ble_eq_true rfl, Nat.le_of_ble_eq_true rfl⟩) rfl hl.1 (Nat.le_of_ble_eq_true rfl) dL_holds_719 ⟨Nat.zero_le _, Nat.zero_le _⟩ (fun H locs hW hS => ?_)
                  show W p9 l e9 (eR 20 1000) s9 m9 a9 b9 t9 c9 H locs 0 0 Q (F0 m9 722 ls [.int (sumI (fun c => wfG t k 5 0 c) 7), .int (whG t 5 k)])
                  have hW : SW D cI cT o aT aB aS g y z ad t u hs sn q f s0 s1 s2 H := hW
                  refine lv_icmp_ne (tgt := 746) hx hb dL_holds_722 (by decide) (fun h9 => absurd (wh_wf t hk7) h9) (fun _ => ?_)
                  refine lv_aload_n hx hb dL_holds_725 rfl (lv_at hl 4 rfl) ?_
                  refine lv_iload hx hb dL_holds_726 (lv_at hl 11 rfl) ?_
                  refine lv_iconst (v := 0) hx hb dL_holds_728 (by decide) ?_
                  refine lr_ways0 (rest := []) (k := k) S hK hN ht0 ht1 hA hD hW hS htl (by omega) (cwV 2 hts gL_holds_X6_ways rfl rfl rfl hdv_X6_ways ⟨Nat.le_of_ble_eq_true rfl, Nat.le_of_ble_eq_true rfl⟩) rfl hl.1 (Nat.le_of_ble_eq_true rfl) dL_holds_729 ⟨Nat.zero_le _, Nat.zero_le _⟩ (fun H locs hW hS => ?_)
                  show W p9 l e9 (eR 20 1000) s9 m9 a9 b9 t9 c9 H locs 0 0 Q (F0 m9 732 ls [.int (whG t 5 k)])
                  have hW : SW D cI cT o aT aB aS g y z ad t u hs sn q f s0 s1 s2 H := hW
                  refine ej_topi (show (whG t 5 k) = nI wa from hwa) ?_
                  refine lv_aload_n hx hb dL_holds_732 rfl (lv_at hl 4 rfl) ?_
                  refine lv_iload hx hb dL_holds_733 (lv_at hl 11 rfl) ?_
                  refine lv_iconst (v := 4) hx hb dL_holds_735 (by decide) ?_
                  refine lr_pocket (rest := [.int (nI wa)]) (k := k) (w := 4) S hK hN ht0 ht1 hA hD hW hS htl (by omega) (cwV 2 hts gL_holds_X6_pocket rfl rfl rfl hdv_X6_pocket ⟨Nat.le_of_ble_eq_true rfl, Nat.le_of_ble_eq_true rfl⟩) rfl hl.1 (Nat.le_of_ble_eq_true rfl) dL_holds_736 ⟨Nat.zero_le _, Nat.zero_le _⟩ (fun H locs hW hS => ?_)
                  show W p9 l e9 (eR 20 1000) s9 m9 a9 b9 t9 c9 H locs 0 0 Q (F0 m9 739 ls [.int (pocR t u k 4), .int (nI wa)])
                  have hW : SW D cI cT o aT aB aS g y z ad t u hs sn q f s0 s1 s2 H := hW
                  refine ej_topi (show (pocR t u k 4) = nI (popc (stM t k)) from lkw_4 t u k) ?_
                  refine lv_icmp_lt (tgt := 746) hx hb dL_holds_739 (by decide) (fun h9 => absurd h9 (ej_nlt (a := wa) (b := (popc (stM t k))) (by omega) (show (popc (stM t k)) ≤ wa from by omega))) (fun _ => ?_)
                  refine lv_iconst (v := 1) hx hb dL_holds_742 (by decide) ?_
                  refine lv_goto (tgt := 747) hx hb dL_holds_743 (by decide) ?_
                  refine lv_istore (lv' := [(6, .int 1), (10, .int ((sumI (whG t 5) k) + (whG t 5 k))), (9, .int ((sumI (T_en u) k) + (T_en u k))), (8, .int ((sumI (fun j => if ¬ T_he u j < T_fu u then 1 else 0) k) + (if ¬ T_he u k < T_fu u then 1 else 0))), (7, .int ((sumI (T_he u) k) + (T_he u k))), (0, .ref (o 0)), (1, .int (pinQ t 35)), (2, .int (strQ t 35)), (3, .int (bndQ t 35)), (4, .int (sumI (P_bl t) 35)), (5, .int (nI (fwdM t 5))), (11, .int (nI k))]) hx hb dL_holds_747 hl (by decide) rfl (fun ls hl => ?_)
                  refine lv_iinc (v := nI (k + 1)) (lv' := [(11, .int (nI (k + 1))), (6, .int 1), (10, .int ((sumI (whG t 5) k) + (whG t 5 k))), (9, .int ((sumI (T_en u) k) + (T_en u k))), (8, .int ((sumI (fun j => if ¬ T_he u j < T_fu u then 1 else 0) k) + (if ¬ T_he u k < T_fu u then 1 else 0))), (7, .int ((sumI (T_he u) k) + (T_he u k))), (0, .ref (o 0)), (1, .int (pinQ t 35)), (2, .int (strQ t 35)), (3, .int (bndQ t 35)), (4, .int (sumI (P_bl t) 35)), (5, .int (nI (fwdM t 5)))]) hx hb dL_holds_749 hl (k := 11) rfl (nI_add k 1) (by decide) rfl (fun ls hl => ?_)
                  refine lv_goto (tgt := 538) hx hb dL_holds_752 (by decide) ?_
                  have hl : lv_has ls 15 [(0, .ref (o 0)), (1, .int (pinQ t 35)), (2, .int (strQ t 35)), (3, .int (bndQ t 35)), (4, .int (sumI (P_bl t) 35)), (5, .int (nI (fwdM t 5))), (6, .int 1), (7, .int ((sumI (T_he u) k) + (T_he u k))), (8, .int ((sumI (fun j => if ¬ T_he u j < T_fu u then 1 else 0) k) + (if ¬ T_he u k < T_fu u then 1 else 0))), (9, .int ((sumI (T_en u) k) + (T_en u k))), (10, .int ((sumI (whG t 5) k) + (whG t 5 k))), (11, .int (nI (k + 1)))] := lv_sub hl [6, 7, 8, 9, 10, 11, 1, 5, 4, 3, 2, 0] rfl
                  have hl : lv_has ls 15 [(0, .ref (o 0)), (1, .int (pinQ t 35)), (2, .int (strQ t 35)), (3, .int (bndQ t 35)), (4, .int (sumI (P_bl t) 35)), (5, .int (nI (fwdM t 5))), (6, .int 1), (7, .int (sumI (T_he u) (k + 1))), (8, .int (sumI (fun j => if ¬ T_he u j < T_fu u then 1 else 0) (k + 1))), (9, .int (sumI (T_en u) (k + 1))), (10, .int (sumI (whG t 5) (k + 1))), (11, .int (nI (k + 1)))] := by exact hl
                  exact ih538  (k + 1) (by omega) (by omega) _ _ _ hW hS hl
                refine lv_icmp_ge (tgt := 657) hx hb dL_holds_650 (by decide) (fun c_650 => ?_) (fun c_650 => ?_)
                · refine lv_iconst (v := 1) hx hb dL_holds_657 (by decide) ?_
                  refine ej_topi (show (1 : Int32) = if ¬ T_he u k < T_fu u then 1 else 0 from (by rw [if_pos (ej_xa c_650)])) ?_
                  exact jp658 _ _ _ hW hS (lv_sub hl [0, 1, 2, 3, 4, 5, 6, 7, 8, 9, 10, 11] rfl)
                · refine lv_iconst (v := 0) hx hb dL_holds_653 (by decide) ?_
                  refine lv_goto (tgt := 658) hx hb dL_holds_654 (by decide) ?_
                  refine ej_topi (show (0 : Int32) = if ¬ T_he u k < T_fu u then 1 else 0 from (by rw [if_neg (fun z => z (ej_xd c_650))])) ?_
                  exact jp658 _ _ _ hW hS (lv_sub hl [0, 1, 2, 3, 4, 5, 6, 7, 8, 9, 10, 11] rfl)
          have hl : lv_has ls 15 [(0, .ref (o 0)), (1, .int (pinQ t 35)), (2, .int (strQ t 35)), (3, .int (bndQ t 35)), (4, .int (sumI (P_bl t) 35)), (5, .int (nI (fwdM t 5))), (6, .int 1), (7, .int 0), (8, .int 0), (9, .int 0), (10, .int 0), (11, .int 0)] := lv_sub hl [5, 6, 7, 8, 9, 10, 11, 4, 3, 2, 1, 0] rfl
          have hl : lv_has ls 15 [(0, .ref (o 0)), (1, .int (pinQ t 35)), (2, .int (strQ t 35)), (3, .int (bndQ t 35)), (4, .int (sumI (P_bl t) 35)), (5, .int (nI (fwdM t 5))), (6, .int 1), (7, .int (sumI (T_he u) 0)), (8, .int (sumI (fun j => if ¬ T_he u j < T_fu u then 1 else 0) 0)), (9, .int (sumI (T_en u) 0)), (10, .int (sumI (whG t 5) 0)), (11, .int (nI 0))] := by exact hl
          exact lp538 ((7 - 0) + 1) 0 (by omega) (by omega) _ _ _ hW hS hl
        · have n_171 : r < 5 := ej_tnle (a := 5) (b := r) (by omega) (by omega) c_171
          refine lv_iload hx hb dL_holds_174 (lv_at hl 6 rfl) ?_
          refine lv_if_eq (tgt := 523) hx hb dL_holds_176 (by decide) (fun h9 => absurd h9 (show ¬ (1 : Int32) = 0 from by decide)) (fun _ => ?_)
          refine lv_iconst (v := 0) hx hb dL_holds_179 (by decide) ?_
          refine lv_istore (lv' := [(8, .int 0), (0, .ref (o 0)), (1, .int (pinQ t (7 * r))), (2, .int (strQ t (7 * r))), (3, .int (bndQ t (7 * r))), (4, .int (sumI (P_bl t) (7 * r))), (5, .int (nI (fwdM t r))), (6, .int 1), (7, .int (nI r))]) hx hb dL_holds_180 hl (by decide) rfl (fun ls hl => ?_)
          refine lv_iconst (v := 0) hx hb dL_holds_182 (by decide) ?_
          refine lv_istore (lv' := [(9, .int 0), (8, .int 0), (0, .ref (o 0)), (1, .int (pinQ t (7 * r))), (2, .int (strQ t (7 * r))), (3, .int (bndQ t (7 * r))), (4, .int (sumI (P_bl t) (7 * r))), (5, .int (nI (fwdM t r))), (6, .int 1), (7, .int (nI r))]) hx hb dL_holds_183 hl (by decide) rfl (fun ls hl => ?_)
          refine lv_iconst (v := 0) hx hb dL_holds_185 (by decide) ?_
          refine lv_istore (lv' := [(10, .int 0), (9, .int 0), (8, .int 0), (0, .ref (o 0)), (1, .int (pinQ t (7 * r))), (2, .int (strQ t (7 * r))), (3, .int (bndQ t (7 * r))), (4, .int (sumI (P_bl t) (7 * r))), (5, .int (nI (fwdM t r))), (6, .int 1), (7, .int (nI r))]) hx hb dL_holds_186 hl (by decide) rfl (fun ls hl => ?_)
          have lp188 : ∀ (n188 : Nat) (c : Nat), 7 - c < n188 → (c ≤ 7) → ∀ (H : Heap) (locs : List Loc) (ls : Array Slot), SW D cI cT o aT aB aS g y z ad t u hs sn q f s0 s1 s2 H → va_S A H0 H locs → lv_has ls 15 [(0, .ref (o 0)), (1, .int (pinQ t (7 * r + c))), (2, .int (strQ t (7 * r + c))), (3, .int (bndQ t (7 * r + c))), (4, .int (sumI (P_bl t) (7 * r + c))), (5, .int (nI (fwdM t r))), (6, .int 1), (7, .int (nI r)), (8, .int (sumI (fun j => P_vi t (7 * r + j)) c)), (9, .int (nI (belG t r (fwdM t r) c))), (10, .int (nI c))] → W p9 l e9 (eR 20 1000) s9 m9 a9 b9 t9 c9 H locs 0 0 Q (F0 m9 188 ls []) := by
            intro n188
            induction n188 with
            | zero => intro c hm9; exact absurd hm9 (Nat.not_lt_zero _)
            | succ n188 ih188 =>
              intro c hm188 hc H locs ls hW hS hl
              refine lv_iload hx hb dL_holds_188 (lv_at hl 10 rfl) ?_
              refine lv_bipush (v := 7) hx hb dL_holds_190 (by decide) ?_
              refine lv_icmp_ge (tgt := 490) hx hb dL_holds_192 (by decide) (fun c_192 => ?_) (fun c_192 => ?_)
              · have n_192 : 7 ≤ c := ej_tle (a := 7) (b := c) (by omega) (by omega) c_192
                refine lv_iload hx hb dL_holds_490 (lv_at hl 9 rfl) ?_
                refine lv_istore (lv' := [(5, .int (nI (belG t r (fwdM t r) c))), (0, .ref (o 0)), (1, .int (pinQ t (7 * r + c))), (2, .int (strQ t (7 * r + c))), (3, .int (bndQ t (7 * r + c))), (4, .int (sumI (P_bl t) (7 * r + c))), (6, .int 1), (7, .int (nI r)), (8, .int (sumI (fun j => P_vi t (7 * r + j)) c)), (9, .int (nI (belG t r (fwdM t r) c))), (10, .int (nI c))]) hx hb dL_holds_492 hl (by decide) rfl (fun ls hl => ?_)
                refine lv_iload hx hb dL_holds_494 (lv_at hl 6 rfl) ?_
                refine lv_if_eq (tgt := 514) hx hb dL_holds_496 (by decide) (fun h9 => absurd h9 (show ¬ (1 : Int32) = 0 from by decide)) (fun _ => ?_)
                refine lv_iload hx hb dL_holds_499 (lv_at hl 8 rfl) ?_
                refine lv_aload_n hx hb dL_holds_501 rfl (lv_at hl 1 rfl) ?_
                refine lv_bipush (v := 10) hx hb dL_holds_502 (by decide) ?_
                refine lr_count (rest := [.int (sumI (fun j => P_vi t (7 * r + j)) c)]) (w := 10) S hK hN ht0 ht1 hA hD hW hS htl  (cwV 1 hts gL_holds_X6_count rfl rfl rfl hdv_X6_count ⟨Nat.le_of_ble_eq_true rfl, Nat.le_of_ble_eq_true rfl⟩) rfl hl.1 (Nat.le_of_ble_eq_true rfl) dL_holds_504 ⟨Nat.zero_le _, Nat.zero_le _⟩ (fun H locs hW hS => ?_)
                show W p9 l e9 (eR 20 1000) s9 m9 a9 b9 t9 c9 H locs 0 0 Q (F0 m9 507 ls [.int (couA t u q hs.length 10), .int (sumI (fun j => P_vi t (7 * r + j)) c)])
                have hW : SW D cI cT o aT aB aS g y z ad t u hs sn q f s0 s1 s2 H := hW
                refine ej_topi (show (couA t u q hs.length 10) = T_sh u from lkc_10 t u q hs.length) ?_
                refine lv_icmp_ne (tgt := 514) hx hb dL_holds_507 (by decide) (fun h9 => absurd ((by rw [show c = 7 by omega]; exact hrows r (by omega))) h9) (fun _ => ?_)
                refine lv_iconst (v := 1) hx hb dL_holds_510 (by decide) ?_
                refine lv_goto (tgt := 515) hx hb dL_holds_511 (by decide) ?_
                refine lv_istore (lv' := [(6, .int 1), (5, .int (nI (belG t r (fwdM t r) c))), (0, .ref (o 0)), (1, .int (pinQ t (7 * r + c))), (2, .int (strQ t (7 * r + c))), (3, .int (bndQ t (7 * r + c))), (4, .int (sumI (P_bl t) (7 * r + c))), (7, .int (nI r)), (8, .int (sumI (fun j => P_vi t (7 * r + j)) c)), (9, .int (nI (belG t r (fwdM t r) c))), (10, .int (nI c))]) hx hb dL_holds_515 hl (by decide) rfl (fun ls hl => ?_)
                refine lv_iinc (v := nI (r + 1)) (lv' := [(7, .int (nI (r + 1))), (6, .int 1), (5, .int (nI (belG t r (fwdM t r) c))), (0, .ref (o 0)), (1, .int (pinQ t (7 * r + c))), (2, .int (strQ t (7 * r + c))), (3, .int (bndQ t (7 * r + c))), (4, .int (sumI (P_bl t) (7 * r + c))), (8, .int (sumI (fun j => P_vi t (7 * r + j)) c)), (9, .int (nI (belG t r (fwdM t r) c))), (10, .int (nI c))]) hx hb dL_holds_517 hl (k := 7) rfl (nI_add r 1) (by decide) rfl (fun ls hl => ?_)
                refine lv_goto (tgt := 168) hx hb dL_holds_520 (by decide) ?_
                have hl : lv_has ls 15 [(0, .ref (o 0)), (1, .int (pinQ t (7 * r + c))), (2, .int (strQ t (7 * r + c))), (3, .int (bndQ t (7 * r + c))), (4, .int (sumI (P_bl t) (7 * r + c))), (5, .int (nI (belG t r (fwdM t r) c))), (6, .int 1), (7, .int (nI (r + 1)))] := lv_sub hl [3, 4, 5, 6, 7, 2, 1, 0] rfl
                have hl : lv_has ls 15 [(0, .ref (o 0)), (1, .int (pinQ t (7 * (r + 1)))), (2, .int (strQ t (7 * (r + 1)))), (3, .int (bndQ t (7 * (r + 1)))), (4, .int (sumI (P_bl t) (7 * (r + 1)))), (5, .int (nI (fwdM t (r + 1)))), (6, .int 1), (7, .int (nI (r + 1)))] := by rw [show c = 7 by omega] at hl; exact hl
                exact ih168  (r + 1) (by omega) (by omega) _ _ _ hW hS hl
              · have n_192 : c < 7 := ej_tnle (a := 7) (b := c) (by omega) (by omega) c_192
                refine lv_bipush (v := 7) hx hb dL_holds_195 (by decide) ?_
                refine lv_iload hx hb dL_holds_197 (lv_at hl 7 rfl) ?_
                refine lv_imul hx hb dL_holds_199 ?_
                refine ej_topi (show (7 : Int32) * (nI r) = nI (7 * r) from pk_mul 7 r) ?_
                refine lv_iload hx hb dL_holds_200 (lv_at hl 10 rfl) ?_
                refine lv_iadd hx hb dL_holds_202 ?_
                refine ej_topi (show ((nI (7 * r)) + (nI c)) = nI (7 * r + c) from (by rw [nI_add])) ?_
                refine lv_istore (lv' := [(11, .int (nI (7 * r + c))), (0, .ref (o 0)), (1, .int (pinQ t (7 * r + c))), (2, .int (strQ t (7 * r + c))), (3, .int (bndQ t (7 * r + c))), (4, .int (sumI (P_bl t) (7 * r + c))), (5, .int (nI (fwdM t r))), (6, .int 1), (7, .int (nI r)), (8, .int (sumI (fun j => P_vi t (7 * r + j)) c)), (9, .int (nI (belG t r (fwdM t r) c))), (10, .int (nI c))]) hx hb dL_holds_203 hl (by decide) rfl (fun ls hl => ?_)
                refine lv_aload_n hx hb dL_holds_205 rfl (lv_at hl 1 rfl) ?_
                refine lv_iload hx hb dL_holds_206 (lv_at hl 0 rfl) ?_
                refine lv_iconst (v := 0) hx hb dL_holds_208 (by decide) ?_
                refine lr_pin (rest := []) (k := 7 * r + c) (w := 0) S hK hN ht0 ht1 hA hD hW hS htl (by omega) (cwV 2 hts gL_holds_X6_pin rfl rfl rfl hdv_X6_pin ⟨Nat.le_of_ble_eq_true rfl, Nat.le_of_ble_eq_true rfl⟩) rfl hl.1 (Nat.le_of_ble_eq_true rfl) dL_holds_209 ⟨Nat.zero_le _, Nat.zero_le _⟩ (fun H locs hW hS => ?_)
                show W p9 l e9 (eR 20 1000) s9 m9 a9 b9 t9 c9 H locs 0 0 Q (F0 m9 212 ls [.int (pinR t (7 * r + c) 0)])
                have hW : SW D cI cT o aT aB aS g y z ad t u hs sn q f s0 s1 s2 H := hW
                refine ej_topi (show (pinR t (7 * r + c) 0) = if P_ou t (7 * r + c) = 0 then P_be t (7 * r + c) + 3 else -4 from lkp_0 t (7 * r + c)) ?_
                have hp35 : 7 * r + c < 35 := by omega
                rcases pin_ok ho (7 * r + c) hp35 with ⟨hou, hbe⟩ | ⟨hou, b, hb6, hbe⟩
                · refine ej_topi (pr_none hou) ?_
                  have hQp := pinQ_out hou
                  have hQs := strQ_0 (t := t) (p := 7 * r + c) (fun z => absurd (z.1.symm.trans hou) (by decide))
                  have hQb := bndQ_out hbe
                  refine lv_istore (lv' := [(12, .int (-4)), (11, .int (nI (7 * r + c))), (0, .ref (o 0)), (1, .int (pinQ t (7 * r + c))), (2, .int (strQ t (7 * r + c))), (3, .int (bndQ t (7 * r + c))), (4, .int (sumI (P_bl t) (7 * r + c))), (5, .int (nI (fwdM t r))), (6, .int 1), (7, .int (nI r)), (8, .int (sumI (fun j => P_vi t (7 * r + j)) c)), (9, .int (nI (belG t r (fwdM t r) c))), (10, .int (nI c))]) hx hb dL_holds_212 hl (by decide) rfl (fun ls hl => ?_)
                  refine lv_iload hx hb dL_holds_214 (lv_at hl 0 rfl) ?_
                  refine lv_bipush (v := (-4)) hx hb dL_holds_216 (by decide) ?_
                  refine lv_icmp_ne (tgt := 225) hx hb dL_holds_218 (by decide) (fun h9 => absurd (show ((-4) : Int32) = (-4) from by decide) h9) (fun _ => ?_)
                  refine lv_iconst (v := 1) hx hb dL_holds_221 (by decide) ?_
                  refine lv_goto (tgt := 226) hx hb dL_holds_222 (by decide) ?_
                  refine lv_istore (lv' := [(13, .int 1), (12, .int (-4)), (11, .int (nI (7 * r + c))), (0, .ref (o 0)), (1, .int (pinQ t (7 * r + c))), (2, .int (strQ t (7 * r + c))), (3, .int (bndQ t (7 * r + c))), (4, .int (sumI (P_bl t) (7 * r + c))), (5, .int (nI (fwdM t r))), (6, .int 1), (7, .int (nI r)), (8, .int (sumI (fun j => P_vi t (7 * r + j)) c)), (9, .int (nI (belG t r (fwdM t r) c))), (10, .int (nI c))]) hx hb dL_holds_226 hl (by decide) rfl (fun ls hl => ?_)
                  refine lv_iload hx hb dL_holds_228 (lv_at hl 0 rfl) ?_
                  refine lv_if_eq (tgt := 238) hx hb dL_holds_230 (by decide) (fun h9 => absurd h9 (show ¬ (1 : Int32) = 0 from by decide)) (fun _ => ?_)
                  refine lv_bipush (v := 46) hx hb dL_holds_233 (by decide) ?_
                  refine lv_goto (tgt := 278) hx hb dL_holds_235 (by decide) ?_
                  refine lv_istore (lv' := [(14, .int 46), (13, .int 1), (12, .int (-4)), (11, .int (nI (7 * r + c))), (0, .ref (o 0)), (1, .int (pinQ t (7 * r + c))), (2, .int (strQ t (7 * r + c))), (3, .int (bndQ t (7 * r + c))), (4, .int (sumI (P_bl t) (7 * r + c))), (5, .int (nI (fwdM t r))), (6, .int 1), (7, .int (nI r)), (8, .int (sumI (fun j => P_vi t (7 * r + j)) c)), (9, .int (nI (belG t r (fwdM t r) c))), (10, .int (nI c))]) hx hb dL_holds_278 hl (by decide) rfl (fun ls hl => ?_)
                  refine lv_iload hx hb dL_holds_280 (lv_at hl 12 rfl) ?_
                  refine lv_aload_n hx hb dL_holds_282 rfl (lv_at hl 4 rfl) ?_
                  refine lv_iload hx hb dL_holds_283 (lv_at hl 3 rfl) ?_
                  refine lv_iconst (v := 3) hx hb dL_holds_285 (by decide) ?_
                  refine lr_pin (rest := [.int (sumI (fun j => P_vi t (7 * r + j)) c)]) (k := 7 * r + c) (w := 3) S hK hN ht0 ht1 hA hD hW hS htl (by omega) (cwV 2 hts gL_holds_X6_pin rfl rfl rfl hdv_X6_pin ⟨Nat.le_of_ble_eq_true rfl, Nat.le_of_ble_eq_true rfl⟩) rfl hl.1 (Nat.le_of_ble_eq_true rfl) dL_holds_286 ⟨Nat.zero_le _, Nat.zero_le _⟩ (fun H locs hW hS => ?_)
                  show W p9 l e9 (eR 20 1000) s9 m9 a9 b9 t9 c9 H locs 0 0 Q (F0 m9 289 ls [.int (pinR t (7 * r + c) 3), .int (sumI (fun j => P_vi t (7 * r + j)) c)])
                  have hW : SW D cI cT o aT aB aS g y z ad t u hs sn q f s0 s1 s2 H := hW
                  refine ej_topi (show (pinR t (7 * r + c) 3) = P_vi t (7 * r + c) from lkp_3 t (7 * r + c)) ?_
                  refine lv_iadd hx hb dL_holds_289 ?_
                  refine lv_istore (lv' := [(8, .int ((sumI (fun j => P_vi t (7 * r + j)) c) + (P_vi t (7 * r + c)))), (14, .int 46), (13, .int 1), (12, .int (-4)), (11, .int (nI (7 * r + c))), (0, .ref (o 0)), (1, .int (pinQ t (7 * r + c))), (2, .int (strQ t (7 * r + c))), (3, .int (bndQ t (7 * r + c))), (4, .int (sumI (P_bl t) (7 * r + c))), (5, .int (nI (fwdM t r))), (6, .int 1), (7, .int (nI r)), (9, .int (nI (belG t r (fwdM t r) c))), (10, .int (nI c))]) hx hb dL_holds_290 hl (by decide) rfl (fun ls hl => ?_)
                  refine lv_iload_n hx hb dL_holds_292 rfl (lv_at hl 6 rfl) ?_
                  refine lv_iload hx hb dL_holds_293 (lv_at hl 2 rfl) ?_
                  refine lv_if_eq (tgt := 302) hx hb dL_holds_295 (by decide) (fun h9 => absurd h9 (show ¬ (1 : Int32) = 0 from by decide)) (fun _ => ?_)
                  refine lv_iconst (v := 0) hx hb dL_holds_298 (by decide) ?_
                  refine lv_goto (tgt := 303) hx hb dL_holds_299 (by decide) ?_
                  refine lv_iadd hx hb dL_holds_303 ?_
                  refine ej_topi (show ((pinQ t (7 * r + c)) + 0) = pinQ t (7 * r + c + 1) from hQp) ?_
                  refine lv_istore_n (lv' := [(1, .int (pinQ t (7 * r + c + 1))), (8, .int ((sumI (fun j => P_vi t (7 * r + j)) c) + (P_vi t (7 * r + c)))), (14, .int 46), (13, .int 1), (12, .int (-4)), (11, .int (nI (7 * r + c))), (0, .ref (o 0)), (2, .int (strQ t (7 * r + c))), (3, .int (bndQ t (7 * r + c))), (4, .int (sumI (P_bl t) (7 * r + c))), (5, .int (nI (fwdM t r))), (6, .int 1), (7, .int (nI r)), (9, .int (nI (belG t r (fwdM t r) c))), (10, .int (nI c))]) hx hb dL_holds_304 rfl hl (by decide) rfl (fun ls hl => ?_)
                  refine lv_iload_n hx hb dL_holds_305 rfl (lv_at hl 7 rfl) ?_
                  refine lv_iload hx hb dL_holds_306 (lv_at hl 4 rfl) ?_
                  refine lv_iconst (v := 3) hx hb dL_holds_308 (by decide) ?_
                  refine lv_icmp_ne (tgt := 316) hx hb dL_holds_309 (by decide) (fun _ => ?_) (fun h9 => absurd h9 (show ¬ ((-4) : Int32) = 3 from by decide))
                  refine lv_iconst (v := 0) hx hb dL_holds_316 (by decide) ?_
                  refine lv_iadd hx hb dL_holds_317 ?_
                  refine ej_topi (show ((strQ t (7 * r + c)) + 0) = strQ t (7 * r + c + 1) from hQs) ?_
                  refine lv_istore_n (lv' := [(2, .int (strQ t (7 * r + c + 1))), (1, .int (pinQ t (7 * r + c + 1))), (8, .int ((sumI (fun j => P_vi t (7 * r + j)) c) + (P_vi t (7 * r + c)))), (14, .int 46), (13, .int 1), (12, .int (-4)), (11, .int (nI (7 * r + c))), (0, .ref (o 0)), (3, .int (bndQ t (7 * r + c))), (4, .int (sumI (P_bl t) (7 * r + c))), (5, .int (nI (fwdM t r))), (6, .int 1), (7, .int (nI r)), (9, .int (nI (belG t r (fwdM t r) c))), (10, .int (nI c))]) hx hb dL_holds_318 rfl hl (by decide) rfl (fun ls hl => ?_)
                  refine lv_iload_n hx hb dL_holds_319 rfl (lv_at hl 8 rfl) ?_
                  refine lv_iload hx hb dL_holds_320 (lv_at hl 4 rfl) ?_
                  refine lv_if_eq (tgt := 329) hx hb dL_holds_322 (by decide) (fun h9 => absurd h9 (show ¬ (1 : Int32) = 0 from by decide)) (fun _ => ?_)
                  refine lv_iconst (v := 0) hx hb dL_holds_325 (by decide) ?_
                  refine lv_goto (tgt := 346) hx hb dL_holds_326 (by decide) ?_
                  refine lv_iadd hx hb dL_holds_346 ?_
                  refine ej_topi (show ((bndQ t (7 * r + c)) + 0) = bndQ t (7 * r + c + 1) from hQb) ?_
                  refine lv_istore_n (lv' := [(3, .int (bndQ t (7 * r + c + 1))), (2, .int (strQ t (7 * r + c + 1))), (1, .int (pinQ t (7 * r + c + 1))), (8, .int ((sumI (fun j => P_vi t (7 * r + j)) c) + (P_vi t (7 * r + c)))), (14, .int 46), (13, .int 1), (12, .int (-4)), (11, .int (nI (7 * r + c))), (0, .ref (o 0)), (4, .int (sumI (P_bl t) (7 * r + c))), (5, .int (nI (fwdM t r))), (6, .int 1), (7, .int (nI r)), (9, .int (nI (belG t r (fwdM t r) c))), (10, .int (nI c))]) hx hb dL_holds_347 rfl hl (by decide) rfl (fun ls hl => ?_)
                  refine lv_iload hx hb dL_holds_348 (lv_at hl 9 rfl) ?_
                  refine lv_aload_n hx hb dL_holds_350 rfl (lv_at hl 8 rfl) ?_
                  refine lv_iload hx hb dL_holds_351 (lv_at hl 7 rfl) ?_
                  refine lv_iconst (v := 1) hx hb dL_holds_353 (by decide) ?_
                  refine lr_pin (rest := [.int (sumI (P_bl t) (7 * r + c))]) (k := 7 * r + c) (w := 1) S hK hN ht0 ht1 hA hD hW hS htl (by omega) (cwV 2 hts gL_holds_X6_pin rfl rfl rfl hdv_X6_pin ⟨Nat.le_of_ble_eq_true rfl, Nat.le_of_ble_eq_true rfl⟩) rfl hl.1 (Nat.le_of_ble_eq_true rfl) dL_holds_354 ⟨Nat.zero_le _, Nat.zero_le _⟩ (fun H locs hW hS => ?_)
                  show W p9 l e9 (eR 20 1000) s9 m9 a9 b9 t9 c9 H locs 0 0 Q (F0 m9 357 ls [.int (pinR t (7 * r + c) 1), .int (sumI (P_bl t) (7 * r + c))])
                  have hW : SW D cI cT o aT aB aS g y z ad t u hs sn q f s0 s1 s2 H := hW
                  refine ej_topi (show (pinR t (7 * r + c) 1) = P_bl t (7 * r + c) from lkp_1 t (7 * r + c)) ?_
                  refine lv_iadd hx hb dL_holds_357 ?_
                  refine lv_istore (lv' := [(4, .int ((sumI (P_bl t) (7 * r + c)) + (P_bl t (7 * r + c)))), (3, .int (bndQ t (7 * r + c + 1))), (2, .int (strQ t (7 * r + c + 1))), (1, .int (pinQ t (7 * r + c + 1))), (8, .int ((sumI (fun j => P_vi t (7 * r + j)) c) + (P_vi t (7 * r + c)))), (14, .int 46), (13, .int 1), (12, .int (-4)), (11, .int (nI (7 * r + c))), (0, .ref (o 0)), (5, .int (nI (fwdM t r))), (6, .int 1), (7, .int (nI r)), (9, .int (nI (belG t r (fwdM t r) c))), (10, .int (nI c))]) hx hb dL_holds_358 hl (by decide) rfl (fun ls hl => ?_)
                  refine lv_iload hx hb dL_holds_360 (lv_at hl 13 rfl) ?_
                  refine lv_iload hx hb dL_holds_362 (lv_at hl 10 rfl) ?_
                  refine lv_iload hx hb dL_holds_364 (lv_at hl 14 rfl) ?_
                  refine lv_ishr hx hb dL_holds_366 ?_
                  refine lv_iconst (v := 1) hx hb dL_holds_367 (by decide) ?_
                  refine lv_iand hx hb dL_holds_368 ?_
                  refine ej_topi (show (((nI (fwdM t r)) >>> ((nI c) &&& 31)) &&& 1) = if (fwdM t r).testBit c = true then 1 else 0 from bit_ok (fwdM t r) (fwdM_lt t r) c (by omega)) ?_
                  refine lv_iconst (v := 1) hx hb dL_holds_369 (by decide) ?_
                  have jp383 : ∀ (H : Heap) (locs : List Loc) (ls : Array Slot), SW D cI cT o aT aB aS g y z ad t u hs sn q f s0 s1 s2 H → va_S A H0 H locs → lv_has ls 15 [(4, .int ((sumI (P_bl t) (7 * r + c)) + (P_bl t (7 * r + c)))), (3, .int (bndQ t (7 * r + c + 1))), (2, .int (strQ t (7 * r + c + 1))), (1, .int (pinQ t (7 * r + c + 1))), (8, .int ((sumI (fun j => P_vi t (7 * r + j)) c) + (P_vi t (7 * r + c)))), (14, .int 46), (13, .int 1), (12, .int (-4)), (11, .int (nI (7 * r + c))), (0, .ref (o 0)), (5, .int (nI (fwdM t r))), (6, .int 1), (7, .int (nI r)), (9, .int (nI (belG t r (fwdM t r) c))), (10, .int (nI c))] → W p9 l e9 (eR 20 1000) s9 m9 a9 b9 t9 c9 H locs 0 0 Q (F0 m9 383 ls [.int (nI (if (fwdM t r).testBit c = true then nextM t (7 * r + c) else 0)), .int (nI (belG t r (fwdM t r) c))]) := by
                    intro H locs ls hW hS hl
                    refine lv_ior hx hb dL_holds_383 ?_
                    refine ej_topi (show ((nI (belG t r (fwdM t r) c)) ||| (nI (if (fwdM t r).testBit c = true then nextM t (7 * r + c) else 0))) = nI (belG t r (fwdM t r) (c + 1)) from belS t r (fwdM t r) c) ?_
                    refine lv_istore (lv' := [(9, .int (nI (belG t r (fwdM t r) (c + 1)))), (4, .int ((sumI (P_bl t) (7 * r + c)) + (P_bl t (7 * r + c)))), (3, .int (bndQ t (7 * r + c + 1))), (2, .int (strQ t (7 * r + c + 1))), (1, .int (pinQ t (7 * r + c + 1))), (8, .int ((sumI (fun j => P_vi t (7 * r + j)) c) + (P_vi t (7 * r + c)))), (14, .int 46), (13, .int 1), (12, .int (-4)), (11, .int (nI (7 * r + c))), (0, .ref (o 0)), (5, .int (nI (fwdM t r))), (6, .int 1), (7, .int (nI r)), (10, .int (nI c))]) hx hb dL_holds_384 hl (by decide) rfl (fun ls hl => ?_)
                    refine lv_iload hx hb dL_holds_386 (lv_at hl 12 rfl) ?_
                    refine lv_if_eq (tgt := 481) hx hb dL_holds_388 (by decide) (fun h9 => absurd h9 (show ¬ (1 : Int32) = 0 from by decide)) (fun _ => ?_)
                    refine lv_iload hx hb dL_holds_391 (lv_at hl 7 rfl) ?_
                    refine lv_if_ne (tgt := 408) hx hb dL_holds_393 (by decide) (fun _ => ?_) (fun h9 => absurd h9 (show ¬ (1 : Int32) = 0 from by decide))
                    refine lv_iload hx hb dL_holds_408 (lv_at hl 7 rfl) ?_
                    refine lv_if_eq (tgt := 428) hx hb dL_holds_410 (by decide) (fun h9 => absurd h9 (show ¬ (1 : Int32) = 0 from by decide)) (fun _ => ?_)
                    refine lv_aload_n hx hb dL_holds_413 rfl (lv_at hl 10 rfl) ?_
                    refine lv_iload hx hb dL_holds_414 (lv_at hl 9 rfl) ?_
                    refine lv_iconst (v := 2) hx hb dL_holds_416 (by decide) ?_
                    refine lr_pin (rest := []) (k := 7 * r + c) (w := 2) S hK hN ht0 ht1 hA hD hW hS htl (by omega) (cwV 2 hts gL_holds_X6_pin rfl rfl rfl hdv_X6_pin ⟨Nat.le_of_ble_eq_true rfl, Nat.le_of_ble_eq_true rfl⟩) rfl hl.1 (Nat.le_of_ble_eq_true rfl) dL_holds_417 ⟨Nat.zero_le _, Nat.zero_le _⟩ (fun H locs hW hS => ?_)
                    show W p9 l e9 (eR 20 1000) s9 m9 a9 b9 t9 c9 H locs 0 0 Q (F0 m9 420 ls [.int (pinR t (7 * r + c) 2)])
                    have hW : SW D cI cT o aT aB aS g y z ad t u hs sn q f s0 s1 s2 H := hW
                    refine ej_topi (show (pinR t (7 * r + c) 2) = if P_ou t (7 * r + c) = 0 then P_si t (7 * r + c) else -4 from lkp_2 t (7 * r + c)) ?_
                    refine ej_topi (show (if P_ou t (7 * r + c) = 0 then P_si t (7 * r + c) else -4) = (-4) from (if_neg (by rw [hou]; decide))) ?_
                    refine lv_bipush (v := (-4)) hx hb dL_holds_420 (by decide) ?_
                    refine lv_icmp_ne (tgt := 481) hx hb dL_holds_422 (by decide) (fun h9 => absurd (show ((-4) : Int32) = (-4) from by decide) h9) (fun _ => ?_)
                    refine lv_goto (tgt := 449) hx hb dL_holds_425 (by decide) ?_
                    refine lv_aload_n hx hb dL_holds_449 rfl (lv_at hl 10 rfl) ?_
                    refine lv_iload hx hb dL_holds_450 (lv_at hl 9 rfl) ?_
                    refine lv_iconst (v := 4) hx hb dL_holds_452 (by decide) ?_
                    refine lr_pin (rest := []) (k := 7 * r + c) (w := 4) S hK hN ht0 ht1 hA hD hW hS htl (by omega) (cwV 2 hts gL_holds_X6_pin rfl rfl rfl hdv_X6_pin ⟨Nat.le_of_ble_eq_true rfl, Nat.le_of_ble_eq_true rfl⟩) rfl hl.1 (Nat.le_of_ble_eq_true rfl) dL_holds_453 ⟨Nat.zero_le _, Nat.zero_le _⟩ (fun H locs hW hS => ?_)
                    show W p9 l e9 (eR 20 1000) s9 m9 a9 b9 t9 c9 H locs 0 0 Q (F0 m9 456 ls [.int (pinR t (7 * r + c) 4)])
                    have hW : SW D cI cT o aT aB aS g y z ad t u hs sn q f s0 s1 s2 H := hW
                    refine ej_topi (show (pinR t (7 * r + c) 4) = if (fwdM t ((7 * r + c) / 7)).testBit ((7 * r + c) % 7) = true then 1 else 0 from lkp_4 t (7 * r + c)) ?_
                    refine ej_topi (show (if (fwdM t ((7 * r + c) / 7)).testBit ((7 * r + c) % 7) = true then 1 else 0) = if (fwdM t r).testBit c = true then 1 else 0 from (by rw [show (7 * r + c) / 7 = r by omega, show (7 * r + c) % 7 = c by omega])) ?_
                    refine lv_iload hx hb dL_holds_456 (lv_at hl 11 rfl) ?_
                    refine lv_iload hx hb dL_holds_458 (lv_at hl 14 rfl) ?_
                    refine lv_ishr hx hb dL_holds_460 ?_
                    refine lv_iconst (v := 1) hx hb dL_holds_461 (by decide) ?_
                    refine lv_iand hx hb dL_holds_462 ?_
                    refine ej_topi (show (((nI (fwdM t r)) >>> ((nI c) &&& 31)) &&& 1) = if (fwdM t r).testBit c = true then 1 else 0 from bit_ok (fwdM t r) (fwdM_lt t r) c (by omega)) ?_
                    refine lv_icmp_ne (tgt := 481) hx hb dL_holds_463 (by decide) (fun h9 => absurd (rfl) h9) (fun _ => ?_)
                    refine lv_aload_n hx hb dL_holds_466 rfl (lv_at hl 10 rfl) ?_
                    refine lv_iload hx hb dL_holds_467 (lv_at hl 9 rfl) ?_
                    refine lr_sign (rest := []) (k := 7 * r + c) S hK hN ht0 ht1 hA hD hW hS htl (by omega) (cwV 1 hts gL_holds_X6_sign rfl rfl rfl hdv_X6_sign ⟨Nat.le_of_ble_eq_true rfl, Nat.le_of_ble_eq_true rfl⟩) rfl hl.1 (Nat.le_of_ble_eq_true rfl) dL_holds_469 ⟨Nat.zero_le _, Nat.zero_le _⟩ (fun H locs hW hS => ?_)
                    show W p9 l e9 (eR 20 1000) s9 m9 a9 b9 t9 c9 H locs 0 0 Q (F0 m9 472 ls [.int (signI t (7 * r + c))])
                    have hW : SW D cI cT o aT aB aS g y z ad t u hs sn q f s0 s1 s2 H := hW
                    refine lv_iload hx hb dL_holds_472 (lv_at hl 6 rfl) ?_
                    refine lv_icmp_ne (tgt := 481) hx hb dL_holds_474 (by decide) (fun h9 => absurd ((sg_out hou)) h9) (fun _ => ?_)
                    refine lv_iconst (v := 1) hx hb dL_holds_477 (by decide) ?_
                    refine lv_goto (tgt := 482) hx hb dL_holds_478 (by decide) ?_
                    refine lv_istore (lv' := [(6, .int 1), (9, .int (nI (belG t r (fwdM t r) (c + 1)))), (4, .int ((sumI (P_bl t) (7 * r + c)) + (P_bl t (7 * r + c)))), (3, .int (bndQ t (7 * r + c + 1))), (2, .int (strQ t (7 * r + c + 1))), (1, .int (pinQ t (7 * r + c + 1))), (8, .int ((sumI (fun j => P_vi t (7 * r + j)) c) + (P_vi t (7 * r + c)))), (14, .int 46), (13, .int 1), (12, .int (-4)), (11, .int (nI (7 * r + c))), (0, .ref (o 0)), (5, .int (nI (fwdM t r))), (7, .int (nI r)), (10, .int (nI c))]) hx hb dL_holds_482 hl (by decide) rfl (fun ls hl => ?_)
                    refine lv_iinc (v := nI (c + 1)) (lv' := [(10, .int (nI (c + 1))), (6, .int 1), (9, .int (nI (belG t r (fwdM t r) (c + 1)))), (4, .int ((sumI (P_bl t) (7 * r + c)) + (P_bl t (7 * r + c)))), (3, .int (bndQ t (7 * r + c + 1))), (2, .int (strQ t (7 * r + c + 1))), (1, .int (pinQ t (7 * r + c + 1))), (8, .int ((sumI (fun j => P_vi t (7 * r + j)) c) + (P_vi t (7 * r + c)))), (14, .int 46), (13, .int 1), (12, .int (-4)), (11, .int (nI (7 * r + c))), (0, .ref (o 0)), (5, .int (nI (fwdM t r))), (7, .int (nI r))]) hx hb dL_holds_484 hl (k := 14) rfl (nI_add c 1) (by decide) rfl (fun ls hl => ?_)
                    refine lv_goto (tgt := 188) hx hb dL_holds_487 (by decide) ?_
                    have hl : lv_has ls 15 [(0, .ref (o 0)), (1, .int (pinQ t (7 * r + c + 1))), (2, .int (strQ t (7 * r + c + 1))), (3, .int (bndQ t (7 * r + c + 1))), (4, .int ((sumI (P_bl t) (7 * r + c)) + (P_bl t (7 * r + c)))), (5, .int (nI (fwdM t r))), (6, .int 1), (7, .int (nI r)), (8, .int ((sumI (fun j => P_vi t (7 * r + j)) c) + (P_vi t (7 * r + c)))), (9, .int (nI (belG t r (fwdM t r) (c + 1)))), (10, .int (nI (c + 1)))] := lv_sub hl [12, 6, 5, 4, 3, 13, 1, 14, 7, 2, 0] rfl
                    have hl : lv_has ls 15 [(0, .ref (o 0)), (1, .int (pinQ t (7 * r + (c + 1)))), (2, .int (strQ t (7 * r + (c + 1)))), (3, .int (bndQ t (7 * r + (c + 1)))), (4, .int (sumI (P_bl t) (7 * r + (c + 1)))), (5, .int (nI (fwdM t r))), (6, .int 1), (7, .int (nI r)), (8, .int (sumI (fun j => P_vi t (7 * r + j)) (c + 1))), (9, .int (nI (belG t r (fwdM t r) (c + 1)))), (10, .int (nI (c + 1)))] := by exact hl
                    exact ih188  (c + 1) (by omega) (by omega) _ _ _ hW hS hl
                  refine lv_icmp_ne (tgt := 382) hx hb dL_holds_370 (by decide) (fun c_370 => ?_) (fun c_370 => ?_)
                  · refine lv_iconst (v := 0) hx hb dL_holds_382 (by decide) ?_
                    refine ej_topi (show (0 : Int32) = nI (if (fwdM t r).testBit c = true then nextM t (7 * r + c) else 0) from (by rw [if_neg (ej_p0 c_370)]; rfl)) ?_
                    exact jp383 _ _ _ hW hS (lv_sub hl [0, 1, 2, 3, 4, 5, 6, 7, 8, 9, 10, 11, 12, 13, 14] rfl)
                  · refine lv_aload_n hx hb dL_holds_373 rfl (lv_at hl 9 rfl) ?_
                    refine lv_iload hx hb dL_holds_374 (lv_at hl 8 rfl) ?_
                    refine ej_L (rest := [.int (nI (belG t r (fwdM t r) c))]) (As := [.ref (o 0), .int (nI (7 * r + c))]) S hK hN hA hD hW hS (k_sent l D tys cI cT ht0 ht1 o aT aB aS g y z ad t u hs sn q f s0 s1 s2 (7 * r + c) htl (pin_ok ho) hp35) (va_cwS 2 hts gL_holds_L_sent rfl rfl rfl hds_L_sent ⟨Nat.le_of_ble_eq_true rfl, Nat.le_of_ble_eq_true rfl⟩) rfl rfl hl.1 (Nat.le_of_ble_eq_true rfl) dL_holds_376 ⟨Nat.zero_le _, Nat.zero_le _⟩ (fun r9 t9_ u9_ hs9_ q9_ f9_ x9_0 x9_1 x9_2 H locs hP9 hW hS => ?_)
                    obtain ⟨rfl, rfl, rfl, rfl, rfl, rfl, rfl, rfl, rfl⟩ := hP9
                    show W p9 l e9 (eR 20 1000) s9 m9 a9 b9 t9 c9 H locs 0 0 Q (F0 m9 379 ls [.int (nI (nextM t (7 * r + c))), .int (nI (belG t r (fwdM t r) c))])
                    have hW : SW D cI cT o aT aB aS g y z ad t u hs sn q f s0 s1 s2 H := hW
                    refine lv_goto (tgt := 383) hx hb dL_holds_379 (by decide) ?_
                    refine ej_topi (show (nI (nextM t (7 * r + c))) = nI (if (fwdM t r).testBit c = true then nextM t (7 * r + c) else 0) from (by rw [if_pos (ej_p1 c_370)])) ?_
                    exact jp383 _ _ _ hW hS (lv_sub hl [0, 1, 2, 3, 4, 5, 6, 7, 8, 9, 10, 11, 12, 13, 14] rfl)
                · have hQp := pinQ_in hou
                  refine ej_topi (pr_pin hou hbe) ?_
                  rcases Nat.lt_trichotomy b 3 with hb3 | hb3 | hb3
                  · have hQs := strQ_0 (t := t) (p := 7 * r + c) (fun z => by have := (be_lt hb6 hbe).2.2.mp z.2; omega)
                    have hQb := bndQ_l hb6 hbe hb3
                    refine lv_istore (lv' := [(12, .int (nI b)), (11, .int (nI (7 * r + c))), (0, .ref (o 0)), (1, .int (pinQ t (7 * r + c))), (2, .int (strQ t (7 * r + c))), (3, .int (bndQ t (7 * r + c))), (4, .int (sumI (P_bl t) (7 * r + c))), (5, .int (nI (fwdM t r))), (6, .int 1), (7, .int (nI r)), (8, .int (sumI (fun j => P_vi t (7 * r + j)) c)), (9, .int (nI (belG t r (fwdM t r) c))), (10, .int (nI c))]) hx hb dL_holds_212 hl (by decide) rfl (fun ls hl => ?_)
                    refine lv_iload hx hb dL_holds_214 (lv_at hl 0 rfl) ?_
                    refine lv_bipush (v := (-4)) hx hb dL_holds_216 (by decide) ?_
                    refine lv_icmp_ne (tgt := 225) hx hb dL_holds_218 (by decide) (fun _ => ?_) (fun h9 => absurd h9 (nI_ne4 (by omega)))
                    refine lv_iconst (v := 0) hx hb dL_holds_225 (by decide) ?_
                    refine lv_istore (lv' := [(13, .int 0), (12, .int (nI b)), (11, .int (nI (7 * r + c))), (0, .ref (o 0)), (1, .int (pinQ t (7 * r + c))), (2, .int (strQ t (7 * r + c))), (3, .int (bndQ t (7 * r + c))), (4, .int (sumI (P_bl t) (7 * r + c))), (5, .int (nI (fwdM t r))), (6, .int 1), (7, .int (nI r)), (8, .int (sumI (fun j => P_vi t (7 * r + j)) c)), (9, .int (nI (belG t r (fwdM t r) c))), (10, .int (nI c))]) hx hb dL_holds_226 hl (by decide) rfl (fun ls hl => ?_)
                    refine lv_iload hx hb dL_holds_228 (lv_at hl 0 rfl) ?_
                    refine lv_if_eq (tgt := 238) hx hb dL_holds_230 (by decide) (fun _ => ?_) (fun h9 => absurd (show (0 : Int32) = 0 from by decide) h9)
                    refine lv_aload_n hx hb dL_holds_238 rfl (lv_at hl 3 rfl) ?_
                    refine lv_iload hx hb dL_holds_239 (lv_at hl 2 rfl) ?_
                    refine lv_iconst (v := 1) hx hb dL_holds_241 (by decide) ?_
                    refine lr_pin (rest := []) (k := 7 * r + c) (w := 1) S hK hN ht0 ht1 hA hD hW hS htl (by omega) (cwV 2 hts gL_holds_X6_pin rfl rfl rfl hdv_X6_pin ⟨Nat.le_of_ble_eq_true rfl, Nat.le_of_ble_eq_true rfl⟩) rfl hl.1 (Nat.le_of_ble_eq_true rfl) dL_holds_242 ⟨Nat.zero_le _, Nat.zero_le _⟩ (fun H locs hW hS => ?_)
                    show W p9 l e9 (eR 20 1000) s9 m9 a9 b9 t9 c9 H locs 0 0 Q (F0 m9 245 ls [.int (pinR t (7 * r + c) 1)])
                    have hW : SW D cI cT o aT aB aS g y z ad t u hs sn q f s0 s1 s2 H := hW
                    refine ej_topi (show (pinR t (7 * r + c) 1) = P_bl t (7 * r + c) from lkp_1 t (7 * r + c)) ?_
                    refine lv_iconst (v := 1) hx hb dL_holds_245 (by decide) ?_
                    have jp278 : ∀ (H : Heap) (locs : List Loc) (ls : Array Slot), SW D cI cT o aT aB aS g y z ad t u hs sn q f s0 s1 s2 H → va_S A H0 H locs → lv_has ls 15 [(13, .int 0), (12, .int (nI b)), (11, .int (nI (7 * r + c))), (0, .ref (o 0)), (1, .int (pinQ t (7 * r + c))), (2, .int (strQ t (7 * r + c))), (3, .int (bndQ t (7 * r + c))), (4, .int (sumI (P_bl t) (7 * r + c))), (5, .int (nI (fwdM t r))), (6, .int 1), (7, .int (nI r)), (8, .int (sumI (fun j => P_vi t (7 * r + j)) c)), (9, .int (nI (belG t r (fwdM t r) c))), (10, .int (nI c))] → W p9 l e9 (eR 20 1000) s9 m9 a9 b9 t9 c9 H locs 0 0 Q (F0 m9 278 ls [.int (signI t (7 * r + c))]) := by
                      intro H locs ls hW hS hl
                      refine lv_istore (lv' := [(14, .int (signI t (7 * r + c))), (13, .int 0), (12, .int (nI b)), (11, .int (nI (7 * r + c))), (0, .ref (o 0)), (1, .int (pinQ t (7 * r + c))), (2, .int (strQ t (7 * r + c))), (3, .int (bndQ t (7 * r + c))), (4, .int (sumI (P_bl t) (7 * r + c))), (5, .int (nI (fwdM t r))), (6, .int 1), (7, .int (nI r)), (8, .int (sumI (fun j => P_vi t (7 * r + j)) c)), (9, .int (nI (belG t r (fwdM t r) c))), (10, .int (nI c))]) hx hb dL_holds_278 hl (by decide) rfl (fun ls hl => ?_)
                      refine lv_iload hx hb dL_holds_280 (lv_at hl 12 rfl) ?_
                      refine lv_aload_n hx hb dL_holds_282 rfl (lv_at hl 4 rfl) ?_
                      refine lv_iload hx hb dL_holds_283 (lv_at hl 3 rfl) ?_
                      refine lv_iconst (v := 3) hx hb dL_holds_285 (by decide) ?_
                      refine lr_pin (rest := [.int (sumI (fun j => P_vi t (7 * r + j)) c)]) (k := 7 * r + c) (w := 3) S hK hN ht0 ht1 hA hD hW hS htl (by omega) (cwV 2 hts gL_holds_X6_pin rfl rfl rfl hdv_X6_pin ⟨Nat.le_of_ble_eq_true rfl, Nat.le_of_ble_eq_true rfl⟩) rfl hl.1 (Nat.le_of_ble_eq_true rfl) dL_holds_286 ⟨Nat.zero_le _, Nat.zero_le _⟩ (fun H locs hW hS => ?_)
                      show W p9 l e9 (eR 20 1000) s9 m9 a9 b9 t9 c9 H locs 0 0 Q (F0 m9 289 ls [.int (pinR t (7 * r + c) 3), .int (sumI (fun j => P_vi t (7 * r + j)) c)])
                      have hW : SW D cI cT o aT aB aS g y z ad t u hs sn q f s0 s1 s2 H := hW
                      refine ej_topi (show (pinR t (7 * r + c) 3) = P_vi t (7 * r + c) from lkp_3 t (7 * r + c)) ?_
                      refine lv_iadd hx hb dL_holds_289 ?_
                      refine lv_istore (lv' := [(8, .int ((sumI (fun j => P_vi t (7 * r + j)) c) + (P_vi t (7 * r + c)))), (14, .int (signI t (7 * r + c))), (13, .int 0), (12, .int (nI b)), (11, .int (nI (7 * r + c))), (0, .ref (o 0)), (1, .int (pinQ t (7 * r + c))), (2, .int (strQ t (7 * r + c))), (3, .int (bndQ t (7 * r + c))), (4, .int (sumI (P_bl t) (7 * r + c))), (5, .int (nI (fwdM t r))), (6, .int 1), (7, .int (nI r)), (9, .int (nI (belG t r (fwdM t r) c))), (10, .int (nI c))]) hx hb dL_holds_290 hl (by decide) rfl (fun ls hl => ?_)
                      refine lv_iload_n hx hb dL_holds_292 rfl (lv_at hl 6 rfl) ?_
                      refine lv_iload hx hb dL_holds_293 (lv_at hl 2 rfl) ?_
                      refine lv_if_eq (tgt := 302) hx hb dL_holds_295 (by decide) (fun _ => ?_) (fun h9 => absurd (show (0 : Int32) = 0 from by decide) h9)
                      refine lv_iconst (v := 1) hx hb dL_holds_302 (by decide) ?_
                      refine lv_iadd hx hb dL_holds_303 ?_
                      refine ej_topi (show ((pinQ t (7 * r + c)) + 1) = pinQ t (7 * r + c + 1) from hQp) ?_
                      refine lv_istore_n (lv' := [(1, .int (pinQ t (7 * r + c + 1))), (8, .int ((sumI (fun j => P_vi t (7 * r + j)) c) + (P_vi t (7 * r + c)))), (14, .int (signI t (7 * r + c))), (13, .int 0), (12, .int (nI b)), (11, .int (nI (7 * r + c))), (0, .ref (o 0)), (2, .int (strQ t (7 * r + c))), (3, .int (bndQ t (7 * r + c))), (4, .int (sumI (P_bl t) (7 * r + c))), (5, .int (nI (fwdM t r))), (6, .int 1), (7, .int (nI r)), (9, .int (nI (belG t r (fwdM t r) c))), (10, .int (nI c))]) hx hb dL_holds_304 rfl hl (by decide) rfl (fun ls hl => ?_)
                      refine lv_iload_n hx hb dL_holds_305 rfl (lv_at hl 7 rfl) ?_
                      refine lv_iload hx hb dL_holds_306 (lv_at hl 4 rfl) ?_
                      refine lv_iconst (v := 3) hx hb dL_holds_308 (by decide) ?_
                      refine lv_icmp_ne (tgt := 316) hx hb dL_holds_309 (by decide) (fun _ => ?_) (fun h9 => absurd h9 (ej_ne (a := b) (b := 3) (by omega) (by omega) (show b ≠ 3 from by omega)))
                      refine lv_iconst (v := 0) hx hb dL_holds_316 (by decide) ?_
                      refine lv_iadd hx hb dL_holds_317 ?_
                      refine ej_topi (show ((strQ t (7 * r + c)) + 0) = strQ t (7 * r + c + 1) from hQs) ?_
                      refine lv_istore_n (lv' := [(2, .int (strQ t (7 * r + c + 1))), (1, .int (pinQ t (7 * r + c + 1))), (8, .int ((sumI (fun j => P_vi t (7 * r + j)) c) + (P_vi t (7 * r + c)))), (14, .int (signI t (7 * r + c))), (13, .int 0), (12, .int (nI b)), (11, .int (nI (7 * r + c))), (0, .ref (o 0)), (3, .int (bndQ t (7 * r + c))), (4, .int (sumI (P_bl t) (7 * r + c))), (5, .int (nI (fwdM t r))), (6, .int 1), (7, .int (nI r)), (9, .int (nI (belG t r (fwdM t r) c))), (10, .int (nI c))]) hx hb dL_holds_318 rfl hl (by decide) rfl (fun ls hl => ?_)
                      refine lv_iload_n hx hb dL_holds_319 rfl (lv_at hl 8 rfl) ?_
                      refine lv_iload hx hb dL_holds_320 (lv_at hl 4 rfl) ?_
                      refine lv_if_eq (tgt := 329) hx hb dL_holds_322 (by decide) (fun _ => ?_) (fun h9 => absurd (show (0 : Int32) = 0 from by decide) h9)
                      refine lv_iload hx hb dL_holds_329 (lv_at hl 5 rfl) ?_
                      refine lv_iconst (v := 3) hx hb dL_holds_331 (by decide) ?_
                      refine lv_icmp_ge (tgt := 342) hx hb dL_holds_332 (by decide) (fun h9 => absurd h9 (ej_ge (a := b) (b := 3) (by omega) (show b < 3 from by omega))) (fun _ => ?_)
                      refine lv_iconst (v := 3) hx hb dL_holds_335 (by decide) ?_
                      refine lv_iload hx hb dL_holds_336 (lv_at hl 5 rfl) ?_
                      refine lv_isub hx hb dL_holds_338 ?_
                      refine ej_topi (show ((3 : Int32) - (nI b)) = nI (3 - b) from pk_sub (a := 3) (b := b) (by omega)) ?_
                      refine lv_goto (tgt := 346) hx hb dL_holds_339 (by decide) ?_
                      refine lv_iadd hx hb dL_holds_346 ?_
                      refine ej_topi (show ((bndQ t (7 * r + c)) + (nI (3 - b))) = bndQ t (7 * r + c + 1) from hQb) ?_
                      refine lv_istore_n (lv' := [(3, .int (bndQ t (7 * r + c + 1))), (2, .int (strQ t (7 * r + c + 1))), (1, .int (pinQ t (7 * r + c + 1))), (8, .int ((sumI (fun j => P_vi t (7 * r + j)) c) + (P_vi t (7 * r + c)))), (14, .int (signI t (7 * r + c))), (13, .int 0), (12, .int (nI b)), (11, .int (nI (7 * r + c))), (0, .ref (o 0)), (4, .int (sumI (P_bl t) (7 * r + c))), (5, .int (nI (fwdM t r))), (6, .int 1), (7, .int (nI r)), (9, .int (nI (belG t r (fwdM t r) c))), (10, .int (nI c))]) hx hb dL_holds_347 rfl hl (by decide) rfl (fun ls hl => ?_)
                      refine lv_iload hx hb dL_holds_348 (lv_at hl 9 rfl) ?_
                      refine lv_aload_n hx hb dL_holds_350 rfl (lv_at hl 8 rfl) ?_
                      refine lv_iload hx hb dL_holds_351 (lv_at hl 7 rfl) ?_
                      refine lv_iconst (v := 1) hx hb dL_holds_353 (by decide) ?_
                      refine lr_pin (rest := [.int (sumI (P_bl t) (7 * r + c))]) (k := 7 * r + c) (w := 1) S hK hN ht0 ht1 hA hD hW hS htl (by omega) (cwV 2 hts gL_holds_X6_pin rfl rfl rfl hdv_X6_pin ⟨Nat.le_of_ble_eq_true rfl, Nat.le_of_ble_eq_true rfl⟩) rfl hl.1 (Nat.le_of_ble_eq_true rfl) dL_holds_354 ⟨Nat.zero_le _, Nat.zero_le _⟩ (fun H locs hW hS => ?_)
                      show W p9 l e9 (eR 20 1000) s9 m9 a9 b9 t9 c9 H locs 0 0 Q (F0 m9 357 ls [.int (pinR t (7 * r + c) 1), .int (sumI (P_bl t) (7 * r + c))])
                      have hW : SW D cI cT o aT aB aS g y z ad t u hs sn q f s0 s1 s2 H := hW
                      refine ej_topi (show (pinR t (7 * r + c) 1) = P_bl t (7 * r + c) from lkp_1 t (7 * r + c)) ?_
                      refine lv_iadd hx hb dL_holds_357 ?_
                      refine lv_istore (lv' := [(4, .int ((sumI (P_bl t) (7 * r + c)) + (P_bl t (7 * r + c)))), (3, .int (bndQ t (7 * r + c + 1))), (2, .int (strQ t (7 * r + c + 1))), (1, .int (pinQ t (7 * r + c + 1))), (8, .int ((sumI (fun j => P_vi t (7 * r + j)) c) + (P_vi t (7 * r + c)))), (14, .int (signI t (7 * r + c))), (13, .int 0), (12, .int (nI b)), (11, .int (nI (7 * r + c))), (0, .ref (o 0)), (5, .int (nI (fwdM t r))), (6, .int 1), (7, .int (nI r)), (9, .int (nI (belG t r (fwdM t r) c))), (10, .int (nI c))]) hx hb dL_holds_358 hl (by decide) rfl (fun ls hl => ?_)
                      refine lv_iload hx hb dL_holds_360 (lv_at hl 13 rfl) ?_
                      refine lv_iload hx hb dL_holds_362 (lv_at hl 10 rfl) ?_
                      refine lv_iload hx hb dL_holds_364 (lv_at hl 14 rfl) ?_
                      refine lv_ishr hx hb dL_holds_366 ?_
                      refine lv_iconst (v := 1) hx hb dL_holds_367 (by decide) ?_
                      refine lv_iand hx hb dL_holds_368 ?_
                      refine ej_topi (show (((nI (fwdM t r)) >>> ((nI c) &&& 31)) &&& 1) = if (fwdM t r).testBit c = true then 1 else 0 from bit_ok (fwdM t r) (fwdM_lt t r) c (by omega)) ?_
                      refine lv_iconst (v := 1) hx hb dL_holds_369 (by decide) ?_
                      have jp383 : ∀ (H : Heap) (locs : List Loc) (ls : Array Slot), SW D cI cT o aT aB aS g y z ad t u hs sn q f s0 s1 s2 H → va_S A H0 H locs → lv_has ls 15 [(4, .int ((sumI (P_bl t) (7 * r + c)) + (P_bl t (7 * r + c)))), (3, .int (bndQ t (7 * r + c + 1))), (2, .int (strQ t (7 * r + c + 1))), (1, .int (pinQ t (7 * r + c + 1))), (8, .int ((sumI (fun j => P_vi t (7 * r + j)) c) + (P_vi t (7 * r + c)))), (14, .int (signI t (7 * r + c))), (13, .int 0), (12, .int (nI b)), (11, .int (nI (7 * r + c))), (0, .ref (o 0)), (5, .int (nI (fwdM t r))), (6, .int 1), (7, .int (nI r)), (9, .int (nI (belG t r (fwdM t r) c))), (10, .int (nI c))] → W p9 l e9 (eR 20 1000) s9 m9 a9 b9 t9 c9 H locs 0 0 Q (F0 m9 383 ls [.int (nI (if (fwdM t r).testBit c = true then nextM t (7 * r + c) else 0)), .int (nI (belG t r (fwdM t r) c))]) := by
                        intro H locs ls hW hS hl
                        refine lv_ior hx hb dL_holds_383 ?_
                        refine ej_topi (show ((nI (belG t r (fwdM t r) c)) ||| (nI (if (fwdM t r).testBit c = true then nextM t (7 * r + c) else 0))) = nI (belG t r (fwdM t r) (c + 1)) from belS t r (fwdM t r) c) ?_
                        refine lv_istore (lv' := [(9, .int (nI (belG t r (fwdM t r) (c + 1)))), (4, .int ((sumI (P_bl t) (7 * r + c)) + (P_bl t (7 * r + c)))), (3, .int (bndQ t (7 * r + c + 1))), (2, .int (strQ t (7 * r + c + 1))), (1, .int (pinQ t (7 * r + c + 1))), (8, .int ((sumI (fun j => P_vi t (7 * r + j)) c) + (P_vi t (7 * r + c)))), (14, .int (signI t (7 * r + c))), (13, .int 0), (12, .int (nI b)), (11, .int (nI (7 * r + c))), (0, .ref (o 0)), (5, .int (nI (fwdM t r))), (6, .int 1), (7, .int (nI r)), (10, .int (nI c))]) hx hb dL_holds_384 hl (by decide) rfl (fun ls hl => ?_)
                        refine lv_iload hx hb dL_holds_386 (lv_at hl 12 rfl) ?_
                        refine lv_if_eq (tgt := 481) hx hb dL_holds_388 (by decide) (fun h9 => absurd h9 (show ¬ (1 : Int32) = 0 from by decide)) (fun _ => ?_)
                        refine lv_iload hx hb dL_holds_391 (lv_at hl 7 rfl) ?_
                        refine lv_if_ne (tgt := 408) hx hb dL_holds_393 (by decide) (fun h9 => absurd (show (0 : Int32) = 0 from by decide) h9) (fun _ => ?_)
                        refine lv_iload hx hb dL_holds_396 (lv_at hl 8 rfl) ?_
                        refine lv_if_lt (tgt := 481) hx hb dL_holds_398 (by decide) (fun h9 => absurd h9 (ej_nlt (a := b) (b := 0) (by omega) (show 0 ≤ b from by omega))) (fun _ => ?_)
                        refine lv_iload hx hb dL_holds_401 (lv_at hl 8 rfl) ?_
                        refine lv_bipush (v := 6) hx hb dL_holds_403 (by decide) ?_
                        refine lv_icmp_gt (tgt := 481) hx hb dL_holds_405 (by decide) (fun h9 => absurd h9 (ej_nlt (a := 6) (b := b) (by omega) (show b ≤ 6 from by omega))) (fun _ => ?_)
                        refine lv_iload hx hb dL_holds_408 (lv_at hl 7 rfl) ?_
                        refine lv_if_eq (tgt := 428) hx hb dL_holds_410 (by decide) (fun _ => ?_) (fun h9 => absurd (show (0 : Int32) = 0 from by decide) h9)
                        refine lv_aload_n hx hb dL_holds_428 rfl (lv_at hl 10 rfl) ?_
                        refine lv_iload hx hb dL_holds_429 (lv_at hl 9 rfl) ?_
                        refine lv_iconst (v := 2) hx hb dL_holds_431 (by decide) ?_
                        refine lr_pin (rest := []) (k := 7 * r + c) (w := 2) S hK hN ht0 ht1 hA hD hW hS htl (by omega) (cwV 2 hts gL_holds_X6_pin rfl rfl rfl hdv_X6_pin ⟨Nat.le_of_ble_eq_true rfl, Nat.le_of_ble_eq_true rfl⟩) rfl hl.1 (Nat.le_of_ble_eq_true rfl) dL_holds_432 ⟨Nat.zero_le _, Nat.zero_le _⟩ (fun H locs hW hS => ?_)
                        show W p9 l e9 (eR 20 1000) s9 m9 a9 b9 t9 c9 H locs 0 0 Q (F0 m9 435 ls [.int (pinR t (7 * r + c) 2)])
                        have hW : SW D cI cT o aT aB aS g y z ad t u hs sn q f s0 s1 s2 H := hW
                        refine ej_topi (show (pinR t (7 * r + c) 2) = if P_ou t (7 * r + c) = 0 then P_si t (7 * r + c) else -4 from lkp_2 t (7 * r + c)) ?_
                        refine ej_topi (show (if P_ou t (7 * r + c) = 0 then P_si t (7 * r + c) else -4) = P_si t (7 * r + c) from (if_pos hou)) ?_
                        refine lv_if_lt (tgt := 481) hx hb dL_holds_435 (by decide) (fun h9 => absurd h9 ((si_ge (ho.2.2.1.2 _ hp35)).1)) (fun _ => ?_)
                        refine lv_aload_n hx hb dL_holds_438 rfl (lv_at hl 10 rfl) ?_
                        refine lv_iload hx hb dL_holds_439 (lv_at hl 9 rfl) ?_
                        refine lv_iconst (v := 2) hx hb dL_holds_441 (by decide) ?_
                        refine lr_pin (rest := []) (k := 7 * r + c) (w := 2) S hK hN ht0 ht1 hA hD hW hS htl (by omega) (cwV 2 hts gL_holds_X6_pin rfl rfl rfl hdv_X6_pin ⟨Nat.le_of_ble_eq_true rfl, Nat.le_of_ble_eq_true rfl⟩) rfl hl.1 (Nat.le_of_ble_eq_true rfl) dL_holds_442 ⟨Nat.zero_le _, Nat.zero_le _⟩ (fun H locs hW hS => ?_)
                        show W p9 l e9 (eR 20 1000) s9 m9 a9 b9 t9 c9 H locs 0 0 Q (F0 m9 445 ls [.int (pinR t (7 * r + c) 2)])
                        have hW : SW D cI cT o aT aB aS g y z ad t u hs sn q f s0 s1 s2 H := hW
                        refine ej_topi (show (pinR t (7 * r + c) 2) = if P_ou t (7 * r + c) = 0 then P_si t (7 * r + c) else -4 from lkp_2 t (7 * r + c)) ?_
                        refine ej_topi (show (if P_ou t (7 * r + c) = 0 then P_si t (7 * r + c) else -4) = P_si t (7 * r + c) from (if_pos hou)) ?_
                        refine lv_iconst (v := 1) hx hb dL_holds_445 (by decide) ?_
                        refine lv_icmp_gt (tgt := 481) hx hb dL_holds_446 (by decide) (fun h9 => absurd h9 ((si_ge (ho.2.2.1.2 _ hp35)).2)) (fun _ => ?_)
                        refine lv_aload_n hx hb dL_holds_449 rfl (lv_at hl 10 rfl) ?_
                        refine lv_iload hx hb dL_holds_450 (lv_at hl 9 rfl) ?_
                        refine lv_iconst (v := 4) hx hb dL_holds_452 (by decide) ?_
                        refine lr_pin (rest := []) (k := 7 * r + c) (w := 4) S hK hN ht0 ht1 hA hD hW hS htl (by omega) (cwV 2 hts gL_holds_X6_pin rfl rfl rfl hdv_X6_pin ⟨Nat.le_of_ble_eq_true rfl, Nat.le_of_ble_eq_true rfl⟩) rfl hl.1 (Nat.le_of_ble_eq_true rfl) dL_holds_453 ⟨Nat.zero_le _, Nat.zero_le _⟩ (fun H locs hW hS => ?_)
                        show W p9 l e9 (eR 20 1000) s9 m9 a9 b9 t9 c9 H locs 0 0 Q (F0 m9 456 ls [.int (pinR t (7 * r + c) 4)])
                        have hW : SW D cI cT o aT aB aS g y z ad t u hs sn q f s0 s1 s2 H := hW
                        refine ej_topi (show (pinR t (7 * r + c) 4) = if (fwdM t ((7 * r + c) / 7)).testBit ((7 * r + c) % 7) = true then 1 else 0 from lkp_4 t (7 * r + c)) ?_
                        refine ej_topi (show (if (fwdM t ((7 * r + c) / 7)).testBit ((7 * r + c) % 7) = true then 1 else 0) = if (fwdM t r).testBit c = true then 1 else 0 from (by rw [show (7 * r + c) / 7 = r by omega, show (7 * r + c) % 7 = c by omega])) ?_
                        refine lv_iload hx hb dL_holds_456 (lv_at hl 11 rfl) ?_
                        refine lv_iload hx hb dL_holds_458 (lv_at hl 14 rfl) ?_
                        refine lv_ishr hx hb dL_holds_460 ?_
                        refine lv_iconst (v := 1) hx hb dL_holds_461 (by decide) ?_
                        refine lv_iand hx hb dL_holds_462 ?_
                        refine ej_topi (show (((nI (fwdM t r)) >>> ((nI c) &&& 31)) &&& 1) = if (fwdM t r).testBit c = true then 1 else 0 from bit_ok (fwdM t r) (fwdM_lt t r) c (by omega)) ?_
                        refine lv_icmp_ne (tgt := 481) hx hb dL_holds_463 (by decide) (fun h9 => absurd (rfl) h9) (fun _ => ?_)
                        refine lv_aload_n hx hb dL_holds_466 rfl (lv_at hl 10 rfl) ?_
                        refine lv_iload hx hb dL_holds_467 (lv_at hl 9 rfl) ?_
                        refine lr_sign (rest := []) (k := 7 * r + c) S hK hN ht0 ht1 hA hD hW hS htl (by omega) (cwV 1 hts gL_holds_X6_sign rfl rfl rfl hdv_X6_sign ⟨Nat.le_of_ble_eq_true rfl, Nat.le_of_ble_eq_true rfl⟩) rfl hl.1 (Nat.le_of_ble_eq_true rfl) dL_holds_469 ⟨Nat.zero_le _, Nat.zero_le _⟩ (fun H locs hW hS => ?_)
                        show W p9 l e9 (eR 20 1000) s9 m9 a9 b9 t9 c9 H locs 0 0 Q (F0 m9 472 ls [.int (signI t (7 * r + c))])
                        have hW : SW D cI cT o aT aB aS g y z ad t u hs sn q f s0 s1 s2 H := hW
                        refine lv_iload hx hb dL_holds_472 (lv_at hl 6 rfl) ?_
                        refine lv_icmp_ne (tgt := 481) hx hb dL_holds_474 (by decide) (fun h9 => absurd (rfl) h9) (fun _ => ?_)
                        refine lv_iconst (v := 1) hx hb dL_holds_477 (by decide) ?_
                        refine lv_goto (tgt := 482) hx hb dL_holds_478 (by decide) ?_
                        refine lv_istore (lv' := [(6, .int 1), (9, .int (nI (belG t r (fwdM t r) (c + 1)))), (4, .int ((sumI (P_bl t) (7 * r + c)) + (P_bl t (7 * r + c)))), (3, .int (bndQ t (7 * r + c + 1))), (2, .int (strQ t (7 * r + c + 1))), (1, .int (pinQ t (7 * r + c + 1))), (8, .int ((sumI (fun j => P_vi t (7 * r + j)) c) + (P_vi t (7 * r + c)))), (14, .int (signI t (7 * r + c))), (13, .int 0), (12, .int (nI b)), (11, .int (nI (7 * r + c))), (0, .ref (o 0)), (5, .int (nI (fwdM t r))), (7, .int (nI r)), (10, .int (nI c))]) hx hb dL_holds_482 hl (by decide) rfl (fun ls hl => ?_)
                        refine lv_iinc (v := nI (c + 1)) (lv' := [(10, .int (nI (c + 1))), (6, .int 1), (9, .int (nI (belG t r (fwdM t r) (c + 1)))), (4, .int ((sumI (P_bl t) (7 * r + c)) + (P_bl t (7 * r + c)))), (3, .int (bndQ t (7 * r + c + 1))), (2, .int (strQ t (7 * r + c + 1))), (1, .int (pinQ t (7 * r + c + 1))), (8, .int ((sumI (fun j => P_vi t (7 * r + j)) c) + (P_vi t (7 * r + c)))), (14, .int (signI t (7 * r + c))), (13, .int 0), (12, .int (nI b)), (11, .int (nI (7 * r + c))), (0, .ref (o 0)), (5, .int (nI (fwdM t r))), (7, .int (nI r))]) hx hb dL_holds_484 hl (k := 14) rfl (nI_add c 1) (by decide) rfl (fun ls hl => ?_)
                        refine lv_goto (tgt := 188) hx hb dL_holds_487 (by decide) ?_
                        have hl : lv_has ls 15 [(0, .ref (o 0)), (1, .int (pinQ t (7 * r + c + 1))), (2, .int (strQ t (7 * r + c + 1))), (3, .int (bndQ t (7 * r + c + 1))), (4, .int ((sumI (P_bl t) (7 * r + c)) + (P_bl t (7 * r + c)))), (5, .int (nI (fwdM t r))), (6, .int 1), (7, .int (nI r)), (8, .int ((sumI (fun j => P_vi t (7 * r + j)) c) + (P_vi t (7 * r + c)))), (9, .int (nI (belG t r (fwdM t r) (c + 1)))), (10, .int (nI (c + 1)))] := lv_sub hl [12, 6, 5, 4, 3, 13, 1, 14, 7, 2, 0] rfl
                        have hl : lv_has ls 15 [(0, .ref (o 0)), (1, .int (pinQ t (7 * r + (c + 1)))), (2, .int (strQ t (7 * r + (c + 1)))), (3, .int (bndQ t (7 * r + (c + 1)))), (4, .int (sumI (P_bl t) (7 * r + (c + 1)))), (5, .int (nI (fwdM t r))), (6, .int 1), (7, .int (nI r)), (8, .int (sumI (fun j => P_vi t (7 * r + j)) (c + 1))), (9, .int (nI (belG t r (fwdM t r) (c + 1)))), (10, .int (nI (c + 1)))] := by exact hl
                        exact ih188  (c + 1) (by omega) (by omega) _ _ _ hW hS hl
                      refine lv_icmp_ne (tgt := 382) hx hb dL_holds_370 (by decide) (fun c_370 => ?_) (fun c_370 => ?_)
                      · refine lv_iconst (v := 0) hx hb dL_holds_382 (by decide) ?_
                        refine ej_topi (show (0 : Int32) = nI (if (fwdM t r).testBit c = true then nextM t (7 * r + c) else 0) from (by rw [if_neg (ej_p0 c_370)]; rfl)) ?_
                        exact jp383 _ _ _ hW hS (lv_sub hl [0, 1, 2, 3, 4, 5, 6, 7, 8, 9, 10, 11, 12, 13, 14] rfl)
                      · refine lv_aload_n hx hb dL_holds_373 rfl (lv_at hl 9 rfl) ?_
                        refine lv_iload hx hb dL_holds_374 (lv_at hl 8 rfl) ?_
                        refine ej_L (rest := [.int (nI (belG t r (fwdM t r) c))]) (As := [.ref (o 0), .int (nI (7 * r + c))]) S hK hN hA hD hW hS (k_sent l D tys cI cT ht0 ht1 o aT aB aS g y z ad t u hs sn q f s0 s1 s2 (7 * r + c) htl (pin_ok ho) hp35) (va_cwS 2 hts gL_holds_L_sent rfl rfl rfl hds_L_sent ⟨Nat.le_of_ble_eq_true rfl, Nat.le_of_ble_eq_true rfl⟩) rfl rfl hl.1 (Nat.le_of_ble_eq_true rfl) dL_holds_376 ⟨Nat.zero_le _, Nat.zero_le _⟩ (fun r9 t9_ u9_ hs9_ q9_ f9_ x9_0 x9_1 x9_2 H locs hP9 hW hS => ?_)
                        obtain ⟨rfl, rfl, rfl, rfl, rfl, rfl, rfl, rfl, rfl⟩ := hP9
                        show W p9 l e9 (eR 20 1000) s9 m9 a9 b9 t9 c9 H locs 0 0 Q (F0 m9 379 ls [.int (nI (nextM t (7 * r + c))), .int (nI (belG t r (fwdM t r) c))])
                        have hW : SW D cI cT o aT aB aS g y z ad t u hs sn q f s0 s1 s2 H := hW
                        refine lv_goto (tgt := 383) hx hb dL_holds_379 (by decide) ?_
                        refine ej_topi (show (nI (nextM t (7 * r + c))) = nI (if (fwdM t r).testBit c = true then nextM t (7 * r + c) else 0) from (by rw [if_pos (ej_p1 c_370)])) ?_
                        exact jp383 _ _ _ hW hS (lv_sub hl [0, 1, 2, 3, 4, 5, 6, 7, 8, 9, 10, 11, 12, 13, 14] rfl)
                    refine lv_icmp_ne (tgt := 254) hx hb dL_holds_246 (by decide) (fun c_246 => ?_) (fun c_246 => ?_)
                    · refine lv_iload hx hb dL_holds_254 (lv_at hl 1 rfl) ?_
                      refine lv_iconst (v := 3) hx hb dL_holds_256 (by decide) ?_
                      refine lv_icmp_ge (tgt := 265) hx hb dL_holds_257 (by decide) (fun h9 => absurd h9 (ej_ge (a := b) (b := 3) (by omega) (show b < 3 from by omega))) (fun _ => ?_)
                      refine lv_bipush (v := 60) hx hb dL_holds_260 (by decide) ?_
                      refine lv_goto (tgt := 278) hx hb dL_holds_262 (by decide) ?_
                      refine ej_topi (show (60 : Int32) = signI t (7 * r + c) from (sg_l hou (bl_0 (ho.1.2.2.1 _ hp35) c_246) hb6 hbe (by omega)).symm) ?_
                      exact jp278 _ _ _ hW hS (lv_sub hl [0, 1, 2, 3, 4, 5, 6, 7, 8, 9, 10, 11, 12, 13] rfl)
                    · refine lv_bipush (v := 111) hx hb dL_holds_249 (by decide) ?_
                      refine lv_goto (tgt := 278) hx hb dL_holds_251 (by decide) ?_
                      refine ej_topi (show (111 : Int32) = signI t (7 * r + c) from (sg_bell hou c_246).symm) ?_
                      exact jp278 _ _ _ hW hS (lv_sub hl [0, 1, 2, 3, 4, 5, 6, 7, 8, 9, 10, 11, 12, 13] rfl)
                  · have hQs := strQ_1 (t := t) (p := 7 * r + c) ⟨hou, (be_lt hb6 hbe).2.2.mpr hb3⟩
                    have hQb := bndQ_r hb6 hbe (by omega)
                    refine lv_istore (lv' := [(12, .int (nI b)), (11, .int (nI (7 * r + c))), (0, .ref (o 0)), (1, .int (pinQ t (7 * r + c))), (2, .int (strQ t (7 * r + c))), (3, .int (bndQ t (7 * r + c))), (4, .int (sumI (P_bl t) (7 * r + c))), (5, .int (nI (fwdM t r))), (6, .int 1), (7, .int (nI r)), (8, .int (sumI (fun j => P_vi t (7 * r + j)) c)), (9, .int (nI (belG t r (fwdM t r) c))), (10, .int (nI c))]) hx hb dL_holds_212 hl (by decide) rfl (fun ls hl => ?_)
                    refine lv_iload hx hb dL_holds_214 (lv_at hl 0 rfl) ?_
                    refine lv_bipush (v := (-4)) hx hb dL_holds_216 (by decide) ?_
                    refine lv_icmp_ne (tgt := 225) hx hb dL_holds_218 (by decide) (fun _ => ?_) (fun h9 => absurd h9 (nI_ne4 (by omega)))
                    refine lv_iconst (v := 0) hx hb dL_holds_225 (by decide) ?_
                    refine lv_istore (lv' := [(13, .int 0), (12, .int (nI b)), (11, .int (nI (7 * r + c))), (0, .ref (o 0)), (1, .int (pinQ t (7 * r + c))), (2, .int (strQ t (7 * r + c))), (3, .int (bndQ t (7 * r + c))), (4, .int (sumI (P_bl t) (7 * r + c))), (5, .int (nI (fwdM t r))), (6, .int 1), (7, .int (nI r)), (8, .int (sumI (fun j => P_vi t (7 * r + j)) c)), (9, .int (nI (belG t r (fwdM t r) c))), (10, .int (nI c))]) hx hb dL_holds_226 hl (by decide) rfl (fun ls hl => ?_)
                    refine lv_iload hx hb dL_holds_228 (lv_at hl 0 rfl) ?_
                    refine lv_if_eq (tgt := 238) hx hb dL_holds_230 (by decide) (fun _ => ?_) (fun h9 => absurd (show (0 : Int32) = 0 from by decide) h9)
                    refine lv_aload_n hx hb dL_holds_238 rfl (lv_at hl 3 rfl) ?_
                    refine lv_iload hx hb dL_holds_239 (lv_at hl 2 rfl) ?_
                    refine lv_iconst (v := 1) hx hb dL_holds_241 (by decide) ?_
                    refine lr_pin (rest := []) (k := 7 * r + c) (w := 1) S hK hN ht0 ht1 hA hD hW hS htl (by omega) (cwV 2 hts gL_holds_X6_pin rfl rfl rfl hdv_X6_pin ⟨Nat.le_of_ble_eq_true rfl, Nat.le_of_ble_eq_true rfl⟩) rfl hl.1 (Nat.le_of_ble_eq_true rfl) dL_holds_242 ⟨Nat.zero_le _, Nat.zero_le _⟩ (fun H locs hW hS => ?_)
                    show W p9 l e9 (eR 20 1000) s9 m9 a9 b9 t9 c9 H locs 0 0 Q (F0 m9 245 ls [.int (pinR t (7 * r + c) 1)])
                    have hW : SW D cI cT o aT aB aS g y z ad t u hs sn q f s0 s1 s2 H := hW
                    refine ej_topi (show (pinR t (7 * r + c) 1) = P_bl t (7 * r + c) from lkp_1 t (7 * r + c)) ?_
                    refine lv_iconst (v := 1) hx hb dL_holds_245 (by decide) ?_
                    have jp278 : ∀ (H : Heap) (locs : List Loc) (ls : Array Slot), SW D cI cT o aT aB aS g y z ad t u hs sn q f s0 s1 s2 H → va_S A H0 H locs → lv_has ls 15 [(13, .int 0), (12, .int (nI b)), (11, .int (nI (7 * r + c))), (0, .ref (o 0)), (1, .int (pinQ t (7 * r + c))), (2, .int (strQ t (7 * r + c))), (3, .int (bndQ t (7 * r + c))), (4, .int (sumI (P_bl t) (7 * r + c))), (5, .int (nI (fwdM t r))), (6, .int 1), (7, .int (nI r)), (8, .int (sumI (fun j => P_vi t (7 * r + j)) c)), (9, .int (nI (belG t r (fwdM t r) c))), (10, .int (nI c))] → W p9 l e9 (eR 20 1000) s9 m9 a9 b9 t9 c9 H locs 0 0 Q (F0 m9 278 ls [.int (signI t (7 * r + c))]) := by
                      intro H locs ls hW hS hl
                      refine lv_istore (lv' := [(14, .int (signI t (7 * r + c))), (13, .int 0), (12, .int (nI b)), (11, .int (nI (7 * r + c))), (0, .ref (o 0)), (1, .int (pinQ t (7 * r + c))), (2, .int (strQ t (7 * r + c))), (3, .int (bndQ t (7 * r + c))), (4, .int (sumI (P_bl t) (7 * r + c))), (5, .int (nI (fwdM t r))), (6, .int 1), (7, .int (nI r)), (8, .int (sumI (fun j => P_vi t (7 * r + j)) c)), (9, .int (nI (belG t r (fwdM t r) c))), (10, .int (nI c))]) hx hb dL_holds_278 hl (by decide) rfl (fun ls hl => ?_)
                      refine lv_iload hx hb dL_holds_280 (lv_at hl 12 rfl) ?_
                      refine lv_aload_n hx hb dL_holds_282 rfl (lv_at hl 4 rfl) ?_
                      refine lv_iload hx hb dL_holds_283 (lv_at hl 3 rfl) ?_
                      refine lv_iconst (v := 3) hx hb dL_holds_285 (by decide) ?_
                      refine lr_pin (rest := [.int (sumI (fun j => P_vi t (7 * r + j)) c)]) (k := 7 * r + c) (w := 3) S hK hN ht0 ht1 hA hD hW hS htl (by omega) (cwV 2 hts gL_holds_X6_pin rfl rfl rfl hdv_X6_pin ⟨Nat.le_of_ble_eq_true rfl, Nat.le_of_ble_eq_true rfl⟩) rfl hl.1 (Nat.le_of_ble_eq_true rfl) dL_holds_286 ⟨Nat.zero_le _, Nat.zero_le _⟩ (fun H locs hW hS => ?_)
                      show W p9 l e9 (eR 20 1000) s9 m9 a9 b9 t9 c9 H locs 0 0 Q (F0 m9 289 ls [.int (pinR t (7 * r + c) 3), .int (sumI (fun j => P_vi t (7 * r + j)) c)])
                      have hW : SW D cI cT o aT aB aS g y z ad t u hs sn q f s0 s1 s2 H := hW
                      refine ej_topi (show (pinR t (7 * r + c) 3) = P_vi t (7 * r + c) from lkp_3 t (7 * r + c)) ?_
                      refine lv_iadd hx hb dL_holds_289 ?_
                      refine lv_istore (lv' := [(8, .int ((sumI (fun j => P_vi t (7 * r + j)) c) + (P_vi t (7 * r + c)))), (14, .int (signI t (7 * r + c))), (13, .int 0), (12, .int (nI b)), (11, .int (nI (7 * r + c))), (0, .ref (o 0)), (1, .int (pinQ t (7 * r + c))), (2, .int (strQ t (7 * r + c))), (3, .int (bndQ t (7 * r + c))), (4, .int (sumI (P_bl t) (7 * r + c))), (5, .int (nI (fwdM t r))), (6, .int 1), (7, .int (nI r)), (9, .int (nI (belG t r (fwdM t r) c))), (10, .int (nI c))]) hx hb dL_holds_290 hl (by decide) rfl (fun ls hl => ?_)
                      refine lv_iload_n hx hb dL_holds_292 rfl (lv_at hl 6 rfl) ?_
                      refine lv_iload hx hb dL_holds_293 (lv_at hl 2 rfl) ?_
                      refine lv_if_eq (tgt := 302) hx hb dL_holds_295 (by decide) (fun _ => ?_) (fun h9 => absurd (show (0 : Int32) = 0 from by decide) h9)
                      refine lv_iconst (v := 1) hx hb dL_holds_302 (by decide) ?_
                      refine lv_iadd hx hb dL_holds_303 ?_
                      refine ej_topi (show ((pinQ t (7 * r + c)) + 1) = pinQ t (7 * r + c + 1) from hQp) ?_
                      refine lv_istore_n (lv' := [(1, .int (pinQ t (7 * r + c + 1))), (8, .int ((sumI (fun j => P_vi t (7 * r + j)) c) + (P_vi t (7 * r + c)))), (14, .int (signI t (7 * r + c))), (13, .int 0), (12, .int (nI b)), (11, .int (nI (7 * r + c))), (0, .ref (o 0)), (2, .int (strQ t (7 * r + c))), (3, .int (bndQ t (7 * r + c))), (4, .int (sumI (P_bl t) (7 * r + c))), (5, .int (nI (fwdM t r))), (6, .int 1), (7, .int (nI r)), (9, .int (nI (belG t r (fwdM t r) c))), (10, .int (nI c))]) hx hb dL_holds_304 rfl hl (by decide) rfl (fun ls hl => ?_)
                      refine lv_iload_n hx hb dL_holds_305 rfl (lv_at hl 7 rfl) ?_
                      refine lv_iload hx hb dL_holds_306 (lv_at hl 4 rfl) ?_
                      refine lv_iconst (v := 3) hx hb dL_holds_308 (by decide) ?_
                      refine lv_icmp_ne (tgt := 316) hx hb dL_holds_309 (by decide) (fun h9 => absurd (congrArg nI (show b = 3 from by omega)) h9) (fun _ => ?_)
                      refine lv_iconst (v := 1) hx hb dL_holds_312 (by decide) ?_
                      refine lv_goto (tgt := 317) hx hb dL_holds_313 (by decide) ?_
                      refine lv_iadd hx hb dL_holds_317 ?_
                      refine ej_topi (show ((strQ t (7 * r + c)) + 1) = strQ t (7 * r + c + 1) from hQs) ?_
                      refine lv_istore_n (lv' := [(2, .int (strQ t (7 * r + c + 1))), (1, .int (pinQ t (7 * r + c + 1))), (8, .int ((sumI (fun j => P_vi t (7 * r + j)) c) + (P_vi t (7 * r + c)))), (14, .int (signI t (7 * r + c))), (13, .int 0), (12, .int (nI b)), (11, .int (nI (7 * r + c))), (0, .ref (o 0)), (3, .int (bndQ t (7 * r + c))), (4, .int (sumI (P_bl t) (7 * r + c))), (5, .int (nI (fwdM t r))), (6, .int 1), (7, .int (nI r)), (9, .int (nI (belG t r (fwdM t r) c))), (10, .int (nI c))]) hx hb dL_holds_318 rfl hl (by decide) rfl (fun ls hl => ?_)
                      refine lv_iload_n hx hb dL_holds_319 rfl (lv_at hl 8 rfl) ?_
                      refine lv_iload hx hb dL_holds_320 (lv_at hl 4 rfl) ?_
                      refine lv_if_eq (tgt := 329) hx hb dL_holds_322 (by decide) (fun _ => ?_) (fun h9 => absurd (show (0 : Int32) = 0 from by decide) h9)
                      refine lv_iload hx hb dL_holds_329 (lv_at hl 5 rfl) ?_
                      refine lv_iconst (v := 3) hx hb dL_holds_331 (by decide) ?_
                      refine lv_icmp_ge (tgt := 342) hx hb dL_holds_332 (by decide) (fun _ => ?_) (fun h9 => absurd (ej_le (a := 3) (b := b) (by omega) (show 3 ≤ b from by omega)) h9)
                      refine lv_iload hx hb dL_holds_342 (lv_at hl 5 rfl) ?_
                      refine lv_iconst (v := 3) hx hb dL_holds_344 (by decide) ?_
                      refine lv_isub hx hb dL_holds_345 ?_
                      refine ej_topi (show ((nI b) - 3) = nI (b - 3) from pk_sub (a := b) (b := 3) (by omega)) ?_
                      refine lv_iadd hx hb dL_holds_346 ?_
                      refine ej_topi (show ((bndQ t (7 * r + c)) + (nI (b - 3))) = bndQ t (7 * r + c + 1) from hQb) ?_
                      refine lv_istore_n (lv' := [(3, .int (bndQ t (7 * r + c + 1))), (2, .int (strQ t (7 * r + c + 1))), (1, .int (pinQ t (7 * r + c + 1))), (8, .int ((sumI (fun j => P_vi t (7 * r + j)) c) + (P_vi t (7 * r + c)))), (14, .int (signI t (7 * r + c))), (13, .int 0), (12, .int (nI b)), (11, .int (nI (7 * r + c))), (0, .ref (o 0)), (4, .int (sumI (P_bl t) (7 * r + c))), (5, .int (nI (fwdM t r))), (6, .int 1), (7, .int (nI r)), (9, .int (nI (belG t r (fwdM t r) c))), (10, .int (nI c))]) hx hb dL_holds_347 rfl hl (by decide) rfl (fun ls hl => ?_)
                      refine lv_iload hx hb dL_holds_348 (lv_at hl 9 rfl) ?_
                      refine lv_aload_n hx hb dL_holds_350 rfl (lv_at hl 8 rfl) ?_
                      refine lv_iload hx hb dL_holds_351 (lv_at hl 7 rfl) ?_
                      refine lv_iconst (v := 1) hx hb dL_holds_353 (by decide) ?_
                      refine lr_pin (rest := [.int (sumI (P_bl t) (7 * r + c))]) (k := 7 * r + c) (w := 1) S hK hN ht0 ht1 hA hD hW hS htl (by omega) (cwV 2 hts gL_holds_X6_pin rfl rfl rfl hdv_X6_pin ⟨Nat.le_of_ble_eq_true rfl, Nat.le_of_ble_eq_true rfl⟩) rfl hl.1 (Nat.le_of_ble_eq_true rfl) dL_holds_354 ⟨Nat.zero_le _, Nat.zero_le _⟩ (fun H locs hW hS => ?_)
                      show W p9 l e9 (eR 20 1000) s9 m9 a9 b9 t9 c9 H locs 0 0 Q (F0 m9 357 ls [.int (pinR t (7 * r + c) 1), .int (sumI (P_bl t) (7 * r + c))])
                      have hW : SW D cI cT o aT aB aS g y z ad t u hs sn q f s0 s1 s2 H := hW
                      refine ej_topi (show (pinR t (7 * r + c) 1) = P_bl t (7 * r + c) from lkp_1 t (7 * r + c)) ?_
                      refine lv_iadd hx hb dL_holds_357 ?_
                      refine lv_istore (lv' := [(4, .int ((sumI (P_bl t) (7 * r + c)) + (P_bl t (7 * r + c)))), (3, .int (bndQ t (7 * r + c + 1))), (2, .int (strQ t (7 * r + c + 1))), (1, .int (pinQ t (7 * r + c + 1))), (8, .int ((sumI (fun j => P_vi t (7 * r + j)) c) + (P_vi t (7 * r + c)))), (14, .int (signI t (7 * r + c))), (13, .int 0), (12, .int (nI b)), (11, .int (nI (7 * r + c))), (0, .ref (o 0)), (5, .int (nI (fwdM t r))), (6, .int 1), (7, .int (nI r)), (9, .int (nI (belG t r (fwdM t r) c))), (10, .int (nI c))]) hx hb dL_holds_358 hl (by decide) rfl (fun ls hl => ?_)
                      refine lv_iload hx hb dL_holds_360 (lv_at hl 13 rfl) ?_
                      refine lv_iload hx hb dL_holds_362 (lv_at hl 10 rfl) ?_
                      refine lv_iload hx hb dL_holds_364 (lv_at hl 14 rfl) ?_
                      refine lv_ishr hx hb dL_holds_366 ?_
                      refine lv_iconst (v := 1) hx hb dL_holds_367 (by decide) ?_
                      refine lv_iand hx hb dL_holds_368 ?_
                      refine ej_topi (show (((nI (fwdM t r)) >>> ((nI c) &&& 31)) &&& 1) = if (fwdM t r).testBit c = true then 1 else 0 from bit_ok (fwdM t r) (fwdM_lt t r) c (by omega)) ?_
                      refine lv_iconst (v := 1) hx hb dL_holds_369 (by decide) ?_
                      have jp383 : ∀ (H : Heap) (locs : List Loc) (ls : Array Slot), SW D cI cT o aT aB aS g y z ad t u hs sn q f s0 s1 s2 H → va_S A H0 H locs → lv_has ls 15 [(4, .int ((sumI (P_bl t) (7 * r + c)) + (P_bl t (7 * r + c)))), (3, .int (bndQ t (7 * r + c + 1))), (2, .int (strQ t (7 * r + c + 1))), (1, .int (pinQ t (7 * r + c + 1))), (8, .int ((sumI (fun j => P_vi t (7 * r + j)) c) + (P_vi t (7 * r + c)))), (14, .int (signI t (7 * r + c))), (13, .int 0), (12, .int (nI b)), (11, .int (nI (7 * r + c))), (0, .ref (o 0)), (5, .int (nI (fwdM t r))), (6, .int 1), (7, .int (nI r)), (9, .int (nI (belG t r (fwdM t r) c))), (10, .int (nI c))] → W p9 l e9 (eR 20 1000) s9 m9 a9 b9 t9 c9 H locs 0 0 Q (F0 m9 383 ls [.int (nI (if (fwdM t r).testBit c = true then nextM t (7 * r + c) else 0)), .int (nI (belG t r (fwdM t r) c))]) := by
                        intro H locs ls hW hS hl
                        refine lv_ior hx hb dL_holds_383 ?_
                        refine ej_topi (show ((nI (belG t r (fwdM t r) c)) ||| (nI (if (fwdM t r).testBit c = true then nextM t (7 * r + c) else 0))) = nI (belG t r (fwdM t r) (c + 1)) from belS t r (fwdM t r) c) ?_
                        refine lv_istore (lv' := [(9, .int (nI (belG t r (fwdM t r) (c + 1)))), (4, .int ((sumI (P_bl t) (7 * r + c)) + (P_bl t (7 * r + c)))), (3, .int (bndQ t (7 * r + c + 1))), (2, .int (strQ t (7 * r + c + 1))), (1, .int (pinQ t (7 * r + c + 1))), (8, .int ((sumI (fun j => P_vi t (7 * r + j)) c) + (P_vi t (7 * r + c)))), (14, .int (signI t (7 * r + c))), (13, .int 0), (12, .int (nI b)), (11, .int (nI (7 * r + c))), (0, .ref (o 0)), (5, .int (nI (fwdM t r))), (6, .int 1), (7, .int (nI r)), (10, .int (nI c))]) hx hb dL_holds_384 hl (by decide) rfl (fun ls hl => ?_)
                        refine lv_iload hx hb dL_holds_386 (lv_at hl 12 rfl) ?_
                        refine lv_if_eq (tgt := 481) hx hb dL_holds_388 (by decide) (fun h9 => absurd h9 (show ¬ (1 : Int32) = 0 from by decide)) (fun _ => ?_)
                        refine lv_iload hx hb dL_holds_391 (lv_at hl 7 rfl) ?_
                        refine lv_if_ne (tgt := 408) hx hb dL_holds_393 (by decide) (fun h9 => absurd (show (0 : Int32) = 0 from by decide) h9) (fun _ => ?_)
                        refine lv_iload hx hb dL_holds_396 (lv_at hl 8 rfl) ?_
                        refine lv_if_lt (tgt := 481) hx hb dL_holds_398 (by decide) (fun h9 => absurd h9 (ej_nlt (a := b) (b := 0) (by omega) (show 0 ≤ b from by omega))) (fun _ => ?_)
                        refine lv_iload hx hb dL_holds_401 (lv_at hl 8 rfl) ?_
                        refine lv_bipush (v := 6) hx hb dL_holds_403 (by decide) ?_
                        refine lv_icmp_gt (tgt := 481) hx hb dL_holds_405 (by decide) (fun h9 => absurd h9 (ej_nlt (a := 6) (b := b) (by omega) (show b ≤ 6 from by omega))) (fun _ => ?_)
                        refine lv_iload hx hb dL_holds_408 (lv_at hl 7 rfl) ?_
                        refine lv_if_eq (tgt := 428) hx hb dL_holds_410 (by decide) (fun _ => ?_) (fun h9 => absurd (show (0 : Int32) = 0 from by decide) h9)
                        refine lv_aload_n hx hb dL_holds_428 rfl (lv_at hl 10 rfl) ?_
                        refine lv_iload hx hb dL_holds_429 (lv_at hl 9 rfl) ?_
                        refine lv_iconst (v := 2) hx hb dL_holds_431 (by decide) ?_
                        refine lr_pin (rest := []) (k := 7 * r + c) (w := 2) S hK hN ht0 ht1 hA hD hW hS htl (by omega) (cwV 2 hts gL_holds_X6_pin rfl rfl rfl hdv_X6_pin ⟨Nat.le_of_ble_eq_true rfl, Nat.le_of_ble_eq_true rfl⟩) rfl hl.1 (Nat.le_of_ble_eq_true rfl) dL_holds_432 ⟨Nat.zero_le _, Nat.zero_le _⟩ (fun H locs hW hS => ?_)
                        show W p9 l e9 (eR 20 1000) s9 m9 a9 b9 t9 c9 H locs 0 0 Q (F0 m9 435 ls [.int (pinR t (7 * r + c) 2)])
                        have hW : SW D cI cT o aT aB aS g y z ad t u hs sn q f s0 s1 s2 H := hW
                        refine ej_topi (show (pinR t (7 * r + c) 2) = if P_ou t (7 * r + c) = 0 then P_si t (7 * r + c) else -4 from lkp_2 t (7 * r + c)) ?_
                        refine ej_topi (show (if P_ou t (7 * r + c) = 0 then P_si t (7 * r + c) else -4) = P_si t (7 * r + c) from (if_pos hou)) ?_
                        refine lv_if_lt (tgt := 481) hx hb dL_holds_435 (by decide) (fun h9 => absurd h9 ((si_ge (ho.2.2.1.2 _ hp35)).1)) (fun _ => ?_)
                        refine lv_aload_n hx hb dL_holds_438 rfl (lv_at hl 10 rfl) ?_
                        refine lv_iload hx hb dL_holds_439 (lv_at hl 9 rfl) ?_
                        refine lv_iconst (v := 2) hx hb dL_holds_441 (by decide) ?_
                        refine lr_pin (rest := []) (k := 7 * r + c) (w := 2) S hK hN ht0 ht1 hA hD hW hS htl (by omega) (cwV 2 hts gL_holds_X6_pin rfl rfl rfl hdv_X6_pin ⟨Nat.le_of_ble_eq_true rfl, Nat.le_of_ble_eq_true rfl⟩) rfl hl.1 (Nat.le_of_ble_eq_true rfl) dL_holds_442 ⟨Nat.zero_le _, Nat.zero_le _⟩ (fun H locs hW hS => ?_)
                        show W p9 l e9 (eR 20 1000) s9 m9 a9 b9 t9 c9 H locs 0 0 Q (F0 m9 445 ls [.int (pinR t (7 * r + c) 2)])
                        have hW : SW D cI cT o aT aB aS g y z ad t u hs sn q f s0 s1 s2 H := hW
                        refine ej_topi (show (pinR t (7 * r + c) 2) = if P_ou t (7 * r + c) = 0 then P_si t (7 * r + c) else -4 from lkp_2 t (7 * r + c)) ?_
                        refine ej_topi (show (if P_ou t (7 * r + c) = 0 then P_si t (7 * r + c) else -4) = P_si t (7 * r + c) from (if_pos hou)) ?_
                        refine lv_iconst (v := 1) hx hb dL_holds_445 (by decide) ?_
                        refine lv_icmp_gt (tgt := 481) hx hb dL_holds_446 (by decide) (fun h9 => absurd h9 ((si_ge (ho.2.2.1.2 _ hp35)).2)) (fun _ => ?_)
                        refine lv_aload_n hx hb dL_holds_449 rfl (lv_at hl 10 rfl) ?_
                        refine lv_iload hx hb dL_holds_450 (lv_at hl 9 rfl) ?_
                        refine lv_iconst (v := 4) hx hb dL_holds_452 (by decide) ?_
                        refine lr_pin (rest := []) (k := 7 * r + c) (w := 4) S hK hN ht0 ht1 hA hD hW hS htl (by omega) (cwV 2 hts gL_holds_X6_pin rfl rfl rfl hdv_X6_pin ⟨Nat.le_of_ble_eq_true rfl, Nat.le_of_ble_eq_true rfl⟩) rfl hl.1 (Nat.le_of_ble_eq_true rfl) dL_holds_453 ⟨Nat.zero_le _, Nat.zero_le _⟩ (fun H locs hW hS => ?_)
                        show W p9 l e9 (eR 20 1000) s9 m9 a9 b9 t9 c9 H locs 0 0 Q (F0 m9 456 ls [.int (pinR t (7 * r + c) 4)])
                        have hW : SW D cI cT o aT aB aS g y z ad t u hs sn q f s0 s1 s2 H := hW
                        refine ej_topi (show (pinR t (7 * r + c) 4) = if (fwdM t ((7 * r + c) / 7)).testBit ((7 * r + c) % 7) = true then 1 else 0 from lkp_4 t (7 * r + c)) ?_
                        refine ej_topi (show (if (fwdM t ((7 * r + c) / 7)).testBit ((7 * r + c) % 7) = true then 1 else 0) = if (fwdM t r).testBit c = true then 1 else 0 from (by rw [show (7 * r + c) / 7 = r by omega, show (7 * r + c) % 7 = c by omega])) ?_
                        refine lv_iload hx hb dL_holds_456 (lv_at hl 11 rfl) ?_
                        refine lv_iload hx hb dL_holds_458 (lv_at hl 14 rfl) ?_
                        refine lv_ishr hx hb dL_holds_460 ?_
                        refine lv_iconst (v := 1) hx hb dL_holds_461 (by decide) ?_
                        refine lv_iand hx hb dL_holds_462 ?_
                        refine ej_topi (show (((nI (fwdM t r)) >>> ((nI c) &&& 31)) &&& 1) = if (fwdM t r).testBit c = true then 1 else 0 from bit_ok (fwdM t r) (fwdM_lt t r) c (by omega)) ?_
                        refine lv_icmp_ne (tgt := 481) hx hb dL_holds_463 (by decide) (fun h9 => absurd (rfl) h9) (fun _ => ?_)
                        refine lv_aload_n hx hb dL_holds_466 rfl (lv_at hl 10 rfl) ?_
                        refine lv_iload hx hb dL_holds_467 (lv_at hl 9 rfl) ?_
                        refine lr_sign (rest := []) (k := 7 * r + c) S hK hN ht0 ht1 hA hD hW hS htl (by omega) (cwV 1 hts gL_holds_X6_sign rfl rfl rfl hdv_X6_sign ⟨Nat.le_of_ble_eq_true rfl, Nat.le_of_ble_eq_true rfl⟩) rfl hl.1 (Nat.le_of_ble_eq_true rfl) dL_holds_469 ⟨Nat.zero_le _, Nat.zero_le _⟩ (fun H locs hW hS => ?_)
                        show W p9 l e9 (eR 20 1000) s9 m9 a9 b9 t9 c9 H locs 0 0 Q (F0 m9 472 ls [.int (signI t (7 * r + c))])
                        have hW : SW D cI cT o aT aB aS g y z ad t u hs sn q f s0 s1 s2 H := hW
                        refine lv_iload hx hb dL_holds_472 (lv_at hl 6 rfl) ?_
                        refine lv_icmp_ne (tgt := 481) hx hb dL_holds_474 (by decide) (fun h9 => absurd (rfl) h9) (fun _ => ?_)
                        refine lv_iconst (v := 1) hx hb dL_holds_477 (by decide) ?_
                        refine lv_goto (tgt := 482) hx hb dL_holds_478 (by decide) ?_
                        refine lv_istore (lv' := [(6, .int 1), (9, .int (nI (belG t r (fwdM t r) (c + 1)))), (4, .int ((sumI (P_bl t) (7 * r + c)) + (P_bl t (7 * r + c)))), (3, .int (bndQ t (7 * r + c + 1))), (2, .int (strQ t (7 * r + c + 1))), (1, .int (pinQ t (7 * r + c + 1))), (8, .int ((sumI (fun j => P_vi t (7 * r + j)) c) + (P_vi t (7 * r + c)))), (14, .int (signI t (7 * r + c))), (13, .int 0), (12, .int (nI b)), (11, .int (nI (7 * r + c))), (0, .ref (o 0)), (5, .int (nI (fwdM t r))), (7, .int (nI r)), (10, .int (nI c))]) hx hb dL_holds_482 hl (by decide) rfl (fun ls hl => ?_)
                        refine lv_iinc (v := nI (c + 1)) (lv' := [(10, .int (nI (c + 1))), (6, .int 1), (9, .int (nI (belG t r (fwdM t r) (c + 1)))), (4, .int ((sumI (P_bl t) (7 * r + c)) + (P_bl t (7 * r + c)))), (3, .int (bndQ t (7 * r + c + 1))), (2, .int (strQ t (7 * r + c + 1))), (1, .int (pinQ t (7 * r + c + 1))), (8, .int ((sumI (fun j => P_vi t (7 * r + j)) c) + (P_vi t (7 * r + c)))), (14, .int (signI t (7 * r + c))), (13, .int 0), (12, .int (nI b)), (11, .int (nI (7 * r + c))), (0, .ref (o 0)), (5, .int (nI (fwdM t r))), (7, .int (nI r))]) hx hb dL_holds_484 hl (k := 14) rfl (nI_add c 1) (by decide) rfl (fun ls hl => ?_)
                        refine lv_goto (tgt := 188) hx hb dL_holds_487 (by decide) ?_
                        have hl : lv_has ls 15 [(0, .ref (o 0)), (1, .int (pinQ t (7 * r + c + 1))), (2, .int (strQ t (7 * r + c + 1))), (3, .int (bndQ t (7 * r + c + 1))), (4, .int ((sumI (P_bl t) (7 * r + c)) + (P_bl t (7 * r + c)))), (5, .int (nI (fwdM t r))), (6, .int 1), (7, .int (nI r)), (8, .int ((sumI (fun j => P_vi t (7 * r + j)) c) + (P_vi t (7 * r + c)))), (9, .int (nI (belG t r (fwdM t r) (c + 1)))), (10, .int (nI (c + 1)))] := lv_sub hl [12, 6, 5, 4, 3, 13, 1, 14, 7, 2, 0] rfl
                        have hl : lv_has ls 15 [(0, .ref (o 0)), (1, .int (pinQ t (7 * r + (c + 1)))), (2, .int (strQ t (7 * r + (c + 1)))), (3, .int (bndQ t (7 * r + (c + 1)))), (4, .int (sumI (P_bl t) (7 * r + (c + 1)))), (5, .int (nI (fwdM t r))), (6, .int 1), (7, .int (nI r)), (8, .int (sumI (fun j => P_vi t (7 * r + j)) (c + 1))), (9, .int (nI (belG t r (fwdM t r) (c + 1)))), (10, .int (nI (c + 1)))] := by exact hl
                        exact ih188  (c + 1) (by omega) (by omega) _ _ _ hW hS hl
                      refine lv_icmp_ne (tgt := 382) hx hb dL_holds_370 (by decide) (fun c_370 => ?_) (fun c_370 => ?_)
                      · refine lv_iconst (v := 0) hx hb dL_holds_382 (by decide) ?_
                        refine ej_topi (show (0 : Int32) = nI (if (fwdM t r).testBit c = true then nextM t (7 * r + c) else 0) from (by rw [if_neg (ej_p0 c_370)]; rfl)) ?_
                        exact jp383 _ _ _ hW hS (lv_sub hl [0, 1, 2, 3, 4, 5, 6, 7, 8, 9, 10, 11, 12, 13, 14] rfl)
                      · refine lv_aload_n hx hb dL_holds_373 rfl (lv_at hl 9 rfl) ?_
                        refine lv_iload hx hb dL_holds_374 (lv_at hl 8 rfl) ?_
                        refine ej_L (rest := [.int (nI (belG t r (fwdM t r) c))]) (As := [.ref (o 0), .int (nI (7 * r + c))]) S hK hN hA hD hW hS (k_sent l D tys cI cT ht0 ht1 o aT aB aS g y z ad t u hs sn q f s0 s1 s2 (7 * r + c) htl (pin_ok ho) hp35) (va_cwS 2 hts gL_holds_L_sent rfl rfl rfl hds_L_sent ⟨Nat.le_of_ble_eq_true rfl, Nat.le_of_ble_eq_true rfl⟩) rfl rfl hl.1 (Nat.le_of_ble_eq_true rfl) dL_holds_376 ⟨Nat.zero_le _, Nat.zero_le _⟩ (fun r9 t9_ u9_ hs9_ q9_ f9_ x9_0 x9_1 x9_2 H locs hP9 hW hS => ?_)
                        obtain ⟨rfl, rfl, rfl, rfl, rfl, rfl, rfl, rfl, rfl⟩ := hP9
                        show W p9 l e9 (eR 20 1000) s9 m9 a9 b9 t9 c9 H locs 0 0 Q (F0 m9 379 ls [.int (nI (nextM t (7 * r + c))), .int (nI (belG t r (fwdM t r) c))])
                        have hW : SW D cI cT o aT aB aS g y z ad t u hs sn q f s0 s1 s2 H := hW
                        refine lv_goto (tgt := 383) hx hb dL_holds_379 (by decide) ?_
                        refine ej_topi (show (nI (nextM t (7 * r + c))) = nI (if (fwdM t r).testBit c = true then nextM t (7 * r + c) else 0) from (by rw [if_pos (ej_p1 c_370)])) ?_
                        exact jp383 _ _ _ hW hS (lv_sub hl [0, 1, 2, 3, 4, 5, 6, 7, 8, 9, 10, 11, 12, 13, 14] rfl)
                    refine lv_icmp_ne (tgt := 254) hx hb dL_holds_246 (by decide) (fun c_246 => ?_) (fun c_246 => ?_)
                    · refine lv_iload hx hb dL_holds_254 (lv_at hl 1 rfl) ?_
                      refine lv_iconst (v := 3) hx hb dL_holds_256 (by decide) ?_
                      refine lv_icmp_ge (tgt := 265) hx hb dL_holds_257 (by decide) (fun _ => ?_) (fun h9 => absurd (ej_le (a := 3) (b := b) (by omega) (show 3 ≤ b from by omega)) h9)
                      refine lv_iload hx hb dL_holds_265 (lv_at hl 1 rfl) ?_
                      refine lv_iconst (v := 3) hx hb dL_holds_267 (by decide) ?_
                      refine lv_icmp_le (tgt := 276) hx hb dL_holds_268 (by decide) (fun _ => ?_) (fun h9 => absurd (ej_le (a := b) (b := 3) (by omega) (show b ≤ 3 from by omega)) h9)
                      refine lv_bipush (v := 124) hx hb dL_holds_276 (by decide) ?_
                      refine ej_topi (show (124 : Int32) = signI t (7 * r + c) from (sg_0 hou (bl_0 (ho.1.2.2.1 _ hp35) c_246) hb6 hbe (by omega)).symm) ?_
                      exact jp278 _ _ _ hW hS (lv_sub hl [0, 1, 2, 3, 4, 5, 6, 7, 8, 9, 10, 11, 12, 13] rfl)
                    · refine lv_bipush (v := 111) hx hb dL_holds_249 (by decide) ?_
                      refine lv_goto (tgt := 278) hx hb dL_holds_251 (by decide) ?_
                      refine ej_topi (show (111 : Int32) = signI t (7 * r + c) from (sg_bell hou c_246).symm) ?_
                      exact jp278 _ _ _ hW hS (lv_sub hl [0, 1, 2, 3, 4, 5, 6, 7, 8, 9, 10, 11, 12, 13] rfl)
                  · have hQs := strQ_0 (t := t) (p := 7 * r + c) (fun z => by have := (be_lt hb6 hbe).2.2.mp z.2; omega)
                    have hQb := bndQ_r hb6 hbe (by omega)
                    refine lv_istore (lv' := [(12, .int (nI b)), (11, .int (nI (7 * r + c))), (0, .ref (o 0)), (1, .int (pinQ t (7 * r + c))), (2, .int (strQ t (7 * r + c))), (3, .int (bndQ t (7 * r + c))), (4, .int (sumI (P_bl t) (7 * r + c))), (5, .int (nI (fwdM t r))), (6, .int 1), (7, .int (nI r)), (8, .int (sumI (fun j => P_vi t (7 * r + j)) c)), (9, .int (nI (belG t r (fwdM t r) c))), (10, .int (nI c))]) hx hb dL_holds_212 hl (by decide) rfl (fun ls hl => ?_)
                    refine lv_iload hx hb dL_holds_214 (lv_at hl 0 rfl) ?_
                    refine lv_bipush (v := (-4)) hx hb dL_holds_216 (by decide) ?_
                    refine lv_icmp_ne (tgt := 225) hx hb dL_holds_218 (by decide) (fun _ => ?_) (fun h9 => absurd h9 (nI_ne4 (by omega)))
                    refine lv_iconst (v := 0) hx hb dL_holds_225 (by decide) ?_
                    refine lv_istore (lv' := [(13, .int 0), (12, .int (nI b)), (11, .int (nI (7 * r + c))), (0, .ref (o 0)), (1, .int (pinQ t (7 * r + c))), (2, .int (strQ t (7 * r + c))), (3, .int (bndQ t (7 * r + c))), (4, .int (sumI (P_bl t) (7 * r + c))), (5, .int (nI (fwdM t r))), (6, .int 1), (7, .int (nI r)), (8, .int (sumI (fun j => P_vi t (7 * r + j)) c)), (9, .int (nI (belG t r (fwdM t r) c))), (10, .int (nI c))]) hx hb dL_holds_226 hl (by decide) rfl (fun ls hl => ?_)
                    refine lv_iload hx hb dL_holds_228 (lv_at hl 0 rfl) ?_
                    refine lv_if_eq (tgt := 238) hx hb dL_holds_230 (by decide) (fun _ => ?_) (fun h9 => absurd (show (0 : Int32) = 0 from by decide) h9)
                    refine lv_aload_n hx hb dL_holds_238 rfl (lv_at hl 3 rfl) ?_
                    refine lv_iload hx hb dL_holds_239 (lv_at hl 2 rfl) ?_
                    refine lv_iconst (v := 1) hx hb dL_holds_241 (by decide) ?_
                    refine lr_pin (rest := []) (k := 7 * r + c) (w := 1) S hK hN ht0 ht1 hA hD hW hS htl (by omega) (cwV 2 hts gL_holds_X6_pin rfl rfl rfl hdv_X6_pin ⟨Nat.le_of_ble_eq_true rfl, Nat.le_of_ble_eq_true rfl⟩) rfl hl.1 (Nat.le_of_ble_eq_true rfl) dL_holds_242 ⟨Nat.zero_le _, Nat.zero_le _⟩ (fun H locs hW hS => ?_)
                    show W p9 l e9 (eR 20 1000) s9 m9 a9 b9 t9 c9 H locs 0 0 Q (F0 m9 245 ls [.int (pinR t (7 * r + c) 1)])
                    have hW : SW D cI cT o aT aB aS g y z ad t u hs sn q f s0 s1 s2 H := hW
                    refine ej_topi (show (pinR t (7 * r + c) 1) = P_bl t (7 * r + c) from lkp_1 t (7 * r + c)) ?_
                    refine lv_iconst (v := 1) hx hb dL_holds_245 (by decide) ?_
                    have jp278 : ∀ (H : Heap) (locs : List Loc) (ls : Array Slot), SW D cI cT o aT aB aS g y z ad t u hs sn q f s0 s1 s2 H → va_S A H0 H locs → lv_has ls 15 [(13, .int 0), (12, .int (nI b)), (11, .int (nI (7 * r + c))), (0, .ref (o 0)), (1, .int (pinQ t (7 * r + c))), (2, .int (strQ t (7 * r + c))), (3, .int (bndQ t (7 * r + c))), (4, .int (sumI (P_bl t) (7 * r + c))), (5, .int (nI (fwdM t r))), (6, .int 1), (7, .int (nI r)), (8, .int (sumI (fun j => P_vi t (7 * r + j)) c)), (9, .int (nI (belG t r (fwdM t r) c))), (10, .int (nI c))] → W p9 l e9 (eR 20 1000) s9 m9 a9 b9 t9 c9 H locs 0 0 Q (F0 m9 278 ls [.int (signI t (7 * r + c))]) := by
                      intro H locs ls hW hS hl
                      refine lv_istore (lv' := [(14, .int (signI t (7 * r + c))), (13, .int 0), (12, .int (nI b)), (11, .int (nI (7 * r + c))), (0, .ref (o 0)), (1, .int (pinQ t (7 * r + c))), (2, .int (strQ t (7 * r + c))), (3, .int (bndQ t (7 * r + c))), (4, .int (sumI (P_bl t) (7 * r + c))), (5, .int (nI (fwdM t r))), (6, .int 1), (7, .int (nI r)), (8, .int (sumI (fun j => P_vi t (7 * r + j)) c)), (9, .int (nI (belG t r (fwdM t r) c))), (10, .int (nI c))]) hx hb dL_holds_278 hl (by decide) rfl (fun ls hl => ?_)
                      refine lv_iload hx hb dL_holds_280 (lv_at hl 12 rfl) ?_
                      refine lv_aload_n hx hb dL_holds_282 rfl (lv_at hl 4 rfl) ?_
                      refine lv_iload hx hb dL_holds_283 (lv_at hl 3 rfl) ?_
                      refine lv_iconst (v := 3) hx hb dL_holds_285 (by decide) ?_
                      refine lr_pin (rest := [.int (sumI (fun j => P_vi t (7 * r + j)) c)]) (k := 7 * r + c) (w := 3) S hK hN ht0 ht1 hA hD hW hS htl (by omega) (cwV 2 hts gL_holds_X6_pin rfl rfl rfl hdv_X6_pin ⟨Nat.le_of_ble_eq_true rfl, Nat.le_of_ble_eq_true rfl⟩) rfl hl.1 (Nat.le_of_ble_eq_true rfl) dL_holds_286 ⟨Nat.zero_le _, Nat.zero_le _⟩ (fun H locs hW hS => ?_)
                      show W p9 l e9 (eR 20 1000) s9 m9 a9 b9 t9 c9 H locs 0 0 Q (F0 m9 289 ls [.int (pinR t (7 * r + c) 3), .int (sumI (fun j => P_vi t (7 * r + j)) c)])
                      have hW : SW D cI cT o aT aB aS g y z ad t u hs sn q f s0 s1 s2 H := hW
                      refine ej_topi (show (pinR t (7 * r + c) 3) = P_vi t (7 * r + c) from lkp_3 t (7 * r + c)) ?_
                      refine lv_iadd hx hb dL_holds_289 ?_
                      refine lv_istore (lv' := [(8, .int ((sumI (fun j => P_vi t (7 * r + j)) c) + (P_vi t (7 * r + c)))), (14, .int (signI t (7 * r + c))), (13, .int 0), (12, .int (nI b)), (11, .int (nI (7 * r + c))), (0, .ref (o 0)), (1, .int (pinQ t (7 * r + c))), (2, .int (strQ t (7 * r + c))), (3, .int (bndQ t (7 * r + c))), (4, .int (sumI (P_bl t) (7 * r + c))), (5, .int (nI (fwdM t r))), (6, .int 1), (7, .int (nI r)), (9, .int (nI (belG t r (fwdM t r) c))), (10, .int (nI c))]) hx hb dL_holds_290 hl (by decide) rfl (fun ls hl => ?_)
                      refine lv_iload_n hx hb dL_holds_292 rfl (lv_at hl 6 rfl) ?_
                      refine lv_iload hx hb dL_holds_293 (lv_at hl 2 rfl) ?_
                      refine lv_if_eq (tgt := 302) hx hb dL_holds_295 (by decide) (fun _ => ?_) (fun h9 => absurd (show (0 : Int32) = 0 from by decide) h9)
                      refine lv_iconst (v := 1) hx hb dL_holds_302 (by decide) ?_
                      refine lv_iadd hx hb dL_holds_303 ?_
                      refine ej_topi (show ((pinQ t (7 * r + c)) + 1) = pinQ t (7 * r + c + 1) from hQp) ?_
                      refine lv_istore_n (lv' := [(1, .int (pinQ t (7 * r + c + 1))), (8, .int ((sumI (fun j => P_vi t (7 * r + j)) c) + (P_vi t (7 * r + c)))), (14, .int (signI t (7 * r + c))), (13, .int 0), (12, .int (nI b)), (11, .int (nI (7 * r + c))), (0, .ref (o 0)), (2, .int (strQ t (7 * r + c))), (3, .int (bndQ t (7 * r + c))), (4, .int (sumI (P_bl t) (7 * r + c))), (5, .int (nI (fwdM t r))), (6, .int 1), (7, .int (nI r)), (9, .int (nI (belG t r (fwdM t r) c))), (10, .int (nI c))]) hx hb dL_holds_304 rfl hl (by decide) rfl (fun ls hl => ?_)
                      refine lv_iload_n hx hb dL_holds_305 rfl (lv_at hl 7 rfl) ?_
                      refine lv_iload hx hb dL_holds_306 (lv_at hl 4 rfl) ?_
                      refine lv_iconst (v := 3) hx hb dL_holds_308 (by decide) ?_
                      refine lv_icmp_ne (tgt := 316) hx hb dL_holds_309 (by decide) (fun _ => ?_) (fun h9 => absurd h9 (ej_ne (a := b) (b := 3) (by omega) (by omega) (show b ≠ 3 from by omega)))
                      refine lv_iconst (v := 0) hx hb dL_holds_316 (by decide) ?_
                      refine lv_iadd hx hb dL_holds_317 ?_
                      refine ej_topi (show ((strQ t (7 * r + c)) + 0) = strQ t (7 * r + c + 1) from hQs) ?_
                      refine lv_istore_n (lv' := [(2, .int (strQ t (7 * r + c + 1))), (1, .int (pinQ t (7 * r + c + 1))), (8, .int ((sumI (fun j => P_vi t (7 * r + j)) c) + (P_vi t (7 * r + c)))), (14, .int (signI t (7 * r + c))), (13, .int 0), (12, .int (nI b)), (11, .int (nI (7 * r + c))), (0, .ref (o 0)), (3, .int (bndQ t (7 * r + c))), (4, .int (sumI (P_bl t) (7 * r + c))), (5, .int (nI (fwdM t r))), (6, .int 1), (7, .int (nI r)), (9, .int (nI (belG t r (fwdM t r) c))), (10, .int (nI c))]) hx hb dL_holds_318 rfl hl (by decide) rfl (fun ls hl => ?_)
                      refine lv_iload_n hx hb dL_holds_319 rfl (lv_at hl 8 rfl) ?_
                      refine lv_iload hx hb dL_holds_320 (lv_at hl 4 rfl) ?_
                      refine lv_if_eq (tgt := 329) hx hb dL_holds_322 (by decide) (fun _ => ?_) (fun h9 => absurd (show (0 : Int32) = 0 from by decide) h9)
                      refine lv_iload hx hb dL_holds_329 (lv_at hl 5 rfl) ?_
                      refine lv_iconst (v := 3) hx hb dL_holds_331 (by decide) ?_
                      refine lv_icmp_ge (tgt := 342) hx hb dL_holds_332 (by decide) (fun _ => ?_) (fun h9 => absurd (ej_le (a := 3) (b := b) (by omega) (show 3 ≤ b from by omega)) h9)
                      refine lv_iload hx hb dL_holds_342 (lv_at hl 5 rfl) ?_
                      refine lv_iconst (v := 3) hx hb dL_holds_344 (by decide) ?_
                      refine lv_isub hx hb dL_holds_345 ?_
                      refine ej_topi (show ((nI b) - 3) = nI (b - 3) from pk_sub (a := b) (b := 3) (by omega)) ?_
                      refine lv_iadd hx hb dL_holds_346 ?_
                      refine ej_topi (show ((bndQ t (7 * r + c)) + (nI (b - 3))) = bndQ t (7 * r + c + 1) from hQb) ?_
                      refine lv_istore_n (lv' := [(3, .int (bndQ t (7 * r + c + 1))), (2, .int (strQ t (7 * r + c + 1))), (1, .int (pinQ t (7 * r + c + 1))), (8, .int ((sumI (fun j => P_vi t (7 * r + j)) c) + (P_vi t (7 * r + c)))), (14, .int (signI t (7 * r + c))), (13, .int 0), (12, .int (nI b)), (11, .int (nI (7 * r + c))), (0, .ref (o 0)), (4, .int (sumI (P_bl t) (7 * r + c))), (5, .int (nI (fwdM t r))), (6, .int 1), (7, .int (nI r)), (9, .int (nI (belG t r (fwdM t r) c))), (10, .int (nI c))]) hx hb dL_holds_347 rfl hl (by decide) rfl (fun ls hl => ?_)
                      refine lv_iload hx hb dL_holds_348 (lv_at hl 9 rfl) ?_
                      refine lv_aload_n hx hb dL_holds_350 rfl (lv_at hl 8 rfl) ?_
                      refine lv_iload hx hb dL_holds_351 (lv_at hl 7 rfl) ?_
                      refine lv_iconst (v := 1) hx hb dL_holds_353 (by decide) ?_
                      refine lr_pin (rest := [.int (sumI (P_bl t) (7 * r + c))]) (k := 7 * r + c) (w := 1) S hK hN ht0 ht1 hA hD hW hS htl (by omega) (cwV 2 hts gL_holds_X6_pin rfl rfl rfl hdv_X6_pin ⟨Nat.le_of_ble_eq_true rfl, Nat.le_of_ble_eq_true rfl⟩) rfl hl.1 (Nat.le_of_ble_eq_true rfl) dL_holds_354 ⟨Nat.zero_le _, Nat.zero_le _⟩ (fun H locs hW hS => ?_)
                      show W p9 l e9 (eR 20 1000) s9 m9 a9 b9 t9 c9 H locs 0 0 Q (F0 m9 357 ls [.int (pinR t (7 * r + c) 1), .int (sumI (P_bl t) (7 * r + c))])
                      have hW : SW D cI cT o aT aB aS g y z ad t u hs sn q f s0 s1 s2 H := hW
                      refine ej_topi (show (pinR t (7 * r + c) 1) = P_bl t (7 * r + c) from lkp_1 t (7 * r + c)) ?_
                      refine lv_iadd hx hb dL_holds_357 ?_
                      refine lv_istore (lv' := [(4, .int ((sumI (P_bl t) (7 * r + c)) + (P_bl t (7 * r + c)))), (3, .int (bndQ t (7 * r + c + 1))), (2, .int (strQ t (7 * r + c + 1))), (1, .int (pinQ t (7 * r + c + 1))), (8, .int ((sumI (fun j => P_vi t (7 * r + j)) c) + (P_vi t (7 * r + c)))), (14, .int (signI t (7 * r + c))), (13, .int 0), (12, .int (nI b)), (11, .int (nI (7 * r + c))), (0, .ref (o 0)), (5, .int (nI (fwdM t r))), (6, .int 1), (7, .int (nI r)), (9, .int (nI (belG t r (fwdM t r) c))), (10, .int (nI c))]) hx hb dL_holds_358 hl (by decide) rfl (fun ls hl => ?_)
                      refine lv_iload hx hb dL_holds_360 (lv_at hl 13 rfl) ?_
                      refine lv_iload hx hb dL_holds_362 (lv_at hl 10 rfl) ?_
                      refine lv_iload hx hb dL_holds_364 (lv_at hl 14 rfl) ?_
                      refine lv_ishr hx hb dL_holds_366 ?_
                      refine lv_iconst (v := 1) hx hb dL_holds_367 (by decide) ?_
                      refine lv_iand hx hb dL_holds_368 ?_
                      refine ej_topi (show (((nI (fwdM t r)) >>> ((nI c) &&& 31)) &&& 1) = if (fwdM t r).testBit c = true then 1 else 0 from bit_ok (fwdM t r) (fwdM_lt t r) c (by omega)) ?_
                      refine lv_iconst (v := 1) hx hb dL_holds_369 (by decide) ?_
                      have jp383 : ∀ (H : Heap) (locs : List Loc) (ls : Array Slot), SW D cI cT o aT aB aS g y z ad t u hs sn q f s0 s1 s2 H → va_S A H0 H locs → lv_has ls 15 [(4, .int ((sumI (P_bl t) (7 * r + c)) + (P_bl t (7 * r + c)))), (3, .int (bndQ t (7 * r + c + 1))), (2, .int (strQ t (7 * r + c + 1))), (1, .int (pinQ t (7 * r + c + 1))), (8, .int ((sumI (fun j => P_vi t (7 * r + j)) c) + (P_vi t (7 * r + c)))), (14, .int (signI t (7 * r + c))), (13, .int 0), (12, .int (nI b)), (11, .int (nI (7 * r + c))), (0, .ref (o 0)), (5, .int (nI (fwdM t r))), (6, .int 1), (7, .int (nI r)), (9, .int (nI (belG t r (fwdM t r) c))), (10, .int (nI c))] → W p9 l e9 (eR 20 1000) s9 m9 a9 b9 t9 c9 H locs 0 0 Q (F0 m9 383 ls [.int (nI (if (fwdM t r).testBit c = true then nextM t (7 * r + c) else 0)), .int (nI (belG t r (fwdM t r) c))]) := by
                        intro H locs ls hW hS hl
                        refine lv_ior hx hb dL_holds_383 ?_
                        refine ej_topi (show ((nI (belG t r (fwdM t r) c)) ||| (nI (if (fwdM t r).testBit c = true then nextM t (7 * r + c) else 0))) = nI (belG t r (fwdM t r) (c + 1)) from belS t r (fwdM t r) c) ?_
                        refine lv_istore (lv' := [(9, .int (nI (belG t r (fwdM t r) (c + 1)))), (4, .int ((sumI (P_bl t) (7 * r + c)) + (P_bl t (7 * r + c)))), (3, .int (bndQ t (7 * r + c + 1))), (2, .int (strQ t (7 * r + c + 1))), (1, .int (pinQ t (7 * r + c + 1))), (8, .int ((sumI (fun j => P_vi t (7 * r + j)) c) + (P_vi t (7 * r + c)))), (14, .int (signI t (7 * r + c))), (13, .int 0), (12, .int (nI b)), (11, .int (nI (7 * r + c))), (0, .ref (o 0)), (5, .int (nI (fwdM t r))), (6, .int 1), (7, .int (nI r)), (10, .int (nI c))]) hx hb dL_holds_384 hl (by decide) rfl (fun ls hl => ?_)
                        refine lv_iload hx hb dL_holds_386 (lv_at hl 12 rfl) ?_
                        refine lv_if_eq (tgt := 481) hx hb dL_holds_388 (by decide) (fun h9 => absurd h9 (show ¬ (1 : Int32) = 0 from by decide)) (fun _ => ?_)
                        refine lv_iload hx hb dL_holds_391 (lv_at hl 7 rfl) ?_
                        refine lv_if_ne (tgt := 408) hx hb dL_holds_393 (by decide) (fun h9 => absurd (show (0 : Int32) = 0 from by decide) h9) (fun _ => ?_)
                        refine lv_iload hx hb dL_holds_396 (lv_at hl 8 rfl) ?_
                        refine lv_if_lt (tgt := 481) hx hb dL_holds_398 (by decide) (fun h9 => absurd h9 (ej_nlt (a := b) (b := 0) (by omega) (show 0 ≤ b from by omega))) (fun _ => ?_)
                        refine lv_iload hx hb dL_holds_401 (lv_at hl 8 rfl) ?_
                        refine lv_bipush (v := 6) hx hb dL_holds_403 (by decide) ?_
                        refine lv_icmp_gt (tgt := 481) hx hb dL_holds_405 (by decide) (fun h9 => absurd h9 (ej_nlt (a := 6) (b := b) (by omega) (show b ≤ 6 from by omega))) (fun _ => ?_)
                        refine lv_iload hx hb dL_holds_408 (lv_at hl 7 rfl) ?_
                        refine lv_if_eq (tgt := 428) hx hb dL_holds_410 (by decide) (fun _ => ?_) (fun h9 => absurd (show (0 : Int32) = 0 from by decide) h9)
                        refine lv_aload_n hx hb dL_holds_428 rfl (lv_at hl 10 rfl) ?_
                        refine lv_iload hx hb dL_holds_429 (lv_at hl 9 rfl) ?_
                        refine lv_iconst (v := 2) hx hb dL_holds_431 (by decide) ?_
                        refine lr_pin (rest := []) (k := 7 * r + c) (w := 2) S hK hN ht0 ht1 hA hD hW hS htl (by omega) (cwV 2 hts gL_holds_X6_pin rfl rfl rfl hdv_X6_pin ⟨Nat.le_of_ble_eq_true rfl, Nat.le_of_ble_eq_true rfl⟩) rfl hl.1 (Nat.le_of_ble_eq_true rfl) dL_holds_432 ⟨Nat.zero_le _, Nat.zero_le _⟩ (fun H locs hW hS => ?_)
                        show W p9 l e9 (eR 20 1000) s9 m9 a9 b9 t9 c9 H locs 0 0 Q (F0 m9 435 ls [.int (pinR t (7 * r + c) 2)])
                        have hW : SW D cI cT o aT aB aS g y z ad t u hs sn q f s0 s1 s2 H := hW
                        refine ej_topi (show (pinR t (7 * r + c) 2) = if P_ou t (7 * r + c) = 0 then P_si t (7 * r + c) else -4 from lkp_2 t (7 * r + c)) ?_
                        refine ej_topi (show (if P_ou t (7 * r + c) = 0 then P_si t (7 * r + c) else -4) = P_si t (7 * r + c) from (if_pos hou)) ?_
                        refine lv_if_lt (tgt := 481) hx hb dL_holds_435 (by decide) (fun h9 => absurd h9 ((si_ge (ho.2.2.1.2 _ hp35)).1)) (fun _ => ?_)
                        refine lv_aload_n hx hb dL_holds_438 rfl (lv_at hl 10 rfl) ?_
                        refine lv_iload hx hb dL_holds_439 (lv_at hl 9 rfl) ?_
                        refine lv_iconst (v := 2) hx hb dL_holds_441 (by decide) ?_
                        refine lr_pin (rest := []) (k := 7 * r + c) (w := 2) S hK hN ht0 ht1 hA hD hW hS htl (by omega) (cwV 2 hts gL_holds_X6_pin rfl rfl rfl hdv_X6_pin ⟨Nat.le_of_ble_eq_true rfl, Nat.le_of_ble_eq_true rfl⟩) rfl hl.1 (Nat.le_of_ble_eq_true rfl) dL_holds_442 ⟨Nat.zero_le _, Nat.zero_le _⟩ (fun H locs hW hS => ?_)
                        show W p9 l e9 (eR 20 1000) s9 m9 a9 b9 t9 c9 H locs 0 0 Q (F0 m9 445 ls [.int (pinR t (7 * r + c) 2)])
                        have hW : SW D cI cT o aT aB aS g y z ad t u hs sn q f s0 s1 s2 H := hW
                        refine ej_topi (show (pinR t (7 * r + c) 2) = if P_ou t (7 * r + c) = 0 then P_si t (7 * r + c) else -4 from lkp_2 t (7 * r + c)) ?_
                        refine ej_topi (show (if P_ou t (7 * r + c) = 0 then P_si t (7 * r + c) else -4) = P_si t (7 * r + c) from (if_pos hou)) ?_
                        refine lv_iconst (v := 1) hx hb dL_holds_445 (by decide) ?_
                        refine lv_icmp_gt (tgt := 481) hx hb dL_holds_446 (by decide) (fun h9 => absurd h9 ((si_ge (ho.2.2.1.2 _ hp35)).2)) (fun _ => ?_)
                        refine lv_aload_n hx hb dL_holds_449 rfl (lv_at hl 10 rfl) ?_
                        refine lv_iload hx hb dL_holds_450 (lv_at hl 9 rfl) ?_
                        refine lv_iconst (v := 4) hx hb dL_holds_452 (by decide) ?_
                        refine lr_pin (rest := []) (k := 7 * r + c) (w := 4) S hK hN ht0 ht1 hA hD hW hS htl (by omega) (cwV 2 hts gL_holds_X6_pin rfl rfl rfl hdv_X6_pin ⟨Nat.le_of_ble_eq_true rfl, Nat.le_of_ble_eq_true rfl⟩) rfl hl.1 (Nat.le_of_ble_eq_true rfl) dL_holds_453 ⟨Nat.zero_le _, Nat.zero_le _⟩ (fun H locs hW hS => ?_)
                        show W p9 l e9 (eR 20 1000) s9 m9 a9 b9 t9 c9 H locs 0 0 Q (F0 m9 456 ls [.int (pinR t (7 * r + c) 4)])
                        have hW : SW D cI cT o aT aB aS g y z ad t u hs sn q f s0 s1 s2 H := hW
                        refine ej_topi (show (pinR t (7 * r + c) 4) = if (fwdM t ((7 * r + c) / 7)).testBit ((7 * r + c) % 7) = true then 1 else 0 from lkp_4 t (7 * r + c)) ?_
                        refine ej_topi (show (if (fwdM t ((7 * r + c) / 7)).testBit ((7 * r + c) % 7) = true then 1 else 0) = if (fwdM t r).testBit c = true then 1 else 0 from (by rw [show (7 * r + c) / 7 = r by omega, show (7 * r + c) % 7 = c by omega])) ?_
                        refine lv_iload hx hb dL_holds_456 (lv_at hl 11 rfl) ?_
                        refine lv_iload hx hb dL_holds_458 (lv_at hl 14 rfl) ?_
                        refine lv_ishr hx hb dL_holds_460 ?_
                        refine lv_iconst (v := 1) hx hb dL_holds_461 (by decide) ?_
                        refine lv_iand hx hb dL_holds_462 ?_
                        refine ej_topi (show (((nI (fwdM t r)) >>> ((nI c) &&& 31)) &&& 1) = if (fwdM t r).testBit c = true then 1 else 0 from bit_ok (fwdM t r) (fwdM_lt t r) c (by omega)) ?_
                        refine lv_icmp_ne (tgt := 481) hx hb dL_holds_463 (by decide) (fun h9 => absurd (rfl) h9) (fun _ => ?_)
                        refine lv_aload_n hx hb dL_holds_466 rfl (lv_at hl 10 rfl) ?_
                        refine lv_iload hx hb dL_holds_467 (lv_at hl 9 rfl) ?_
                        refine lr_sign (rest := []) (k := 7 * r + c) S hK hN ht0 ht1 hA hD hW hS htl (by omega) (cwV 1 hts gL_holds_X6_sign rfl rfl rfl hdv_X6_sign ⟨Nat.le_of_ble_eq_true rfl, Nat.le_of_ble_eq_true rfl⟩) rfl hl.1 (Nat.le_of_ble_eq_true rfl) dL_holds_469 ⟨Nat.zero_le _, Nat.zero_le _⟩ (fun H locs hW hS => ?_)
                        show W p9 l e9 (eR 20 1000) s9 m9 a9 b9 t9 c9 H locs 0 0 Q (F0 m9 472 ls [.int (signI t (7 * r + c))])
                        have hW : SW D cI cT o aT aB aS g y z ad t u hs sn q f s0 s1 s2 H := hW
                        refine lv_iload hx hb dL_holds_472 (lv_at hl 6 rfl) ?_
                        refine lv_icmp_ne (tgt := 481) hx hb dL_holds_474 (by decide) (fun h9 => absurd (rfl) h9) (fun _ => ?_)
                        refine lv_iconst (v := 1) hx hb dL_holds_477 (by decide) ?_
                        refine lv_goto (tgt := 482) hx hb dL_holds_478 (by decide) ?_
                        refine lv_istore (lv' := [(6, .int 1), (9, .int (nI (belG t r (fwdM t r) (c + 1)))), (4, .int ((sumI (P_bl t) (7 * r + c)) + (P_bl t (7 * r + c)))), (3, .int (bndQ t (7 * r + c + 1))), (2, .int (strQ t (7 * r + c + 1))), (1, .int (pinQ t (7 * r + c + 1))), (8, .int ((sumI (fun j => P_vi t (7 * r + j)) c) + (P_vi t (7 * r + c)))), (14, .int (signI t (7 * r + c))), (13, .int 0), (12, .int (nI b)), (11, .int (nI (7 * r + c))), (0, .ref (o 0)), (5, .int (nI (fwdM t r))), (7, .int (nI r)), (10, .int (nI c))]) hx hb dL_holds_482 hl (by decide) rfl (fun ls hl => ?_)
                        refine lv_iinc (v := nI (c + 1)) (lv' := [(10, .int (nI (c + 1))), (6, .int 1), (9, .int (nI (belG t r (fwdM t r) (c + 1)))), (4, .int ((sumI (P_bl t) (7 * r + c)) + (P_bl t (7 * r + c)))), (3, .int (bndQ t (7 * r + c + 1))), (2, .int (strQ t (7 * r + c + 1))), (1, .int (pinQ t (7 * r + c + 1))), (8, .int ((sumI (fun j => P_vi t (7 * r + j)) c) + (P_vi t (7 * r + c)))), (14, .int (signI t (7 * r + c))), (13, .int 0), (12, .int (nI b)), (11, .int (nI (7 * r + c))), (0, .ref (o 0)), (5, .int (nI (fwdM t r))), (7, .int (nI r))]) hx hb dL_holds_484 hl (k := 14) rfl (nI_add c 1) (by decide) rfl (fun ls hl => ?_)
                        refine lv_goto (tgt := 188) hx hb dL_holds_487 (by decide) ?_
                        have hl : lv_has ls 15 [(0, .ref (o 0)), (1, .int (pinQ t (7 * r + c + 1))), (2, .int (strQ t (7 * r + c + 1))), (3, .int (bndQ t (7 * r + c + 1))), (4, .int ((sumI (P_bl t) (7 * r + c)) + (P_bl t (7 * r + c)))), (5, .int (nI (fwdM t r))), (6, .int 1), (7, .int (nI r)), (8, .int ((sumI (fun j => P_vi t (7 * r + j)) c) + (P_vi t (7 * r + c)))), (9, .int (nI (belG t r (fwdM t r) (c + 1)))), (10, .int (nI (c + 1)))] := lv_sub hl [12, 6, 5, 4, 3, 13, 1, 14, 7, 2, 0] rfl
                        have hl : lv_has ls 15 [(0, .ref (o 0)), (1, .int (pinQ t (7 * r + (c + 1)))), (2, .int (strQ t (7 * r + (c + 1)))), (3, .int (bndQ t (7 * r + (c + 1)))), (4, .int (sumI (P_bl t) (7 * r + (c + 1)))), (5, .int (nI (fwdM t r))), (6, .int 1), (7, .int (nI r)), (8, .int (sumI (fun j => P_vi t (7 * r + j)) (c + 1))), (9, .int (nI (belG t r (fwdM t r) (c + 1)))), (10, .int (nI (c + 1)))] := by exact hl
                        exact ih188  (c + 1) (by omega) (by omega) _ _ _ hW hS hl
                      refine lv_icmp_ne (tgt := 382) hx hb dL_holds_370 (by decide) (fun c_370 => ?_) (fun c_370 => ?_)
                      · refine lv_iconst (v := 0) hx hb dL_holds_382 (by decide) ?_
                        refine ej_topi (show (0 : Int32) = nI (if (fwdM t r).testBit c = true then nextM t (7 * r + c) else 0) from (by rw [if_neg (ej_p0 c_370)]; rfl)) ?_
                        exact jp383 _ _ _ hW hS (lv_sub hl [0, 1, 2, 3, 4, 5, 6, 7, 8, 9, 10, 11, 12, 13, 14] rfl)
                      · refine lv_aload_n hx hb dL_holds_373 rfl (lv_at hl 9 rfl) ?_
                        refine lv_iload hx hb dL_holds_374 (lv_at hl 8 rfl) ?_
                        refine ej_L (rest := [.int (nI (belG t r (fwdM t r) c))]) (As := [.ref (o 0), .int (nI (7 * r + c))]) S hK hN hA hD hW hS (k_sent l D tys cI cT ht0 ht1 o aT aB aS g y z ad t u hs sn q f s0 s1 s2 (7 * r + c) htl (pin_ok ho) hp35) (va_cwS 2 hts gL_holds_L_sent rfl rfl rfl hds_L_sent ⟨Nat.le_of_ble_eq_true rfl, Nat.le_of_ble_eq_true rfl⟩) rfl rfl hl.1 (Nat.le_of_ble_eq_true rfl) dL_holds_376 ⟨Nat.zero_le _, Nat.zero_le _⟩ (fun r9 t9_ u9_ hs9_ q9_ f9_ x9_0 x9_1 x9_2 H locs hP9 hW hS => ?_)
                        obtain ⟨rfl, rfl, rfl, rfl, rfl, rfl, rfl, rfl, rfl⟩ := hP9
                        show W p9 l e9 (eR 20 1000) s9 m9 a9 b9 t9 c9 H locs 0 0 Q (F0 m9 379 ls [.int (nI (nextM t (7 * r + c))), .int (nI (belG t r (fwdM t r) c))])
                        have hW : SW D cI cT o aT aB aS g y z ad t u hs sn q f s0 s1 s2 H := hW
                        refine lv_goto (tgt := 383) hx hb dL_holds_379 (by decide) ?_
                        refine ej_topi (show (nI (nextM t (7 * r + c))) = nI (if (fwdM t r).testBit c = true then nextM t (7 * r + c) else 0) from (by rw [if_pos (ej_p1 c_370)])) ?_
                        exact jp383 _ _ _ hW hS (lv_sub hl [0, 1, 2, 3, 4, 5, 6, 7, 8, 9, 10, 11, 12, 13, 14] rfl)
                    refine lv_icmp_ne (tgt := 254) hx hb dL_holds_246 (by decide) (fun c_246 => ?_) (fun c_246 => ?_)
                    · refine lv_iload hx hb dL_holds_254 (lv_at hl 1 rfl) ?_
                      refine lv_iconst (v := 3) hx hb dL_holds_256 (by decide) ?_
                      refine lv_icmp_ge (tgt := 265) hx hb dL_holds_257 (by decide) (fun _ => ?_) (fun h9 => absurd (ej_le (a := 3) (b := b) (by omega) (show 3 ≤ b from by omega)) h9)
                      refine lv_iload hx hb dL_holds_265 (lv_at hl 1 rfl) ?_
                      refine lv_iconst (v := 3) hx hb dL_holds_267 (by decide) ?_
                      refine lv_icmp_le (tgt := 276) hx hb dL_holds_268 (by decide) (fun h9 => absurd h9 (ej_ge (a := 3) (b := b) (by omega) (show 3 < b from by omega))) (fun _ => ?_)
                      refine lv_bipush (v := 62) hx hb dL_holds_271 (by decide) ?_
                      refine lv_goto (tgt := 278) hx hb dL_holds_273 (by decide) ?_
                      refine ej_topi (show (62 : Int32) = signI t (7 * r + c) from (sg_r hou (bl_0 (ho.1.2.2.1 _ hp35) c_246) hb6 hbe (by omega)).symm) ?_
                      exact jp278 _ _ _ hW hS (lv_sub hl [0, 1, 2, 3, 4, 5, 6, 7, 8, 9, 10, 11, 12, 13] rfl)
                    · refine lv_bipush (v := 111) hx hb dL_holds_249 (by decide) ?_
                      refine lv_goto (tgt := 278) hx hb dL_holds_251 (by decide) ?_
                      refine ej_topi (show (111 : Int32) = signI t (7 * r + c) from (sg_bell hou c_246).symm) ?_
                      exact jp278 _ _ _ hW hS (lv_sub hl [0, 1, 2, 3, 4, 5, 6, 7, 8, 9, 10, 11, 12, 13] rfl)
          have hl : lv_has ls 15 [(0, .ref (o 0)), (1, .int (pinQ t (7 * r))), (2, .int (strQ t (7 * r))), (3, .int (bndQ t (7 * r))), (4, .int (sumI (P_bl t) (7 * r))), (5, .int (nI (fwdM t r))), (6, .int 1), (7, .int (nI r)), (8, .int 0), (9, .int 0), (10, .int 0)] := lv_sub hl [3, 4, 5, 6, 7, 8, 9, 10, 2, 1, 0] rfl
          have hl : lv_has ls 15 [(0, .ref (o 0)), (1, .int (pinQ t (7 * r + 0))), (2, .int (strQ t (7 * r + 0))), (3, .int (bndQ t (7 * r + 0))), (4, .int (sumI (P_bl t) (7 * r + 0))), (5, .int (nI (fwdM t r))), (6, .int 1), (7, .int (nI r)), (8, .int (sumI (fun j => P_vi t (7 * r + j)) 0)), (9, .int (nI (belG t r (fwdM t r) 0))), (10, .int (nI 0))] := by exact hl
          exact lp188 ((7 - 0) + 1) 0 (by omega) (by omega) _ _ _ hW hS hl
    have hl : lv_has ls 15 [(0, .ref (o 0)), (1, .int 0), (2, .int 0), (3, .int 0), (4, .int 0), (5, .int 127), (6, .int 1), (7, .int 0)] := lv_sub hl [2, 3, 4, 5, 6, 7, 1, 0] rfl
    have hl : lv_has ls 15 [(0, .ref (o 0)), (1, .int (pinQ t (7 * 0))), (2, .int (strQ t (7 * 0))), (3, .int (bndQ t (7 * 0))), (4, .int (sumI (P_bl t) (7 * 0))), (5, .int (nI (fwdM t 0))), (6, .int 1), (7, .int (nI 0))] := by exact hl
    exact lp168 ((5 - 0) + 1) 0 (by omega) (by omega) _ _ _ hW hS hl
  refine lv_aload_n hx hb dL_holds_13 rfl (lv_at hl 5 rfl) ?_
  refine lv_iconst (v := 0) hx hb dL_holds_14 (by decide) ?_
  refine lr_count (rest := []) (w := 0) S hK hN ht0 ht1 hA hD hW hS htl  (cwV 1 hts gL_holds_X6_count rfl rfl rfl hdv_X6_count ⟨Nat.le_of_ble_eq_true rfl, Nat.le_of_ble_eq_true rfl⟩) rfl hl.1 (Nat.le_of_ble_eq_true rfl) dL_holds_15 ⟨Nat.zero_le _, Nat.zero_le _⟩ (fun H locs hW hS => ?_)
  show W p9 l e9 (eR 20 1000) s9 m9 a9 b9 t9 c9 H locs 0 0 Q (F0 m9 18 ls [.int (couA t u q hs.length 0)])
  have hW : SW D cI cT o aT aB aS g y z ad t u hs sn q f s0 s1 s2 H := hW
  refine ej_topi (show (couA t u q hs.length 0) = T_po u from lkc_0 t u q hs.length) ?_
  refine ej_topi (show (T_po u) = nI nP from eP) ?_
  refine lv_if_lt (tgt := 162) hx hb dL_holds_18 (by decide) (fun h9 => absurd h9 (ej_nlt (a := nP) (b := 0) (by omega) (show 0 ≤ nP from by omega))) (fun _ => ?_)
  refine lv_aload_n hx hb dL_holds_21 rfl (lv_at hl 5 rfl) ?_
  refine lv_iconst (v := 1) hx hb dL_holds_22 (by decide) ?_
  refine lr_count (rest := []) (w := 1) S hK hN ht0 ht1 hA hD hW hS htl  (cwV 1 hts gL_holds_X6_count rfl rfl rfl hdv_X6_count ⟨Nat.le_of_ble_eq_true rfl, Nat.le_of_ble_eq_true rfl⟩) rfl hl.1 (Nat.le_of_ble_eq_true rfl) dL_holds_23 ⟨Nat.zero_le _, Nat.zero_le _⟩ (fun H locs hW hS => ?_)
  show W p9 l e9 (eR 20 1000) s9 m9 a9 b9 t9 c9 H locs 0 0 Q (F0 m9 26 ls [.int (couA t u q hs.length 1)])
  have hW : SW D cI cT o aT aB aS g y z ad t u hs sn q f s0 s1 s2 H := hW
  refine ej_topi (show (couA t u q hs.length 1) = T_le u from lkc_1 t u q hs.length) ?_
  refine ej_topi (show (T_le u) = nI na from ea) ?_
  refine lv_if_lt (tgt := 162) hx hb dL_holds_26 (by decide) (fun h9 => absurd h9 (ej_nlt (a := na) (b := 0) (by omega) (show 0 ≤ na from by omega))) (fun _ => ?_)
  refine lv_aload_n hx hb dL_holds_29 rfl (lv_at hl 5 rfl) ?_
  refine lv_iconst (v := 1) hx hb dL_holds_30 (by decide) ?_
  refine lr_count (rest := []) (w := 1) S hK hN ht0 ht1 hA hD hW hS htl  (cwV 1 hts gL_holds_X6_count rfl rfl rfl hdv_X6_count ⟨Nat.le_of_ble_eq_true rfl, Nat.le_of_ble_eq_true rfl⟩) rfl hl.1 (Nat.le_of_ble_eq_true rfl) dL_holds_31 ⟨Nat.zero_le _, Nat.zero_le _⟩ (fun H locs hW hS => ?_)
  show W p9 l e9 (eR 20 1000) s9 m9 a9 b9 t9 c9 H locs 0 0 Q (F0 m9 34 ls [.int (couA t u q hs.length 1)])
  have hW : SW D cI cT o aT aB aS g y z ad t u hs sn q f s0 s1 s2 H := hW
  refine ej_topi (show (couA t u q hs.length 1) = T_le u from lkc_1 t u q hs.length) ?_
  refine ej_topi (show (T_le u) = nI na from ea) ?_
  refine lv_aload_n hx hb dL_holds_34 rfl (lv_at hl 5 rfl) ?_
  refine lv_iconst (v := 2) hx hb dL_holds_35 (by decide) ?_
  refine lr_count (rest := [.int (nI na)]) (w := 2) S hK hN ht0 ht1 hA hD hW hS htl  (cwV 1 hts gL_holds_X6_count rfl rfl rfl hdv_X6_count ⟨Nat.le_of_ble_eq_true rfl, Nat.le_of_ble_eq_true rfl⟩) rfl hl.1 (Nat.le_of_ble_eq_true rfl) dL_holds_36 ⟨Nat.zero_le _, Nat.zero_le _⟩ (fun H locs hW hS => ?_)
  show W p9 l e9 (eR 20 1000) s9 m9 a9 b9 t9 c9 H locs 0 0 Q (F0 m9 39 ls [.int (couA t u q hs.length 2), .int (nI na)])
  have hW : SW D cI cT o aT aB aS g y z ad t u hs sn q f s0 s1 s2 H := hW
  refine ej_topi (show (couA t u q hs.length 2) = sumI (T_he u) 7 from lkc_2 t u q hs.length) ?_
  refine ej_topi (show (sumI (T_he u) 7) = nI nb from eb) ?_
  refine lv_iadd hx hb dL_holds_39 ?_
  refine ej_topi (show (nI na) + (nI nb) = nI (na + nb) from nI_add na nb) ?_
  refine lv_aload_n hx hb dL_holds_40 rfl (lv_at hl 5 rfl) ?_
  refine lv_iconst (v := 3) hx hb dL_holds_41 (by decide) ?_
  refine lr_count (rest := [.int (nI (na + nb))]) (w := 3) S hK hN ht0 ht1 hA hD hW hS htl  (cwV 1 hts gL_holds_X6_count rfl rfl rfl hdv_X6_count ⟨Nat.le_of_ble_eq_true rfl, Nat.le_of_ble_eq_true rfl⟩) rfl hl.1 (Nat.le_of_ble_eq_true rfl) dL_holds_42 ⟨Nat.zero_le _, Nat.zero_le _⟩ (fun H locs hW hS => ?_)
  show W p9 l e9 (eR 20 1000) s9 m9 a9 b9 t9 c9 H locs 0 0 Q (F0 m9 45 ls [.int (couA t u q hs.length 3), .int (nI (na + nb))])
  have hW : SW D cI cT o aT aB aS g y z ad t u hs sn q f s0 s1 s2 H := hW
  refine ej_topi (show (couA t u q hs.length 3) = T_lo u from lkc_3 t u q hs.length) ?_
  refine ej_topi (show (T_lo u) = nI nl from el) ?_
  refine lv_iadd hx hb dL_holds_45 ?_
  refine ej_topi (show (nI (na + nb)) + (nI nl) = nI ((na + nb) + nl) from nI_add (na + nb) nl) ?_
  refine lv_bipush (v := 20) hx hb dL_holds_46 (by decide) ?_
  refine lv_icmp_ne (tgt := 162) hx hb dL_holds_48 (by decide) (fun h9 => absurd (congrArg nI (show ((na + nb) + nl) = 20 from by omega)) h9) (fun _ => ?_)
  refine lv_aload_n hx hb dL_holds_51 rfl (lv_at hl 5 rfl) ?_
  refine lv_bipush (v := 10) hx hb dL_holds_52 (by decide) ?_
  refine lr_count (rest := []) (w := 10) S hK hN ht0 ht1 hA hD hW hS htl  (cwV 1 hts gL_holds_X6_count rfl rfl rfl hdv_X6_count ⟨Nat.le_of_ble_eq_true rfl, Nat.le_of_ble_eq_true rfl⟩) rfl hl.1 (Nat.le_of_ble_eq_true rfl) dL_holds_54 ⟨Nat.zero_le _, Nat.zero_le _⟩ (fun H locs hW hS => ?_)
  show W p9 l e9 (eR 20 1000) s9 m9 a9 b9 t9 c9 H locs 0 0 Q (F0 m9 57 ls [.int (couA t u q hs.length 10)])
  have hW : SW D cI cT o aT aB aS g y z ad t u hs sn q f s0 s1 s2 H := hW
  refine ej_topi (show (couA t u q hs.length 10) = T_sh u from lkc_10 t u q hs.length) ?_
  refine ej_topi (show (T_sh u) = nI nS from eS) ?_
  refine lv_aload_n hx hb dL_holds_57 rfl (lv_at hl 5 rfl) ?_
  refine lv_bipush (v := 11) hx hb dL_holds_58 (by decide) ?_
  refine lr_count (rest := [.int (nI nS)]) (w := 11) S hK hN ht0 ht1 hA hD hW hS htl  (cwV 1 hts gL_holds_X6_count rfl rfl rfl hdv_X6_count ⟨Nat.le_of_ble_eq_true rfl, Nat.le_of_ble_eq_true rfl⟩) rfl hl.1 (Nat.le_of_ble_eq_true rfl) dL_holds_60 ⟨Nat.zero_le _, Nat.zero_le _⟩ (fun H locs hW hS => ?_)
  show W p9 l e9 (eR 20 1000) s9 m9 a9 b9 t9 c9 H locs 0 0 Q (F0 m9 63 ls [.int (couA t u q hs.length 11), .int (nI nS)])
  have hW : SW D cI cT o aT aB aS g y z ad t u hs sn q f s0 s1 s2 H := hW
  refine ej_topi (show (couA t u q hs.length 11) = T_ha u from lkc_11 t u q hs.length) ?_
  refine ej_topi (show (T_ha u) = nI nH from eH) ?_
  refine lv_icmp_lt (tgt := 162) hx hb dL_holds_63 (by decide) (fun h9 => absurd h9 (ej_nlt (a := nS) (b := nH) (by omega) (show nH ≤ nS from by omega))) (fun _ => ?_)
  refine lv_aload_n hx hb dL_holds_66 rfl (lv_at hl 5 rfl) ?_
  refine lv_bipush (v := 15) hx hb dL_holds_67 (by decide) ?_
  refine lr_count (rest := []) (w := 15) S hK hN ht0 ht1 hA hD hW hS htl  (cwV 1 hts gL_holds_X6_count rfl rfl rfl hdv_X6_count ⟨Nat.le_of_ble_eq_true rfl, Nat.le_of_ble_eq_true rfl⟩) rfl hl.1 (Nat.le_of_ble_eq_true rfl) dL_holds_69 ⟨Nat.zero_le _, Nat.zero_le _⟩ (fun H locs hW hS => ?_)
  show W p9 l e9 (eR 20 1000) s9 m9 a9 b9 t9 c9 H locs 0 0 Q (F0 m9 72 ls [.int (couA t u q hs.length 15)])
  have hW : SW D cI cT o aT aB aS g y z ad t u hs sn q f s0 s1 s2 H := hW
  refine ej_topi (show (couA t u q hs.length 15) = P_ti t from lkc_15 t u q hs.length) ?_
  refine ej_topi (show (P_ti t) = nI nT from eT) ?_
  refine lv_if_lt (tgt := 162) hx hb dL_holds_72 (by decide) (fun h9 => absurd h9 (ej_nlt (a := nT) (b := 0) (by omega) (show 0 ≤ nT from by omega))) (fun _ => ?_)
  refine lv_aload_n hx hb dL_holds_75 rfl (lv_at hl 5 rfl) ?_
  refine lv_bipush (v := 15) hx hb dL_holds_76 (by decide) ?_
  refine lr_count (rest := []) (w := 15) S hK hN ht0 ht1 hA hD hW hS htl  (cwV 1 hts gL_holds_X6_count rfl rfl rfl hdv_X6_count ⟨Nat.le_of_ble_eq_true rfl, Nat.le_of_ble_eq_true rfl⟩) rfl hl.1 (Nat.le_of_ble_eq_true rfl) dL_holds_78 ⟨Nat.zero_le _, Nat.zero_le _⟩ (fun H locs hW hS => ?_)
  show W p9 l e9 (eR 20 1000) s9 m9 a9 b9 t9 c9 H locs 0 0 Q (F0 m9 81 ls [.int (couA t u q hs.length 15)])
  have hW : SW D cI cT o aT aB aS g y z ad t u hs sn q f s0 s1 s2 H := hW
  refine ej_topi (show (couA t u q hs.length 15) = P_ti t from lkc_15 t u q hs.length) ?_
  refine ej_topi (show (P_ti t) = nI nT from eT) ?_
  refine lv_iconst (v := 3) hx hb dL_holds_81 (by decide) ?_
  refine lv_icmp_ge (tgt := 162) hx hb dL_holds_82 (by decide) (fun h9 => absurd h9 (ej_ge (a := nT) (b := 3) (by omega) (show nT < 3 from by omega))) (fun _ => ?_)
  refine lv_aload_n hx hb dL_holds_85 rfl (lv_at hl 5 rfl) ?_
  refine lv_bipush (v := 16) hx hb dL_holds_86 (by decide) ?_
  refine lr_count (rest := []) (w := 16) S hK hN ht0 ht1 hA hD hW hS htl  (cwV 1 hts gL_holds_X6_count rfl rfl rfl hdv_X6_count ⟨Nat.le_of_ble_eq_true rfl, Nat.le_of_ble_eq_true rfl⟩) rfl hl.1 (Nat.le_of_ble_eq_true rfl) dL_holds_88 ⟨Nat.zero_le _, Nat.zero_le _⟩ (fun H locs hW hS => ?_)
  show W p9 l e9 (eR 20 1000) s9 m9 a9 b9 t9 c9 H locs 0 0 Q (F0 m9 91 ls [.int (couA t u q hs.length 16)])
  have hW : SW D cI cT o aT aB aS g y z ad t u hs sn q f s0 s1 s2 H := hW
  refine ej_topi (show (couA t u q hs.length 16) = T_fu u from lkc_16 t u q hs.length) ?_
  refine ej_topi (show (T_fu u) = nI nF from eF) ?_
  refine lv_iconst (v := 1) hx hb dL_holds_91 (by decide) ?_
  refine lv_icmp_lt (tgt := 162) hx hb dL_holds_92 (by decide) (fun h9 => absurd h9 (ej_nlt (a := nF) (b := 1) (by omega) (show 1 ≤ nF from by omega))) (fun _ => ?_)
  refine lv_aload_n hx hb dL_holds_95 rfl (lv_at hl 5 rfl) ?_
  refine lv_bipush (v := 16) hx hb dL_holds_96 (by decide) ?_
  refine lr_count (rest := []) (w := 16) S hK hN ht0 ht1 hA hD hW hS htl  (cwV 1 hts gL_holds_X6_count rfl rfl rfl hdv_X6_count ⟨Nat.le_of_ble_eq_true rfl, Nat.le_of_ble_eq_true rfl⟩) rfl hl.1 (Nat.le_of_ble_eq_true rfl) dL_holds_98 ⟨Nat.zero_le _, Nat.zero_le _⟩ (fun H locs hW hS => ?_)
  show W p9 l e9 (eR 20 1000) s9 m9 a9 b9 t9 c9 H locs 0 0 Q (F0 m9 101 ls [.int (couA t u q hs.length 16)])
  have hW : SW D cI cT o aT aB aS g y z ad t u hs sn q f s0 s1 s2 H := hW
  refine ej_topi (show (couA t u q hs.length 16) = T_fu u from lkc_16 t u q hs.length) ?_
  refine ej_topi (show (T_fu u) = nI nF from eF) ?_
  refine lv_bipush (v := 9) hx hb dL_holds_101 (by decide) ?_
  refine lv_icmp_gt (tgt := 162) hx hb dL_holds_103 (by decide) (fun h9 => absurd h9 (ej_nlt (a := 9) (b := nF) (by omega) (show nF ≤ 9 from by omega))) (fun _ => ?_)
  refine lv_aload_n hx hb dL_holds_106 rfl (lv_at hl 5 rfl) ?_
  refine lv_bipush (v := 13) hx hb dL_holds_107 (by decide) ?_
  refine lr_count (rest := []) (w := 13) S hK hN ht0 ht1 hA hD hW hS htl  (cwV 1 hts gL_holds_X6_count rfl rfl rfl hdv_X6_count ⟨Nat.le_of_ble_eq_true rfl, Nat.le_of_ble_eq_true rfl⟩) rfl hl.1 (Nat.le_of_ble_eq_true rfl) dL_holds_109 ⟨Nat.zero_le _, Nat.zero_le _⟩ (fun H locs hW hS => ?_)
  show W p9 l e9 (eR 20 1000) s9 m9 a9 b9 t9 c9 H locs 0 0 Q (F0 m9 112 ls [.int (couA t u q hs.length 13)])
  have hW : SW D cI cT o aT aB aS g y z ad t u hs sn q f s0 s1 s2 H := hW
  refine ej_topi (show (couA t u q hs.length 13) = P_bb t from lkc_13 t u q hs.length) ?_
  refine ej_topi (show (P_bb t) = nI nB from eB) ?_
  refine lv_iconst (v := 5) hx hb dL_holds_112 (by decide) ?_
  refine lv_aload_n hx hb dL_holds_113 rfl (lv_at hl 5 rfl) ?_
  refine lv_bipush (v := 11) hx hb dL_holds_114 (by decide) ?_
  refine lr_count (rest := [.int 5, .int (nI nB)]) (w := 11) S hK hN ht0 ht1 hA hD hW hS htl  (cwV 1 hts gL_holds_X6_count rfl rfl rfl hdv_X6_count ⟨Nat.le_of_ble_eq_true rfl, Nat.le_of_ble_eq_true rfl⟩) rfl hl.1 (Nat.le_of_ble_eq_true rfl) dL_holds_116 ⟨Nat.zero_le _, Nat.zero_le _⟩ (fun H locs hW hS => ?_)
  show W p9 l e9 (eR 20 1000) s9 m9 a9 b9 t9 c9 H locs 0 0 Q (F0 m9 119 ls [.int (couA t u q hs.length 11), .int 5, .int (nI nB)])
  have hW : SW D cI cT o aT aB aS g y z ad t u hs sn q f s0 s1 s2 H := hW
  refine ej_topi (show (couA t u q hs.length 11) = T_ha u from lkc_11 t u q hs.length) ?_
  refine ej_topi (show (T_ha u) = nI nH from eH) ?_
  refine lv_imul hx hb dL_holds_119 ?_
  refine ej_topi (show (5 : Int32) * (nI nH) = nI (5 * nH) from pk_mul 5 nH) ?_
  refine lv_icmp_gt (tgt := 162) hx hb dL_holds_120 (by decide) (fun h9 => absurd h9 (ej_nlt (a := (5 * nH)) (b := nB) (by omega) (show nB ≤ (5 * nH) from by omega))) (fun _ => ?_)
  refine lv_aload_n hx hb dL_holds_123 rfl (lv_at hl 5 rfl) ?_
  refine lr_mean (rest := [])  S hK hN ht0 ht1 hA hD hW hS htl  (cwV 0 hts gL_holds_X6_mean rfl rfl rfl hdv_X6_mean ⟨Nat.le_of_ble_eq_true rfl, Nat.le_of_ble_eq_true rfl⟩) rfl hl.1 (Nat.le_of_ble_eq_true rfl) dL_holds_124 ⟨Nat.zero_le _, Nat.zero_le _⟩ (fun H locs hW hS => ?_)
  show W p9 l e9 (eR 20 1000) s9 m9 a9 b9 t9 c9 H locs 0 0 Q (F0 m9 127 ls [.double (if 0 < T_sh u then FP.ddiv (FP.i2d (T_po u)) (FP.i2d (T_sh u)) else 0)])
  have hW : SW D cI cT o aT aB aS g y z ad t u hs sn q f s0 s1 s2 H := hW
  refine lv_aload_n hx hb dL_holds_127 rfl (lv_at hl 5 rfl) ?_
  refine lv_bipush (v := 10) hx hb dL_holds_128 (by decide) ?_
  refine lr_count (rest := [.double (if 0 < T_sh u then FP.ddiv (FP.i2d (T_po u)) (FP.i2d (T_sh u)) else 0)]) (w := 10) S hK hN ht0 ht1 hA hD hW hS htl  (cwV 1 hts gL_holds_X6_count rfl rfl rfl hdv_X6_count ⟨Nat.le_of_ble_eq_true rfl, Nat.le_of_ble_eq_true rfl⟩) rfl hl.1 (Nat.le_of_ble_eq_true rfl) dL_holds_130 ⟨Nat.zero_le _, Nat.zero_le _⟩ (fun H locs hW hS => ?_)
  show W p9 l e9 (eR 20 1000) s9 m9 a9 b9 t9 c9 H locs 0 0 Q (F0 m9 133 ls [.int (couA t u q hs.length 10), .double (if 0 < T_sh u then FP.ddiv (FP.i2d (T_po u)) (FP.i2d (T_sh u)) else 0)])
  have hW : SW D cI cT o aT aB aS g y z ad t u hs sn q f s0 s1 s2 H := hW
  refine ej_topi (show (couA t u q hs.length 10) = T_sh u from lkc_10 t u q hs.length) ?_
  refine ej_topi (show (T_sh u) = nI nS from eS) ?_
  refine lv_if_ne (tgt := 140) hx hb dL_holds_133 (by decide) (fun c_133 => ?_) (fun c_133 => ?_)
  · have n_133 : nS ≠ 0 := ej_tne (a := nS) (b := 0) (by omega) (by omega) c_133
    have hsh0 : T_sh u ≠ 0 := by rw [eS]; exact nI_ne0 (by omega) (by omega)
    have hshp : 0 < T_sh u := by rw [eS]; exact ej_lt (a := 0) (b := nS) (by omega) (by omega)
    refine lv_aload_n hx hb dL_holds_140 rfl (lv_at hl 5 rfl) ?_
    refine lv_iconst (v := 0) hx hb dL_holds_141 (by decide) ?_
    refine lr_count (rest := [.double (if 0 < T_sh u then FP.ddiv (FP.i2d (T_po u)) (FP.i2d (T_sh u)) else 0)]) (w := 0) S hK hN ht0 ht1 hA hD hW hS htl  (cwV 1 hts gL_holds_X6_count rfl rfl rfl hdv_X6_count ⟨Nat.le_of_ble_eq_true rfl, Nat.le_of_ble_eq_true rfl⟩) rfl hl.1 (Nat.le_of_ble_eq_true rfl) dL_holds_142 ⟨Nat.zero_le _, Nat.zero_le _⟩ (fun H locs hW hS => ?_)
    show W p9 l e9 (eR 20 1000) s9 m9 a9 b9 t9 c9 H locs 0 0 Q (F0 m9 145 ls [.int (couA t u q hs.length 0), .double (if 0 < T_sh u then FP.ddiv (FP.i2d (T_po u)) (FP.i2d (T_sh u)) else 0)])
    have hW : SW D cI cT o aT aB aS g y z ad t u hs sn q f s0 s1 s2 H := hW
    refine ej_topi (show (couA t u q hs.length 0) = T_po u from lkc_0 t u q hs.length) ?_
    refine lv_i2d hx hb dL_holds_145 ?_
    refine lv_aload_n hx hb dL_holds_146 rfl (lv_at hl 5 rfl) ?_
    refine lv_bipush (v := 10) hx hb dL_holds_147 (by decide) ?_
    refine lr_count (rest := [.double (FP.i2d (T_po u)), .double (if 0 < T_sh u then FP.ddiv (FP.i2d (T_po u)) (FP.i2d (T_sh u)) else 0)]) (w := 10) S hK hN ht0 ht1 hA hD hW hS htl  (cwV 1 hts gL_holds_X6_count rfl rfl rfl hdv_X6_count ⟨Nat.le_of_ble_eq_true rfl, Nat.le_of_ble_eq_true rfl⟩) rfl hl.1 (Nat.le_of_ble_eq_true rfl) dL_holds_149 ⟨Nat.zero_le _, Nat.zero_le _⟩ (fun H locs hW hS => ?_)
    show W p9 l e9 (eR 20 1000) s9 m9 a9 b9 t9 c9 H locs 0 0 Q (F0 m9 152 ls [.int (couA t u q hs.length 10), .double (FP.i2d (T_po u)), .double (if 0 < T_sh u then FP.ddiv (FP.i2d (T_po u)) (FP.i2d (T_sh u)) else 0)])
    have hW : SW D cI cT o aT aB aS g y z ad t u hs sn q f s0 s1 s2 H := hW
    refine ej_topi (show (couA t u q hs.length 10) = T_sh u from lkc_10 t u q hs.length) ?_
    refine lv_i2d hx hb dL_holds_152 ?_
    refine lv_ddiv hx hb dL_holds_153 (mean_n hsh0) ?_
    refine lv_dcmp hx hb dL_holds_154 ?_
    refine ej_topi (show (Op.cmpValue (FP.dcmp (if 0 < T_sh u then FP.ddiv (FP.i2d (T_po u)) (FP.i2d (T_sh u)) else 0) (FP.ddiv (FP.i2d (T_po u)) (FP.i2d (T_sh u)))) .l) = 0 from (by rw [if_pos hshp]; exact mean_self hsh0)) ?_
    refine lv_if_ne (tgt := 162) hx hb dL_holds_155 (by decide) (fun h9 => absurd (show (0 : Int32) = 0 from by decide) h9) (fun _ => ?_)
    refine lv_iconst (v := 1) hx hb dL_holds_158 (by decide) ?_
    refine lv_goto (tgt := 163) hx hb dL_holds_159 (by decide) ?_
    exact jp163  _ _ _  hW hS (lv_sub hl [5, 4, 3, 2, 1, 0] rfl)
  · have n_133 : nS = 0 := ej_teq (a := nS) (b := 0) (by omega) (by omega) c_133
    have hshn : ¬ 0 < T_sh u := by rw [eS, n_133]; decide
    refine lv_dconst0 hx hb dL_holds_136 ?_
    refine lv_goto (tgt := 154) hx hb dL_holds_137 (by decide) ?_
    refine lv_dcmp hx hb dL_holds_154 ?_
    refine ej_topi (show (Op.cmpValue (FP.dcmp (if 0 < T_sh u then FP.ddiv (FP.i2d (T_po u)) (FP.i2d (T_sh u)) else 0) 0) .l) = 0 from (by rw [if_neg hshn]; exact mean_zero)) ?_
    refine lv_if_ne (tgt := 162) hx hb dL_holds_155 (by decide) (fun h9 => absurd (show (0 : Int32) = 0 from by decide) h9) (fun _ => ?_)
    refine lv_iconst (v := 1) hx hb dL_holds_158 (by decide) ?_
    refine lv_goto (tgt := 163) hx hb dL_holds_159 (by decide) ?_
    exact jp163  _ _ _  hW hS (lv_sub hl [5, 4, 3, 2, 1, 0] rfl)
