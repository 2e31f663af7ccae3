set_option maxHeartbeats 4000000 in
set_option maxRecDepth 100000 in
theorem k_look (l : Launch) (D : va_G) (tys : eT) (cI cT : ClassId) (ht0 : tys[0]? = some (cI, .int)) (ht1 : tys[1]? = some (cT, .object RX5)) (o aT aB aS g y z : Nat → Nat) (ad : Nat → Nat → Nat) (t : Pn) (u : Tr) (hs : List (Pn × Tr)) (sn : Option (Pn × Tr)) (q : Nat) (f : Nat → Int32) (s0 s1 s2 : Int32)  (htl : tilOK t) : lc l D tys cI cT o aT aB aS g y z ad yL_look wsL_look (eR 12 400) [.ref (o 0)] t u hs sn q f s0 s1 s2 (sameL t u hs q f s0 s1 s2 (fun v => v = .long (lookV t u))) := by
  refine lc_long cL_look 5 (by decide +kernel) rfl (Nat.le_of_ble_eq_true rfl) ?_
  intro p9 e9 s9 m9 a9 b9 t9 c9 H0 A Q ls S hK hN hA hD hW hS hl hQ
  have S : CallFix p9 m9 c9 cL_look 5 s9 a9 wsL_look RL := S
  obtain ⟨hx, hb, hml, hown, hts⟩ := id S
  have hl : lv_has ls 5 [(0, .ref (o 0))] := hl
  refine lv_ldc2 (v := 479) hx hb hown (hts (.constantLong RL 9 (479)) (List.mem_of_getElem? (i := 1) rfl)) dL_look_0 ?_
  refine lv_lstore_n (lv' := [(1, .long 479), (0, .ref (o 0))]) hx hb dL_look_3 rfl hl (by decide) rfl (fun ls hl => ?_)
  refine lv_iconst (v := 0) hx hb dL_look_4 (by decide) ?_
  refine lv_istore_n (lv' := [(3, .int 0), (1, .long 479), (0, .ref (o 0))]) hx hb dL_look_5 rfl hl (by decide) rfl (fun ls hl => ?_)
  have lp6 : ∀ (n6 : Nat) (k : Nat), 17 - k < n6 → (k ≤ 17) → ∀ (H : Heap) (locs : List Loc) (ls : Array Slot), SW D cI cT o aT aB aS g y z ad t u hs sn q f s0 s1 s2 H → va_S A H0 H locs → lv_has ls 5 [(0, .ref (o 0)), (1, .long (lkC t u k)), (3, .int (nI k))] → W p9 l e9 (eR 12 400) s9 m9 a9 b9 t9 c9 H locs 0 0 Q (F0 m9 6 ls []) := by
    intro n6
    induction n6 with
    | zero => intro k hm9; exact absurd hm9 (Nat.not_lt_zero _)
    | succ n6 ih6 =>
      intro k hm6 hk H locs ls hW hS hl
      refine lv_iload_n hx hb dL_look_6 rfl (lv_at hl 2 rfl) ?_
      refine lv_bipush (v := 17) hx hb dL_look_7 (by decide) ?_
      refine lv_icmp_ge (tgt := 31) hx hb dL_look_9 (by decide) (fun c_9 => ?_) (fun c_9 => ?_)
      · have n_9 : 17 ≤ k := ej_tle (a := 17) (b := k) (by omega) (by omega) c_9
        refine lv_iconst (v := 0) hx hb dL_look_31 (by decide) ?_
        refine lv_istore_n (lv' := [(3, .int 0), (0, .ref (o 0)), (1, .long (lkC t u k))]) hx hb dL_look_32 rfl hl (by decide) rfl (fun ls hl => ?_)
        have lp33 : ∀ (n33 : Nat) (p : Nat), 35 - p < n33 → (p ≤ 35) → ∀ (H : Heap) (locs : List Loc) (ls : Array Slot), SW D cI cT o aT aB aS g y z ad t u hs sn q f s0 s1 s2 H → va_S A H0 H locs → lv_has ls 5 [(0, .ref (o 0)), (1, .long (lkPs t (lkC t u 17) p)), (3, .int (nI p))] → W p9 l e9 (eR 12 400) s9 m9 a9 b9 t9 c9 H locs 0 0 Q (F0 m9 33 ls []) := by
          intro n33
          induction n33 with
          | zero => intro p hm9; exact absurd hm9 (Nat.not_lt_zero _)
          | succ n33 ih33 =>
            intro p hm33 hp H locs ls hW hS hl
            refine lv_iload_n hx hb dL_look_33 rfl (lv_at hl 2 rfl) ?_
            refine lv_bipush (v := 35) hx hb dL_look_34 (by decide) ?_
            refine lv_icmp_ge (tgt := 75) hx hb dL_look_36 (by decide) (fun c_36 => ?_) (fun c_36 => ?_)
            · have n_36 : 35 ≤ p := ej_tle (a := 35) (b := p) (by omega) (by omega) c_36
              refine lv_iconst (v := 0) hx hb dL_look_75 (by decide) ?_
              refine lv_istore_n (lv' := [(3, .int 0), (0, .ref (o 0)), (1, .long (lkPs t (lkC t u 17) p))]) hx hb dL_look_76 rfl hl (by decide) rfl (fun ls hl => ?_)
              have lp77 : ∀ (n77 : Nat) (i : Nat), 28 - i < n77 → (i ≤ 28) → ∀ (H : Heap) (locs : List Loc) (ls : Array Slot), SW D cI cT o aT aB aS g y z ad t u hs sn q f s0 s1 s2 H → va_S A H0 H locs → lv_has ls 5 [(0, .ref (o 0)), (1, .long (lkK t u (lkPs t (lkC t u 17) 35) i)), (3, .int (nI i))] → W p9 l e9 (eR 12 400) s9 m9 a9 b9 t9 c9 H locs 0 0 Q (F0 m9 77 ls []) := by
                intro n77
                induction n77 with
                | zero => intro i hm9; exact absurd hm9 (Nat.not_lt_zero _)
                | succ n77 ih77 =>
                  intro i hm77 hi H locs ls hW hS hl
                  refine lv_iload_n hx hb dL_look_77 rfl (lv_at hl 2 rfl) ?_
                  refine lv_bipush (v := 28) hx hb dL_look_78 (by decide) ?_
                  refine lv_icmp_ge (tgt := 107) hx hb dL_look_80 (by decide) (fun c_80 => ?_) (fun c_80 => ?_)
                  · have n_80 : 28 ≤ i := ej_tle (a := 28) (b := i) (by omega) (by omega) c_80
                    refine lv_lload_n hx hb dL_look_107 rfl (lv_at hl 1 rfl) ?_
                    exact hQ _ _ _ _ _ _ _ _ _ _ _ _ _ dL_look_108 (by refine ⟨?_, rfl, rfl, rfl, rfl, rfl, rfl, rfl, rfl⟩; rw [show i = 28 by omega]; rfl) hW hS
                  · have n_80 : i < 28 := ej_tnle (a := 28) (b := i) (by omega) (by omega) c_80
                    refine lv_ldc2 (v := 31) hx hb hown (hts (.constantLong RL 11 (31)) (List.mem_of_getElem? (i := 2) rfl)) dL_look_83 ?_
                    refine lv_lload_n hx hb dL_look_86 rfl (lv_at hl 1 rfl) ?_
                    refine lv_lmul hx hb dL_look_87 ?_
                    refine lv_aload_n hx hb dL_look_88 rfl (lv_at hl 0 rfl) ?_
                    refine lv_iload_n hx hb dL_look_89 rfl (lv_at hl 2 rfl) ?_
                    refine lv_iconst (v := 4) hx hb dL_look_90 (by decide) ?_
                    refine lv_idiv hx hb dL_look_91 (by decide) ?_
                    refine ej_topi (show (nI i) / 4 = nI (i / 4) from pk_div (a := i) (d := 4) (by omega) (by decide) (by decide)) ?_
                    refine lv_iload_n hx hb dL_look_92 rfl (lv_at hl 2 rfl) ?_
                    refine lv_iconst (v := 4) hx hb dL_look_93 (by decide) ?_
                    refine lv_irem hx hb dL_look_94 (by decide) ?_
                    refine ej_topi (show (nI i) - (nI i) / 4 * 4 = nI (i % 4) from pk_rem (a := i) (d := 4) (by omega) (by decide) (by decide)) ?_
                    refine lr_pocket (rest := [.long (31 * (lkK t u (lkPs t (lkC t u 17) 35) i))]) (k := i / 4) (w := nI (i % 4)) S hK hN ht0 ht1 hA hD hW hS htl (by omega) (cwV 2 hts gL_look_X6_pocket rfl rfl rfl hdv_X6_pocket ⟨Nat.le_of_ble_eq_true rfl, Nat.le_of_ble_eq_true rfl⟩) rfl hl.1 (Nat.le_of_ble_eq_true rfl) dL_look_95 ⟨Nat.zero_le _, Nat.zero_le _⟩ (fun H locs hW hS => ?_)
                    show W p9 l e9 (eR 12 400) s9 m9 a9 b9 t9 c9 H locs 0 0 Q (F0 m9 98 ls [.int (pocR t u (i / 4) (nI (i % 4))), .long (31 * (lkK t u (lkPs t (lkC t u 17) 35) i))])
                    have hW : SW D cI cT o aT aB aS g y z ad t u hs sn q f s0 s1 s2 H := hW
                    refine lv_i2l (v := (pocR t u (i / 4) (nI (i % 4))).toInt64) hx hb dL_look_98 rfl ?_
                    refine lv_ladd hx hb dL_look_99 ?_
                    refine lv_lstore_n (lv' := [(1, .long ((31 * (lkK t u (lkPs t (lkC t u 17) 35) i)) + ((pocR t u (i / 4) (nI (i % 4))).toInt64))), (0, .ref (o 0)), (3, .int (nI i))]) hx hb dL_look_100 rfl hl (by decide) rfl (fun ls hl => ?_)
                    refine lv_iinc (v := nI (i + 1)) (lv' := [(3, .int (nI (i + 1))), (1, .long ((31 * (lkK t u (lkPs t (lkC t u 17) 35) i)) + ((pocR t u (i / 4) (nI (i % 4))).toInt64))), (0, .ref (o 0))]) hx hb dL_look_101 hl (k := 2) rfl (nI_add i 1) (by decide) rfl (fun ls hl => ?_)
                    refine lv_goto (tgt := 77) hx hb dL_look_104 (by decide) ?_
                    have hl : lv_has ls 5 [(0, .ref (o 0)), (1, .long ((31 * (lkK t u (lkPs t (lkC t u 17) 35) i)) + ((pocR t u (i / 4) (nI (i % 4))).toInt64))), (3, .int (nI (i + 1)))] := lv_sub hl [2, 1, 0] rfl
                    have hl : lv_has ls 5 [(0, .ref (o 0)), (1, .long (lkK t u (lkPs t (lkC t u 17) 35) (i + 1))), (3, .int (nI (i + 1)))] := by exact hl
                    exact ih77  (i + 1) (by omega) (by omega) _ _ _ hW hS hl
              have hl : lv_has ls 5 [(0, .ref (o 0)), (1, .long (lkPs t (lkC t u 17) p)), (3, .int 0)] := lv_sub hl [1, 2, 0] rfl
              have hl : lv_has ls 5 [(0, .ref (o 0)), (1, .long (lkK t u (lkPs t (lkC t u 17) 35) 0)), (3, .int (nI 0))] := by rw [show p = 35 by omega] at hl; exact hl
              exact lp77 ((28 - 0) + 1) 0 (by omega) (by omega) _ _ _ hW hS hl
            · have n_36 : p < 35 := ej_tnle (a := 35) (b := p) (by omega) (by omega) c_36
              refine lv_iconst (v := 0) hx hb dL_look_39 (by decide) ?_
              refine lv_istore (lv' := [(4, .int 0), (0, .ref (o 0)), (1, .long (lkPs t (lkC t u 17) p)), (3, .int (nI p))]) hx hb dL_look_40 hl (by decide) rfl (fun ls hl => ?_)
              have lp42 : ∀ (n42 : Nat) (j : Nat), 4 - j < n42 → (j ≤ 4) → ∀ (H : Heap) (locs : List Loc) (ls : Array Slot), SW D cI cT o aT aB aS g y z ad t u hs sn q f s0 s1 s2 H → va_S A H0 H locs → lv_has ls 5 [(0, .ref (o 0)), (1, .long (lkPi t p (lkPs t (lkC t u 17) p) j)), (3, .int (nI p)), (4, .int (nI j))] → W p9 l e9 (eR 12 400) s9 m9 a9 b9 t9 c9 H locs 0 0 Q (F0 m9 42 ls []) := by
                intro n42
                induction n42 with
                | zero => intro j hm9; exact absurd hm9 (Nat.not_lt_zero _)
                | succ n42 ih42 =>
                  intro j hm42 hj H locs ls hW hS hl
                  refine lv_iload hx hb dL_look_42 (lv_at hl 3 rfl) ?_
                  refine lv_iconst (v := 4) hx hb dL_look_44 (by decide) ?_
                  refine lv_icmp_ge (tgt := 69) hx hb dL_look_45 (by decide) (fun c_45 => ?_) (fun c_45 => ?_)
                  · have n_45 : 4 ≤ j := ej_tle (a := 4) (b := j) (by omega) (by omega) c_45
                    refine lv_iinc (v := nI (p + 1)) (lv' := [(3, .int (nI (p + 1))), (0, .ref (o 0)), (1, .long (lkPi t p (lkPs t (lkC t u 17) p) j)), (4, .int (nI j))]) hx hb dL_look_69 hl (k := 2) rfl (nI_add p 1) (by decide) rfl (fun ls hl => ?_)
                    refine lv_goto (tgt := 33) hx hb dL_look_72 (by decide) ?_
                    have hl : lv_has ls 5 [(0, .ref (o 0)), (1, .long (lkPi t p (lkPs t (lkC t u 17) p) j)), (3, .int (nI (p + 1)))] := lv_sub hl [1, 2, 0] rfl
                    have hl : lv_has ls 5 [(0, .ref (o 0)), (1, .long (lkPs t (lkC t u 17) (p + 1))), (3, .int (nI (p + 1)))] := by rw [show j = 4 by omega] at hl; exact hl
                    exact ih33  (p + 1) (by omega) (by omega) _ _ _ hW hS hl
                  · have n_45 : j < 4 := ej_tnle (a := 4) (b := j) (by omega) (by omega) c_45
                    refine lv_ldc2 (v := 31) hx hb hown (hts (.constantLong RL 11 (31)) (List.mem_of_getElem? (i := 2) rfl)) dL_look_48 ?_
                    refine lv_lload_n hx hb dL_look_51 rfl (lv_at hl 1 rfl) ?_
                    refine lv_lmul hx hb dL_look_52 ?_
                    refine lv_aload_n hx hb dL_look_53 rfl (lv_at hl 0 rfl) ?_
                    refine lv_iload_n hx hb dL_look_54 rfl (lv_at hl 2 rfl) ?_
                    refine lv_iload hx hb dL_look_55 (lv_at hl 3 rfl) ?_
                    refine lr_pin (rest := [.long (31 * (lkPi t p (lkPs t (lkC t u 17) p) j))]) (k := p) (w := nI j) S hK hN ht0 ht1 hA hD hW hS htl (by omega) (cwV 2 hts gL_look_X6_pin rfl rfl rfl hdv_X6_pin ⟨Nat.le_of_ble_eq_true rfl, Nat.le_of_ble_eq_true rfl⟩) rfl hl.1 (Nat.le_of_ble_eq_true rfl) dL_look_57 ⟨Nat.zero_le _, Nat.zero_le _⟩ (fun H locs hW hS => ?_)
                    show W p9 l e9 (eR 12 400) s9 m9 a9 b9 t9 c9 H locs 0 0 Q (F0 m9 60 ls [.int (pinR t p (nI j)), .long (31 * (lkPi t p (lkPs t (lkC t u 17) p) j))])
                    have hW : SW D cI cT o aT aB aS g y z ad t u hs sn q f s0 s1 s2 H := hW
                    refine lv_i2l (v := (pinR t p (nI j)).toInt64) hx hb dL_look_60 rfl ?_
                    refine lv_ladd hx hb dL_look_61 ?_
                    refine lv_lstore_n (lv' := [(1, .long ((31 * (lkPi t p (lkPs t (lkC t u 17) p) j)) + ((pinR t p (nI j)).toInt64))), (0, .ref (o 0)), (3, .int (nI p)), (4, .int (nI j))]) hx hb dL_look_62 rfl hl (by decide) rfl (fun ls hl => ?_)
                    refine lv_iinc (v := nI (j + 1)) (lv' := [(4, .int (nI (j + 1))), (1, .long ((31 * (lkPi t p (lkPs t (lkC t u 17) p) j)) + ((pinR t p (nI j)).toInt64))), (0, .ref (o 0)), (3, .int (nI p))]) hx hb dL_look_63 hl (k := 3) rfl (nI_add j 1) (by decide) rfl (fun ls hl => ?_)
                    refine lv_goto (tgt := 42) hx hb dL_look_66 (by decide) ?_
                    have hl : lv_has ls 5 [(0, .ref (o 0)), (1, .long ((31 * (lkPi t p (lkPs t (lkC t u 17) p) j)) + ((pinR t p (nI j)).toInt64))), (3, .int (nI p)), (4, .int (nI (j + 1)))] := lv_sub hl [2, 1, 3, 0] rfl
                    have hl : lv_has ls 5 [(0, .ref (o 0)), (1, .long (lkPi t p (lkPs t (lkC t u 17) p) (j + 1))), (3, .int (nI p)), (4, .int (nI (j + 1)))] := by exact hl
                    exact ih42  (j + 1) (by omega) (by omega) _ _ _ hW hS hl
              have hl : lv_has ls 5 [(0, .ref (o 0)), (1, .long (lkPs t (lkC t u 17) p)), (3, .int (nI p)), (4, .int 0)] := lv_sub hl [1, 2, 3, 0] rfl
              have hl : lv_has ls 5 [(0, .ref (o 0)), (1, .long (lkPi t p (lkPs t (lkC t u 17) p) 0)), (3, .int (nI p)), (4, .int (nI 0))] := by exact hl
              exact lp42 ((4 - 0) + 1) 0 (by omega) (by omega) _ _ _ hW hS hl
        have hl : lv_has ls 5 [(0, .ref (o 0)), (1, .long (lkC t u k)), (3, .int 0)] := lv_sub hl [1, 2, 0] rfl
        have hl : lv_has ls 5 [(0, .ref (o 0)), (1, .long (lkPs t (lkC t u 17) 0)), (3, .int (nI 0))] := by rw [show k = 17 by omega] at hl; exact hl
        exact lp33 ((35 - 0) + 1) 0 (by omega) (by omega) _ _ _ hW hS hl
      · have n_9 : k < 17 := ej_tnle (a := 17) (b := k) (by omega) (by omega) c_9
        refine lv_ldc2 (v := 31) hx hb hown (hts (.constantLong RL 11 (31)) (List.mem_of_getElem? (i := 2) rfl)) dL_look_12 ?_
        refine lv_lload_n hx hb dL_look_15 rfl (lv_at hl 1 rfl) ?_
        refine lv_lmul hx hb dL_look_16 ?_
        refine lv_aload_n hx hb dL_look_17 rfl (lv_at hl 0 rfl) ?_
        refine lv_iload_n hx hb dL_look_18 rfl (lv_at hl 2 rfl) ?_
        refine lr_count (rest := [.long (31 * (lkC t u k))]) (w := nI k) S hK hN ht0 ht1 hA hD hW hS htl  (cwV 1 hts gL_look_X6_count rfl rfl rfl hdv_X6_count ⟨Nat.le_of_ble_eq_true rfl, Nat.le_of_ble_eq_true rfl⟩) rfl hl.1 (Nat.le_of_ble_eq_true rfl) dL_look_19 ⟨Nat.zero_le _, Nat.zero_le _⟩ (fun H locs hW hS => ?_)
        show W p9 l e9 (eR 12 400) s9 m9 a9 b9 t9 c9 H locs 0 0 Q (F0 m9 22 ls [.int (couA t u q hs.length (nI k)), .long (31 * (lkC t u k))])
        have hW : SW D cI cT o aT aB aS g y z ad t u hs sn q f s0 s1 s2 H := hW
        refine ej_topi (show (couA t u q hs.length (nI k)) = couA t u 0 0 (nI k) from lkc_in t u q hs.length (by omega)) ?_
        refine lv_i2l (v := (couA t u 0 0 (nI k)).toInt64) hx hb dL_look_22 rfl ?_
        refine lv_ladd hx hb dL_look_23 ?_
        refine lv_lstore_n (lv' := [(1, .long ((31 * (lkC t u k)) + ((couA t u 0 0 (nI k)).toInt64))), (0, .ref (o 0)), (3, .int (nI k))]) hx hb dL_look_24 rfl hl (by decide) rfl (fun ls hl => ?_)
        refine lv_iinc (v := nI (k + 1)) (lv' := [(3, .int (nI (k + 1))), (1, .long ((31 * (lkC t u k)) + ((couA t u 0 0 (nI k)).toInt64))), (0, .ref (o 0))]) hx hb dL_look_25 hl (k := 2) rfl (nI_add k 1) (by decide) rfl (fun ls hl => ?_)
        refine lv_goto (tgt := 6) hx hb dL_look_28 (by decide) ?_
        have hl : lv_has ls 5 [(0, .ref (o 0)), (1, .long ((31 * (lkC t u k)) + ((couA t u 0 0 (nI k)).toInt64))), (3, .int (nI (k + 1)))] := lv_sub hl [2, 1, 0] rfl
        have hl : lv_has ls 5 [(0, .ref (o 0)), (1, .long (lkC t u (k + 1))), (3, .int (nI (k + 1)))] := by exact hl
        exact ih6  (k + 1) (by omega) (by omega) _ _ _ hW hS hl
  have hl : lv_has ls 5 [(0, .ref (o 0)), (1, .long 479), (3, .int 0)] := lv_sub hl [2, 1, 0] rfl
  have hl : lv_has ls 5 [(0, .ref (o 0)), (1, .long (lkC t u 0)), (3, .int (nI 0))] := by exact hl
  exact lp6 ((17 - 0) + 1) 0 (by omega) (by omega) _ _ _ hW hS hl
