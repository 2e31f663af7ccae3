set_option maxHeartbeats 4000000 in
set_option maxRecDepth 100000 in
theorem c_L_low (l : Launch) (D : va_G) (tys : eT) (cI : ClassId) (ht0 : tys[0]? = some (cI, .int)) (v : Int32) (n : Nat)  (h0 : 0 < n) (hn : n < 2147483648) : fc l D tys yL_low wsL_low (eR 0 0) [.int v, .int (nI n)] (([] : va_W)) (some (.int (nI (lowN v n)))) (([] : va_W)) := by
  refine fc_int cL_low 2 (by decide +kernel) rfl (rfl) (Nat.le_of_ble_eq_true rfl) ?_
  intro p9 e9 s9 m9 a9 b9 t9 c9 H0 A Q ls S hK hN hA hP hD hS hl hQ
  have S : CallFix p9 m9 c9 cL_low 2 s9 a9 wsL_low RL := S
  obtain ⟨hx, hb, hml, hown, hts⟩ := id S
  have hP : va_P D vwCl (([] : va_W)) H0 := hP
  have hD : va_D A (([] : va_W)) := hD
  have hl : lv_has ls 2 [(0, .int v), (1, .int (nI n))] := hl
  refine lv_iload_n hx hb dL_low_0 rfl (lv_at hl 0 rfl) ?_
  refine lv_ldc (v := 2147483647) hx hb hown (hts (.constant RL 8 (2147483647)) (List.mem_of_getElem? (i := 1) rfl)) dL_low_1 ?_
  refine lv_iand hx hb dL_low_3 ?_
  refine ej_topi (show (v &&& 2147483647) = nI (v.toBitVec.toNat % 2147483648) from pk_and v 31 (by decide)) ?_
  refine lv_iload_n hx hb dL_low_4 rfl (lv_at hl 1 rfl) ?_
  refine lv_irem hx hb dL_low_5 (nI_ne0 h0 hn) ?_
  refine ej_topi (show ((nI (v.toBitVec.toNat % 2147483648)) - (nI (v.toBitVec.toNat % 2147483648)) / (nI n) * (nI n)) = nI (lowN v n) from pk_rem (a := v.toBitVec.toNat % 2147483648) (d := n) (by omega) h0 (by omega)) ?_
  exact hQ _ _ _ _ (nI (lowN v n)) (([] : va_W)) dL_low_6 rfl rfl hP hS
set_option maxHeartbeats 4000000 in
set_option maxRecDepth 100000 in
theorem c_L_ones (l : Launch) (D : va_G) (tys : eT) (cI : ClassId) (ht0 : tys[0]? = some (cI, .int)) (x : Nat)  (hx7 : x < 128) : fc l D tys yL_ones wsL_ones (eR 0 0) [.int (nI x)] (([] : va_W)) (some (.int (nI (popc x)))) (([] : va_W)) := by
  refine fc_int cL_ones 3 (by decide +kernel) rfl (rfl) (Nat.le_of_ble_eq_true rfl) ?_
  intro p9 e9 s9 m9 a9 b9 t9 c9 H0 A Q ls S hK hN hA hP hD hS hl hQ
  have S : CallFix p9 m9 c9 cL_ones 3 s9 a9 wsL_ones RL := S
  obtain ⟨hx, hb, hml, hown, hts⟩ := id S
  have hP : va_P D vwCl (([] : va_W)) H0 := hP
  have hD : va_D A (([] : va_W)) := hD
  have hl : lv_has ls 3 [(0, .int (nI x))] := hl
  refine lv_iconst (v := 0) hx hb dL_ones_0 (by decide) ?_
  refine lv_istore_n (lv' := [(1, .int 0), (0, .int (nI x))]) hx hb dL_ones_1 rfl hl (by decide) rfl (fun ls hl => ?_)
  refine lv_iconst (v := 0) hx hb dL_ones_2 (by decide) ?_
  refine lv_istore_n (lv' := [(2, .int 0), (1, .int 0), (0, .int (nI x))]) hx hb dL_ones_3 rfl hl (by decide) rfl (fun ls hl => ?_)
  have lp4 : ∀ (n4 : Nat) (k : Nat), 7 - k < n4 → (k ≤ 7) → ∀ (H : Heap) (locs : List Loc) (ls : Array Slot), va_P D vwCl (([] : va_W)) H → va_D A (([] : va_W)) → va_S A H0 H locs → lv_has ls 3 [(0, .int (nI x)), (1, .int (sumI (fun j => (nI x >>> (nI j &&& 31)) &&& 1) k)), (2, .int (nI k))] → W p9 l e9 (eR 0 0) s9 m9 a9 b9 t9 c9 H locs 0 0 Q (F0 m9 4 ls []) := by
    intro n4
    induction n4 with
    | zero => intro k hm9; exact absurd hm9 (Nat.not_lt_zero _)
    | succ n4 ih4 =>
      intro k hm4 hk H locs ls hP hD hS hl
      refine lv_iload_n hx hb dL_ones_4 rfl (lv_at hl 2 rfl) ?_
      refine lv_bipush (v := 7) hx hb dL_ones_5 (by decide) ?_
      refine lv_icmp_ge (tgt := 24) hx hb dL_ones_7 (by decide) (fun c_1 => ?_) (fun c_1 => ?_)
      · have n_1 : 7 ≤ k := ej_tle (a := 7) (b := k) (by omega) (by omega) c_1
        refine lv_iload_n hx hb dL_ones_24 rfl (lv_at hl 1 rfl) ?_
        exact hQ _ _ _ _ (sumI (fun j => (nI x >>> (nI j &&& 31)) &&& 1) k) (([] : va_W)) dL_ones_25 (by rw [show k = 7 by omega]; exact ones_ok x hx7) rfl hP hS
      · have n_1 : k < 7 := ej_tnle (a := 7) (b := k) (by omega) (by omega) c_1
        refine lv_iload_n hx hb dL_ones_10 rfl (lv_at hl 1 rfl) ?_
        refine lv_iload_n hx hb dL_ones_11 rfl (lv_at hl 0 rfl) ?_
        refine lv_iload_n hx hb dL_ones_12 rfl (lv_at hl 2 rfl) ?_
        refine lv_ishr hx hb dL_ones_13 ?_
        refine lv_iconst (v := 1) hx hb dL_ones_14 (by decide) ?_
        refine lv_iand hx hb dL_ones_15 ?_
        refine lv_iadd hx hb dL_ones_16 ?_
        refine lv_istore_n (lv' := [(1, .int ((sumI (fun j => (nI x >>> (nI j &&& 31)) &&& 1) k) + (((nI x) >>> ((nI k) &&& 31)) &&& 1))), (0, .int (nI x)), (2, .int (nI k))]) hx hb dL_ones_17 rfl hl (by decide) rfl (fun ls hl => ?_)
        refine lv_iinc (v := nI (k + 1)) (lv' := [(2, .int (nI (k + 1))), (1, .int ((sumI (fun j => (nI x >>> (nI j &&& 31)) &&& 1) k) + (((nI x) >>> ((nI k) &&& 31)) &&& 1))), (0, .int (nI x))]) hx hb dL_ones_18 hl (k := 2) rfl (nI_add k 1) (by decide) rfl (fun ls hl => ?_)
        refine lv_goto (tgt := 4) hx hb dL_ones_21 (by decide) ?_
        have hl : lv_has ls 3 [(0, .int (nI x)), (1, .int ((sumI (fun j => (nI x >>> (nI j &&& 31)) &&& 1) k) + (((nI x) >>> ((nI k) &&& 31)) &&& 1))), (2, .int (nI (k + 1)))] := lv_sub hl [2, 1, 0] rfl
        have hl : lv_has ls 3 [(0, .int (nI x)), (1, .int (sumI (fun j => (nI x >>> (nI j &&& 31)) &&& 1) (k + 1))), (2, .int (nI (k + 1)))] := by exact hl
        exact ih4  (k + 1) (by omega) (by omega) _ _ _ hP hD hS hl
  have hl : lv_has ls 3 [(0, .int (nI x)), (1, .int 0), (2, .int 0)] := lv_sub hl [2, 1, 0] rfl
  have hl : lv_has ls 3 [(0, .int (nI x)), (1, .int (sumI (fun j => (nI x >>> (nI j &&& 31)) &&& 1) 0)), (2, .int (nI 0))] := by exact hl
  exact lp4 ((7 - 0) + 1) 0 (by omega) (by omega) _ _ _ hP hD hS hl
