set_option maxHeartbeats 4000000 in
set_option maxRecDepth 100000 in
theorem c_X4_at (l : Launch) (D : va_G) (tys : eT) (cI : ClassId) (ht0 : tys[0]? = some (cI, .int)) (h0 h1 n : Nat) (f : Nat → Int32) (k : Nat)  (hk : k < n) (hn : n < 2147483648) : fc l D tys yX4_at wsX4_at (eR 0 0) [.ref h0, .int (nI k)] ([(h0, .inr (4, [.ref h1])), (h1, .inl (cI, n, .inl f))]) (some (.int (f k))) ([(h0, .inr (4, [.ref h1])), (h1, .inl (cI, n, .inl f))]) := by
  refine fc_int cX4_at 2 (by decide +kernel) rfl (rfl) (Nat.le_of_ble_eq_true rfl) ?_
  intro p9 e9 s9 m9 a9 b9 t9 c9 H0 A Q ls S hK hN hA hP hD hS hl hQ
  have S : CallFix p9 m9 c9 cX4_at 2 s9 a9 wsX4_at RX4 := S
  obtain ⟨hx, hb, hml, hown, hts⟩ := id S
  have iX4 : ∀ w ∈ wsX40, w ∈ wsX4_at := fun w h => List.mem_cons_of_mem _ (List.mem_append_right _ (h))
  have hP : va_P D vwCl ([(h0, .inr (4, [.ref h1])), (h1, .inl (cI, n, .inl f))]) H0 := hP
  have hD : va_D A ([(h0, .inr (4, [.ref h1])), (h1, .inl (cI, n, .inl f))]) := hD
  have hl : lv_has ls 2 [(0, .ref h0), (1, .int (nI k))] := hl
  refine lv_iload_n hx hb dX4_at_0 rfl (lv_at hl 1 rfl) ?_
  refine lv_if_lt (tgt := 22) hx hb dX4_at_1 (by decide) (fun h9 => absurd h9 (ej_nlt (a := k) (b := 0) (by omega) (by omega))) (fun _ => ?_)
  refine lv_iload_n hx hb dX4_at_4 rfl (lv_at hl 1 rfl) ?_
  refine lv_aload_n hx hb dX4_at_5 rfl (lv_at hl 0 rfl) ?_
  refine va_get (D := D) (ci := 4) (v := .ref h1) (C := RX4) (T := TX4) (N := 1) hx hb hts iX4 hown hK hP 0 rfl rfl 0 (Nat.le_of_ble_eq_true rfl) (hts (.fieldLink RX4 13 "BentPins$Row" "cells" "[I") (List.mem_of_getElem? (i := 1) rfl)) (fun _ h9 => h9) rfl dX4_at_6 ?_
  refine va_alen (v := nI n) hx hb hK hP 1 0 rfl ht0 rfl dX4_at_9 ?_
  refine lv_icmp_ge (tgt := 22) hx hb dX4_at_10 (by decide) (fun h9 => absurd h9 (ej_ge (a := k) (b := n) (by omega) (by omega))) (fun _ => ?_)
  refine lv_aload_n hx hb dX4_at_13 rfl (lv_at hl 0 rfl) ?_
  refine va_get (D := D) (ci := 4) (v := .ref h1) (C := RX4) (T := TX4) (N := 1) hx hb hts iX4 hown hK hP 0 rfl rfl 0 (Nat.le_of_ble_eq_true rfl) (hts (.fieldLink RX4 13 "BentPins$Row" "cells" "[I") (List.mem_of_getElem? (i := 1) rfl)) (fun _ h9 => h9) rfl dX4_at_14 ?_
  refine lv_iload_n hx hb dX4_at_17 rfl (lv_at hl 1 rfl) ?_
  refine va_iald (i := nI k) hx hb hK hP 1 0 rfl ht0 (vp_in_nI (n := k) (N := n) (by omega) (by omega)) dX4_at_18 ?_
  refine ej_topi (show f (nI k).toNatClampNeg = f k from congrArg f (nI_clamp (n := k) (by omega))) ?_
  refine lv_goto (tgt := 23) hx hb dX4_at_19 (by decide) ?_
  exact hQ _ _ _ _ (f k) ([(h0, .inr (4, [.ref h1])), (h1, .inl (cI, n, .inl f))]) dX4_at_23 rfl rfl hP hS
set_option maxHeartbeats 4000000 in
set_option maxRecDepth 100000 in
theorem c_X4_put (l : Launch) (D : va_G) (tys : eT) (cI : ClassId) (ht0 : tys[0]? = some (cI, .int)) (h0 h1 n : Nat) (f : Nat → Int32) (k : Nat) (v : Int32)  (hk : k < n) (hn : n < 2147483648) : fc l D tys yX4_put wsX4_put (eR 0 0) [.ref h0, .int (nI k), .int v] ([(h0, .inr (4, [.ref h1])), (h1, .inl (cI, n, .inl f))]) none ([(h0, .inr (4, [.ref h1])), (h1, .inl (cI, n, .inl (upd f k v)))]) := by
  refine fc_void cX4_put 3 (by decide +kernel) rfl (Nat.le_of_ble_eq_true rfl) ?_
  intro p9 e9 s9 m9 a9 b9 t9 c9 H0 A Q ls S hK hN hA hP hD hS hl hQ
  have S : CallFix p9 m9 c9 cX4_put 3 s9 a9 wsX4_put RX4 := S
  obtain ⟨hx, hb, hml, hown, hts⟩ := id S
  have iX4 : ∀ w ∈ wsX40, w ∈ wsX4_put := fun w h => List.mem_cons_of_mem _ (List.mem_append_right _ (h))
  have hP : va_P D vwCl ([(h0, .inr (4, [.ref h1])), (h1, .inl (cI, n, .inl f))]) H0 := hP
  have hD : va_D A ([(h0, .inr (4, [.ref h1])), (h1, .inl (cI, n, .inl f))]) := hD
  have hl : lv_has ls 3 [(0, .ref h0), (1, .int (nI k)), (2, .int v)] := hl
  refine lv_iload_n hx hb dX4_put_0 rfl (lv_at hl 1 rfl) ?_
  refine lv_if_lt (tgt := 20) hx hb dX4_put_1 (by decide) (fun h9 => absurd h9 (ej_nlt (a := k) (b := 0) (by omega) (by omega))) (fun _ => ?_)
  refine lv_iload_n hx hb dX4_put_4 rfl (lv_at hl 1 rfl) ?_
  refine lv_aload_n hx hb dX4_put_5 rfl (lv_at hl 0 rfl) ?_
  refine va_get (D := D) (ci := 4) (v := .ref h1) (C := RX4) (T := TX4) (N := 1) hx hb hts iX4 hown hK hP 0 rfl rfl 0 (Nat.le_of_ble_eq_true rfl) (hts (.fieldLink RX4 13 "BentPins$Row" "cells" "[I") (List.mem_of_getElem? (i := 1) rfl)) (fun _ h9 => h9) rfl dX4_put_6 ?_
  refine va_alen (v := nI n) hx hb hK hP 1 0 rfl ht0 rfl dX4_put_9 ?_
  refine lv_icmp_ge (tgt := 20) hx hb dX4_put_10 (by decide) (fun h9 => absurd h9 (ej_ge (a := k) (b := n) (by omega) (by omega))) (fun _ => ?_)
  refine lv_aload_n hx hb dX4_put_13 rfl (lv_at hl 0 rfl) ?_
  refine va_get (D := D) (ci := 4) (v := .ref h1) (C := RX4) (T := TX4) (N := 1) hx hb hts iX4 hown hK hP 0 rfl rfl 0 (Nat.le_of_ble_eq_true rfl) (hts (.fieldLink RX4 13 "BentPins$Row" "cells" "[I") (List.mem_of_getElem? (i := 1) rfl)) (fun _ h9 => h9) rfl dX4_put_14 ?_
  refine lv_iload_n hx hb dX4_put_17 rfl (lv_at hl 1 rfl) ?_
  refine lv_iload_n hx hb dX4_put_18 rfl (lv_at hl 2 rfl) ?_
  refine va_iast (i := nI k) hx hb hK hP hD hS 1 0 rfl ht0 (vp_in_nI (n := k) (N := n) (by omega) (by omega)) dX4_put_19 (fun H locs hP hD hS => ?_)
  rw [show (nI k).toNatClampNeg = k from nI_clamp (by omega)] at hP hD
  have hP : va_P D vwCl ([(h0, .inr (4, [.ref h1])), (h1, .inl (cI, n, .inl (upd f k v)))]) H := hP
  have hD : va_D A ([(h0, .inr (4, [.ref h1])), (h1, .inl (cI, n, .inl (upd f k v)))]) := hD
  exact hQ _ _ _ _ ([(h0, .inr (4, [.ref h1])), (h1, .inl (cI, n, .inl (upd f k v)))]) dX4_put_20 rfl hP hS
set_option maxHeartbeats 4000000 in
set_option maxRecDepth 100000 in
theorem c_X4_raise (l : Launch) (D : va_G) (tys : eT) (cI : ClassId) (ht0 : tys[0]? = some (cI, .int)) (h0 h1 n : Nat) (f : Nat → Int32) (k : Nat) (v : Int32)  (hk : k < n) (hn : n < 2147483648) : fc l D tys yX4_raise wsX4_raise (eR 0 0) [.ref h0, .int (nI k), .int v] ([(h0, .inr (4, [.ref h1])), (h1, .inl (cI, n, .inl f))]) none ([(h0, .inr (4, [.ref h1])), (h1, .inl (cI, n, .inl (upd f k (f k + v))))]) := by
  refine fc_void cX4_raise 3 (by decide +kernel) rfl (Nat.le_of_ble_eq_true rfl) ?_
  intro p9 e9 s9 m9 a9 b9 t9 c9 H0 A Q ls S hK hN hA hP hD hS hl hQ
  have S : CallFix p9 m9 c9 cX4_raise 3 s9 a9 wsX4_raise RX4 := S
  obtain ⟨hx, hb, hml, hown, hts⟩ := id S
  have iX4 : ∀ w ∈ wsX40, w ∈ wsX4_raise := fun w h => List.mem_cons_of_mem _ (List.mem_append_right _ (h))
  have hP : va_P D vwCl ([(h0, .inr (4, [.ref h1])), (h1, .inl (cI, n, .inl f))]) H0 := hP
  have hD : va_D A ([(h0, .inr (4, [.ref h1])), (h1, .inl (cI, n, .inl f))]) := hD
  have hl : lv_has ls 3 [(0, .ref h0), (1, .int (nI k)), (2, .int v)] := hl
  refine lv_iload_n hx hb dX4_raise_0 rfl (lv_at hl 1 rfl) ?_
  refine lv_if_lt (tgt := 23) hx hb dX4_raise_1 (by decide) (fun h9 => absurd h9 (ej_nlt (a := k) (b := 0) (by omega) (by omega))) (fun _ => ?_)
  refine lv_iload_n hx hb dX4_raise_4 rfl (lv_at hl 1 rfl) ?_
  refine lv_aload_n hx hb dX4_raise_5 rfl (lv_at hl 0 rfl) ?_
  refine va_get (D := D) (ci := 4) (v := .ref h1) (C := RX4) (T := TX4) (N := 1) hx hb hts iX4 hown hK hP 0 rfl rfl 0 (Nat.le_of_ble_eq_true rfl) (hts (.fieldLink RX4 13 "BentPins$Row" "cells" "[I") (List.mem_of_getElem? (i := 1) rfl)) (fun _ h9 => h9) rfl dX4_raise_6 ?_
  refine va_alen (v := nI n) hx hb hK hP 1 0 rfl ht0 rfl dX4_raise_9 ?_
  refine lv_icmp_ge (tgt := 23) hx hb dX4_raise_10 (by decide) (fun h9 => absurd h9 (ej_ge (a := k) (b := n) (by omega) (by omega))) (fun _ => ?_)
  refine lv_aload_n hx hb dX4_raise_13 rfl (lv_at hl 0 rfl) ?_
  refine va_get (D := D) (ci := 4) (v := .ref h1) (C := RX4) (T := TX4) (N := 1) hx hb hts iX4 hown hK hP 0 rfl rfl 0 (Nat.le_of_ble_eq_true rfl) (hts (.fieldLink RX4 13 "BentPins$Row" "cells" "[I") (List.mem_of_getElem? (i := 1) rfl)) (fun _ h9 => h9) rfl dX4_raise_14 ?_
  refine lv_iload_n hx hb dX4_raise_17 rfl (lv_at hl 1 rfl) ?_
  refine lv_dup2_11 hx hb dX4_raise_18 rfl rfl ?_
  refine va_iald (i := nI k) hx hb hK hP 1 0 rfl ht0 (vp_in_nI (n := k) (N := n) (by omega) (by omega)) dX4_raise_19 ?_
  refine ej_topi (show f (nI k).toNatClampNeg = f k from congrArg f (nI_clamp (n := k) (by omega))) ?_
  refine lv_iload_n hx hb dX4_raise_20 rfl (lv_at hl 2 rfl) ?_
  refine lv_iadd hx hb dX4_raise_21 ?_
  refine va_iast (i := nI k) hx hb hK hP hD hS 1 0 rfl ht0 (vp_in_nI (n := k) (N := n) (by omega) (by omega)) dX4_raise_22 (fun H locs hP hD hS => ?_)
  rw [show (nI k).toNatClampNeg = k from nI_clamp (by omega)] at hP hD
  have hP : va_P D vwCl ([(h0, .inr (4, [.ref h1])), (h1, .inl (cI, n, .inl (upd f k ((f k) + v))))]) H := hP
  have hD : va_D A ([(h0, .inr (4, [.ref h1])), (h1, .inl (cI, n, .inl (upd f k ((f k) + v))))]) := hD
  exact hQ _ _ _ _ ([(h0, .inr (4, [.ref h1])), (h1, .inl (cI, n, .inl (upd f k ((f k) + v))))]) dX4_raise_23 rfl hP hS
set_option maxHeartbeats 4000000 in
set_option maxRecDepth 100000 in
theorem c_X4_copyFrom (l : Launch) (D : va_G) (tys : eT) (cI : ClassId) (ht0 : tys[0]? = some (cI, .int)) (h0 h1 g0 g1 n : Nat) (f g : Nat → Int32)  (hn : n < 2147483648) : fc l D tys yX4_copyFrom wsX4_copyFrom (eR 1 64) [.ref h0, .ref g0] ([(h0, .inr (4, [.ref h1])), (h1, .inl (cI, n, .inl f)), (g0, .inr (4, [.ref g1])), (g1, .inl (cI, n, .inl g))]) none ([(h0, .inr (4, [.ref h1])), (h1, .inl (cI, n, .inl g)), (g0, .inr (4, [.ref g1])), (g1, .inl (cI, n, .inl g))]) := by
  refine fc_void cX4_copyFrom 2 (by decide +kernel) rfl (Nat.le_of_ble_eq_true rfl) ?_
  intro p9 e9 s9 m9 a9 b9 t9 c9 H0 A Q ls S hK hN hA hP hD hS hl hQ
  have S : CallFix p9 m9 c9 cX4_copyFrom 2 s9 a9 wsX4_copyFrom RX4 := S
  obtain ⟨hx, hb, hml, hown, hts⟩ := id S
  have iX4 : ∀ w ∈ wsX40, w ∈ wsX4_copyFrom := fun w h => List.mem_cons_of_mem _ (List.mem_append_right _ (h))
  have hP : va_P D vwCl ([(h0, .inr (4, [.ref h1])), (h1, .inl (cI, n, .inl f)), (g0, .inr (4, [.ref g1])), (g1, .inl (cI, n, .inl g))]) H0 := hP
  have hD : va_D A ([(h0, .inr (4, [.ref h1])), (h1, .inl (cI, n, .inl f)), (g0, .inr (4, [.ref g1])), (g1, .inl (cI, n, .inl g))]) := hD
  have hl : lv_has ls 2 [(0, .ref h0), (1, .ref g0)] := hl
  refine lv_aload_n hx hb dX4_copyFrom_0 rfl (lv_at hl 1 rfl) ?_
  refine va_get (D := D) (ci := 4) (v := .ref g1) (C := RX4) (T := TX4) (N := 1) hx hb hts iX4 hown hK hP 2 rfl rfl 0 (Nat.le_of_ble_eq_true rfl) (hts (.fieldLink RX4 13 "BentPins$Row" "cells" "[I") (List.mem_of_getElem? (i := 1) rfl)) (fun _ h9 => h9) rfl dX4_copyFrom_1 ?_
  refine lv_iconst (v := 0) hx hb dX4_copyFrom_4 (by decide) ?_
  refine lv_aload_n hx hb dX4_copyFrom_5 rfl (lv_at hl 0 rfl) ?_
  refine va_get (D := D) (ci := 4) (v := .ref h1) (C := RX4) (T := TX4) (N := 1) hx hb hts iX4 hown hK hP 0 rfl rfl 0 (Nat.le_of_ble_eq_true rfl) (hts (.fieldLink RX4 13 "BentPins$Row" "cells" "[I") (List.mem_of_getElem? (i := 1) rfl)) (fun _ h9 => h9) rfl dX4_copyFrom_6 ?_
  refine lv_iconst (v := 0) hx hb dX4_copyFrom_9 (by decide) ?_
  refine lv_aload_n hx hb dX4_copyFrom_10 rfl (lv_at hl 1 rfl) ?_
  refine va_get (D := D) (ci := 4) (v := .ref g1) (C := RX4) (T := TX4) (N := 1) hx hb hts iX4 hown hK hP 2 rfl rfl 0 (Nat.le_of_ble_eq_true rfl) (hts (.fieldLink RX4 13 "BentPins$Row" "cells" "[I") (List.mem_of_getElem? (i := 1) rfl)) (fun _ h9 => h9) rfl dX4_copyFrom_11 ?_
  refine va_alen (v := nI n) hx hb hK hP 3 0 rfl ht0 rfl dX4_copyFrom_14 ?_
  refine lv_aload_n hx hb dX4_copyFrom_15 rfl (lv_at hl 0 rfl) ?_
  refine va_get (D := D) (ci := 4) (v := .ref h1) (C := RX4) (T := TX4) (N := 1) hx hb hts iX4 hown hK hP 0 rfl rfl 0 (Nat.le_of_ble_eq_true rfl) (hts (.fieldLink RX4 13 "BentPins$Row" "cells" "[I") (List.mem_of_getElem? (i := 1) rfl)) (fun _ h9 => h9) rfl dX4_copyFrom_16 ?_
  refine va_alen (v := nI n) hx hb hK hP 1 0 rfl ht0 rfl dX4_copyFrom_19 ?_
  refine va_mmin hx hb (hml.trans hl.1.symm) hown (hts (.methodLink RX4 25 Lib.Math.min.name) (List.mem_of_getElem? (i := 2) rfl)) (hts (.static Lib.Math.min.name) (List.mem_of_getElem? (i := 3) rfl)) (hts (.initialized "java/lang/Math") (List.mem_of_getElem? (i := 4) rfl)) (hts (.code Lib.Math.min.name Lib.Math.min.code 2 (some .int)) (List.mem_of_getElem? (i := 5) rfl)) (Nat.le_of_ble_eq_true rfl) (Nat.le_of_ble_eq_true rfl) (Nat.zero_le _) (Nat.zero_le _) dX4_copyFrom_20 ?_
  refine ej_topi (show (if (nI n) < (nI n) then (nI n) else (nI n)) = nI n from ite_self _) ?_
  refine va_copyi (sp := 0) (dp := 0) (n := nI n) (ty := .int) hx hb (hml.trans hl.1.symm) hown (hts (.methodLink RX4 28 arraycopyName) (List.mem_of_getElem? (i := 6) rfl)) (hts (.native arraycopyName) (List.mem_of_getElem? (i := 7) rfl)) (hts (.static arraycopyName) (List.mem_of_getElem? (i := 8) rfl)) (hts (.initialized "java/lang/System") (List.mem_of_getElem? (i := 9) rfl)) hK hP hD hS 3 1 0 0 rfl rfl ht0 ht0 rfl (show ¬ (0 : Int32) < 0 from nI_pos (n := 0) (by omega)) (show ¬ (0 : Int32) < 0 from nI_pos (n := 0) (by omega)) (show ¬ (nI n : Int32) < 0 from nI_pos (n := n) (by omega)) (by rw [show (0 : Int32).toNatClampNeg = 0 from nI_clamp (n := 0) (by omega), show (nI n : Int32).toNatClampNeg = n from nI_clamp (n := n) (by omega)]; omega) (by rw [show (0 : Int32).toNatClampNeg = 0 from nI_clamp (n := 0) (by omega), show (nI n : Int32).toNatClampNeg = n from nI_clamp (n := n) (by omega)]; omega) (fun i _ => rfl) (Nat.le_of_ble_eq_true rfl) (Nat.le_of_ble_eq_true rfl) dX4_copyFrom_23 (fun H locs hP hD hS => ?_)
  rw [show (0 : Int32).toNatClampNeg = 0 from nI_clamp (n := 0) (by omega), show (nI n : Int32).toNatClampNeg = n from nI_clamp (n := n) (by omega)] at hP hD
  have hP := ej_row (q := 1) (a := h1) (cI := cI) (n := n) g hP rfl (fun k hk => by simp [va_cpy, hk])
  have hD := ej_rowD (q := 1) (a := h1) (cI := cI) (n := n) g hD rfl
  have hP : va_P D vwCl ([(h0, .inr (4, [.ref h1])), (h1, .inl (cI, n, .inl g)), (g0, .inr (4, [.ref g1])), (g1, .inl (cI, n, .inl g))]) H := hP
  have hD : va_D A ([(h0, .inr (4, [.ref h1])), (h1, .inl (cI, n, .inl g)), (g0, .inr (4, [.ref g1])), (g1, .inl (cI, n, .inl g))]) := hD
  exact hQ _ _ _ _ ([(h0, .inr (4, [.ref h1])), (h1, .inl (cI, n, .inl g)), (g0, .inr (4, [.ref g1])), (g1, .inl (cI, n, .inl g))]) dX4_copyFrom_26 rfl hP hS
set_option maxHeartbeats 4000000 in
set_option maxRecDepth 100000 in
theorem c_X4_total (l : Launch) (D : va_G) (tys : eT) (cI : ClassId) (ht0 : tys[0]? = some (cI, .int)) (h0 h1 n : Nat) (f : Nat → Int32)  (hn : n < 2147483648) : fc l D tys yX4_total wsX4_total (eR 0 0) [.ref h0] ([(h0, .inr (4, [.ref h1])), (h1, .inl (cI, n, .inl f))]) (some (.int (sumI f n))) ([(h0, .inr (4, [.ref h1])), (h1, .inl (cI, n, .inl f))]) := by
  refine fc_int cX4_total 6 (by decide +kernel) rfl (rfl) (Nat.le_of_ble_eq_true rfl) ?_
  intro p9 e9 s9 m9 a9 b9 t9 c9 H0 A Q ls S hK hN hA hP hD hS hl hQ
  have S : CallFix p9 m9 c9 cX4_total 6 s9 a9 wsX4_total RX4 := S
  obtain ⟨hx, hb, hml, hown, hts⟩ := id S
  have iX4 : ∀ w ∈ wsX40, w ∈ wsX4_total := fun w h => List.mem_cons_of_mem _ (List.mem_append_right _ (h))
  have hP : va_P D vwCl ([(h0, .inr (4, [.ref h1])), (h1, .inl (cI, n, .inl f))]) H0 := hP
  have hD : va_D A ([(h0, .inr (4, [.ref h1])), (h1, .inl (cI, n, .inl f))]) := hD
  have hl : lv_has ls 6 [(0, .ref h0)] := hl
  refine lv_iconst (v := 0) hx hb dX4_total_0 (by decide) ?_
  refine lv_istore_n (lv' := [(1, .int 0), (0, .ref h0)]) hx hb dX4_total_1 rfl hl (by decide) rfl (fun ls hl => ?_)
  refine lv_aload_n hx hb dX4_total_2 rfl (lv_at hl 1 rfl) ?_
  refine va_get (D := D) (ci := 4) (v := .ref h1) (C := RX4) (T := TX4) (N := 1) hx hb hts iX4 hown hK hP 0 rfl rfl 0 (Nat.le_of_ble_eq_true rfl) (hts (.fieldLink RX4 13 "BentPins$Row" "cells" "[I") (List.mem_of_getElem? (i := 1) rfl)) (fun _ h9 => h9) rfl dX4_total_3 ?_
  refine lv_astore_n (lv' := [(2, .ref h1), (1, .int 0), (0, .ref h0)]) hx hb dX4_total_6 rfl hl (by decide) rfl (fun ls hl => ?_)
  refine lv_aload_n hx hb dX4_total_7 rfl (lv_at hl 0 rfl) ?_
  refine va_alen (v := nI n) hx hb hK hP 1 0 rfl ht0 rfl dX4_total_8 ?_
  refine lv_istore_n (lv' := [(3, .int (nI n)), (2, .ref h1), (1, .int 0), (0, .ref h0)]) hx hb dX4_total_9 rfl hl (by decide) rfl (fun ls hl => ?_)
  refine lv_iconst (v := 0) hx hb dX4_total_10 (by decide) ?_
  refine lv_istore (lv' := [(4, .int 0), (3, .int (nI n)), (2, .ref h1), (1, .int 0), (0, .ref h0)]) hx hb dX4_total_11 hl (by decide) rfl (fun ls hl => ?_)
  have lp13 : ∀ (n13 : Nat) (i : Nat), n - i < n13 → (i ≤ n) → ∀ (H : Heap) (locs : List Loc) (ls : Array Slot), va_P D vwCl ([(h0, .inr (4, [.ref h1])), (h1, .inl (cI, n, .inl f))]) H → va_D A ([(h0, .inr (4, [.ref h1])), (h1, .inl (cI, n, .inl f))]) → va_S A H0 H locs → lv_has ls 6 [(0, .ref h0), (1, .int (sumI f i)), (2, .ref h1), (3, .int (nI n)), (4, .int (nI i))] → W p9 l e9 (eR 0 0) s9 m9 a9 b9 t9 c9 H locs 0 0 Q (F0 m9 13 ls []) := by
    intro n13
    induction n13 with
    | zero => intro i hm9; exact absurd hm9 (Nat.not_lt_zero _)
    | succ n13 ih13 =>
      intro i hm13 hi H locs ls hP hD hS hl
      refine lv_iload hx hb dX4_total_13 (lv_at hl 4 rfl) ?_
      refine lv_iload_n hx hb dX4_total_15 rfl (lv_at hl 3 rfl) ?_
      refine lv_icmp_ge (tgt := 36) hx hb dX4_total_16 (by decide) (fun c_1 => ?_) (fun c_1 => ?_)
      · have n_1 : n ≤ i := ej_tle (a := n) (b := i) (by omega) (by omega) c_1
        refine lv_iload_n hx hb dX4_total_36 rfl (lv_at hl 1 rfl) ?_
        exact hQ _ _ _ _ (sumI f i) ([(h0, .inr (4, [.ref h1])), (h1, .inl (cI, n, .inl f))]) dX4_total_37 (by rw [show i = n by omega]) rfl hP hS
      · have n_1 : i < n := ej_tnle (a := n) (b := i) (by omega) (by omega) c_1
        refine lv_aload_n hx hb dX4_total_19 rfl (lv_at hl 2 rfl) ?_
        refine lv_iload hx hb dX4_total_20 (lv_at hl 4 rfl) ?_
        refine va_iald (i := nI i) hx hb hK hP 1 0 rfl ht0 (vp_in_nI (n := i) (N := n) (by omega) (by omega)) dX4_total_22 ?_
        refine ej_topi (show f (nI i).toNatClampNeg = f i from congrArg f (nI_clamp (n := i) (by omega))) ?_
        refine lv_istore (lv' := [(5, .int (f i)), (0, .ref h0), (1, .int (sumI f i)), (2, .ref h1), (3, .int (nI n)), (4, .int (nI i))]) hx hb dX4_total_23 hl (by decide) rfl (fun ls hl => ?_)
        refine lv_iload_n hx hb dX4_total_25 rfl (lv_at hl 2 rfl) ?_
        refine lv_iload hx hb dX4_total_26 (lv_at hl 0 rfl) ?_
        refine lv_iadd hx hb dX4_total_28 ?_
        refine lv_istore_n (lv' := [(1, .int ((sumI f i) + (f i))), (5, .int (f i)), (0, .ref h0), (2, .ref h1), (3, .int (nI n)), (4, .int (nI i))]) hx hb dX4_total_29 rfl hl (by decide) rfl (fun ls hl => ?_)
        refine lv_iinc (v := nI (i + 1)) (lv' := [(4, .int (nI (i + 1))), (1, .int ((sumI f i) + (f i))), (5, .int (f i)), (0, .ref h0), (2, .ref h1), (3, .int (nI n))]) hx hb dX4_total_30 hl (k := 5) rfl (nI_add i 1) (by decide) rfl (fun ls hl => ?_)
        refine lv_goto (tgt := 13) hx hb dX4_total_33 (by decide) ?_
        exact ih13  (i + 1) (by omega) (by omega) _ _ _ hP hD hS (lv_sub hl [3, 1, 4, 5, 0] rfl)
  exact lp13 ((n - 0) + 1) 0 (by omega) (by omega) _ _ _ hP hD hS (lv_sub hl [4, 3, 2, 1, 0] rfl)
set_option maxHeartbeats 4000000 in
set_option maxRecDepth 100000 in
theorem c_J7_fill_53178 (l : Launch) (D : va_G) (tys : eT) (cI : ClassId) (ht0 : tys[0]? = some (cI, .int)) (h1 n : Nat) (f : Nat → Int32) (v : Int32)  (hn : n < 2147483648) : fc l D tys yJ7_fill_53178 wsJ7_fill_53178 (eR 0 0) [.ref h1, .int v] ([(h1, .inl (cI, n, .inl f))]) none ([(h1, .inl (cI, n, .inl (fun _ => v)))]) := by
  refine fc_void cJ7_fill_53178 4 (by decide +kernel) rfl (Nat.le_of_ble_eq_true rfl) ?_
  intro p9 e9 s9 m9 a9 b9 t9 c9 H0 A Q ls S hK hN hA hP hD hS hl hQ
  have S : CallFix p9 m9 c9 cJ7_fill_53178 4 s9 a9 wsJ7_fill_53178 RJ7 := S
  obtain ⟨hx, hb, hml, hown, hts⟩ := id S
  have hP : va_P D vwCl ([(h1, .inl (cI, n, .inl f))]) H0 := hP
  have hD : va_D A ([(h1, .inl (cI, n, .inl f))]) := hD
  have hl : lv_has ls 4 [(0, .ref h1), (1, .int v)] := hl
  refine lv_iconst (v := 0) hx hb dJ7_fill_53178_0 (by decide) ?_
  refine lv_istore_n (lv' := [(2, .int 0), (0, .ref h1), (1, .int v)]) hx hb dJ7_fill_53178_1 rfl hl (by decide) rfl (fun ls hl => ?_)
  refine lv_aload_n hx hb dJ7_fill_53178_2 rfl (lv_at hl 1 rfl) ?_
  refine va_alen (v := nI n) hx hb hK hP 0 0 rfl ht0 rfl dJ7_fill_53178_3 ?_
  refine lv_istore_n (lv' := [(3, .int (nI n)), (2, .int 0), (0, .ref h1), (1, .int v)]) hx hb dJ7_fill_53178_4 rfl hl (by decide) rfl (fun ls hl => ?_)
  have lp5 : ∀ (n5 : Nat) (i : Nat) (g : Nat → Int32), n - i < n5 → (i ≤ n) → (∀ k, k < i → g k = v) → ∀ (H : Heap) (locs : List Loc) (ls : Array Slot), va_P D vwCl ([(h1, .inl (cI, n, .inl g))]) H → va_D A ([(h1, .inl (cI, n, .inl g))]) → va_S A H0 H locs → lv_has ls 4 [(0, .ref h1), (1, .int v), (2, .int (nI i)), (3, .int (nI n))] → W p9 l e9 (eR 0 0) s9 m9 a9 b9 t9 c9 H locs 0 0 Q (F0 m9 5 ls []) := by
    intro n5
    induction n5 with
    | zero => intro i g hm9; exact absurd hm9 (Nat.not_lt_zero _)
    | succ n5 ih5 =>
      intro i g hm5 hi hg H locs ls hP hD hS hl
      refine lv_iload_n hx hb dJ7_fill_53178_5 rfl (lv_at hl 2 rfl) ?_
      refine lv_iload_n hx hb dJ7_fill_53178_6 rfl (lv_at hl 3 rfl) ?_
      refine lv_icmp_ge (tgt := 20) hx hb dJ7_fill_53178_7 (by decide) (fun c_1 => ?_) (fun c_1 => ?_)
      · have n_1 : n ≤ i := ej_tle (a := n) (b := i) (by omega) (by omega) c_1
        have hP := ej_row (q := 0) (a := h1) (cI := cI) (n := n) (fun _ => v) hP rfl (fun k hk => hg k (by omega))
        have hD := ej_rowD (q := 0) (a := h1) (cI := cI) (n := n) (fun _ => v) hD rfl
        have hP : va_P D vwCl ([(h1, .inl (cI, n, .inl (fun _ => v)))]) _ := hP
        have hD : va_D A ([(h1, .inl (cI, n, .inl (fun _ => v)))]) := hD
        exact hQ _ _ _ _ ([(h1, .inl (cI, n, .inl (fun _ => v)))]) dJ7_fill_53178_20 (by first | (simp only [n_1, c_1, if_true, if_false, ite_true, ite_false, not_true_eq_false, not_false_eq_true, and_true, true_and, and_false, false_and, and_self, true_or, or_true, or_false, false_or, reduceIte]; done) | rfl | simp [n_1, c_1]) hP hS
      · have n_1 : i < n := ej_tnle (a := n) (b := i) (by omega) (by omega) c_1
        refine lv_aload_n hx hb dJ7_fill_53178_10 rfl (lv_at hl 0 rfl) ?_
        refine lv_iload_n hx hb dJ7_fill_53178_11 rfl (lv_at hl 2 rfl) ?_
        refine lv_iload_n hx hb dJ7_fill_53178_12 rfl (lv_at hl 1 rfl) ?_
        refine va_iast (i := nI i) hx hb hK hP hD hS 0 0 rfl ht0 (vp_in_nI (n := i) (N := n) (by omega) (by omega)) dJ7_fill_53178_13 (fun H locs hP hD hS => ?_)
        rw [show (nI i).toNatClampNeg = i from nI_clamp (by omega)] at hP hD
        have hP : va_P D vwCl ([(h1, .inl (cI, n, .inl (upd g i v)))]) H := hP
        have hD : va_D A ([(h1, .inl (cI, n, .inl (upd g i v)))]) := hD
        refine lv_iinc (v := nI (i + 1)) (lv' := [(2, .int (nI (i + 1))), (0, .ref h1), (1, .int v), (3, .int (nI n))]) hx hb dJ7_fill_53178_14 hl (k := 2) rfl (nI_add i 1) (by decide) rfl (fun ls hl => ?_)
        refine lv_goto (tgt := 5) hx hb dJ7_fill_53178_17 (by decide) ?_
        exact ih5  (i + 1) (upd g i v) (by omega) (by omega) (fun k hk => (Decidable.em (k = i)).elim (fun q => by rw [q]; exact pk_us) (fun q => (pk_un q).trans (hg k (by omega)))) _ _ _ hP hD hS (lv_sub hl [1, 2, 0, 3] rfl)
  exact lp5 ((n - 0) + 1) 0 f (by omega) (by omega) (fun k hk => absurd hk (Nat.not_lt_zero k)) _ _ _ hP hD hS (lv_sub hl [2, 3, 1, 0] rfl)
set_option maxHeartbeats 4000000 in
set_option maxRecDepth 100000 in
theorem c_X4_fillWith (l : Launch) (D : va_G) (tys : eT) (cI : ClassId) (ht0 : tys[0]? = some (cI, .int)) (h0 h1 n : Nat) (f : Nat → Int32) (v : Int32)  (hn : n < 2147483648) : fc l D tys yX4_fillWith wsX4_fillWith (eR 1 23) [.ref h0, .int v] ([(h0, .inr (4, [.ref h1])), (h1, .inl (cI, n, .inl f))]) none ([(h0, .inr (4, [.ref h1])), (h1, .inl (cI, n, .inl (fun _ => v)))]) := by
  refine fc_void cX4_fillWith 2 (by decide +kernel) rfl (Nat.le_of_ble_eq_true rfl) ?_
  intro p9 e9 s9 m9 a9 b9 t9 c9 H0 A Q ls S hK hN hA hP hD hS hl hQ
  have S : CallFix p9 m9 c9 cX4_fillWith 2 s9 a9 wsX4_fillWith RX4 := S
  obtain ⟨hx, hb, hml, hown, hts⟩ := id S
  have iX4 : ∀ w ∈ wsX40, w ∈ wsX4_fillWith := fun w h => List.mem_cons_of_mem _ (List.mem_append_right _ (h))
  have hP : va_P D vwCl ([(h0, .inr (4, [.ref h1])), (h1, .inl (cI, n, .inl f))]) H0 := hP
  have hD : va_D A ([(h0, .inr (4, [.ref h1])), (h1, .inl (cI, n, .inl f))]) := hD
  have hl : lv_has ls 2 [(0, .ref h0), (1, .int v)] := hl
  refine lv_aload_n hx hb dX4_fillWith_0 rfl (lv_at hl 0 rfl) ?_
  refine va_get (D := D) (ci := 4) (v := .ref h1) (C := RX4) (T := TX4) (N := 1) hx hb hts iX4 hown hK hP 0 rfl rfl 0 (Nat.le_of_ble_eq_true rfl) (hts (.fieldLink RX4 13 "BentPins$Row" "cells" "[I") (List.mem_of_getElem? (i := 1) rfl)) (fun _ h9 => h9) rfl dX4_fillWith_1 ?_
  refine lv_iload_n hx hb dX4_fillWith_4 rfl (lv_at hl 1 rfl) ?_
  refine ej_S (As := [.ref h1, .int v]) (rest := []) (w' := [(h0, .inr (4, [.ref h1])), (h1, .inl (cI, n, .inl (fun _ => v)))]) S hK hN hA hP hD hS (c_J7_fill_53178 l D tys cI ht0 h1 n f v (by omega)) (va_cwS 2 hts gX4_fillWith_J7_fill_53178 rfl rfl rfl hds_J7_fill_53178 ⟨Nat.le_of_ble_eq_true rfl, Nat.le_of_ble_eq_true rfl⟩) [1] [none, some 0] [h1] rfl (by decide +kernel) ⟨rfl, rfl⟩ rfl (by decide +kernel) rfl rfl hl.1 (Nat.le_of_ble_eq_true rfl) dX4_fillWith_5 ⟨Nat.zero_le _, Nat.zero_le _⟩ (fun H locs hP hD hS => ?_)
  show W p9 l e9 (eR 1 23) s9 m9 a9 b9 t9 c9 H locs 0 0 Q (F0 m9 8 ls [])
  exact hQ _ _ _ _ ([(h0, .inr (4, [.ref h1])), (h1, .inl (cI, n, .inl (fun _ => v)))]) dX4_fillWith_8 rfl hP hS
