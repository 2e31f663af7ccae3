set_option maxHeartbeats 4000000 in
set_option maxRecDepth 100000 in
theorem k_acts (l : Launch) (D : va_G) (tys : eT) (cI cT : ClassId) (ht0 : tys[0]? = some (cI, .int)) (ht1 : tys[1]? = some (cT, .object RX5)) (o aT aB aS g y z : Nat → Nat) (ad : Nat → Nat → Nat) (t : Pn) (u : Tr) (hs : List (Pn × Tr)) (sn : Option (Pn × Tr)) (q : Nat) (f : Nat → Int32) (s0 s1 s2 : Int32) (x yv : Int32) (m : Nat) (htl : tilOK t) (ho : okS m t u) : lc l D tys cI cT o aT aB aS g y z ad yL_acts wsL_acts (eR 25 1500) [.ref (o 0), .int x, .int yv] t u hs sn q f s0 s1 s2 (actP m t u hs) := by
  refine lc_int cL_acts 8 (by decide +kernel) rfl (Nat.le_of_ble_eq_true rfl) ?_
  intro p9 e9 s9 m9 a9 b9 t9 c9 H0 A Q ls S hK hN hA hD hW hS hl hQ
  have S : CallFix p9 m9 c9 cL_acts 8 s9 a9 wsL_acts RL := S
  obtain ⟨hx, hb, hml, hown, hts⟩ := id S
  have hl : lv_has ls 8 [(0, .ref (o 0)), (1, .int x), (2, .int yv)] := hl
  refine lv_iload_n hx hb dL_acts_0 rfl (lv_at hl 1 rfl) ?_
  refine lv_bipush (v := 30) hx hb dL_acts_1 (by decide) ?_
  refine ej_L0 (rest := []) (As := [.int x, .int 30]) S hK hN hA hD hW hS (c_L_low l D tys cI ht0 x 30 (by omega) (by omega)) (va_cwS 2 hts gL_acts_L_low rfl rfl rfl hds_L_low ⟨Nat.le_of_ble_eq_true rfl, Nat.le_of_ble_eq_true rfl⟩) rfl rfl hl.1 (Nat.le_of_ble_eq_true rfl) dL_acts_3 ⟨Nat.zero_le _, Nat.zero_le _⟩ (fun H locs hW hS => ?_)
  show W p9 l e9 (eR 25 1500) s9 m9 a9 b9 t9 c9 H locs 0 0 Q (F0 m9 6 ls [.int (nI (lowN x 30))])
  have lw_3 := lowN_lt x (n := 30) (by omega)
  refine lv_istore_n (lv' := [(3, .int (nI (lowN x 30))), (0, .ref (o 0)), (1, .int x), (2, .int yv)]) hx hb dL_acts_6 rfl hl (by decide) rfl (fun ls hl => ?_)
  refine lv_iload_n hx hb dL_acts_7 rfl (lv_at hl 0 rfl) ?_
  refine lv_bipush (v := 10) hx hb dL_acts_8 (by decide) ?_
  refine lv_icmp_ge (tgt := 19) hx hb dL_acts_10 (by decide) (fun c_10 => ?_) (fun c_10 => ?_)
  · have n_10 : 10 ≤ (lowN x 30) := ej_tle (a := 10) (b := (lowN x 30)) (by omega) (by omega) c_10
    refine lv_iload_n hx hb dL_acts_19 rfl (lv_at hl 0 rfl) ?_
    refine lv_bipush (v := 19) hx hb dL_acts_20 (by decide) ?_
    refine lv_icmp_ge (tgt := 52) hx hb dL_acts_22 (by decide) (fun c_22 => ?_) (fun c_22 => ?_)
    · have n_22 : 19 ≤ (lowN x 30) := ej_tle (a := 19) (b := (lowN x 30)) (by omega) (by omega) c_22
      refine lv_iload_n hx hb dL_acts_52 rfl (lv_at hl 0 rfl) ?_
      refine lv_bipush (v := 21) hx hb dL_acts_53 (by decide) ?_
      refine lv_icmp_ge (tgt := 174) hx hb dL_acts_55 (by decide) (fun c_55 => ?_) (fun c_55 => ?_)
      · have n_55 : 21 ≤ (lowN x 30) := ej_tle (a := 21) (b := (lowN x 30)) (by omega) (by omega) c_55
        refine lv_iload_n hx hb dL_acts_174 rfl (lv_at hl 0 rfl) ?_
        refine lv_bipush (v := 23) hx hb dL_acts_175 (by decide) ?_
        refine lv_icmp_ge (tgt := 318) hx hb dL_acts_177 (by decide) (fun c_177 => ?_) (fun c_177 => ?_)
        · have n_177 : 23 ≤ (lowN x 30) := ej_tle (a := 23) (b := (lowN x 30)) (by omega) (by omega) c_177
          refine lv_iload_n hx hb dL_acts_318 rfl (lv_at hl 0 rfl) ?_
          refine lv_bipush (v := 23) hx hb dL_acts_319 (by decide) ?_
          refine lv_icmp_ne (tgt := 370) hx hb dL_acts_321 (by decide) (fun c_321 => ?_) (fun c_321 => ?_)
          · have n_321 : (lowN x 30) ≠ 23 := ej_tne (a := (lowN x 30)) (b := 23) (by omega) (by omega) c_321
            refine lv_iload_n hx hb dL_acts_370 rfl (lv_at hl 0 rfl) ?_
            refine lv_bipush (v := 27) hx hb dL_acts_371 (by decide) ?_
            refine lv_icmp_ge (tgt := 384) hx hb dL_acts_373 (by decide) (fun c_373 => ?_) (fun c_373 => ?_)
            · have n_373 : 27 ≤ (lowN x 30) := ej_tle (a := 27) (b := (lowN x 30)) (by omega) (by omega) c_373
              refine lv_aload_n hx hb dL_acts_384 rfl (lv_at hl 1 rfl) ?_
              refine lv_iload_n hx hb dL_acts_385 rfl (lv_at hl 3 rfl) ?_
              refine ej_L (rest := []) (As := [.ref (o 0), .int yv]) S hK hN hA hD hW hS (k_boards l D tys cI cT ht0 ht1 o aT aB aS g y z ad t u hs sn q f s0 s1 s2 yv m htl ho) (va_cwS 2 hts gL_acts_L_boards rfl rfl rfl hds_L_boards ⟨Nat.le_of_ble_eq_true rfl, Nat.le_of_ble_eq_true rfl⟩) rfl rfl hl.1 (Nat.le_of_ble_eq_true rfl) dL_acts_386 ⟨Nat.zero_le _, Nat.zero_le _⟩ (fun r9 t9_ u9_ hs9_ q9_ f9_ x9_0 x9_1 x9_2 H locs hP9 hW hS => ?_)
              obtain ⟨rfl, hok9, hch9⟩ := hP9
              show W p9 l e9 (eR 25 1500) s9 m9 a9 b9 t9 c9 H locs 0 0 Q (F0 m9 389 ls [.int 1])
              have hW : SW D cI cT o aT aB aS g y z ad t9_ u9_ hs9_ sn q9_ f9_ x9_0 x9_1 x9_2 H := hW
              exact hQ _ _ _ _ _ _ _ _ _ _ _ _ _ dL_acts_389 rfl (by exact ⟨rfl, hok9, hch9⟩) hW hS
            · have n_373 : (lowN x 30) < 27 := ej_tnle (a := 27) (b := (lowN x 30)) (by omega) (by omega) c_373
              refine lv_aload_n hx hb dL_acts_376 rfl (lv_at hl 1 rfl) ?_
              refine lv_iload_n hx hb dL_acts_377 rfl (lv_at hl 3 rfl) ?_
              refine ej_L (rest := []) (As := [.ref (o 0), .int yv]) S hK hN hA hD hW hS (k_texts l D tys cI cT ht0 ht1 o aT aB aS g y z ad t u hs sn q f s0 s1 s2 yv m htl ho) (va_cwS 2 hts gL_acts_L_texts rfl rfl rfl hds_L_texts ⟨Nat.le_of_ble_eq_true rfl, Nat.le_of_ble_eq_true rfl⟩) rfl rfl hl.1 (Nat.le_of_ble_eq_true rfl) dL_acts_378 ⟨Nat.zero_le _, Nat.zero_le _⟩ (fun r9 t9_ u9_ hs9_ q9_ f9_ x9_0 x9_1 x9_2 H locs hP9 hW hS => ?_)
              obtain ⟨rfl, hok9, hch9⟩ := hP9
              show W p9 l e9 (eR 25 1500) s9 m9 a9 b9 t9 c9 H locs 0 0 Q (F0 m9 381 ls [.int 1])
              have hW : SW D cI cT o aT aB aS g y z ad t9_ u9_ hs9_ sn q9_ f9_ x9_0 x9_1 x9_2 H := hW
              refine lv_goto (tgt := 389) hx hb dL_acts_381 (by decide) ?_
              exact hQ _ _ _ _ _ _ _ _ _ _ _ _ _ dL_acts_389 rfl (by exact ⟨rfl, hok9, hch9⟩) hW hS
          · have n_321 : (lowN x 30) = 23 := ej_teq (a := (lowN x 30)) (b := 23) (by omega) (by omega) c_321
            refine lv_aload_n hx hb dL_acts_324 rfl (lv_at hl 1 rfl) ?_
            refine lr_empty (rest := [])  S hK hN ht0 ht1 hA hD hW hS htl  (cwV 0 hts gL_acts_X6_empty rfl rfl rfl hdv_X6_empty ⟨Nat.le_of_ble_eq_true rfl, Nat.le_of_ble_eq_true rfl⟩) rfl hl.1 (Nat.le_of_ble_eq_true rfl) dL_acts_325 ⟨Nat.zero_le _, Nat.zero_le _⟩ (fun H locs hW hS => ?_)
            show W p9 l e9 (eR 25 1500) s9 m9 a9 b9 t9 c9 H locs 0 0 Q (F0 m9 328 ls [.int (T_le (empU u))])
            have hW : SW D cI cT o aT aB aS g y z ad t (empU u) (recL hs (t, u)) sn q f s0 s1 s2 H := hW
            refine ej_topi (show (T_le (empU u)) = 20 from (okU_emp20 ho.2.1.1)) ?_
            refine lv_bipush (v := 20) hx hb dL_acts_328 (by decide) ?_
            refine lv_icmp_ne (tgt := 368) hx hb dL_acts_330 (by decide) (fun h9 => absurd (show (20 : Int32) = 20 from by decide) h9) (fun _ => ?_)
            refine lv_aload_n hx hb dL_acts_333 rfl (lv_at hl 1 rfl) ?_
            refine lv_iconst (v := 1) hx hb dL_acts_334 (by decide) ?_
            refine lr_count (rest := []) (w := 1) S hK hN ht0 ht1 hA hD hW hS htl  (cwV 1 hts gL_acts_X6_count rfl rfl rfl hdv_X6_count ⟨Nat.le_of_ble_eq_true rfl, Nat.le_of_ble_eq_true rfl⟩) rfl hl.1 (Nat.le_of_ble_eq_true rfl) dL_acts_335 ⟨Nat.zero_le _, Nat.zero_le _⟩ (fun H locs hW hS => ?_)
            show W p9 l e9 (eR 25 1500) s9 m9 a9 b9 t9 c9 H locs 0 0 Q (F0 m9 338 ls [.int (couA t (empU u) q (recL hs (t, u)).length 1)])
            have hW : SW D cI cT o aT aB aS g y z ad t (empU u) (recL hs (t, u)) sn q f s0 s1 s2 H := hW
            refine ej_topi (show (couA t (empU u) q (recL hs (t, u)).length 1) = T_le (empU u) from lkc_1 t (empU u) q ((recL hs (t, u)).length)) ?_
            refine ej_topi (show (T_le (empU u)) = 20 from (okU_emp20 ho.2.1.1)) ?_
            refine lv_bipush (v := 20) hx hb dL_acts_338 (by decide) ?_
            refine lv_icmp_ne (tgt := 368) hx hb dL_acts_340 (by decide) (fun h9 => absurd (show (20 : Int32) = 20 from by decide) h9) (fun _ => ?_)
            refine lv_aload_n hx hb dL_acts_343 rfl (lv_at hl 1 rfl) ?_
            refine lv_iconst (v := 2) hx hb dL_acts_344 (by decide) ?_
            refine lr_count (rest := []) (w := 2) S hK hN ht0 ht1 hA hD hW hS htl  (cwV 1 hts gL_acts_X6_count rfl rfl rfl hdv_X6_count ⟨Nat.le_of_ble_eq_true rfl, Nat.le_of_ble_eq_true rfl⟩) rfl hl.1 (Nat.le_of_ble_eq_true rfl) dL_acts_345 ⟨Nat.zero_le _, Nat.zero_le _⟩ (fun H locs hW hS => ?_)
            show W p9 l e9 (eR 25 1500) s9 m9 a9 b9 t9 c9 H locs 0 0 Q (F0 m9 348 ls [.int (couA t (empU u) q (recL hs (t, u)).length 2)])
            have hW : SW D cI cT o aT aB aS g y z ad t (empU u) (recL hs (t, u)) sn q f s0 s1 s2 H := hW
            refine ej_topi (show (couA t (empU u) q (recL hs (t, u)).length 2) = sumI (T_he (empU u)) 7 from lkc_2 t (empU u) q ((recL hs (t, u)).length)) ?_
            refine ej_topi (show (sumI (T_he (empU u)) 7) = 0 from (he_emp u)) ?_
            refine lv_aload_n hx hb dL_acts_348 rfl (lv_at hl 1 rfl) ?_
            refine lv_iconst (v := 3) hx hb dL_acts_349 (by decide) ?_
            refine lr_count (rest := [.int 0]) (w := 3) S hK hN ht0 ht1 hA hD hW hS htl  (cwV 1 hts gL_acts_X6_count rfl rfl rfl hdv_X6_count ⟨Nat.le_of_ble_eq_true rfl, Nat.le_of_ble_eq_true rfl⟩) rfl hl.1 (Nat.le_of_ble_eq_true rfl) dL_acts_350 ⟨Nat.zero_le _, Nat.zero_le _⟩ (fun H locs hW hS => ?_)
            show W p9 l e9 (eR 25 1500) s9 m9 a9 b9 t9 c9 H locs 0 0 Q (F0 m9 353 ls [.int (couA t (empU u) q (recL hs (t, u)).length 3), .int 0])
            have hW : SW D cI cT o aT aB aS g y z ad t (empU u) (recL hs (t, u)) sn q f s0 s1 s2 H := hW
            refine ej_topi (show (couA t (empU u) q (recL hs (t, u)).length 3) = T_lo (empU u) from lkc_3 t (empU u) q ((recL hs (t, u)).length)) ?_
            refine ej_topi (show (T_lo (empU u)) = 0 from rfl) ?_
            refine lv_iadd hx hb dL_acts_353 ?_
            refine ej_topi (show (0 + 0 : Int32) = 0 by decide) ?_
            refine lv_aload_n hx hb dL_acts_354 rfl (lv_at hl 1 rfl) ?_
            refine lv_bipush (v := 8) hx hb dL_acts_355 (by decide) ?_
            refine lr_count (rest := [.int 0]) (w := 8) S hK hN ht0 ht1 hA hD hW hS htl  (cwV 1 hts gL_acts_X6_count rfl rfl rfl hdv_X6_count ⟨Nat.le_of_ble_eq_true rfl, Nat.le_of_ble_eq_true rfl⟩) rfl hl.1 (Nat.le_of_ble_eq_true rfl) dL_acts_357 ⟨Nat.zero_le _, Nat.zero_le _⟩ (fun H locs hW hS => ?_)
            show W p9 l e9 (eR 25 1500) s9 m9 a9 b9 t9 c9 H locs 0 0 Q (F0 m9 360 ls [.int (couA t (empU u) q (recL hs (t, u)).length 8), .int 0])
            have hW : SW D cI cT o aT aB aS g y z ad t (empU u) (recL hs (t, u)) sn q f s0 s1 s2 H := hW
            refine ej_topi (show (couA t (empU u) q (recL hs (t, u)).length 8) = fulS (empU u) from lkc_8 t (empU u) q ((recL hs (t, u)).length)) ?_
            refine ej_topi (show (fulS (empU u)) = 0 from (ful_emp ho.2.2.2.1)) ?_
            refine lv_iadd hx hb dL_acts_360 ?_
            refine ej_topi (show (0 + 0 : Int32) = 0 by decide) ?_
            refine lv_if_ne (tgt := 368) hx hb dL_acts_361 (by decide) (fun h9 => absurd (show (0 : Int32) = 0 from by decide) h9) (fun _ => ?_)
            refine lv_iconst (v := 1) hx hb dL_acts_364 (by decide) ?_
            refine lv_goto (tgt := 369) hx hb dL_acts_365 (by decide) ?_
            exact hQ _ _ _ _ _ _ _ _ _ _ _ _ _ dL_acts_369 rfl (by exact ⟨rfl, okS_up (okS_emp ho) (by omega), Or.inr rfl⟩) hW hS
        · have n_177 : (lowN x 30) < 23 := ej_tnle (a := 23) (b := (lowN x 30)) (by omega) (by omega) c_177
          refine lv_iload_n hx hb dL_acts_180 rfl (lv_at hl 3 rfl) ?_
          refine lv_iconst (v := 3) hx hb dL_acts_181 (by decide) ?_
          refine ej_L0 (rest := []) (As := [.int yv, .int 3]) S hK hN hA hD hW hS (c_L_low l D tys cI ht0 yv 3 (by omega) (by omega)) (va_cwS 2 hts gL_acts_L_low rfl rfl rfl hds_L_low ⟨Nat.le_of_ble_eq_true rfl, Nat.le_of_ble_eq_true rfl⟩) rfl rfl hl.1 (Nat.le_of_ble_eq_true rfl) dL_acts_182 ⟨Nat.zero_le _, Nat.zero_le _⟩ (fun H locs hW hS => ?_)
          show W p9 l e9 (eR 25 1500) s9 m9 a9 b9 t9 c9 H locs 0 0 Q (F0 m9 185 ls [.int (nI (lowN yv 3))])
          have lw_182 := lowN_lt yv (n := 3) (by omega)
          rcases (show lowN yv 3 = 0 ∨ lowN yv 3 = 1 ∨ lowN yv 3 = 2 by omega) with h3 | h3 | h3
          · refine ej_topi (show nI (lowN yv 3) = 0 from by rw [h3]; rfl) ?_
            refine lv_istore (lv' := [(4, .int 0), (3, .int (nI (lowN x 30))), (0, .ref (o 0)), (1, .int x), (2, .int yv)]) hx hb dL_acts_185 hl (by decide) rfl (fun ls hl => ?_)
            refine lv_iload_n hx hb dL_acts_187 rfl (lv_at hl 4 rfl) ?_
            refine lv_iconst (v := 2) hx hb dL_acts_188 (by decide) ?_
            refine lv_ishr hx hb dL_acts_189 ?_
            refine lv_bipush (v := 11) hx hb dL_acts_190 (by decide) ?_
            refine ej_L0 (rest := []) (As := [.int (yv >>> (2 &&& 31)), .int 11]) S hK hN hA hD hW hS (c_L_low l D tys cI ht0 (yv >>> (2 &&& 31)) 11 (by omega) (by omega)) (va_cwS 2 hts gL_acts_L_low rfl rfl rfl hds_L_low ⟨Nat.le_of_ble_eq_true rfl, Nat.le_of_ble_eq_true rfl⟩) rfl rfl hl.1 (Nat.le_of_ble_eq_true rfl) dL_acts_192 ⟨Nat.zero_le _, Nat.zero_le _⟩ (fun H locs hW hS => ?_)
            show W p9 l e9 (eR 25 1500) s9 m9 a9 b9 t9 c9 H locs 0 0 Q (F0 m9 195 ls [.int (nI (lowN (yv >>> (2 &&& 31)) 11))])
            have lw_192 := lowN_lt (yv >>> (2 &&& 31)) (n := 11) (by omega)
            refine lv_istore (lv' := [(5, .int (nI (lowN (yv >>> (2 &&& 31)) 11))), (4, .int 0), (3, .int (nI (lowN x 30))), (0, .ref (o 0)), (1, .int x), (2, .int yv)]) hx hb dL_acts_195 hl (by decide) rfl (fun ls hl => ?_)
            refine lv_iload hx hb dL_acts_197 (lv_at hl 1 rfl) ?_
            refine lv_iconst (v := 2) hx hb dL_acts_199 (by decide) ?_
            refine lv_icmp_eq (tgt := 232) hx hb dL_acts_200 (by decide) (fun h9 => absurd h9 (show ¬ (0 : Int32) = 2 from by decide)) (fun _ => ?_)
            refine lv_iload hx hb dL_acts_203 (lv_at hl 1 rfl) ?_
            refine lv_if_ne (tgt := 214) hx hb dL_acts_205 (by decide) (fun h9 => absurd (show (0 : Int32) = 0 from by decide) h9) (fun _ => ?_)
            refine lv_iload hx hb dL_acts_208 (lv_at hl 0 rfl) ?_
            refine lv_iconst (v := 2) hx hb dL_acts_210 (by decide) ?_
            refine lv_icmp_gt (tgt := 232) hx hb dL_acts_211 (by decide) (fun c_211 => ?_) (fun c_211 => ?_)
            · have n_211 : 2 < (lowN (yv >>> (2 &&& 31)) 11) := ej_tlt (a := 2) (b := (lowN (yv >>> (2 &&& 31)) 11)) (by omega) (by omega) c_211
              refine lv_iconst (v := 1) hx hb dL_acts_232 (by decide) ?_
              refine lv_goto (tgt := 237) hx hb dL_acts_233 (by decide) ?_
              refine lv_istore (lv' := [(6, .int 1), (5, .int (nI (lowN (yv >>> (2 &&& 31)) 11))), (4, .int 0), (3, .int (nI (lowN x 30))), (0, .ref (o 0)), (1, .int x), (2, .int yv)]) hx hb dL_acts_237 hl (by decide) rfl (fun ls hl => ?_)
              refine lv_iload hx hb dL_acts_239 (lv_at hl 2 rfl) ?_
              refine lv_iconst (v := 2) hx hb dL_acts_241 (by decide) ?_
              refine lv_icmp_ne (tgt := 249) hx hb dL_acts_242 (by decide) (fun _ => ?_) (fun h9 => absurd h9 (show ¬ (0 : Int32) = 2 from by decide))
              refine lv_aload_n hx hb dL_acts_249 rfl (lv_at hl 4 rfl) ?_
              refine lv_bipush (v := 15) hx hb dL_acts_250 (by decide) ?_
              refine lv_iload hx hb dL_acts_252 (lv_at hl 2 rfl) ?_
              refine lv_iadd hx hb dL_acts_254 ?_
              refine ej_topi (show (15 + 0 : Int32) = 15 by decide) ?_
              refine lr_count (rest := []) (w := 15) S hK hN ht0 ht1 hA hD hW hS htl  (cwV 1 hts gL_acts_X6_count rfl rfl rfl hdv_X6_count ⟨Nat.le_of_ble_eq_true rfl, Nat.le_of_ble_eq_true rfl⟩) rfl hl.1 (Nat.le_of_ble_eq_true rfl) dL_acts_255 ⟨Nat.zero_le _, Nat.zero_le _⟩ (fun H locs hW hS => ?_)
              show W p9 l e9 (eR 25 1500) s9 m9 a9 b9 t9 c9 H locs 0 0 Q (F0 m9 258 ls [.int (couA t u q hs.length 15)])
              have hW : SW D cI cT o aT aB aS g y z ad t u hs sn q f s0 s1 s2 H := hW
              refine ej_topi (show (couA t u q hs.length 15) = P_ti t from lkc_15 t u q hs.length) ?_
              refine lv_istore (lv' := [(7, .int (P_ti t)), (6, .int 1), (5, .int (nI (lowN (yv >>> (2 &&& 31)) 11))), (4, .int 0), (3, .int (nI (lowN x 30))), (0, .ref (o 0)), (1, .int x), (2, .int yv)]) hx hb dL_acts_258 hl (by decide) rfl (fun ls hl => ?_)
              refine lv_aload_n hx hb dL_acts_260 rfl (lv_at hl 5 rfl) ?_
              refine lv_iload hx hb dL_acts_261 (lv_at hl 3 rfl) ?_
              refine lv_iload hx hb dL_acts_263 (lv_at hl 2 rfl) ?_
              refine lr_set_no (rest := []) (v := 0) (w := nI (lowN (yv >>> (2 &&& 31)) 11)) S hK hN ht0 ht1 hA hD hW hS htl (fun z => ninP_2 (w := lowN (yv >>> (2 &&& 31)) 11) (by omega) (by omega) z.2) (fun z => absurd z.1 (by decide)) (cwV 2 hts gL_acts_X6_set rfl rfl rfl hdv_X6_set ⟨Nat.le_of_ble_eq_true rfl, Nat.le_of_ble_eq_true rfl⟩) rfl hl.1 (Nat.le_of_ble_eq_true rfl) dL_acts_265 ⟨Nat.zero_le _, Nat.zero_le _⟩ (fun H locs hW hS => ?_)
              show W p9 l e9 (eR 25 1500) s9 m9 a9 b9 t9 c9 H locs 0 0 Q (F0 m9 268 ls [.int (-1)])
              have hW : SW D cI cT o aT aB aS g y z ad t u hs sn q f s0 s1 s2 H := hW
              refine lv_iload hx hb dL_acts_268 (lv_at hl 1 rfl) ?_
              refine lv_if_eq (tgt := 277) hx hb dL_acts_270 (by decide) (fun h9 => absurd h9 (show ¬ (1 : Int32) = 0 from by decide)) (fun _ => ?_)
              refine lv_iconst (v := (-1)) hx hb dL_acts_273 (by decide) ?_
              refine lv_goto (tgt := 279) hx hb dL_acts_274 (by decide) ?_
              refine lv_icmp_ne (tgt := 316) hx hb dL_acts_279 (by decide) (fun h9 => absurd (show ((-1) : Int32) = (-1) from by decide) h9) (fun _ => ?_)
              refine lv_iload hx hb dL_acts_282 (lv_at hl 3 rfl) ?_
              refine lv_iconst (v := 2) hx hb dL_acts_284 (by decide) ?_
              refine lv_icmp_eq (tgt := 312) hx hb dL_acts_285 (by decide) (fun h9 => absurd h9 (show ¬ (0 : Int32) = 2 from by decide)) (fun _ => ?_)
              refine lv_aload_n hx hb dL_acts_288 rfl (lv_at hl 5 rfl) ?_
              refine lv_bipush (v := 15) hx hb dL_acts_289 (by decide) ?_
              refine lv_iload hx hb dL_acts_291 (lv_at hl 3 rfl) ?_
              refine lv_iadd hx hb dL_acts_293 ?_
              refine ej_topi (show (15 + 0 : Int32) = 15 by decide) ?_
              refine lr_count (rest := []) (w := 15) S hK hN ht0 ht1 hA hD hW hS htl  (cwV 1 hts gL_acts_X6_count rfl rfl rfl hdv_X6_count ⟨Nat.le_of_ble_eq_true rfl, Nat.le_of_ble_eq_true rfl⟩) rfl hl.1 (Nat.le_of_ble_eq_true rfl) dL_acts_294 ⟨Nat.zero_le _, Nat.zero_le _⟩ (fun H locs hW hS => ?_)
              show W p9 l e9 (eR 25 1500) s9 m9 a9 b9 t9 c9 H locs 0 0 Q (F0 m9 297 ls [.int (couA t u q hs.length 15)])
              have hW : SW D cI cT o aT aB aS g y z ad t u hs sn q f s0 s1 s2 H := hW
              refine ej_topi (show (couA t u q hs.length 15) = P_ti t from lkc_15 t u q hs.length) ?_
              refine lv_iload hx hb dL_acts_297 (lv_at hl 1 rfl) ?_
              refine lv_if_eq (tgt := 307) hx hb dL_acts_299 (by decide) (fun h9 => absurd h9 (show ¬ (1 : Int32) = 0 from by decide)) (fun _ => ?_)
              refine lv_iload hx hb dL_acts_302 (lv_at hl 0 rfl) ?_
              refine lv_goto (tgt := 309) hx hb dL_acts_304 (by decide) ?_
              refine lv_icmp_ne (tgt := 316) hx hb dL_acts_309 (by decide) (fun h9 => absurd (rfl) h9) (fun _ => ?_)
              refine lv_iconst (v := 1) hx hb dL_acts_312 (by decide) ?_
              refine lv_goto (tgt := 317) hx hb dL_acts_313 (by decide) ?_
              exact hQ _ _ _ _ _ _ _ _ _ _ _ _ _ dL_acts_317 rfl (by exact ⟨rfl, okS_up ho (by omega), Or.inl ⟨rfl, rfl, rfl⟩⟩) hW hS
            · have n_211 : (lowN (yv >>> (2 &&& 31)) 11) ≤ 2 := ej_tnlt (a := 2) (b := (lowN (yv >>> (2 &&& 31)) 11)) (by omega) (by omega) c_211
              refine lv_iload hx hb dL_acts_214 (lv_at hl 1 rfl) ?_
              refine lv_iconst (v := 1) hx hb dL_acts_216 (by decide) ?_
              refine lv_icmp_ne (tgt := 236) hx hb dL_acts_217 (by decide) (fun _ => ?_) (fun h9 => absurd h9 (show ¬ (0 : Int32) = 1 from by decide))
              refine lv_iconst (v := 0) hx hb dL_acts_236 (by decide) ?_
              refine lv_istore (lv' := [(6, .int 0), (5, .int (nI (lowN (yv >>> (2 &&& 31)) 11))), (4, .int 0), (3, .int (nI (lowN x 30))), (0, .ref (o 0)), (1, .int x), (2, .int yv)]) hx hb dL_acts_237 hl (by decide) rfl (fun ls hl => ?_)
              refine lv_iload hx hb dL_acts_239 (lv_at hl 2 rfl) ?_
              refine lv_iconst (v := 2) hx hb dL_acts_241 (by decide) ?_
              refine lv_icmp_ne (tgt := 249) hx hb dL_acts_242 (by decide) (fun _ => ?_) (fun h9 => absurd h9 (show ¬ (0 : Int32) = 2 from by decide))
              refine lv_aload_n hx hb dL_acts_249 rfl (lv_at hl 4 rfl) ?_
              refine lv_bipush (v := 15) hx hb dL_acts_250 (by decide) ?_
              refine lv_iload hx hb dL_acts_252 (lv_at hl 2 rfl) ?_
              refine lv_iadd hx hb dL_acts_254 ?_
              refine ej_topi (show (15 + 0 : Int32) = 15 by decide) ?_
              refine lr_count (rest := []) (w := 15) S hK hN ht0 ht1 hA hD hW hS htl  (cwV 1 hts gL_acts_X6_count rfl rfl rfl hdv_X6_count ⟨Nat.le_of_ble_eq_true rfl, Nat.le_of_ble_eq_true rfl⟩) rfl hl.1 (Nat.le_of_ble_eq_true rfl) dL_acts_255 ⟨Nat.zero_le _, Nat.zero_le _⟩ (fun H locs hW hS => ?_)
              show W p9 l e9 (eR 25 1500) s9 m9 a9 b9 t9 c9 H locs 0 0 Q (F0 m9 258 ls [.int (couA t u q hs.length 15)])
              have hW : SW D cI cT o aT aB aS g y z ad t u hs sn q f s0 s1 s2 H := hW
              refine ej_topi (show (couA t u q hs.length 15) = P_ti t from lkc_15 t u q hs.length) ?_
              refine lv_istore (lv' := [(7, .int (P_ti t)), (6, .int 0), (5, .int (nI (lowN (yv >>> (2 &&& 31)) 11))), (4, .int 0), (3, .int (nI (lowN x 30))), (0, .ref (o 0)), (1, .int x), (2, .int yv)]) hx hb dL_acts_258 hl (by decide) rfl (fun ls hl => ?_)
              refine lv_aload_n hx hb dL_acts_260 rfl (lv_at hl 5 rfl) ?_
              refine lv_iload hx hb dL_acts_261 (lv_at hl 3 rfl) ?_
              refine lv_iload hx hb dL_acts_263 (lv_at hl 2 rfl) ?_
              refine lr_set0 (rest := []) (w := nI (lowN (yv >>> (2 &&& 31)) 11)) S hK hN ht0 ht1 hA hD hW hS htl (inP_2 (by omega)) (cwV 2 hts gL_acts_X6_set rfl rfl rfl hdv_X6_set ⟨Nat.le_of_ble_eq_true rfl, Nat.le_of_ble_eq_true rfl⟩) rfl hl.1 (Nat.le_of_ble_eq_true rfl) dL_acts_265 ⟨Nat.zero_le _, Nat.zero_le _⟩ (fun H locs hW hS => ?_)
              show W p9 l e9 (eR 25 1500) s9 m9 a9 b9 t9 c9 H locs 0 0 Q (F0 m9 268 ls [.int (P_ti t)])
              have hW : SW D cI cT o aT aB aS g y z ad (tiT t (nI (lowN (yv >>> (2 &&& 31)) 11))) u (recL hs (t, u)) sn q f s0 s1 s2 H := hW
              have htl2 : tilOK (tiT t (nI (lowN (yv >>> (2 &&& 31)) 11))) := (okT_ti ho.1 (inP_2 (by omega))).1
              refine lv_iload hx hb dL_acts_268 (lv_at hl 1 rfl) ?_
              refine lv_if_eq (tgt := 277) hx hb dL_acts_270 (by decide) (fun _ => ?_) (fun h9 => absurd (show (0 : Int32) = 0 from by decide) h9)
              refine lv_iload hx hb dL_acts_277 (lv_at hl 0 rfl) ?_
              refine lv_icmp_ne (tgt := 316) hx hb dL_acts_279 (by decide) (fun h9 => absurd (rfl) h9) (fun _ => ?_)
              refine lv_iload hx hb dL_acts_282 (lv_at hl 3 rfl) ?_
              refine lv_iconst (v := 2) hx hb dL_acts_284 (by decide) ?_
              refine lv_icmp_eq (tgt := 312) hx hb dL_acts_285 (by decide) (fun h9 => absurd h9 (show ¬ (0 : Int32) = 2 from by decide)) (fun _ => ?_)
              refine lv_aload_n hx hb dL_acts_288 rfl (lv_at hl 5 rfl) ?_
              refine lv_bipush (v := 15) hx hb dL_acts_289 (by decide) ?_
              refine lv_iload hx hb dL_acts_291 (lv_at hl 3 rfl) ?_
              refine lv_iadd hx hb dL_acts_293 ?_
              refine ej_topi (show (15 + 0 : Int32) = 15 by decide) ?_
              refine lr_count (rest := []) (w := 15) S hK hN ht0 ht1 hA hD hW hS htl2  (cwV 1 hts gL_acts_X6_count rfl rfl rfl hdv_X6_count ⟨Nat.le_of_ble_eq_true rfl, Nat.le_of_ble_eq_true rfl⟩) rfl hl.1 (Nat.le_of_ble_eq_true rfl) dL_acts_294 ⟨Nat.zero_le _, Nat.zero_le _⟩ (fun H locs hW hS => ?_)
              show W p9 l e9 (eR 25 1500) s9 m9 a9 b9 t9 c9 H locs 0 0 Q (F0 m9 297 ls [.int (couA (tiT t (nI (lowN (yv >>> (2 &&& 31)) 11))) u q (recL hs (t, u)).length 15)])
              have hW : SW D cI cT o aT aB aS g y z ad (tiT t (nI (lowN (yv >>> (2 &&& 31)) 11))) u (recL hs (t, u)) sn q f s0 s1 s2 H := hW
              refine ej_topi (show (couA (tiT t (nI (lowN (yv >>> (2 &&& 31)) 11))) u q (recL hs (t, u)).length 15) = P_ti (tiT t (nI (lowN (yv >>> (2 &&& 31)) 11))) from lkc_15 (tiT t (nI (lowN (yv >>> (2 &&& 31)) 11))) u q ((recL hs (t, u)).length)) ?_
              refine ej_topi (show (P_ti (tiT t (nI (lowN (yv >>> (2 &&& 31)) 11)))) = nI (lowN (yv >>> (2 &&& 31)) 11) from rfl) ?_
              refine lv_iload hx hb dL_acts_297 (lv_at hl 1 rfl) ?_
              refine lv_if_eq (tgt := 307) hx hb dL_acts_299 (by decide) (fun _ => ?_) (fun h9 => absurd (show (0 : Int32) = 0 from by decide) h9)
              refine lv_iload hx hb dL_acts_307 (lv_at hl 2 rfl) ?_
              refine lv_icmp_ne (tgt := 316) hx hb dL_acts_309 (by decide) (fun h9 => absurd (rfl) h9) (fun _ => ?_)
              refine lv_iconst (v := 1) hx hb dL_acts_312 (by decide) ?_
              refine lv_goto (tgt := 317) hx hb dL_acts_313 (by decide) ?_
              exact hQ _ _ _ _ _ _ _ _ _ _ _ _ _ dL_acts_317 rfl (by exact ⟨rfl, okS_up (okS_ti (inP_2 (by omega)) ho) (by omega), Or.inr rfl⟩) hW hS
          · refine ej_topi (show nI (lowN yv 3) = 1 from by rw [h3]; rfl) ?_
            refine lv_istore (lv' := [(4, .int 1), (3, .int (nI (lowN x 30))), (0, .ref (o 0)), (1, .int x), (2, .int yv)]) hx hb dL_acts_185 hl (by decide) rfl (fun ls hl => ?_)
            refine lv_iload_n hx hb dL_acts_187 rfl (lv_at hl 4 rfl) ?_
            refine lv_iconst (v := 2) hx hb dL_acts_188 (by decide) ?_
            refine lv_ishr hx hb dL_acts_189 ?_
            refine lv_bipush (v := 11) hx hb dL_acts_190 (by decide) ?_
            refine ej_L0 (rest := []) (As := [.int (yv >>> (2 &&& 31)), .int 11]) S hK hN hA hD hW hS (c_L_low l D tys cI ht0 (yv >>> (2 &&& 31)) 11 (by omega) (by omega)) (va_cwS 2 hts gL_acts_L_low rfl rfl rfl hds_L_low ⟨Nat.le_of_ble_eq_true rfl, Nat.le_of_ble_eq_true rfl⟩) rfl rfl hl.1 (Nat.le_of_ble_eq_true rfl) dL_acts_192 ⟨Nat.zero_le _, Nat.zero_le _⟩ (fun H locs hW hS => ?_)
            show W p9 l e9 (eR 25 1500) s9 m9 a9 b9 t9 c9 H locs 0 0 Q (F0 m9 195 ls [.int (nI (lowN (yv >>> (2 &&& 31)) 11))])
            have lw_192 := lowN_lt (yv >>> (2 &&& 31)) (n := 11) (by omega)
            refine lv_istore (lv' := [(5, .int (nI (lowN (yv >>> (2 &&& 31)) 11))), (4, .int 1), (3, .int (nI (lowN x 30))), (0, .ref (o 0)), (1, .int x), (2, .int yv)]) hx hb dL_acts_195 hl (by decide) rfl (fun ls hl => ?_)
            refine lv_iload hx hb dL_acts_197 (lv_at hl 1 rfl) ?_
            refine lv_iconst (v := 2) hx hb dL_acts_199 (by decide) ?_
            refine lv_icmp_eq (tgt := 232) hx hb dL_acts_200 (by decide) (fun h9 => absurd h9 (show ¬ (1 : Int32) = 2 from by decide)) (fun _ => ?_)
            refine lv_iload hx hb dL_acts_203 (lv_at hl 1 rfl) ?_
            refine lv_if_ne (tgt := 214) hx hb dL_acts_205 (by decide) (fun _ => ?_) (fun h9 => absurd h9 (show ¬ (1 : Int32) = 0 from by decide))
            refine lv_iload hx hb dL_acts_214 (lv_at hl 1 rfl) ?_
            refine lv_iconst (v := 1) hx hb dL_acts_216 (by decide) ?_
            refine lv_icmp_ne (tgt := 236) hx hb dL_acts_217 (by decide) (fun h9 => absurd (show (1 : Int32) = 1 from by decide) h9) (fun _ => ?_)
            refine lv_iload hx hb dL_acts_220 (lv_at hl 0 rfl) ?_
            refine lv_if_eq (tgt := 232) hx hb dL_acts_222 (by decide) (fun c_222 => ?_) (fun c_222 => ?_)
            · have n_222 : (lowN (yv >>> (2 &&& 31)) 11) = 0 := ej_teq (a := (lowN (yv >>> (2 &&& 31)) 11)) (b := 0) (by omega) (by omega) c_222
              refine lv_iconst (v := 1) hx hb dL_acts_232 (by decide) ?_
              refine lv_goto (tgt := 237) hx hb dL_acts_233 (by decide) ?_
              refine lv_istore (lv' := [(6, .int 1), (5, .int (nI (lowN (yv >>> (2 &&& 31)) 11))), (4, .int 1), (3, .int (nI (lowN x 30))), (0, .ref (o 0)), (1, .int x), (2, .int yv)]) hx hb dL_acts_237 hl (by decide) rfl (fun ls hl => ?_)
              refine lv_iload hx hb dL_acts_239 (lv_at hl 2 rfl) ?_
              refine lv_iconst (v := 2) hx hb dL_acts_241 (by decide) ?_
              refine lv_icmp_ne (tgt := 249) hx hb dL_acts_242 (by decide) (fun _ => ?_) (fun h9 => absurd h9 (show ¬ (1 : Int32) = 2 from by decide))
              refine lv_aload_n hx hb dL_acts_249 rfl (lv_at hl 4 rfl) ?_
              refine lv_bipush (v := 15) hx hb dL_acts_250 (by decide) ?_
              refine lv_iload hx hb dL_acts_252 (lv_at hl 2 rfl) ?_
              refine lv_iadd hx hb dL_acts_254 ?_
              refine ej_topi (show (15 + 1 : Int32) = 16 by decide) ?_
              refine lr_count (rest := []) (w := 16) S hK hN ht0 ht1 hA hD hW hS htl  (cwV 1 hts gL_acts_X6_count rfl rfl rfl hdv_X6_count ⟨Nat.le_of_ble_eq_true rfl, Nat.le_of_ble_eq_true rfl⟩) rfl hl.1 (Nat.le_of_ble_eq_true rfl) dL_acts_255 ⟨Nat.zero_le _, Nat.zero_le _⟩ (fun H locs hW hS => ?_)
              show W p9 l e9 (eR 25 1500) s9 m9 a9 b9 t9 c9 H locs 0 0 Q (F0 m9 258 ls [.int (couA t u q hs.length 16)])
              have hW : SW D cI cT o aT aB aS g y z ad t u hs sn q f s0 s1 s2 H := hW
              refine ej_topi (show (couA t u q hs.length 16) = T_fu u from lkc_16 t u q hs.length) ?_
              refine lv_istore (lv' := [(7, .int (T_fu u)), (6, .int 1), (5, .int (nI (lowN (yv >>> (2 &&& 31)) 11))), (4, .int 1), (3, .int (nI (lowN x 30))), (0, .ref (o 0)), (1, .int x), (2, .int yv)]) hx hb dL_acts_258 hl (by decide) rfl (fun ls hl => ?_)
              refine lv_aload_n hx hb dL_acts_260 rfl (lv_at hl 5 rfl) ?_
              refine lv_iload hx hb dL_acts_261 (lv_at hl 3 rfl) ?_
              refine lv_iload hx hb dL_acts_263 (lv_at hl 2 rfl) ?_
              refine lr_set_no (rest := []) (v := 1) (w := nI (lowN (yv >>> (2 &&& 31)) 11)) S hK hN ht0 ht1 hA hD hW hS htl (fun z => absurd z.1 (by decide)) (fun z => bad_fu (w := lowN (yv >>> (2 &&& 31)) 11) (by omega) z.2) (cwV 2 hts gL_acts_X6_set rfl rfl rfl hdv_X6_set ⟨Nat.le_of_ble_eq_true rfl, Nat.le_of_ble_eq_true rfl⟩) rfl hl.1 (Nat.le_of_ble_eq_true rfl) dL_acts_265 ⟨Nat.zero_le _, Nat.zero_le _⟩ (fun H locs hW hS => ?_)
              show W p9 l e9 (eR 25 1500) s9 m9 a9 b9 t9 c9 H locs 0 0 Q (F0 m9 268 ls [.int (-1)])
              have hW : SW D cI cT o aT aB aS g y z ad t u hs sn q f s0 s1 s2 H := hW
              refine lv_iload hx hb dL_acts_268 (lv_at hl 1 rfl) ?_
              refine lv_if_eq (tgt := 277) hx hb dL_acts_270 (by decide) (fun h9 => absurd h9 (show ¬ (1 : Int32) = 0 from by decide)) (fun _ => ?_)
              refine lv_iconst (v := (-1)) hx hb dL_acts_273 (by decide) ?_
              refine lv_goto (tgt := 279) hx hb dL_acts_274 (by decide) ?_
              refine lv_icmp_ne (tgt := 316) hx hb dL_acts_279 (by decide) (fun h9 => absurd (show ((-1) : Int32) = (-1) from by decide) h9) (fun _ => ?_)
              refine lv_iload hx hb dL_acts_282 (lv_at hl 3 rfl) ?_
              refine lv_iconst (v := 2) hx hb dL_acts_284 (by decide) ?_
              refine lv_icmp_eq (tgt := 312) hx hb dL_acts_285 (by decide) (fun h9 => absurd h9 (show ¬ (1 : Int32) = 2 from by decide)) (fun _ => ?_)
              refine lv_aload_n hx hb dL_acts_288 rfl (lv_at hl 5 rfl) ?_
              refine lv_bipush (v := 15) hx hb dL_acts_289 (by decide) ?_
              refine lv_iload hx hb dL_acts_291 (lv_at hl 3 rfl) ?_
              refine lv_iadd hx hb dL_acts_293 ?_
              refine ej_topi (show (15 + 1 : Int32) = 16 by decide) ?_
              refine lr_count (rest := []) (w := 16) S hK hN ht0 ht1 hA hD hW hS htl  (cwV 1 hts gL_acts_X6_count rfl rfl rfl hdv_X6_count ⟨Nat.le_of_ble_eq_true rfl, Nat.le_of_ble_eq_true rfl⟩) rfl hl.1 (Nat.le_of_ble_eq_true rfl) dL_acts_294 ⟨Nat.zero_le _, Nat.zero_le _⟩ (fun H locs hW hS => ?_)
              show W p9 l e9 (eR 25 1500) s9 m9 a9 b9 t9 c9 H locs 0 0 Q (F0 m9 297 ls [.int (couA t u q hs.length 16)])
              have hW : SW D cI cT o aT aB aS g y z ad t u hs sn q f s0 s1 s2 H := hW
              refine ej_topi (show (couA t u q hs.length 16) = T_fu u from lkc_16 t u q hs.length) ?_
              refine lv_iload hx hb dL_acts_297 (lv_at hl 1 rfl) ?_
              refine lv_if_eq (tgt := 307) hx hb dL_acts_299 (by decide) (fun h9 => absurd h9 (show ¬ (1 : Int32) = 0 from by decide)) (fun _ => ?_)
              refine lv_iload hx hb dL_acts_302 (lv_at hl 0 rfl) ?_
              refine lv_goto (tgt := 309) hx hb dL_acts_304 (by decide) ?_
              refine lv_icmp_ne (tgt := 316) hx hb dL_acts_309 (by decide) (fun h9 => absurd (rfl) h9) (fun _ => ?_)
              refine lv_iconst (v := 1) hx hb dL_acts_312 (by decide) ?_
              refine lv_goto (tgt := 317) hx hb dL_acts_313 (by decide) ?_
              exact hQ _ _ _ _ _ _ _ _ _ _ _ _ _ dL_acts_317 rfl (by exact ⟨rfl, okS_up ho (by omega), Or.inl ⟨rfl, rfl, rfl⟩⟩) hW hS
            · have n_222 : (lowN (yv >>> (2 &&& 31)) 11) ≠ 0 := ej_tne (a := (lowN (yv >>> (2 &&& 31)) 11)) (b := 0) (by omega) (by omega) c_222
              refine lv_iload hx hb dL_acts_225 (lv_at hl 0 rfl) ?_
              refine lv_bipush (v := 10) hx hb dL_acts_227 (by decide) ?_
              refine lv_icmp_ne (tgt := 236) hx hb dL_acts_229 (by decide) (fun c_229 => ?_) (fun c_229 => ?_)
              · have n_229 : (lowN (yv >>> (2 &&& 31)) 11) ≠ 10 := ej_tne (a := (lowN (yv >>> (2 &&& 31)) 11)) (b := 10) (by omega) (by omega) c_229
                refine lv_iconst (v := 0) hx hb dL_acts_236 (by decide) ?_
                refine lv_istore (lv' := [(6, .int 0), (5, .int (nI (lowN (yv >>> (2 &&& 31)) 11))), (4, .int 1), (3, .int (nI (lowN x 30))), (0, .ref (o 0)), (1, .int x), (2, .int yv)]) hx hb dL_acts_237 hl (by decide) rfl (fun ls hl => ?_)
                refine lv_iload hx hb dL_acts_239 (lv_at hl 2 rfl) ?_
                refine lv_iconst (v := 2) hx hb dL_acts_241 (by decide) ?_
                refine lv_icmp_ne (tgt := 249) hx hb dL_acts_242 (by decide) (fun _ => ?_) (fun h9 => absurd h9 (show ¬ (1 : Int32) = 2 from by decide))
                refine lv_aload_n hx hb dL_acts_249 rfl (lv_at hl 4 rfl) ?_
                refine lv_bipush (v := 15) hx hb dL_acts_250 (by decide) ?_
                refine lv_iload hx hb dL_acts_252 (lv_at hl 2 rfl) ?_
                refine lv_iadd hx hb dL_acts_254 ?_
                refine ej_topi (show (15 + 1 : Int32) = 16 by decide) ?_
                refine lr_count (rest := []) (w := 16) S hK hN ht0 ht1 hA hD hW hS htl  (cwV 1 hts gL_acts_X6_count rfl rfl rfl hdv_X6_count ⟨Nat.le_of_ble_eq_true rfl, Nat.le_of_ble_eq_true rfl⟩) rfl hl.1 (Nat.le_of_ble_eq_true rfl) dL_acts_255 ⟨Nat.zero_le _, Nat.zero_le _⟩ (fun H locs hW hS => ?_)
                show W p9 l e9 (eR 25 1500) s9 m9 a9 b9 t9 c9 H locs 0 0 Q (F0 m9 258 ls [.int (couA t u q hs.length 16)])
                have hW : SW D cI cT o aT aB aS g y z ad t u hs sn q f s0 s1 s2 H := hW
                refine ej_topi (show (couA t u q hs.length 16) = T_fu u from lkc_16 t u q hs.length) ?_
                refine lv_istore (lv' := [(7, .int (T_fu u)), (6, .int 0), (5, .int (nI (lowN (yv >>> (2 &&& 31)) 11))), (4, .int 1), (3, .int (nI (lowN x 30))), (0, .ref (o 0)), (1, .int x), (2, .int yv)]) hx hb dL_acts_258 hl (by decide) rfl (fun ls hl => ?_)
                refine lv_aload_n hx hb dL_acts_260 rfl (lv_at hl 5 rfl) ?_
                refine lv_iload hx hb dL_acts_261 (lv_at hl 3 rfl) ?_
                refine lv_iload hx hb dL_acts_263 (lv_at hl 2 rfl) ?_
                refine lr_set1 (rest := []) (w := nI (lowN (yv >>> (2 &&& 31)) 11)) S hK hN ht0 ht1 hA hD hW hS htl (fu_19 (by omega) (by omega)) (cwV 2 hts gL_acts_X6_set rfl rfl rfl hdv_X6_set ⟨Nat.le_of_ble_eq_true rfl, Nat.le_of_ble_eq_true rfl⟩) rfl hl.1 (Nat.le_of_ble_eq_true rfl) dL_acts_265 ⟨Nat.zero_le _, Nat.zero_le _⟩ (fun H locs hW hS => ?_)
                show W p9 l e9 (eR 25 1500) s9 m9 a9 b9 t9 c9 H locs 0 0 Q (F0 m9 268 ls [.int (T_fu u)])
                have hW : SW D cI cT o aT aB aS g y z ad t (fuU u (nI (lowN (yv >>> (2 &&& 31)) 11))) (recL hs (t, u)) sn q f s0 s1 s2 H := hW
                refine lv_iload hx hb dL_acts_268 (lv_at hl 1 rfl) ?_
                refine lv_if_eq (tgt := 277) hx hb dL_acts_270 (by decide) (fun _ => ?_) (fun h9 => absurd (show (0 : Int32) = 0 from by decide) h9)
                refine lv_iload hx hb dL_acts_277 (lv_at hl 0 rfl) ?_
                refine lv_icmp_ne (tgt := 316) hx hb dL_acts_279 (by decide) (fun h9 => absurd (rfl) h9) (fun _ => ?_)
                refine lv_iload hx hb dL_acts_282 (lv_at hl 3 rfl) ?_
                refine lv_iconst (v := 2) hx hb dL_acts_284 (by decide) ?_
                refine lv_icmp_eq (tgt := 312) hx hb dL_acts_285 (by decide) (fun h9 => absurd h9 (show ¬ (1 : Int32) = 2 from by decide)) (fun _ => ?_)
                refine lv_aload_n hx hb dL_acts_288 rfl (lv_at hl 5 rfl) ?_
                refine lv_bipush (v := 15) hx hb dL_acts_289 (by decide) ?_
                refine lv_iload hx hb dL_acts_291 (lv_at hl 3 rfl) ?_
                refine lv_iadd hx hb dL_acts_293 ?_
                refine ej_topi (show (15 + 1 : Int32) = 16 by decide) ?_
                refine lr_count (rest := []) (w := 16) S hK hN ht0 ht1 hA hD hW hS htl  (cwV 1 hts gL_acts_X6_count rfl rfl rfl hdv_X6_count ⟨Nat.le_of_ble_eq_true rfl, Nat.le_of_ble_eq_true rfl⟩) rfl hl.1 (Nat.le_of_ble_eq_true rfl) dL_acts_294 ⟨Nat.zero_le _, Nat.zero_le _⟩ (fun H locs hW hS => ?_)
                show W p9 l e9 (eR 25 1500) s9 m9 a9 b9 t9 c9 H locs 0 0 Q (F0 m9 297 ls [.int (couA t (fuU u (nI (lowN (yv >>> (2 &&& 31)) 11))) q (recL hs (t, u)).length 16)])
                have hW : SW D cI cT o aT aB aS g y z ad t (fuU u (nI (lowN (yv >>> (2 &&& 31)) 11))) (recL hs (t, u)) sn q f s0 s1 s2 H := hW
                refine ej_topi (show (couA t (fuU u (nI (lowN (yv >>> (2 &&& 31)) 11))) q (recL hs (t, u)).length 16) = T_fu (fuU u (nI (lowN (yv >>> (2 &&& 31)) 11))) from lkc_16 t (fuU u (nI (lowN (yv >>> (2 &&& 31)) 11))) q ((recL hs (t, u)).length)) ?_
                refine ej_topi (show (T_fu (fuU u (nI (lowN (yv >>> (2 &&& 31)) 11)))) = nI (lowN (yv >>> (2 &&& 31)) 11) from rfl) ?_
                refine lv_iload hx hb dL_acts_297 (lv_at hl 1 rfl) ?_
                refine lv_if_eq (tgt := 307) hx hb dL_acts_299 (by decide) (fun _ => ?_) (fun h9 => absurd (show (0 : Int32) = 0 from by decide) h9)
                refine lv_iload hx hb dL_acts_307 (lv_at hl 2 rfl) ?_
                refine lv_icmp_ne (tgt := 316) hx hb dL_acts_309 (by decide) (fun h9 => absurd (rfl) h9) (fun _ => ?_)
                refine lv_iconst (v := 1) hx hb dL_acts_312 (by decide) ?_
                refine lv_goto (tgt := 317) hx hb dL_acts_313 (by decide) ?_
                exact hQ _ _ _ _ _ _ _ _ _ _ _ _ _ dL_acts_317 rfl (by exact ⟨rfl, okS_up (okS_fu (w := 0) (by omega) (by omega) ho) (by omega), Or.inr rfl⟩) hW hS
              · have n_229 : (lowN (yv >>> (2 &&& 31)) 11) = 10 := ej_teq (a := (lowN (yv >>> (2 &&& 31)) 11)) (b := 10) (by omega) (by omega) c_229
                refine lv_iconst (v := 1) hx hb dL_acts_232 (by decide) ?_
                refine lv_goto (tgt := 237) hx hb dL_acts_233 (by decide) ?_
                refine lv_istore (lv' := [(6, .int 1), (5, .int (nI (lowN (yv >>> (2 &&& 31)) 11))), (4, .int 1), (3, .int (nI (lowN x 30))), (0, .ref (o 0)), (1, .int x), (2, .int yv)]) hx hb dL_acts_237 hl (by decide) rfl (fun ls hl => ?_)
                refine lv_iload hx hb dL_acts_239 (lv_at hl 2 rfl) ?_
                refine lv_iconst (v := 2) hx hb dL_acts_241 (by decide) ?_
                refine lv_icmp_ne (tgt := 249) hx hb dL_acts_242 (by decide) (fun _ => ?_) (fun h9 => absurd h9 (show ¬ (1 : Int32) = 2 from by decide))
                refine lv_aload_n hx hb dL_acts_249 rfl (lv_at hl 4 rfl) ?_
                refine lv_bipush (v := 15) hx hb dL_acts_250 (by decide) ?_
                refine lv_iload hx hb dL_acts_252 (lv_at hl 2 rfl) ?_
                refine lv_iadd hx hb dL_acts_254 ?_
                refine ej_topi (show (15 + 1 : Int32) = 16 by decide) ?_
                refine lr_count (rest := []) (w := 16) S hK hN ht0 ht1 hA hD hW hS htl  (cwV 1 hts gL_acts_X6_count rfl rfl rfl hdv_X6_count ⟨Nat.le_of_ble_eq_true rfl, Nat.le_of_ble_eq_true rfl⟩) rfl hl.1 (Nat.le_of_ble_eq_true rfl) dL_acts_255 ⟨Nat.zero_le _, Nat.zero_le _⟩ (fun H locs hW hS => ?_)
                show W p9 l e9 (eR 25 1500) s9 m9 a9 b9 t9 c9 H locs 0 0 Q (F0 m9 258 ls [.int (couA t u q hs.length 16)])
                have hW : SW D cI cT o aT aB aS g y z ad t u hs sn q f s0 s1 s2 H := hW
                refine ej_topi (show (couA t u q hs.length 16) = T_fu u from lkc_16 t u q hs.length) ?_
                refine lv_istore (lv' := [(7, .int (T_fu u)), (6, .int 1), (5, .int (nI (lowN (yv >>> (2 &&& 31)) 11))), (4, .int 1), (3, .int (nI (lowN x 30))), (0, .ref (o 0)), (1, .int x), (2, .int yv)]) hx hb dL_acts_258 hl (by decide) rfl (fun ls hl => ?_)
                refine lv_aload_n hx hb dL_acts_260 rfl (lv_at hl 5 rfl) ?_
                refine lv_iload hx hb dL_acts_261 (lv_at hl 3 rfl) ?_
                refine lv_iload hx hb dL_acts_263 (lv_at hl 2 rfl) ?_
                refine lr_set_no (rest := []) (v := 1) (w := nI (lowN (yv >>> (2 &&& 31)) 11)) S hK hN ht0 ht1 hA hD hW hS htl (fun z => absurd z.1 (by decide)) (fun z => bad_fu (w := lowN (yv >>> (2 &&& 31)) 11) (by omega) z.2) (cwV 2 hts gL_acts_X6_set rfl rfl rfl hdv_X6_set ⟨Nat.le_of_ble_eq_true rfl, Nat.le_of_ble_eq_true rfl⟩) rfl hl.1 (Nat.le_of_ble_eq_true rfl) dL_acts_265 ⟨Nat.zero_le _, Nat.zero_le _⟩ (fun H locs hW hS => ?_)
                show W p9 l e9 (eR 25 1500) s9 m9 a9 b9 t9 c9 H locs 0 0 Q (F0 m9 268 ls [.int (-1)])
                have hW : SW D cI cT o aT aB aS g y z ad t u hs sn q f s0 s1 s2 H := hW
                refine lv_iload hx hb dL_acts_268 (lv_at hl 1 rfl) ?_
                refine lv_if_eq (tgt := 277) hx hb dL_acts_270 (by decide) (fun h9 => absurd h9 (show ¬ (1 : Int32) = 0 from by decide)) (fun _ => ?_)
                refine lv_iconst (v := (-1)) hx hb dL_acts_273 (by decide) ?_
                refine lv_goto (tgt := 279) hx hb dL_acts_274 (by decide) ?_
                refine lv_icmp_ne (tgt := 316) hx hb dL_acts_279 (by decide) (fun h9 => absurd (show ((-1) : Int32) = (-1) from by decide) h9) (fun _ => ?_)
                refine lv_iload hx hb dL_acts_282 (lv_at hl 3 rfl) ?_
                refine lv_iconst (v := 2) hx hb dL_acts_284 (by decide) ?_
                refine lv_icmp_eq (tgt := 312) hx hb dL_acts_285 (by decide) (fun h9 => absurd h9 (show ¬ (1 : Int32) = 2 from by decide)) (fun _ => ?_)
                refine lv_aload_n hx hb dL_acts_288 rfl (lv_at hl 5 rfl) ?_
                refine lv_bipush (v := 15) hx hb dL_acts_289 (by decide) ?_
                refine lv_iload hx hb dL_acts_291 (lv_at hl 3 rfl) ?_
                refine lv_iadd hx hb dL_acts_293 ?_
                refine ej_topi (show (15 + 1 : Int32) = 16 by decide) ?_
                refine lr_count (rest := []) (w := 16) S hK hN ht0 ht1 hA hD hW hS htl  (cwV 1 hts gL_acts_X6_count rfl rfl rfl hdv_X6_count ⟨Nat.le_of_ble_eq_true rfl, Nat.le_of_ble_eq_true rfl⟩) rfl hl.1 (Nat.le_of_ble_eq_true rfl) dL_acts_294 ⟨Nat.zero_le _, Nat.zero_le _⟩ (fun H locs hW hS => ?_)
                show W p9 l e9 (eR 25 1500) s9 m9 a9 b9 t9 c9 H locs 0 0 Q (F0 m9 297 ls [.int (couA t u q hs.length 16)])
                have hW : SW D cI cT o aT aB aS g y z ad t u hs sn q f s0 s1 s2 H := hW
                refine ej_topi (show (couA t u q hs.length 16) = T_fu u from lkc_16 t u q hs.length) ?_
                refine lv_iload hx hb dL_acts_297 (lv_at hl 1 rfl) ?_
                refine lv_if_eq (tgt := 307) hx hb dL_acts_299 (by decide) (fun h9 => absurd h9 (show ¬ (1 : Int32) = 0 from by decide)) (fun _ => ?_)
                refine lv_iload hx hb dL_acts_302 (lv_at hl 0 rfl) ?_
                refine lv_goto (tgt := 309) hx hb dL_acts_304 (by decide) ?_
                refine lv_icmp_ne (tgt := 316) hx hb dL_acts_309 (by decide) (fun h9 => absurd (rfl) h9) (fun _ => ?_)
                refine lv_iconst (v := 1) hx hb dL_acts_312 (by decide) ?_
                refine lv_goto (tgt := 317) hx hb dL_acts_313 (by decide) ?_
                exact hQ _ _ _ _ _ _ _ _ _ _ _ _ _ dL_acts_317 rfl (by exact ⟨rfl, okS_up ho (by omega), Or.inl ⟨rfl, rfl, rfl⟩⟩) hW hS
          · refine ej_topi (show nI (lowN yv 3) = 2 from by rw [h3]; rfl) ?_
            refine lv_istore (lv' := [(4, .int 2), (3, .int (nI (lowN x 30))), (0, .ref (o 0)), (1, .int x), (2, .int yv)]) hx hb dL_acts_185 hl (by decide) rfl (fun ls hl => ?_)
            refine lv_iload_n hx hb dL_acts_187 rfl (lv_at hl 4 rfl) ?_
            refine lv_iconst (v := 2) hx hb dL_acts_188 (by decide) ?_
            refine lv_ishr hx hb dL_acts_189 ?_
            refine lv_bipush (v := 11) hx hb dL_acts_190 (by decide) ?_
            refine ej_L0 (rest := []) (As := [.int (yv >>> (2 &&& 31)), .int 11]) S hK hN hA hD hW hS (c_L_low l D tys cI ht0 (yv >>> (2 &&& 31)) 11 (by omega) (by omega)) (va_cwS 2 hts gL_acts_L_low rfl rfl rfl hds_L_low ⟨Nat.le_of_ble_eq_true rfl, Nat.le_of_ble_eq_true rfl⟩) rfl rfl hl.1 (Nat.le_of_ble_eq_true rfl) dL_acts_192 ⟨Nat.zero_le _, Nat.zero_le _⟩ (fun H locs hW hS => ?_)
            show W p9 l e9 (eR 25 1500) s9 m9 a9 b9 t9 c9 H locs 0 0 Q (F0 m9 195 ls [.int (nI (lowN (yv >>> (2 &&& 31)) 11))])
            have lw_192 := lowN_lt (yv >>> (2 &&& 31)) (n := 11) (by omega)
            refine lv_istore (lv' := [(5, .int (nI (lowN (yv >>> (2 &&& 31)) 11))), (4, .int 2), (3, .int (nI (lowN x 30))), (0, .ref (o 0)), (1, .int x), (2, .int yv)]) hx hb dL_acts_195 hl (by decide) rfl (fun ls hl => ?_)
            refine lv_iload hx hb dL_acts_197 (lv_at hl 1 rfl) ?_
            refine lv_iconst (v := 2) hx hb dL_acts_199 (by decide) ?_
            refine lv_icmp_eq (tgt := 232) hx hb dL_acts_200 (by decide) (fun _ => ?_) (fun h9 => absurd (show (2 : Int32) = 2 from by decide) h9)
            refine lv_iconst (v := 1) hx hb dL_acts_232 (by decide) ?_
            refine lv_goto (tgt := 237) hx hb dL_acts_233 (by decide) ?_
            refine lv_istore (lv' := [(6, .int 1), (5, .int (nI (lowN (yv >>> (2 &&& 31)) 11))), (4, .int 2), (3, .int (nI (lowN x 30))), (0, .ref (o 0)), (1, .int x), (2, .int yv)]) hx hb dL_acts_237 hl (by decide) rfl (fun ls hl => ?_)
            refine lv_iload hx hb dL_acts_239 (lv_at hl 2 rfl) ?_
            refine lv_iconst (v := 2) hx hb dL_acts_241 (by decide) ?_
            refine lv_icmp_ne (tgt := 249) hx hb dL_acts_242 (by decide) (fun h9 => absurd (show (2 : Int32) = 2 from by decide) h9) (fun _ => ?_)
            refine lv_iconst (v := 0) hx hb dL_acts_245 (by decide) ?_
            refine lv_goto (tgt := 258) hx hb dL_acts_246 (by decide) ?_
            refine lv_istore (lv' := [(7, .int 0), (6, .int 1), (5, .int (nI (lowN (yv >>> (2 &&& 31)) 11))), (4, .int 2), (3, .int (nI (lowN x 30))), (0, .ref (o 0)), (1, .int x), (2, .int yv)]) hx hb dL_acts_258 hl (by decide) rfl (fun ls hl => ?_)
            refine lv_aload_n hx hb dL_acts_260 rfl (lv_at hl 5 rfl) ?_
            refine lv_iload hx hb dL_acts_261 (lv_at hl 3 rfl) ?_
            refine lv_iload hx hb dL_acts_263 (lv_at hl 2 rfl) ?_
            refine lr_set_no (rest := []) (v := 2) (w := nI (lowN (yv >>> (2 &&& 31)) 11)) S hK hN ht0 ht1 hA hD hW hS htl (fun z => absurd z.1 (by decide)) (fun z => absurd z.1 (by decide)) (cwV 2 hts gL_acts_X6_set rfl rfl rfl hdv_X6_set ⟨Nat.le_of_ble_eq_true rfl, Nat.le_of_ble_eq_true rfl⟩) rfl hl.1 (Nat.le_of_ble_eq_true rfl) dL_acts_265 ⟨Nat.zero_le _, Nat.zero_le _⟩ (fun H locs hW hS => ?_)
            show W p9 l e9 (eR 25 1500) s9 m9 a9 b9 t9 c9 H locs 0 0 Q (F0 m9 268 ls [.int (-1)])
            have hW : SW D cI cT o aT aB aS g y z ad t u hs sn q f s0 s1 s2 H := hW
            refine lv_iload hx hb dL_acts_268 (lv_at hl 1 rfl) ?_
            refine lv_if_eq (tgt := 277) hx hb dL_acts_270 (by decide) (fun h9 => absurd h9 (show ¬ (1 : Int32) = 0 from by decide)) (fun _ => ?_)
            refine lv_iconst (v := (-1)) hx hb dL_acts_273 (by decide) ?_
            refine lv_goto (tgt := 279) hx hb dL_acts_274 (by decide) ?_
            refine lv_icmp_ne (tgt := 316) hx hb dL_acts_279 (by decide) (fun h9 => absurd (show ((-1) : Int32) = (-1) from by decide) h9) (fun _ => ?_)
            refine lv_iload hx hb dL_acts_282 (lv_at hl 3 rfl) ?_
            refine lv_iconst (v := 2) hx hb dL_acts_284 (by decide) ?_
            refine lv_icmp_eq (tgt := 312) hx hb dL_acts_285 (by decide) (fun _ => ?_) (fun h9 => absurd (show (2 : Int32) = 2 from by decide) h9)
            refine lv_iconst (v := 1) hx hb dL_acts_312 (by decide) ?_
            refine lv_goto (tgt := 317) hx hb dL_acts_313 (by decide) ?_
            exact hQ _ _ _ _ _ _ _ _ _ _ _ _ _ dL_acts_317 rfl (by exact ⟨rfl, okS_up ho (by omega), Or.inl ⟨rfl, rfl, rfl⟩⟩) hW hS
      · have n_55 : (lowN x 30) < 21 := ej_tnle (a := 21) (b := (lowN x 30)) (by omega) (by omega) c_55
        refine lv_iload_n hx hb dL_acts_58 rfl (lv_at hl 3 rfl) ?_
        refine lv_bipush (v := 8) hx hb dL_acts_59 (by decide) ?_
        refine ej_L0 (rest := []) (As := [.int yv, .int 8]) S hK hN hA hD hW hS (c_L_low l D tys cI ht0 yv 8 (by omega) (by omega)) (va_cwS 2 hts gL_acts_L_low rfl rfl rfl hds_L_low ⟨Nat.le_of_ble_eq_true rfl, Nat.le_of_ble_eq_true rfl⟩) rfl rfl hl.1 (Nat.le_of_ble_eq_true rfl) dL_acts_61 ⟨Nat.zero_le _, Nat.zero_le _⟩ (fun H locs hW hS => ?_)
        show W p9 l e9 (eR 25 1500) s9 m9 a9 b9 t9 c9 H locs 0 0 Q (F0 m9 64 ls [.int (nI (lowN yv 8))])
        have lw_61 := lowN_lt yv (n := 8) (by omega)
        by_cases h7 : lowN yv 8 = 7
        · refine ej_topi (show nI (lowN yv 8) = 7 from by rw [h7]; rfl) ?_
          refine lv_istore (lv' := [(4, .int 7), (3, .int (nI (lowN x 30))), (0, .ref (o 0)), (1, .int x), (2, .int yv)]) hx hb dL_acts_64 hl (by decide) rfl (fun ls hl => ?_)
          refine lv_iload_n hx hb dL_acts_66 rfl (lv_at hl 4 rfl) ?_
          refine lv_iconst (v := 3) hx hb dL_acts_67 (by decide) ?_
          refine lv_ishr hx hb dL_acts_68 ?_
          refine lv_bipush (v := 11) hx hb dL_acts_69 (by decide) ?_
          refine ej_L0 (rest := []) (As := [.int (yv >>> (3 &&& 31)), .int 11]) S hK hN hA hD hW hS (c_L_low l D tys cI ht0 (yv >>> (3 &&& 31)) 11 (by omega) (by omega)) (va_cwS 2 hts gL_acts_L_low rfl rfl rfl hds_L_low ⟨Nat.le_of_ble_eq_true rfl, Nat.le_of_ble_eq_true rfl⟩) rfl rfl hl.1 (Nat.le_of_ble_eq_true rfl) dL_acts_71 ⟨Nat.zero_le _, Nat.zero_le _⟩ (fun H locs hW hS => ?_)
          show W p9 l e9 (eR 25 1500) s9 m9 a9 b9 t9 c9 H locs 0 0 Q (F0 m9 74 ls [.int (nI (lowN (yv >>> (3 &&& 31)) 11))])
          have lw_71 := lowN_lt (yv >>> (3 &&& 31)) (n := 11) (by omega)
          refine lv_istore (lv' := [(5, .int (nI (lowN (yv >>> (3 &&& 31)) 11))), (4, .int 7), (3, .int (nI (lowN x 30))), (0, .ref (o 0)), (1, .int x), (2, .int yv)]) hx hb dL_acts_74 hl (by decide) rfl (fun ls hl => ?_)
          refine lv_iload hx hb dL_acts_76 (lv_at hl 1 rfl) ?_
          refine lv_bipush (v := 7) hx hb dL_acts_78 (by decide) ?_
          refine lv_icmp_eq (tgt := 90) hx hb dL_acts_80 (by decide) (fun _ => ?_) (fun h9 => absurd (show (7 : Int32) = 7 from by decide) h9)
          refine lv_iconst (v := 1) hx hb dL_acts_90 (by decide) ?_
          refine lv_goto (tgt := 95) hx hb dL_acts_91 (by decide) ?_
          refine lv_istore (lv' := [(6, .int 1), (5, .int (nI (lowN (yv >>> (3 &&& 31)) 11))), (4, .int 7), (3, .int (nI (lowN x 30))), (0, .ref (o 0)), (1, .int x), (2, .int yv)]) hx hb dL_acts_95 hl (by decide) rfl (fun ls hl => ?_)
          refine lv_iload hx hb dL_acts_97 (lv_at hl 2 rfl) ?_
          refine lv_bipush (v := 7) hx hb dL_acts_99 (by decide) ?_
          refine lv_icmp_ne (tgt := 108) hx hb dL_acts_101 (by decide) (fun h9 => absurd (show (7 : Int32) = 7 from by decide) h9) (fun _ => ?_)
          refine lv_iconst (v := 0) hx hb dL_acts_104 (by decide) ?_
          refine lv_goto (tgt := 115) hx hb dL_acts_105 (by decide) ?_
          refine lv_istore (lv' := [(7, .int 0), (6, .int 1), (5, .int (nI (lowN (yv >>> (3 &&& 31)) 11))), (4, .int 7), (3, .int (nI (lowN x 30))), (0, .ref (o 0)), (1, .int x), (2, .int yv)]) hx hb dL_acts_115 hl (by decide) rfl (fun ls hl => ?_)
          refine lv_aload_n hx hb dL_acts_117 rfl (lv_at hl 5 rfl) ?_
          refine lv_iload hx hb dL_acts_118 (lv_at hl 3 rfl) ?_
          refine lv_iload hx hb dL_acts_120 (lv_at hl 2 rfl) ?_
          refine lr_worth_no (rest := []) (v := 7) (w := nI (lowN (yv >>> (3 &&& 31)) 11)) S hK hN ht0 ht1 hA hD hW hS htl (fun z => absurd z.1 (by decide)) (cwV 2 hts gL_acts_X6_worth rfl rfl rfl hdv_X6_worth ⟨Nat.le_of_ble_eq_true rfl, Nat.le_of_ble_eq_true rfl⟩) rfl hl.1 (Nat.le_of_ble_eq_true rfl) dL_acts_122 ⟨Nat.zero_le _, Nat.zero_le _⟩ (fun H locs hW hS => ?_)
          show W p9 l e9 (eR 25 1500) s9 m9 a9 b9 t9 c9 H locs 0 0 Q (F0 m9 125 ls [.int (-1)])
          have hW : SW D cI cT o aT aB aS g y z ad t u hs sn q f s0 s1 s2 H := hW
          refine lv_iload hx hb dL_acts_125 (lv_at hl 1 rfl) ?_
          refine lv_if_eq (tgt := 134) hx hb dL_acts_127 (by decide) (fun h9 => absurd h9 (show ¬ (1 : Int32) = 0 from by decide)) (fun _ => ?_)
          refine lv_iconst (v := (-1)) hx hb dL_acts_130 (by decide) ?_
          refine lv_goto (tgt := 136) hx hb dL_acts_131 (by decide) ?_
          refine lv_icmp_ne (tgt := 172) hx hb dL_acts_136 (by decide) (fun h9 => absurd (show ((-1) : Int32) = (-1) from by decide) h9) (fun _ => ?_)
          refine lv_iload hx hb dL_acts_139 (lv_at hl 3 rfl) ?_
          refine lv_bipush (v := 7) hx hb dL_acts_141 (by decide) ?_
          refine lv_icmp_eq (tgt := 168) hx hb dL_acts_143 (by decide) (fun _ => ?_) (fun h9 => absurd (show (7 : Int32) = 7 from by decide) h9)
          refine lv_iconst (v := 1) hx hb dL_acts_168 (by decide) ?_
          refine lv_goto (tgt := 173) hx hb dL_acts_169 (by decide) ?_
          exact hQ _ _ _ _ _ _ _ _ _ _ _ _ _ dL_acts_173 rfl (by exact ⟨rfl, okS_up ho (by omega), Or.inl ⟨rfl, rfl, rfl⟩⟩) hW hS
        · obtain ⟨k, hk, ek⟩ : ∃ k : Nat, k < 7 ∧ lowN yv 8 = k := ⟨_, by omega, rfl⟩
          refine ej_topi (show nI (lowN yv 8) = nI k from by rw [ek]) ?_
          refine lv_istore (lv' := [(4, .int (nI k)), (3, .int (nI (lowN x 30))), (0, .ref (o 0)), (1, .int x), (2, .int yv)]) hx hb dL_acts_64 hl (by decide) rfl (fun ls hl => ?_)
          refine lv_iload_n hx hb dL_acts_66 rfl (lv_at hl 4 rfl) ?_
          refine lv_iconst (v := 3) hx hb dL_acts_67 (by decide) ?_
          refine lv_ishr hx hb dL_acts_68 ?_
          refine lv_bipush (v := 11) hx hb dL_acts_69 (by decide) ?_
          refine ej_L0 (rest := []) (As := [.int (yv >>> (3 &&& 31)), .int 11]) S hK hN hA hD hW hS (c_L_low l D tys cI ht0 (yv >>> (3 &&& 31)) 11 (by omega) (by omega)) (va_cwS 2 hts gL_acts_L_low rfl rfl rfl hds_L_low ⟨Nat.le_of_ble_eq_true rfl, Nat.le_of_ble_eq_true rfl⟩) rfl rfl hl.1 (Nat.le_of_ble_eq_true rfl) dL_acts_71 ⟨Nat.zero_le _, Nat.zero_le _⟩ (fun H locs hW hS => ?_)
          show W p9 l e9 (eR 25 1500) s9 m9 a9 b9 t9 c9 H locs 0 0 Q (F0 m9 74 ls [.int (nI (lowN (yv >>> (3 &&& 31)) 11))])
          have lw_71 := lowN_lt (yv >>> (3 &&& 31)) (n := 11) (by omega)
          refine lv_istore (lv' := [(5, .int (nI (lowN (yv >>> (3 &&& 31)) 11))), (4, .int (nI k)), (3, .int (nI (lowN x 30))), (0, .ref (o 0)), (1, .int x), (2, .int yv)]) hx hb dL_acts_74 hl (by decide) rfl (fun ls hl => ?_)
          refine lv_iload hx hb dL_acts_76 (lv_at hl 1 rfl) ?_
          refine lv_bipush (v := 7) hx hb dL_acts_78 (by decide) ?_
          refine lv_icmp_eq (tgt := 90) hx hb dL_acts_80 (by decide) (fun h9 => absurd h9 (ej_ne (a := k) (b := 7) (by omega) (by omega) (show k ≠ 7 from by omega))) (fun _ => ?_)
          refine lv_iload hx hb dL_acts_83 (lv_at hl 0 rfl) ?_
          refine lv_bipush (v := 10) hx hb dL_acts_85 (by decide) ?_
          refine lv_icmp_ne (tgt := 94) hx hb dL_acts_87 (by decide) (fun c_87 => ?_) (fun c_87 => ?_)
          · have n_87 : (lowN (yv >>> (3 &&& 31)) 11) ≠ 10 := ej_tne (a := (lowN (yv >>> (3 &&& 31)) 11)) (b := 10) (by omega) (by omega) c_87
            refine lv_iconst (v := 0) hx hb dL_acts_94 (by decide) ?_
            refine lv_istore (lv' := [(6, .int 0), (5, .int (nI (lowN (yv >>> (3 &&& 31)) 11))), (4, .int (nI k)), (3, .int (nI (lowN x 30))), (0, .ref (o 0)), (1, .int x), (2, .int yv)]) hx hb dL_acts_95 hl (by decide) rfl (fun ls hl => ?_)
            refine lv_iload hx hb dL_acts_97 (lv_at hl 2 rfl) ?_
            refine lv_bipush (v := 7) hx hb dL_acts_99 (by decide) ?_
            refine lv_icmp_ne (tgt := 108) hx hb dL_acts_101 (by decide) (fun _ => ?_) (fun h9 => absurd h9 (ej_ne (a := k) (b := 7) (by omega) (by omega) (show k ≠ 7 from by omega)))
            refine lv_aload_n hx hb dL_acts_108 rfl (lv_at hl 4 rfl) ?_
            refine lv_iload hx hb dL_acts_109 (lv_at hl 2 rfl) ?_
            refine lv_iconst (v := 0) hx hb dL_acts_111 (by decide) ?_
            refine lr_pocket (rest := []) (k := k) (w := 0) S hK hN ht0 ht1 hA hD hW hS htl (by omega) (cwV 2 hts gL_acts_X6_pocket rfl rfl rfl hdv_X6_pocket ⟨Nat.le_of_ble_eq_true rfl, Nat.le_of_ble_eq_true rfl⟩) rfl hl.1 (Nat.le_of_ble_eq_true rfl) dL_acts_112 ⟨Nat.zero_le _, Nat.zero_le _⟩ (fun H locs hW hS => ?_)
            show W p9 l e9 (eR 25 1500) s9 m9 a9 b9 t9 c9 H locs 0 0 Q (F0 m9 115 ls [.int (pocR t u k 0)])
            have hW : SW D cI cT o aT aB aS g y z ad t u hs sn q f s0 s1 s2 H := hW
            refine ej_topi (show (pocR t u k 0) = T_wo u k from lkw_0 t u k) ?_
            refine lv_istore (lv' := [(7, .int (T_wo u k)), (6, .int 0), (5, .int (nI (lowN (yv >>> (3 &&& 31)) 11))), (4, .int (nI k)), (3, .int (nI (lowN x 30))), (0, .ref (o 0)), (1, .int x), (2, .int yv)]) hx hb dL_acts_115 hl (by decide) rfl (fun ls hl => ?_)
            refine lv_aload_n hx hb dL_acts_117 rfl (lv_at hl 5 rfl) ?_
            refine lv_iload hx hb dL_acts_118 (lv_at hl 3 rfl) ?_
            refine lv_iload hx hb dL_acts_120 (lv_at hl 2 rfl) ?_
            refine lr_worth (rest := []) (k := k) (w := nI (lowN (yv >>> (3 &&& 31)) 11)) S hK hN ht0 ht1 hA hD hW hS htl (by omega) (inP_9 (by omega)) (cwV 2 hts gL_acts_X6_worth rfl rfl rfl hdv_X6_worth ⟨Nat.le_of_ble_eq_true rfl, Nat.le_of_ble_eq_true rfl⟩) rfl hl.1 (Nat.le_of_ble_eq_true rfl) dL_acts_122 ⟨Nat.zero_le _, Nat.zero_le _⟩ (fun H locs hW hS => ?_)
            show W p9 l e9 (eR 25 1500) s9 m9 a9 b9 t9 c9 H locs 0 0 Q (F0 m9 125 ls [.int (T_wo u k)])
            have hW : SW D cI cT o aT aB aS g y z ad t (woU u k (nI (lowN (yv >>> (3 &&& 31)) 11))) (recL hs (t, u)) sn q f s0 s1 s2 H := hW
            refine lv_iload hx hb dL_acts_125 (lv_at hl 1 rfl) ?_
            refine lv_if_eq (tgt := 134) hx hb dL_acts_127 (by decide) (fun _ => ?_) (fun h9 => absurd (show (0 : Int32) = 0 from by decide) h9)
            refine lv_iload hx hb dL_acts_134 (lv_at hl 0 rfl) ?_
            refine lv_icmp_ne (tgt := 172) hx hb dL_acts_136 (by decide) (fun h9 => absurd (rfl) h9) (fun _ => ?_)
            refine lv_iload hx hb dL_acts_139 (lv_at hl 3 rfl) ?_
            refine lv_bipush (v := 7) hx hb dL_acts_141 (by decide) ?_
            refine lv_icmp_eq (tgt := 168) hx hb dL_acts_143 (by decide) (fun h9 => absurd h9 (ej_ne (a := k) (b := 7) (by omega) (by omega) (show k ≠ 7 from by omega))) (fun _ => ?_)
            refine lv_aload_n hx hb dL_acts_146 rfl (lv_at hl 5 rfl) ?_
            refine lv_iload hx hb dL_acts_147 (lv_at hl 3 rfl) ?_
            refine lv_iconst (v := 0) hx hb dL_acts_149 (by decide) ?_
            refine lr_pocket (rest := []) (k := k) (w := 0) S hK hN ht0 ht1 hA hD hW hS htl (by omega) (cwV 2 hts gL_acts_X6_pocket rfl rfl rfl hdv_X6_pocket ⟨Nat.le_of_ble_eq_true rfl, Nat.le_of_ble_eq_true rfl⟩) rfl hl.1 (Nat.le_of_ble_eq_true rfl) dL_acts_150 ⟨Nat.zero_le _, Nat.zero_le _⟩ (fun H locs hW hS => ?_)
            show W p9 l e9 (eR 25 1500) s9 m9 a9 b9 t9 c9 H locs 0 0 Q (F0 m9 153 ls [.int (pocR t (woU u k (nI (lowN (yv >>> (3 &&& 31)) 11))) k 0)])
            have hW : SW D cI cT o aT aB aS g y z ad t (woU u k (nI (lowN (yv >>> (3 &&& 31)) 11))) (recL hs (t, u)) sn q f s0 s1 s2 H := hW
            refine ej_topi (show (pocR t (woU u k (nI (lowN (yv >>> (3 &&& 31)) 11))) k 0) = T_wo (woU u k (nI (lowN (yv >>> (3 &&& 31)) 11))) k from lkw_0 t (woU u k (nI (lowN (yv >>> (3 &&& 31)) 11))) k) ?_
            refine ej_topi (show (T_wo (woU u k (nI (lowN (yv >>> (3 &&& 31)) 11))) k) = nI (lowN (yv >>> (3 &&& 31)) 11) from wo_at) ?_
            refine lv_iload hx hb dL_acts_153 (lv_at hl 1 rfl) ?_
            refine lv_if_eq (tgt := 163) hx hb dL_acts_155 (by decide) (fun _ => ?_) (fun h9 => absurd (show (0 : Int32) = 0 from by decide) h9)
            refine lv_iload hx hb dL_acts_163 (lv_at hl 2 rfl) ?_
            refine lv_icmp_ne (tgt := 172) hx hb dL_acts_165 (by decide) (fun h9 => absurd (congrArg nI (show (lowN (yv >>> (3 &&& 31)) 11) = (lowN (yv >>> (3 &&& 31)) 11) from by omega)) h9) (fun _ => ?_)
            refine lv_iconst (v := 1) hx hb dL_acts_168 (by decide) ?_
            refine lv_goto (tgt := 173) hx hb dL_acts_169 (by decide) ?_
            exact hQ _ _ _ _ _ _ _ _ _ _ _ _ _ dL_acts_173 rfl (by exact ⟨rfl, okS_up (okS_wo (inP_9 (by omega)) ho) (by omega), Or.inr rfl⟩) hW hS
          · have n_87 : (lowN (yv >>> (3 &&& 31)) 11) = 10 := ej_teq (a := (lowN (yv >>> (3 &&& 31)) 11)) (b := 10) (by omega) (by omega) c_87
            refine lv_iconst (v := 1) hx hb dL_acts_90 (by decide) ?_
            refine lv_goto (tgt := 95) hx hb dL_acts_91 (by decide) ?_
            refine lv_istore (lv' := [(6, .int 1), (5, .int (nI (lowN (yv >>> (3 &&& 31)) 11))), (4, .int (nI k)), (3, .int (nI (lowN x 30))), (0, .ref (o 0)), (1, .int x), (2, .int yv)]) hx hb dL_acts_95 hl (by decide) rfl (fun ls hl => ?_)
            refine lv_iload hx hb dL_acts_97 (lv_at hl 2 rfl) ?_
            refine lv_bipush (v := 7) hx hb dL_acts_99 (by decide) ?_
            refine lv_icmp_ne (tgt := 108) hx hb dL_acts_101 (by decide) (fun _ => ?_) (fun h9 => absurd h9 (ej_ne (a := k) (b := 7) (by omega) (by omega) (show k ≠ 7 from by omega)))
            refine lv_aload_n hx hb dL_acts_108 rfl (lv_at hl 4 rfl) ?_
            refine lv_iload hx hb dL_acts_109 (lv_at hl 2 rfl) ?_
            refine lv_iconst (v := 0) hx hb dL_acts_111 (by decide) ?_
            refine lr_pocket (rest := []) (k := k) (w := 0) S hK hN ht0 ht1 hA hD hW hS htl (by omega) (cwV 2 hts gL_acts_X6_pocket rfl rfl rfl hdv_X6_pocket ⟨Nat.le_of_ble_eq_true rfl, Nat.le_of_ble_eq_true rfl⟩) rfl hl.1 (Nat.le_of_ble_eq_true rfl) dL_acts_112 ⟨Nat.zero_le _, Nat.zero_le _⟩ (fun H locs hW hS => ?_)
            show W p9 l e9 (eR 25 1500) s9 m9 a9 b9 t9 c9 H locs 0 0 Q (F0 m9 115 ls [.int (pocR t u k 0)])
            have hW : SW D cI cT o aT aB aS g y z ad t u hs sn q f s0 s1 s2 H := hW
            refine ej_topi (show (pocR t u k 0) = T_wo u k from lkw_0 t u k) ?_
            refine lv_istore (lv' := [(7, .int (T_wo u k)), (6, .int 1), (5, .int (nI (lowN (yv >>> (3 &&& 31)) 11))), (4, .int (nI k)), (3, .int (nI (lowN x 30))), (0, .ref (o 0)), (1, .int x), (2, .int yv)]) hx hb dL_acts_115 hl (by decide) rfl (fun ls hl => ?_)
            refine lv_aload_n hx hb dL_acts_117 rfl (lv_at hl 5 rfl) ?_
            refine lv_iload hx hb dL_acts_118 (lv_at hl 3 rfl) ?_
            refine lv_iload hx hb dL_acts_120 (lv_at hl 2 rfl) ?_
            refine lr_worth_no (rest := []) (v := nI k) (w := nI (lowN (yv >>> (3 &&& 31)) 11)) S hK hN ht0 ht1 hA hD hW hS htl (fun z => z.2.2 (ej_lt (a := 9) (b := lowN (yv >>> (3 &&& 31)) 11) (by omega) (by omega))) (cwV 2 hts gL_acts_X6_worth rfl rfl rfl hdv_X6_worth ⟨Nat.le_of_ble_eq_true rfl, Nat.le_of_ble_eq_true rfl⟩) rfl hl.1 (Nat.le_of_ble_eq_true rfl) dL_acts_122 ⟨Nat.zero_le _, Nat.zero_le _⟩ (fun H locs hW hS => ?_)
            show W p9 l e9 (eR 25 1500) s9 m9 a9 b9 t9 c9 H locs 0 0 Q (F0 m9 125 ls [.int (-1)])
            have hW : SW D cI cT o aT aB aS g y z ad t u hs sn q f s0 s1 s2 H := hW
            refine lv_iload hx hb dL_acts_125 (lv_at hl 1 rfl) ?_
            refine lv_if_eq (tgt := 134) hx hb dL_acts_127 (by decide) (fun h9 => absurd h9 (show ¬ (1 : Int32) = 0 from by decide)) (fun _ => ?_)
            refine lv_iconst (v := (-1)) hx hb dL_acts_130 (by decide) ?_
            refine lv_goto (tgt := 136) hx hb dL_acts_131 (by decide) ?_
            refine lv_icmp_ne (tgt := 172) hx hb dL_acts_136 (by decide) (fun h9 => absurd (show ((-1) : Int32) = (-1) from by decide) h9) (fun _ => ?_)
            refine lv_iload hx hb dL_acts_139 (lv_at hl 3 rfl) ?_
            refine lv_bipush (v := 7) hx hb dL_acts_141 (by decide) ?_
            refine lv_icmp_eq (tgt := 168) hx hb dL_acts_143 (by decide) (fun h9 => absurd h9 (ej_ne (a := k) (b := 7) (by omega) (by omega) (show k ≠ 7 from by omega))) (fun _ => ?_)
            refine lv_aload_n hx hb dL_acts_146 rfl (lv_at hl 5 rfl) ?_
            refine lv_iload hx hb dL_acts_147 (lv_at hl 3 rfl) ?_
            refine lv_iconst (v := 0) hx hb dL_acts_149 (by decide) ?_
            refine lr_pocket (rest := []) (k := k) (w := 0) S hK hN ht0 ht1 hA hD hW hS htl (by omega) (cwV 2 hts gL_acts_X6_pocket rfl rfl rfl hdv_X6_pocket ⟨Nat.le_of_ble_eq_true rfl, Nat.le_of_ble_eq_true rfl⟩) rfl hl.1 (Nat.le_of_ble_eq_true rfl) dL_acts_150 ⟨Nat.zero_le _, Nat.zero_le _⟩ (fun H locs hW hS => ?_)
            show W p9 l e9 (eR 25 1500) s9 m9 a9 b9 t9 c9 H locs 0 0 Q (F0 m9 153 ls [.int (pocR t u k 0)])
            have hW : SW D cI cT o aT aB aS g y z ad t u hs sn q f s0 s1 s2 H := hW
            refine ej_topi (show (pocR t u k 0) = T_wo u k from lkw_0 t u k) ?_
            refine lv_iload hx hb dL_acts_153 (lv_at hl 1 rfl) ?_
            refine lv_if_eq (tgt := 163) hx hb dL_acts_155 (by decide) (fun h9 => absurd h9 (show ¬ (1 : Int32) = 0 from by decide)) (fun _ => ?_)
            refine lv_iload hx hb dL_acts_158 (lv_at hl 0 rfl) ?_
            refine lv_goto (tgt := 165) hx hb dL_acts_160 (by decide) ?_
            refine lv_icmp_ne (tgt := 172) hx hb dL_acts_165 (by decide) (fun h9 => absurd (rfl) h9) (fun _ => ?_)
            refine lv_iconst (v := 1) hx hb dL_acts_168 (by decide) ?_
            refine lv_goto (tgt := 173) hx hb dL_acts_169 (by decide) ?_
            exact hQ _ _ _ _ _ _ _ _ _ _ _ _ _ dL_acts_173 rfl (by exact ⟨rfl, okS_up ho (by omega), Or.inl ⟨rfl, rfl, rfl⟩⟩) hW hS
    · have n_22 : (lowN x 30) < 19 := ej_tnle (a := 19) (b := (lowN x 30)) (by omega) (by omega) c_22
      refine lv_aload_n hx hb dL_acts_25 rfl (lv_at hl 1 rfl) ?_
      refine lv_iload_n hx hb dL_acts_26 rfl (lv_at hl 0 rfl) ?_
      refine lv_bipush (v := 15) hx hb dL_acts_27 (by decide) ?_
      refine lv_icmp_ge (tgt := 36) hx hb dL_acts_29 (by decide) (fun c_29 => ?_) (fun c_29 => ?_)
      · have n_29 : 15 ≤ (lowN x 30) := ej_tle (a := 15) (b := (lowN x 30)) (by omega) (by omega) c_29
        refine lv_iload_n hx hb dL_acts_36 rfl (lv_at hl 0 rfl) ?_
        refine lv_bipush (v := 17) hx hb dL_acts_37 (by decide) ?_
        refine lv_icmp_ge (tgt := 46) hx hb dL_acts_39 (by decide) (fun c_39 => ?_) (fun c_39 => ?_)
        · have n_39 : 17 ≤ (lowN x 30) := ej_tle (a := 17) (b := (lowN x 30)) (by omega) (by omega) c_39
          refine lv_iconst (v := 2) hx hb dL_acts_46 (by decide) ?_
          refine lv_iload_n hx hb dL_acts_47 rfl (lv_at hl 3 rfl) ?_
          refine ej_L (rest := []) (As := [.ref (o 0), .int 2, .int yv]) S hK hN hA hD hW hS (k_hands l D tys cI cT ht0 ht1 o aT aB aS g y z ad t u hs sn q f s0 s1 s2 2 yv m (by decide) htl ho) (va_cwS 3 hts gL_acts_L_hands rfl rfl rfl hds_L_hands ⟨Nat.le_of_ble_eq_true rfl, Nat.le_of_ble_eq_true rfl⟩) rfl rfl hl.1 (Nat.le_of_ble_eq_true rfl) dL_acts_48 ⟨Nat.zero_le _, Nat.zero_le _⟩ (fun r9 t9_ u9_ hs9_ q9_ f9_ x9_0 x9_1 x9_2 H locs hP9 hW hS => ?_)
          obtain ⟨rfl, hok9, hch9⟩ := hP9
          show W p9 l e9 (eR 25 1500) s9 m9 a9 b9 t9 c9 H locs 0 0 Q (F0 m9 51 ls [.int 1])
          have hW : SW D cI cT o aT aB aS g y z ad t9_ u9_ hs9_ sn q9_ f9_ x9_0 x9_1 x9_2 H := hW
          exact hQ _ _ _ _ _ _ _ _ _ _ _ _ _ dL_acts_51 rfl (by exact ⟨rfl, hok9, hch9⟩) hW hS
        · have n_39 : (lowN x 30) < 17 := ej_tnle (a := 17) (b := (lowN x 30)) (by omega) (by omega) c_39
          refine lv_iconst (v := 1) hx hb dL_acts_42 (by decide) ?_
          refine lv_goto (tgt := 47) hx hb dL_acts_43 (by decide) ?_
          refine lv_iload_n hx hb dL_acts_47 rfl (lv_at hl 3 rfl) ?_
          refine ej_L (rest := []) (As := [.ref (o 0), .int 1, .int yv]) S hK hN hA hD hW hS (k_hands l D tys cI cT ht0 ht1 o aT aB aS g y z ad t u hs sn q f s0 s1 s2 1 yv m (by decide) htl ho) (va_cwS 3 hts gL_acts_L_hands rfl rfl rfl hds_L_hands ⟨Nat.le_of_ble_eq_true rfl, Nat.le_of_ble_eq_true rfl⟩) rfl rfl hl.1 (Nat.le_of_ble_eq_true rfl) dL_acts_48 ⟨Nat.zero_le _, Nat.zero_le _⟩ (fun r9 t9_ u9_ hs9_ q9_ f9_ x9_0 x9_1 x9_2 H locs hP9 hW hS => ?_)
          obtain ⟨rfl, hok9, hch9⟩ := hP9
          show W p9 l e9 (eR 25 1500) s9 m9 a9 b9 t9 c9 H locs 0 0 Q (F0 m9 51 ls [.int 1])
          have hW : SW D cI cT o aT aB aS g y z ad t9_ u9_ hs9_ sn q9_ f9_ x9_0 x9_1 x9_2 H := hW
          exact hQ _ _ _ _ _ _ _ _ _ _ _ _ _ dL_acts_51 rfl (by exact ⟨rfl, hok9, hch9⟩) hW hS
      · have n_29 : (lowN x 30) < 15 := ej_tnle (a := 15) (b := (lowN x 30)) (by omega) (by omega) c_29
        refine lv_iconst (v := 0) hx hb dL_acts_32 (by decide) ?_
        refine lv_goto (tgt := 47) hx hb dL_acts_33 (by decide) ?_
        refine lv_iload_n hx hb dL_acts_47 rfl (lv_at hl 3 rfl) ?_
        refine ej_L (rest := []) (As := [.ref (o 0), .int 0, .int yv]) S hK hN hA hD hW hS (k_hands l D tys cI cT ht0 ht1 o aT aB aS g y z ad t u hs sn q f s0 s1 s2 0 yv m (by decide) htl ho) (va_cwS 3 hts gL_acts_L_hands rfl rfl rfl hds_L_hands ⟨Nat.le_of_ble_eq_true rfl, Nat.le_of_ble_eq_true rfl⟩) rfl rfl hl.1 (Nat.le_of_ble_eq_true rfl) dL_acts_48 ⟨Nat.zero_le _, Nat.zero_le _⟩ (fun r9 t9_ u9_ hs9_ q9_ f9_ x9_0 x9_1 x9_2 H locs hP9 hW hS => ?_)
        obtain ⟨rfl, hok9, hch9⟩ := hP9
        show W p9 l e9 (eR 25 1500) s9 m9 a9 b9 t9 c9 H locs 0 0 Q (F0 m9 51 ls [.int 1])
        have hW : SW D cI cT o aT aB aS g y z ad t9_ u9_ hs9_ sn q9_ f9_ x9_0 x9_1 x9_2 H := hW
        exact hQ _ _ _ _ _ _ _ _ _ _ _ _ _ dL_acts_51 rfl (by exact ⟨rfl, hok9, hch9⟩) hW hS
  · have n_10 : (lowN x 30) < 10 := ej_tnle (a := 10) (b := (lowN x 30)) (by omega) (by omega) c_10
    refine lv_aload_n hx hb dL_acts_13 rfl (lv_at hl 1 rfl) ?_
    refine lv_iload_n hx hb dL_acts_14 rfl (lv_at hl 3 rfl) ?_
    refine ej_L (rest := []) (As := [.ref (o 0), .int yv]) S hK hN hA hD hW hS (k_shoots l D tys cI cT ht0 ht1 o aT aB aS g y z ad t u hs sn q f s0 s1 s2 yv m htl ho) (va_cwS 2 hts gL_acts_L_shoots rfl rfl rfl hds_L_shoots ⟨Nat.le_of_ble_eq_true rfl, Nat.le_of_ble_eq_true rfl⟩) rfl rfl hl.1 (Nat.le_of_ble_eq_true rfl) dL_acts_15 ⟨Nat.zero_le _, Nat.zero_le _⟩ (fun r9 t9_ u9_ hs9_ q9_ f9_ x9_0 x9_1 x9_2 H locs hP9 hW hS => ?_)
    obtain ⟨rfl, hok9, hch9⟩ := hP9
    show W p9 l e9 (eR 25 1500) s9 m9 a9 b9 t9 c9 H locs 0 0 Q (F0 m9 18 ls [.int 1])
    have hW : SW D cI cT o aT aB aS g y z ad t9_ u9_ hs9_ sn q9_ f9_ x9_0 x9_1 x9_2 H := hW
    exact hQ _ _ _ _ _ _ _ _ _ _ _ _ _ dL_acts_18 rfl (by exact ⟨rfl, hok9, hch9⟩) hW hS
