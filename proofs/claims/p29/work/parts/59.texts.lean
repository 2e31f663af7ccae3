set_option maxHeartbeats 4000000 in
set_option maxRecDepth 100000 in
theorem k_texts (l : Launch) (D : va_G) (tys : eT) (cI cT : ClassId) (ht0 : tys[0]? = some (cI, .int)) (ht1 : tys[1]? = some (cT, .object RX5)) (o aT aB aS g y z : Nat → Nat) (ad : Nat → Nat → Nat) (t : Pn) (u : Tr) (hs : List (Pn × Tr)) (sn : Option (Pn × Tr)) (q : Nat) (f : Nat → Int32) (s0 s1 s2 : Int32) (x : Int32) (m : Nat) (htl : tilOK t) (ho : okS m t u) : lc l D tys cI cT o aT aB aS g y z ad yL_texts wsL_texts (eR 20 1000) [.ref (o 0), .int x] t u hs sn q f s0 s1 s2 (actP m t u hs) := by
  refine lc_int cL_texts 15 (by decide +kernel) rfl (Nat.le_of_ble_eq_true rfl) ?_
  intro p9 e9 s9 m9 a9 b9 t9 c9 H0 A Q ls S hK hN hA hD hW hS hl hQ
  have S : CallFix p9 m9 c9 cL_texts 15 s9 a9 wsL_texts RL := S
  obtain ⟨hx, hb, hml, hown, hts⟩ := id S
  have hl : lv_has ls 15 [(0, .ref (o 0)), (1, .int x)] := hl
  have hq60 := SW_q hW
  have hn4 := SW_len hW
  obtain ⟨N, e_N⟩ : ∃ z9 : Nat, z9 = lowN x 19 := ⟨_, rfl⟩
  have hN19 : N < 19 := by rw [e_N]; exact lowN_lt x (by decide)
  obtain ⟨M9, e_M9⟩ : ∃ z9 : Nat, z9 = if lowN (x >>> (23 &&& 31)) 9 = 0 then 8 else 7 := ⟨_, rfl⟩
  have hM7 : 7 ≤ M9 ∧ M9 ≤ 8 := by rw [e_M9]; split <;> decide
  refine lv_iload_n hx hb dL_texts_0 rfl (lv_at hl 1 rfl) ?_
  refine lv_bipush (v := 19) hx hb dL_texts_1 (by decide) ?_
  refine ej_L0 (rest := []) (As := [.int x, .int 19]) S hK hN hA hD hW hS (c_L_low l D tys cI ht0 x 19 (by omega) (by omega)) (va_cwS 2 hts gL_texts_L_low rfl rfl rfl hds_L_low ⟨Nat.le_of_ble_eq_true rfl, Nat.le_of_ble_eq_true rfl⟩) rfl rfl hl.1 (Nat.le_of_ble_eq_true rfl) dL_texts_3 ⟨Nat.zero_le _, Nat.zero_le _⟩ (fun H locs hW hS => ?_)
  show W p9 l e9 (eR 20 1000) s9 m9 a9 b9 t9 c9 H locs 0 0 Q (F0 m9 6 ls [.int (nI (lowN x 19))])
  refine ej_topi (show (nI (lowN x 19)) = nI N from (congrArg nI e_N.symm)) ?_
  refine lv_istore_n (lv' := [(2, .int (nI N)), (0, .ref (o 0)), (1, .int x)]) hx hb dL_texts_6 rfl hl (by decide) rfl (fun ls hl => ?_)
  refine lv_aload_n hx hb dL_texts_7 rfl (lv_at hl 1 rfl) ?_
  refine lr_clear (rest := [])  S hK hN ht0 ht1 hA hD hW hS htl  (cwV 0 hts gL_texts_X6_clear rfl rfl rfl hdv_X6_clear ⟨Nat.le_of_ble_eq_true rfl, Nat.le_of_ble_eq_true rfl⟩) rfl hl.1 (Nat.le_of_ble_eq_true rfl) dL_texts_8 ⟨Nat.zero_le _, Nat.zero_le _⟩ (fun H locs hW hS => ?_)
  show W p9 l e9 (eR 20 1000) s9 m9 a9 b9 t9 c9 H locs 0 0 Q (F0 m9 11 ls [.int (nI q)])
  have hW : SW D cI cT o aT aB aS g y z ad t u hs sn 0 f s0 s1 s2 H := hW
  refine lv_if_lt (tgt := 18) hx hb dL_texts_11 (by decide) (fun h9 => absurd h9 (ej_nlt (a := q) (b := 0) (by omega) (show 0 ≤ q from by omega))) (fun _ => ?_)
  refine lv_iconst (v := 1) hx hb dL_texts_14 (by decide) ?_
  refine lv_goto (tgt := 19) hx hb dL_texts_15 (by decide) ?_
  refine lv_istore_n (lv' := [(3, .int 1), (2, .int (nI N)), (0, .ref (o 0)), (1, .int x)]) hx hb dL_texts_19 rfl hl (by decide) rfl (fun ls hl => ?_)
  refine lv_iconst (v := 0) hx hb dL_texts_20 (by decide) ?_
  refine lv_istore (lv' := [(4, .int 0), (3, .int 1), (2, .int (nI N)), (0, .ref (o 0)), (1, .int x)]) hx hb dL_texts_21 hl (by decide) rfl (fun ls hl => ?_)
  have lp23 : ∀ (n23 : Nat) (k : Nat) (qq : Nat) (ff : Nat → Int32), N - k < n23 → (k ≤ N) → (cmN ff qq ≤ k - 1 ∧ qq ≤ 3 * k) → ∀ (H : Heap) (locs : List Loc) (ls : Array Slot), SW D cI cT o aT aB aS g y z ad t u hs sn qq ff s0 s1 s2 H → va_S A H0 H locs → lv_has ls 15 [(0, .ref (o 0)), (1, .int x), (2, .int (nI N)), (3, .int 1), (4, .int (nI k))] → W p9 l e9 (eR 20 1000) s9 m9 a9 b9 t9 c9 H locs 0 0 Q (F0 m9 23 ls []) := by
    intro n23
    induction n23 with
    | zero => intro k qq ff hm9; exact absurd hm9 (Nat.not_lt_zero _)
    | succ n23 ih23 =>
      intro k qq ff hm23 hk hTI H locs ls hW hS hl
      refine lv_iload hx hb dL_texts_23 (lv_at hl 4 rfl) ?_
      refine lv_iload_n hx hb dL_texts_25 rfl (lv_at hl 2 rfl) ?_
      refine lv_icmp_ge (tgt := 157) hx hb dL_texts_26 (by decide) (fun c_26 => ?_) (fun c_26 => ?_)
      · have n_26 : N ≤ k := ej_tle (a := N) (b := k) (by omega) (by omega) c_26
        have hkN : k = N := by omega
        have hT1 : cmN ff qq ≤ N - 1 := by rw [← hkN]; exact hTI.1
        have hT2 : qq ≤ 3 * N := by rw [← hkN]; exact hTI.2
        have jp188 : ∀ (q8 : Nat) (f8 : Nat → Int32) (H : Heap) (locs : List Loc) (ls : Array Slot), (PT N q8 f8) → SW D cI cT o aT aB aS g y z ad t u hs sn q8 f8 s0 s1 s2 H → va_S A H0 H locs → lv_has ls 15 [(0, .ref (o 0)), (1, .int x), (2, .int (nI N)), (3, .int 1)] → W p9 l e9 (eR 20 1000) s9 m9 a9 b9 t9 c9 H locs 0 0 Q (F0 m9 188 ls []) := by
          intro q8 f8 H locs ls hpt hW hS hl
          refine lv_aload_n hx hb dL_texts_188 rfl (lv_at hl 0 rfl) ?_
          refine ej_L (rest := []) (As := [.ref (o 0)]) S hK hN hA hD hW hS (k_look l D tys cI cT ht0 ht1 o aT aB aS g y z ad t u hs sn q8 f8 s0 s1 s2 htl) (va_cwS 1 hts gL_texts_L_look rfl rfl rfl hds_L_look ⟨Nat.le_of_ble_eq_true rfl, Nat.le_of_ble_eq_true rfl⟩) rfl rfl hl.1 (Nat.le_of_ble_eq_true rfl) dL_texts_189 ⟨Nat.zero_le _, Nat.zero_le _⟩ (fun r9 t9_ u9_ hs9_ q9_ f9_ x9_0 x9_1 x9_2 H locs hP9 hW hS => ?_)
          obtain ⟨rfl, rfl, rfl, rfl, rfl, rfl, rfl, rfl, rfl⟩ := hP9
          show W p9 l e9 (eR 20 1000) s9 m9 a9 b9 t9 c9 H locs 0 0 Q (F0 m9 192 ls [.long (lookV t u)])
          have hW : SW D cI cT o aT aB aS g y z ad t u hs sn q8 f8 s0 s1 s2 H := hW
          refine lv_lstore (lv' := [(4, .long (lookV t u)), (0, .ref (o 0)), (1, .int x), (2, .int (nI N)), (3, .int 1)]) hx hb dL_texts_192 hl (by decide) rfl (fun ls hl => ?_)
          refine lv_aload_n hx hb dL_texts_194 rfl (lv_at hl 1 rfl) ?_
          refine lv_bipush (v := 18) hx hb dL_texts_195 (by decide) ?_
          refine lr_count (rest := []) (w := 18) S hK hN ht0 ht1 hA hD hW hS htl  (cwV 1 hts gL_texts_X6_count rfl rfl rfl hdv_X6_count ⟨Nat.le_of_ble_eq_true rfl, Nat.le_of_ble_eq_true rfl⟩) rfl hl.1 (Nat.le_of_ble_eq_true rfl) dL_texts_197 ⟨Nat.zero_le _, Nat.zero_le _⟩ (fun H locs hW hS => ?_)
          show W p9 l e9 (eR 20 1000) s9 m9 a9 b9 t9 c9 H locs 0 0 Q (F0 m9 200 ls [.int (couA t u q8 hs.length 18)])
          have hW : SW D cI cT o aT aB aS g y z ad t u hs sn q8 f8 s0 s1 s2 H := hW
          refine ej_topi (show (couA t u q8 hs.length 18) = nI hs.length from lkc_18 t u q8 hs.length) ?_
          refine lv_istore (lv' := [(6, .int (nI hs.length)), (4, .long (lookV t u)), (0, .ref (o 0)), (1, .int x), (2, .int (nI N)), (3, .int 1)]) hx hb dL_texts_200 hl (by decide) rfl (fun ls hl => ?_)
          refine lv_aload_n hx hb dL_texts_202 rfl (lv_at hl 2 rfl) ?_
          refine lv_bipush (v := 14) hx hb dL_texts_203 (by decide) ?_
          refine lr_count (rest := []) (w := 14) S hK hN ht0 ht1 hA hD hW hS htl  (cwV 1 hts gL_texts_X6_count rfl rfl rfl hdv_X6_count ⟨Nat.le_of_ble_eq_true rfl, Nat.le_of_ble_eq_true rfl⟩) rfl hl.1 (Nat.le_of_ble_eq_true rfl) dL_texts_205 ⟨Nat.zero_le _, Nat.zero_le _⟩ (fun H locs hW hS => ?_)
          show W p9 l e9 (eR 20 1000) s9 m9 a9 b9 t9 c9 H locs 0 0 Q (F0 m9 208 ls [.int (couA t u q8 hs.length 14)])
          have hW : SW D cI cT o aT aB aS g y z ad t u hs sn q8 f8 s0 s1 s2 H := hW
          refine ej_topi (show (couA t u q8 hs.length 14) = T_re u from lkc_14 t u q8 hs.length) ?_
          refine lv_istore (lv' := [(7, .int (T_re u)), (6, .int (nI hs.length)), (4, .long (lookV t u)), (0, .ref (o 0)), (1, .int x), (2, .int (nI N)), (3, .int 1)]) hx hb dL_texts_208 hl (by decide) rfl (fun ls hl => ?_)
          refine lv_aload_n hx hb dL_texts_210 rfl (lv_at hl 3 rfl) ?_
          refine lv_iconst (v := 0) hx hb dL_texts_211 (by decide) ?_
          refine lr_count (rest := []) (w := 0) S hK hN ht0 ht1 hA hD hW hS htl  (cwV 1 hts gL_texts_X6_count rfl rfl rfl hdv_X6_count ⟨Nat.le_of_ble_eq_true rfl, Nat.le_of_ble_eq_true rfl⟩) rfl hl.1 (Nat.le_of_ble_eq_true rfl) dL_texts_212 ⟨Nat.zero_le _, Nat.zero_le _⟩ (fun H locs hW hS => ?_)
          show W p9 l e9 (eR 20 1000) s9 m9 a9 b9 t9 c9 H locs 0 0 Q (F0 m9 215 ls [.int (couA t u q8 hs.length 0)])
          have hW : SW D cI cT o aT aB aS g y z ad t u hs sn q8 f8 s0 s1 s2 H := hW
          refine ej_topi (show (couA t u q8 hs.length 0) = T_po u from lkc_0 t u q8 hs.length) ?_
          refine lv_istore (lv' := [(8, .int (T_po u)), (7, .int (T_re u)), (6, .int (nI hs.length)), (4, .long (lookV t u)), (0, .ref (o 0)), (1, .int x), (2, .int (nI N)), (3, .int 1)]) hx hb dL_texts_215 hl (by decide) rfl (fun ls hl => ?_)
          refine lv_aload_n hx hb dL_texts_217 rfl (lv_at hl 4 rfl) ?_
          refine lv_bipush (v := 17) hx hb dL_texts_218 (by decide) ?_
          refine lr_count (rest := []) (w := 17) S hK hN ht0 ht1 hA hD hW hS htl  (cwV 1 hts gL_texts_X6_count rfl rfl rfl hdv_X6_count ⟨Nat.le_of_ble_eq_true rfl, Nat.le_of_ble_eq_true rfl⟩) rfl hl.1 (Nat.le_of_ble_eq_true rfl) dL_texts_220 ⟨Nat.zero_le _, Nat.zero_le _⟩ (fun H locs hW hS => ?_)
          show W p9 l e9 (eR 20 1000) s9 m9 a9 b9 t9 c9 H locs 0 0 Q (F0 m9 223 ls [.int (couA t u q8 hs.length 17)])
          have hW : SW D cI cT o aT aB aS g y z ad t u hs sn q8 f8 s0 s1 s2 H := hW
          refine ej_topi (show (couA t u q8 hs.length 17) = nI q8 from lkc_17 t u q8 hs.length) ?_
          refine lv_istore (lv' := [(9, .int (nI q8)), (8, .int (T_po u)), (7, .int (T_re u)), (6, .int (nI hs.length)), (4, .long (lookV t u)), (0, .ref (o 0)), (1, .int x), (2, .int (nI N)), (3, .int 1)]) hx hb dL_texts_223 hl (by decide) rfl (fun ls hl => ?_)
          refine lv_aload_n hx hb dL_texts_225 rfl (lv_at hl 5 rfl) ?_
          refine lv_iconst (v := 1) hx hb dL_texts_226 (by decide) ?_
          refine lr_fault1 (rest := [])  S hK hN ht0 ht1 hA hD hW hS htl  (cwV 1 hts gL_texts_X6_fault rfl rfl rfl hdv_X6_fault ⟨Nat.le_of_ble_eq_true rfl, Nat.le_of_ble_eq_true rfl⟩) rfl hl.1 (Nat.le_of_ble_eq_true rfl) dL_texts_227 ⟨Nat.zero_le _, Nat.zero_le _⟩ (fun H locs hW hS => ?_)
          show W p9 l e9 (eR 20 1000) s9 m9 a9 b9 t9 c9 H locs 0 0 Q (F0 m9 230 ls [.int (fsG q8 f8 q8 0 44)])
          have hW : SW D cI cT o aT aB aS g y z ad t u hs sn q8 f8 s0 s1 s2 H := hW
          have hq8 := SW_q hW
          rcases fs_rng q8 f8 q8 0 44 (Nat.zero_add q8) with hff | ⟨j, hj, hff⟩
          · refine ej_topi hff ?_
            have hpp : ptP q8 f8 (m + q8) q8 u (ptG q8 f8 q8 0 0 t u 0 s1 s2) := pt_all (n := q8) (f := f8) q8 0 m t u s1 s2 (Nat.zero_add q8) ho
            obtain ⟨hokp, ⟨d, hd1, hd2⟩, hst⟩ := hpp
            have hok9 : okS (m + 60) (ptG q8 f8 q8 0 0 t u 0 s1 s2).1 (ptG q8 f8 q8 0 0 t u 0 s1 s2).2.1 := okS_up hokp (by omega)
            refine lv_istore (lv' := [(10, .int (-4)), (9, .int (nI q8)), (8, .int (T_po u)), (7, .int (T_re u)), (6, .int (nI hs.length)), (4, .long (lookV t u)), (0, .ref (o 0)), (1, .int x), (2, .int (nI N)), (3, .int 1)]) hx hb dL_texts_230 hl (by decide) rfl (fun ls hl => ?_)
            refine lv_aload_n hx hb dL_texts_232 rfl (lv_at hl 6 rfl) ?_
            refine lr_shots (rest := [])  S hK hN ht0 ht1 hA hD hW hS htl hff (cwV 0 hts gL_texts_X6_shots rfl rfl rfl hdv_X6_shots ⟨Nat.le_of_ble_eq_true rfl, Nat.le_of_ble_eq_true rfl⟩) rfl hl.1 (Nat.le_of_ble_eq_true rfl) dL_texts_233 ⟨Nat.zero_le _, Nat.zero_le _⟩ (fun H locs hW hS => ?_)
            show W p9 l e9 (eR 20 1000) s9 m9 a9 b9 t9 c9 H locs 0 0 Q (F0 m9 236 ls [.int (T_po (ptG q8 f8 q8 0 0 t u 0 s1 s2).2.1 - T_po u)])
            have hW : SW D cI cT o aT aB aS g y z ad ((ptG q8 f8 q8 0 0 t u 0 s1 s2).1) ((ptG q8 f8 q8 0 0 t u 0 s1 s2).2.1) (recL hs (t, u)) sn 0 f8 ((ptG q8 f8 q8 0 0 t u 0 s1 s2).2.2.1) ((ptG q8 f8 q8 0 0 t u 0 s1 s2).2.2.2.1) ((ptG q8 f8 q8 0 0 t u 0 s1 s2).2.2.2.2) H := hW
            refine ej_topi (show T_po (ptG q8 f8 q8 0 0 t u 0 s1 s2).2.1 - T_po u = nI d from by rw [hd2]; exact i32_ad _ _) ?_
            refine lv_istore (lv' := [(11, .int (nI d)), (10, .int (-4)), (9, .int (nI q8)), (8, .int (T_po u)), (7, .int (T_re u)), (6, .int (nI hs.length)), (4, .long (lookV t u)), (0, .ref (o 0)), (1, .int x), (2, .int (nI N)), (3, .int 1)]) hx hb dL_texts_236 hl (by decide) rfl (fun ls hl => ?_)
            refine lv_aload_n hx hb dL_texts_238 rfl (lv_at hl 7 rfl) ?_
            refine lr_clear (rest := [])  S hK hN ht0 ht1 hA hD hW hS hok9.1.1  (cwV 0 hts gL_texts_X6_clear rfl rfl rfl hdv_X6_clear ⟨Nat.le_of_ble_eq_true rfl, Nat.le_of_ble_eq_true rfl⟩) rfl hl.1 (Nat.le_of_ble_eq_true rfl) dL_texts_239 ⟨Nat.zero_le _, Nat.zero_le _⟩ (fun H locs hW hS => ?_)
            show W p9 l e9 (eR 20 1000) s9 m9 a9 b9 t9 c9 H locs 0 0 Q (F0 m9 242 ls [.int (nI 0)])
            have hW : SW D cI cT o aT aB aS g y z ad ((ptG q8 f8 q8 0 0 t u 0 s1 s2).1) ((ptG q8 f8 q8 0 0 t u 0 s1 s2).2.1) (recL hs (t, u)) sn 0 f8 ((ptG q8 f8 q8 0 0 t u 0 s1 s2).2.2.1) ((ptG q8 f8 q8 0 0 t u 0 s1 s2).2.2.2.1) ((ptG q8 f8 q8 0 0 t u 0 s1 s2).2.2.2.2) H := hW
            refine lv_istore (lv' := [(12, .int (nI 0)), (11, .int (nI d)), (10, .int (-4)), (9, .int (nI q8)), (8, .int (T_po u)), (7, .int (T_re u)), (6, .int (nI hs.length)), (4, .long (lookV t u)), (0, .ref (o 0)), (1, .int x), (2, .int (nI N)), (3, .int 1)]) hx hb dL_texts_242 hl (by decide) rfl (fun ls hl => ?_)
            refine lv_iload_n hx hb dL_texts_244 rfl (lv_at hl 11 rfl) ?_
            refine lv_if_eq (tgt := 279) hx hb dL_texts_245 (by decide) (fun h9 => absurd h9 (show ¬ (1 : Int32) = 0 from by decide)) (fun _ => ?_)
            refine lv_iload hx hb dL_texts_248 (lv_at hl 1 rfl) ?_
            refine lv_bipush (v := (-2)) hx hb dL_texts_250 (by decide) ?_
            refine lv_icmp_ne (tgt := 259) hx hb dL_texts_252 (by decide) (fun _ => ?_) (fun h9 => absurd h9 (nI_ne2 (by omega)))
            refine lv_iconst (v := 0) hx hb dL_texts_259 (by decide) ?_
            refine lv_iload hx hb dL_texts_260 (lv_at hl 2 rfl) ?_
            refine lv_bipush (v := (-4)) hx hb dL_texts_262 (by decide) ?_
            refine lv_icmp_eq (tgt := 271) hx hb dL_texts_264 (by decide) (fun _ => ?_) (fun h9 => absurd (show ((-4) : Int32) = (-4) from by decide) h9)
            refine lv_iconst (v := 0) hx hb dL_texts_271 (by decide) ?_
            refine lv_icmp_ne (tgt := 279) hx hb dL_texts_272 (by decide) (fun h9 => absurd (show (0 : Int32) = 0 from by decide) h9) (fun _ => ?_)
            refine lv_iconst (v := 1) hx hb dL_texts_275 (by decide) ?_
            refine lv_goto (tgt := 280) hx hb dL_texts_276 (by decide) ?_
            refine lv_istore (lv' := [(13, .int 1), (12, .int (nI 0)), (11, .int (nI d)), (10, .int (-4)), (9, .int (nI q8)), (8, .int (T_po u)), (7, .int (T_re u)), (6, .int (nI hs.length)), (4, .long (lookV t u)), (0, .ref (o 0)), (1, .int x), (2, .int (nI N)), (3, .int 1)]) hx hb dL_texts_280 hl (by decide) rfl (fun ls hl => ?_)
            refine lv_iload hx hb dL_texts_282 (lv_at hl 2 rfl) ?_
            refine lv_if_ge (tgt := 338) hx hb dL_texts_284 (by decide) (fun _ => ?_) (fun h9 => absurd (ej_le (a := 0) (b := d) (by omega) (show 0 ≤ d from by omega)) h9)
            refine lv_aload_n hx hb dL_texts_338 rfl (lv_at hl 9 rfl) ?_
            refine lv_iconst (v := 0) hx hb dL_texts_339 (by decide) ?_
            refine lr_why (rest := []) (v := 0) S hK hN ht0 ht1 hA hD hW hS hok9.1.1 (by decide) (cwV 1 hts gL_texts_X6_why rfl rfl rfl hdv_X6_why ⟨Nat.le_of_ble_eq_true rfl, Nat.le_of_ble_eq_true rfl⟩) rfl hl.1 (Nat.le_of_ble_eq_true rfl) dL_texts_340 ⟨Nat.zero_le _, Nat.zero_le _⟩ (fun H locs hW hS => ?_)
            show W p9 l e9 (eR 20 1000) s9 m9 a9 b9 t9 c9 H locs 0 0 Q (F0 m9 343 ls [.int (if ((ptG q8 f8 q8 0 0 t u 0 s1 s2).2.2.1) = 0 then -4 else if 0 = 0 then ((ptG q8 f8 q8 0 0 t u 0 s1 s2).2.2.1) else if 0 = 1 then ((ptG q8 f8 q8 0 0 t u 0 s1 s2).2.2.2.1) else ((ptG q8 f8 q8 0 0 t u 0 s1 s2).2.2.2.2))])
            have hW : SW D cI cT o aT aB aS g y z ad ((ptG q8 f8 q8 0 0 t u 0 s1 s2).1) ((ptG q8 f8 q8 0 0 t u 0 s1 s2).2.1) (recL hs (t, u)) sn 0 f8 ((ptG q8 f8 q8 0 0 t u 0 s1 s2).2.2.1) ((ptG q8 f8 q8 0 0 t u 0 s1 s2).2.2.2.1) ((ptG q8 f8 q8 0 0 t u 0 s1 s2).2.2.2.2) H := hW
            refine ej_topi (show (if ((ptG q8 f8 q8 0 0 t u 0 s1 s2).2.2.1) = 0 then -4 else if 0 = 0 then ((ptG q8 f8 q8 0 0 t u 0 s1 s2).2.2.1) else if 0 = 1 then ((ptG q8 f8 q8 0 0 t u 0 s1 s2).2.2.2.1) else ((ptG q8 f8 q8 0 0 t u 0 s1 s2).2.2.2.2)) = (if ((ptG q8 f8 q8 0 0 t u 0 s1 s2).2.2.1) = 0 then -4 else (ptG q8 f8 q8 0 0 t u 0 s1 s2).2.2.1) from rfl) ?_
            rcases hst with ⟨hx0, hre⟩ | ⟨hx1, hre, hle0, pp, ii, hy, hz, hi1, hi2, hi3⟩
            · refine ej_topi (show (if ((ptG q8 f8 q8 0 0 t u 0 s1 s2).2.2.1) = 0 then -4 else (ptG q8 f8 q8 0 0 t u 0 s1 s2).2.2.1) = -4 from if_pos hx0) ?_
              refine lv_istore (lv' := [(14, .int (-4)), (13, .int 1), (12, .int (nI 0)), (11, .int (nI d)), (10, .int (-4)), (9, .int (nI q8)), (8, .int (T_po u)), (7, .int (T_re u)), (6, .int (nI hs.length)), (4, .long (lookV t u)), (0, .ref (o 0)), (1, .int x), (2, .int (nI N)), (3, .int 1)]) hx hb dL_texts_343 hl (by decide) rfl (fun ls hl => ?_)
              refine lv_iload hx hb dL_texts_345 (lv_at hl 1 rfl) ?_
              refine lv_if_eq (tgt := 505) hx hb dL_texts_347 (by decide) (fun h9 => absurd h9 (show ¬ (1 : Int32) = 0 from by decide)) (fun _ => ?_)
              refine lv_iload hx hb dL_texts_350 (lv_at hl 2 rfl) ?_
              refine lv_if_ne (tgt := 505) hx hb dL_texts_352 (by decide) (fun h9 => absurd (congrArg nI (show 0 = 0 from by omega)) h9) (fun _ => ?_)
              refine lv_aload_n hx hb dL_texts_355 rfl (lv_at hl 10 rfl) ?_
              refine lv_bipush (v := 18) hx hb dL_texts_356 (by decide) ?_
              refine lr_count (rest := []) (w := 18) S hK hN ht0 ht1 hA hD hW hS hok9.1.1  (cwV 1 hts gL_texts_X6_count rfl rfl rfl hdv_X6_count ⟨Nat.le_of_ble_eq_true rfl, Nat.le_of_ble_eq_true rfl⟩) rfl hl.1 (Nat.le_of_ble_eq_true rfl) dL_texts_358 ⟨Nat.zero_le _, Nat.zero_le _⟩ (fun H locs hW hS => ?_)
              show W p9 l e9 (eR 20 1000) s9 m9 a9 b9 t9 c9 H locs 0 0 Q (F0 m9 361 ls [.int (couA ((ptG q8 f8 q8 0 0 t u 0 s1 s2).1) ((ptG q8 f8 q8 0 0 t u 0 s1 s2).2.1) 0 (recL hs (t, u)).length 18)])
              have hW : SW D cI cT o aT aB aS g y z ad ((ptG q8 f8 q8 0 0 t u 0 s1 s2).1) ((ptG q8 f8 q8 0 0 t u 0 s1 s2).2.1) (recL hs (t, u)) sn 0 f8 ((ptG q8 f8 q8 0 0 t u 0 s1 s2).2.2.1) ((ptG q8 f8 q8 0 0 t u 0 s1 s2).2.2.2.1) ((ptG q8 f8 q8 0 0 t u 0 s1 s2).2.2.2.2) H := hW
              refine ej_topi (show (couA ((ptG q8 f8 q8 0 0 t u 0 s1 s2).1) ((ptG q8 f8 q8 0 0 t u 0 s1 s2).2.1) 0 (recL hs (t, u)).length 18) = nI ((recL hs (t, u)).length) from lkc_18 ((ptG q8 f8 q8 0 0 t u 0 s1 s2).1) ((ptG q8 f8 q8 0 0 t u 0 s1 s2).2.1) 0 ((recL hs (t, u)).length)) ?_
              refine ej_topi (show (nI ((recL hs (t, u)).length)) = nI (recN hs.length) from (congrArg nI (recL_len (t, u) hn4))) ?_
              refine lv_iload hx hb dL_texts_361 (lv_at hl 8 rfl) ?_
              refine lv_iconst (v := 4) hx hb dL_texts_363 (by decide) ?_
              refine lv_icmp_ge (tgt := 374) hx hb dL_texts_364 (by decide) (fun c_364 => ?_) (fun c_364 => ?_)
              · have n_364 : 4 ≤ hs.length := ej_tle (a := 4) (b := hs.length) (by omega) (by omega) c_364
                refine lv_iconst (v := 4) hx hb dL_texts_374 (by decide) ?_
                refine lv_icmp_ne (tgt := 505) hx hb dL_texts_375 (by decide) (fun h9 => absurd ((congrArg nI (show recN hs.length = 4 from by unfold recN; split <;> omega))) h9) (fun _ => ?_)
                refine lv_aload_n hx hb dL_texts_378 rfl (lv_at hl 10 rfl) ?_
                refine lv_iconst (v := 0) hx hb dL_texts_379 (by decide) ?_
                refine lr_count (rest := []) (w := 0) S hK hN ht0 ht1 hA hD hW hS hok9.1.1  (cwV 1 hts gL_texts_X6_count rfl rfl rfl hdv_X6_count ⟨Nat.le_of_ble_eq_true rfl, Nat.le_of_ble_eq_true rfl⟩) rfl hl.1 (Nat.le_of_ble_eq_true rfl) dL_texts_380 ⟨Nat.zero_le _, Nat.zero_le _⟩ (fun H locs hW hS => ?_)
                show W p9 l e9 (eR 20 1000) s9 m9 a9 b9 t9 c9 H locs 0 0 Q (F0 m9 383 ls [.int (couA ((ptG q8 f8 q8 0 0 t u 0 s1 s2).1) ((ptG q8 f8 q8 0 0 t u 0 s1 s2).2.1) 0 (recL hs (t, u)).length 0)])
                have hW : SW D cI cT o aT aB aS g y z ad ((ptG q8 f8 q8 0 0 t u 0 s1 s2).1) ((ptG q8 f8 q8 0 0 t u 0 s1 s2).2.1) (recL hs (t, u)) sn 0 f8 ((ptG q8 f8 q8 0 0 t u 0 s1 s2).2.2.1) ((ptG q8 f8 q8 0 0 t u 0 s1 s2).2.2.2.1) ((ptG q8 f8 q8 0 0 t u 0 s1 s2).2.2.2.2) H := hW
                refine ej_topi (show (couA ((ptG q8 f8 q8 0 0 t u 0 s1 s2).1) ((ptG q8 f8 q8 0 0 t u 0 s1 s2).2.1) 0 (recL hs (t, u)).length 0) = T_po ((ptG q8 f8 q8 0 0 t u 0 s1 s2).2.1) from lkc_0 ((ptG q8 f8 q8 0 0 t u 0 s1 s2).1) ((ptG q8 f8 q8 0 0 t u 0 s1 s2).2.1) 0 ((recL hs (t, u)).length)) ?_
                refine lv_iload hx hb dL_texts_383 (lv_at hl 6 rfl) ?_
                refine lv_iload hx hb dL_texts_385 (lv_at hl 3 rfl) ?_
                refine lv_iadd hx hb dL_texts_387 ?_
                refine lv_icmp_ne (tgt := 505) hx hb dL_texts_388 (by decide) (fun h9 => absurd (hd2) h9) (fun _ => ?_)
                refine lv_iload hx hb dL_texts_391 (lv_at hl 0 rfl) ?_
                refine lv_bipush (v := (-4)) hx hb dL_texts_393 (by decide) ?_
                refine lv_icmp_ne (tgt := 432) hx hb dL_texts_395 (by decide) (fun h9 => absurd (show ((-4) : Int32) = (-4) from by decide) h9) (fun _ => ?_)
                refine lv_aload_n hx hb dL_texts_398 rfl (lv_at hl 10 rfl) ?_
                refine lv_bipush (v := 14) hx hb dL_texts_399 (by decide) ?_
                refine lr_count (rest := []) (w := 14) S hK hN ht0 ht1 hA hD hW hS hok9.1.1  (cwV 1 hts gL_texts_X6_count rfl rfl rfl hdv_X6_count ⟨Nat.le_of_ble_eq_true rfl, Nat.le_of_ble_eq_true rfl⟩) rfl hl.1 (Nat.le_of_ble_eq_true rfl) dL_texts_401 ⟨Nat.zero_le _, Nat.zero_le _⟩ (fun H locs hW hS => ?_)
                show W p9 l e9 (eR 20 1000) s9 m9 a9 b9 t9 c9 H locs 0 0 Q (F0 m9 404 ls [.int (couA ((ptG q8 f8 q8 0 0 t u 0 s1 s2).1) ((ptG q8 f8 q8 0 0 t u 0 s1 s2).2.1) 0 (recL hs (t, u)).length 14)])
                have hW : SW D cI cT o aT aB aS g y z ad ((ptG q8 f8 q8 0 0 t u 0 s1 s2).1) ((ptG q8 f8 q8 0 0 t u 0 s1 s2).2.1) (recL hs (t, u)) sn 0 f8 ((ptG q8 f8 q8 0 0 t u 0 s1 s2).2.2.1) ((ptG q8 f8 q8 0 0 t u 0 s1 s2).2.2.2.1) ((ptG q8 f8 q8 0 0 t u 0 s1 s2).2.2.2.2) H := hW
                refine ej_topi (show (couA ((ptG q8 f8 q8 0 0 t u 0 s1 s2).1) ((ptG q8 f8 q8 0 0 t u 0 s1 s2).2.1) 0 (recL hs (t, u)).length 14) = T_re ((ptG q8 f8 q8 0 0 t u 0 s1 s2).2.1) from lkc_14 ((ptG q8 f8 q8 0 0 t u 0 s1 s2).1) ((ptG q8 f8 q8 0 0 t u 0 s1 s2).2.1) 0 ((recL hs (t, u)).length)) ?_
                refine lv_iload hx hb dL_texts_404 (lv_at hl 7 rfl) ?_
                refine lv_icmp_ne (tgt := 505) hx hb dL_texts_406 (by decide) (fun h9 => absurd (hre) h9) (fun _ => ?_)
                refine lv_aload_n hx hb dL_texts_409 rfl (lv_at hl 10 rfl) ?_
                refine lv_iconst (v := 1) hx hb dL_texts_410 (by decide) ?_
                refine lr_why (rest := []) (v := 1) S hK hN ht0 ht1 hA hD hW hS hok9.1.1 (by decide) (cwV 1 hts gL_texts_X6_why rfl rfl rfl hdv_X6_why ⟨Nat.le_of_ble_eq_true rfl, Nat.le_of_ble_eq_true rfl⟩) rfl hl.1 (Nat.le_of_ble_eq_true rfl) dL_texts_411 ⟨Nat.zero_le _, Nat.zero_le _⟩ (fun H locs hW hS => ?_)
                show W p9 l e9 (eR 20 1000) s9 m9 a9 b9 t9 c9 H locs 0 0 Q (F0 m9 414 ls [.int (if ((ptG q8 f8 q8 0 0 t u 0 s1 s2).2.2.1) = 0 then -4 else if 1 = 0 then ((ptG q8 f8 q8 0 0 t u 0 s1 s2).2.2.1) else if 1 = 1 then ((ptG q8 f8 q8 0 0 t u 0 s1 s2).2.2.2.1) else ((ptG q8 f8 q8 0 0 t u 0 s1 s2).2.2.2.2))])
                have hW : SW D cI cT o aT aB aS g y z ad ((ptG q8 f8 q8 0 0 t u 0 s1 s2).1) ((ptG q8 f8 q8 0 0 t u 0 s1 s2).2.1) (recL hs (t, u)) sn 0 f8 ((ptG q8 f8 q8 0 0 t u 0 s1 s2).2.2.1) ((ptG q8 f8 q8 0 0 t u 0 s1 s2).2.2.2.1) ((ptG q8 f8 q8 0 0 t u 0 s1 s2).2.2.2.2) H := hW
                refine ej_topi (show (if ((ptG q8 f8 q8 0 0 t u 0 s1 s2).2.2.1) = 0 then -4 else if 1 = 0 then ((ptG q8 f8 q8 0 0 t u 0 s1 s2).2.2.1) else if 1 = 1 then ((ptG q8 f8 q8 0 0 t u 0 s1 s2).2.2.2.1) else ((ptG q8 f8 q8 0 0 t u 0 s1 s2).2.2.2.2)) = (if ((ptG q8 f8 q8 0 0 t u 0 s1 s2).2.2.1) = 0 then -4 else (ptG q8 f8 q8 0 0 t u 0 s1 s2).2.2.2.1) from rfl) ?_
                refine ej_topi (show (if ((ptG q8 f8 q8 0 0 t u 0 s1 s2).2.2.1) = 0 then -4 else (ptG q8 f8 q8 0 0 t u 0 s1 s2).2.2.2.1) = (-4) from (if_pos hx0)) ?_
                refine lv_bipush (v := (-4)) hx hb dL_texts_414 (by decide) ?_
                refine lv_icmp_ne (tgt := 505) hx hb dL_texts_416 (by decide) (fun h9 => absurd (show ((-4) : Int32) = (-4) from by decide) h9) (fun _ => ?_)
                refine lv_aload_n hx hb dL_texts_419 rfl (lv_at hl 10 rfl) ?_
                refine lv_iconst (v := 2) hx hb dL_texts_420 (by decide) ?_
                refine lr_why (rest := []) (v := 2) S hK hN ht0 ht1 hA hD hW hS hok9.1.1 (by decide) (cwV 1 hts gL_texts_X6_why rfl rfl rfl hdv_X6_why ⟨Nat.le_of_ble_eq_true rfl, Nat.le_of_ble_eq_true rfl⟩) rfl hl.1 (Nat.le_of_ble_eq_true rfl) dL_texts_421 ⟨Nat.zero_le _, Nat.zero_le _⟩ (fun H locs hW hS => ?_)
                show W p9 l e9 (eR 20 1000) s9 m9 a9 b9 t9 c9 H locs 0 0 Q (F0 m9 424 ls [.int (if ((ptG q8 f8 q8 0 0 t u 0 s1 s2).2.2.1) = 0 then -4 else if 2 = 0 then ((ptG q8 f8 q8 0 0 t u 0 s1 s2).2.2.1) else if 2 = 1 then ((ptG q8 f8 q8 0 0 t u 0 s1 s2).2.2.2.1) else ((ptG q8 f8 q8 0 0 t u 0 s1 s2).2.2.2.2))])
                have hW : SW D cI cT o aT aB aS g y z ad ((ptG q8 f8 q8 0 0 t u 0 s1 s2).1) ((ptG q8 f8 q8 0 0 t u 0 s1 s2).2.1) (recL hs (t, u)) sn 0 f8 ((ptG q8 f8 q8 0 0 t u 0 s1 s2).2.2.1) ((ptG q8 f8 q8 0 0 t u 0 s1 s2).2.2.2.1) ((ptG q8 f8 q8 0 0 t u 0 s1 s2).2.2.2.2) H := hW
                refine ej_topi (show (if ((ptG q8 f8 q8 0 0 t u 0 s1 s2).2.2.1) = 0 then -4 else if 2 = 0 then ((ptG q8 f8 q8 0 0 t u 0 s1 s2).2.2.1) else if 2 = 1 then ((ptG q8 f8 q8 0 0 t u 0 s1 s2).2.2.2.1) else ((ptG q8 f8 q8 0 0 t u 0 s1 s2).2.2.2.2)) = (if ((ptG q8 f8 q8 0 0 t u 0 s1 s2).2.2.1) = 0 then -4 else (ptG q8 f8 q8 0 0 t u 0 s1 s2).2.2.2.2) from rfl) ?_
                refine ej_topi (show (if ((ptG q8 f8 q8 0 0 t u 0 s1 s2).2.2.1) = 0 then -4 else (ptG q8 f8 q8 0 0 t u 0 s1 s2).2.2.2.2) = (-4) from (if_pos hx0)) ?_
                refine lv_bipush (v := (-4)) hx hb dL_texts_424 (by decide) ?_
                refine lv_icmp_ne (tgt := 505) hx hb dL_texts_426 (by decide) (fun h9 => absurd (show ((-4) : Int32) = (-4) from by decide) h9) (fun _ => ?_)
                refine lv_goto (tgt := 501) hx hb dL_texts_429 (by decide) ?_
                refine lv_iconst (v := 1) hx hb dL_texts_501 (by decide) ?_
                refine lv_goto (tgt := 506) hx hb dL_texts_502 (by decide) ?_
                exact hQ _ _ _ _ _ _ _ _ _ _ _ _ _ dL_texts_506 rfl (by exact ⟨rfl, hok9, Or.inr rfl⟩) hW hS
              · have n_364 : hs.length < 4 := ej_tnle (a := 4) (b := hs.length) (by omega) (by omega) c_364
                refine lv_iload hx hb dL_texts_367 (lv_at hl 8 rfl) ?_
                refine lv_iconst (v := 1) hx hb dL_texts_369 (by decide) ?_
                refine lv_iadd hx hb dL_texts_370 ?_
                refine ej_topi (show (nI hs.length) + 1 = nI (hs.length + 1) from nI_add hs.length 1) ?_
                refine lv_goto (tgt := 375) hx hb dL_texts_371 (by decide) ?_
                refine lv_icmp_ne (tgt := 505) hx hb dL_texts_375 (by decide) (fun h9 => absurd ((congrArg nI (show recN hs.length = hs.length + 1 from by unfold recN; split <;> omega))) h9) (fun _ => ?_)
                refine lv_aload_n hx hb dL_texts_378 rfl (lv_at hl 10 rfl) ?_
                refine lv_iconst (v := 0) hx hb dL_texts_379 (by decide) ?_
                refine lr_count (rest := []) (w := 0) S hK hN ht0 ht1 hA hD hW hS hok9.1.1  (cwV 1 hts gL_texts_X6_count rfl rfl rfl hdv_X6_count ⟨Nat.le_of_ble_eq_true rfl, Nat.le_of_ble_eq_true rfl⟩) rfl hl.1 (Nat.le_of_ble_eq_true rfl) dL_texts_380 ⟨Nat.zero_le _, Nat.zero_le _⟩ (fun H locs hW hS => ?_)
                show W p9 l e9 (eR 20 1000) s9 m9 a9 b9 t9 c9 H locs 0 0 Q (F0 m9 383 ls [.int (couA ((ptG q8 f8 q8 0 0 t u 0 s1 s2).1) ((ptG q8 f8 q8 0 0 t u 0 s1 s2).2.1) 0 (recL hs (t, u)).length 0)])
                have hW : SW D cI cT o aT aB aS g y z ad ((ptG q8 f8 q8 0 0 t u 0 s1 s2).1) ((ptG q8 f8 q8 0 0 t u 0 s1 s2).2.1) (recL hs (t, u)) sn 0 f8 ((ptG q8 f8 q8 0 0 t u 0 s1 s2).2.2.1) ((ptG q8 f8 q8 0 0 t u 0 s1 s2).2.2.2.1) ((ptG q8 f8 q8 0 0 t u 0 s1 s2).2.2.2.2) H := hW
                refine ej_topi (show (couA ((ptG q8 f8 q8 0 0 t u 0 s1 s2).1) ((ptG q8 f8 q8 0 0 t u 0 s1 s2).2.1) 0 (recL hs (t, u)).length 0) = T_po ((ptG q8 f8 q8 0 0 t u 0 s1 s2).2.1) from lkc_0 ((ptG q8 f8 q8 0 0 t u 0 s1 s2).1) ((ptG q8 f8 q8 0 0 t u 0 s1 s2).2.1) 0 ((recL hs (t, u)).length)) ?_
                refine lv_iload hx hb dL_texts_383 (lv_at hl 6 rfl) ?_
                refine lv_iload hx hb dL_texts_385 (lv_at hl 3 rfl) ?_
                refine lv_iadd hx hb dL_texts_387 ?_
                refine lv_icmp_ne (tgt := 505) hx hb dL_texts_388 (by decide) (fun h9 => absurd (hd2) h9) (fun _ => ?_)
                refine lv_iload hx hb dL_texts_391 (lv_at hl 0 rfl) ?_
                refine lv_bipush (v := (-4)) hx hb dL_texts_393 (by decide) ?_
                refine lv_icmp_ne (tgt := 432) hx hb dL_texts_395 (by decide) (fun h9 => absurd (show ((-4) : Int32) = (-4) from by decide) h9) (fun _ => ?_)
                refine lv_aload_n hx hb dL_texts_398 rfl (lv_at hl 10 rfl) ?_
                refine lv_bipush (v := 14) hx hb dL_texts_399 (by decide) ?_
                refine lr_count (rest := []) (w := 14) S hK hN ht0 ht1 hA hD hW hS hok9.1.1  (cwV 1 hts gL_texts_X6_count rfl rfl rfl hdv_X6_count ⟨Nat.le_of_ble_eq_true rfl, Nat.le_of_ble_eq_true rfl⟩) rfl hl.1 (Nat.le_of_ble_eq_true rfl) dL_texts_401 ⟨Nat.zero_le _, Nat.zero_le _⟩ (fun H locs hW hS => ?_)
                show W p9 l e9 (eR 20 1000) s9 m9 a9 b9 t9 c9 H locs 0 0 Q (F0 m9 404 ls [.int (couA ((ptG q8 f8 q8 0 0 t u 0 s1 s2).1) ((ptG q8 f8 q8 0 0 t u 0 s1 s2).2.1) 0 (recL hs (t, u)).length 14)])
                have hW : SW D cI cT o aT aB aS g y z ad ((ptG q8 f8 q8 0 0 t u 0 s1 s2).1) ((ptG q8 f8 q8 0 0 t u 0 s1 s2).2.1) (recL hs (t, u)) sn 0 f8 ((ptG q8 f8 q8 0 0 t u 0 s1 s2).2.2.1) ((ptG q8 f8 q8 0 0 t u 0 s1 s2).2.2.2.1) ((ptG q8 f8 q8 0 0 t u 0 s1 s2).2.2.2.2) H := hW
                refine ej_topi (show (couA ((ptG q8 f8 q8 0 0 t u 0 s1 s2).1) ((ptG q8 f8 q8 0 0 t u 0 s1 s2).2.1) 0 (recL hs (t, u)).length 14) = T_re ((ptG q8 f8 q8 0 0 t u 0 s1 s2).2.1) from lkc_14 ((ptG q8 f8 q8 0 0 t u 0 s1 s2).1) ((ptG q8 f8 q8 0 0 t u 0 s1 s2).2.1) 0 ((recL hs (t, u)).length)) ?_
                refine lv_iload hx hb dL_texts_404 (lv_at hl 7 rfl) ?_
                refine lv_icmp_ne (tgt := 505) hx hb dL_texts_406 (by decide) (fun h9 => absurd (hre) h9) (fun _ => ?_)
                refine lv_aload_n hx hb dL_texts_409 rfl (lv_at hl 10 rfl) ?_
                refine lv_iconst (v := 1) hx hb dL_texts_410 (by decide) ?_
                refine lr_why (rest := []) (v := 1) S hK hN ht0 ht1 hA hD hW hS hok9.1.1 (by decide) (cwV 1 hts gL_texts_X6_why rfl rfl rfl hdv_X6_why ⟨Nat.le_of_ble_eq_true rfl, Nat.le_of_ble_eq_true rfl⟩) rfl hl.1 (Nat.le_of_ble_eq_true rfl) dL_texts_411 ⟨Nat.zero_le _, Nat.zero_le _⟩ (fun H locs hW hS => ?_)
                show W p9 l e9 (eR 20 1000) s9 m9 a9 b9 t9 c9 H locs 0 0 Q (F0 m9 414 ls [.int (if ((ptG q8 f8 q8 0 0 t u 0 s1 s2).2.2.1) = 0 then -4 else if 1 = 0 then ((ptG q8 f8 q8 0 0 t u 0 s1 s2).2.2.1) else if 1 = 1 then ((ptG q8 f8 q8 0 0 t u 0 s1 s2).2.2.2.1) else ((ptG q8 f8 q8 0 0 t u 0 s1 s2).2.2.2.2))])
                have hW : SW D cI cT o aT aB aS g y z ad ((ptG q8 f8 q8 0 0 t u 0 s1 s2).1) ((ptG q8 f8 q8 0 0 t u 0 s1 s2).2.1) (recL hs (t, u)) sn 0 f8 ((ptG q8 f8 q8 0 0 t u 0 s1 s2).2.2.1) ((ptG q8 f8 q8 0 0 t u 0 s1 s2).2.2.2.1) ((ptG q8 f8 q8 0 0 t u 0 s1 s2).2.2.2.2) H := hW
                refine ej_topi (show (if ((ptG q8 f8 q8 0 0 t u 0 s1 s2).2.2.1) = 0 then -4 else if 1 = 0 then ((ptG q8 f8 q8 0 0 t u 0 s1 s2).2.2.1) else if 1 = 1 then ((ptG q8 f8 q8 0 0 t u 0 s1 s2).2.2.2.1) else ((ptG q8 f8 q8 0 0 t u 0 s1 s2).2.2.2.2)) = (if ((ptG q8 f8 q8 0 0 t u 0 s1 s2).2.2.1) = 0 then -4 else (ptG q8 f8 q8 0 0 t u 0 s1 s2).2.2.2.1) from rfl) ?_
                refine ej_topi (show (if ((ptG q8 f8 q8 0 0 t u 0 s1 s2).2.2.1) = 0 then -4 else (ptG q8 f8 q8 0 0 t u 0 s1 s2).2.2.2.1) = (-4) from (if_pos hx0)) ?_
                refine lv_bipush (v := (-4)) hx hb dL_texts_414 (by decide) ?_
                refine lv_icmp_ne (tgt := 505) hx hb dL_texts_416 (by decide) (fun h9 => absurd (show ((-4) : Int32) = (-4) from by decide) h9) (fun _ => ?_)
                refine lv_aload_n hx hb dL_texts_419 rfl (lv_at hl 10 rfl) ?_
                refine lv_iconst (v := 2) hx hb dL_texts_420 (by decide) ?_
                refine lr_why (rest := []) (v := 2) S hK hN ht0 ht1 hA hD hW hS hok9.1.1 (by decide) (cwV 1 hts gL_texts_X6_why rfl rfl rfl hdv_X6_why ⟨Nat.le_of_ble_eq_true rfl, Nat.le_of_ble_eq_true rfl⟩) rfl hl.1 (Nat.le_of_ble_eq_true rfl) dL_texts_421 ⟨Nat.zero_le _, Nat.zero_le _⟩ (fun H locs hW hS => ?_)
                show W p9 l e9 (eR 20 1000) s9 m9 a9 b9 t9 c9 H locs 0 0 Q (F0 m9 424 ls [.int (if ((ptG q8 f8 q8 0 0 t u 0 s1 s2).2.2.1) = 0 then -4 else if 2 = 0 then ((ptG q8 f8 q8 0 0 t u 0 s1 s2).2.2.1) else if 2 = 1 then ((ptG q8 f8 q8 0 0 t u 0 s1 s2).2.2.2.1) else ((ptG q8 f8 q8 0 0 t u 0 s1 s2).2.2.2.2))])
                have hW : SW D cI cT o aT aB aS g y z ad ((ptG q8 f8 q8 0 0 t u 0 s1 s2).1) ((ptG q8 f8 q8 0 0 t u 0 s1 s2).2.1) (recL hs (t, u)) sn 0 f8 ((ptG q8 f8 q8 0 0 t u 0 s1 s2).2.2.1) ((ptG q8 f8 q8 0 0 t u 0 s1 s2).2.2.2.1) ((ptG q8 f8 q8 0 0 t u 0 s1 s2).2.2.2.2) H := hW
                refine ej_topi (show (if ((ptG q8 f8 q8 0 0 t u 0 s1 s2).2.2.1) = 0 then -4 else if 2 = 0 then ((ptG q8 f8 q8 0 0 t u 0 s1 s2).2.2.1) else if 2 = 1 then ((ptG q8 f8 q8 0 0 t u 0 s1 s2).2.2.2.1) else ((ptG q8 f8 q8 0 0 t u 0 s1 s2).2.2.2.2)) = (if ((ptG q8 f8 q8 0 0 t u 0 s1 s2).2.2.1) = 0 then -4 else (ptG q8 f8 q8 0 0 t u 0 s1 s2).2.2.2.2) from rfl) ?_
                refine ej_topi (show (if ((ptG q8 f8 q8 0 0 t u 0 s1 s2).2.2.1) = 0 then -4 else (ptG q8 f8 q8 0 0 t u 0 s1 s2).2.2.2.2) = (-4) from (if_pos hx0)) ?_
                refine lv_bipush (v := (-4)) hx hb dL_texts_424 (by decide) ?_
                refine lv_icmp_ne (tgt := 505) hx hb dL_texts_426 (by decide) (fun h9 => absurd (show ((-4) : Int32) = (-4) from by decide) h9) (fun _ => ?_)
                refine lv_goto (tgt := 501) hx hb dL_texts_429 (by decide) ?_
                refine lv_iconst (v := 1) hx hb dL_texts_501 (by decide) ?_
                refine lv_goto (tgt := 506) hx hb dL_texts_502 (by decide) ?_
                exact hQ _ _ _ _ _ _ _ _ _ _ _ _ _ dL_texts_506 rfl (by exact ⟨rfl, hok9, Or.inr rfl⟩) hW hS
            · have hxn : ¬ (ptG q8 f8 q8 0 0 t u 0 s1 s2).2.2.1 = 0 := by rw [hx1]; decide
              have hpn := hpt ii hi1 hi2
              have hp2 := fs_half hq8 hff ii (Nat.le_of_lt hi1)
              refine ej_topi (show (if ((ptG q8 f8 q8 0 0 t u 0 s1 s2).2.2.1) = 0 then -4 else (ptG q8 f8 q8 0 0 t u 0 s1 s2).2.2.1) = 1 from (if_neg hxn).trans hx1) ?_
              refine lv_istore (lv' := [(14, .int 1), (13, .int 1), (12, .int (nI 0)), (11, .int (nI d)), (10, .int (-4)), (9, .int (nI q8)), (8, .int (T_po u)), (7, .int (T_re u)), (6, .int (nI hs.length)), (4, .long (lookV t u)), (0, .ref (o 0)), (1, .int x), (2, .int (nI N)), (3, .int 1)]) hx hb dL_texts_343 hl (by decide) rfl (fun ls hl => ?_)
              refine lv_iload hx hb dL_texts_345 (lv_at hl 1 rfl) ?_
              refine lv_if_eq (tgt := 505) hx hb dL_texts_347 (by decide) (fun h9 => absurd h9 (show ¬ (1 : Int32) = 0 from by decide)) (fun _ => ?_)
              refine lv_iload hx hb dL_texts_350 (lv_at hl 2 rfl) ?_
              refine lv_if_ne (tgt := 505) hx hb dL_texts_352 (by decide) (fun h9 => absurd (congrArg nI (show 0 = 0 from by omega)) h9) (fun _ => ?_)
              refine lv_aload_n hx hb dL_texts_355 rfl (lv_at hl 10 rfl) ?_
              refine lv_bipush (v := 18) hx hb dL_texts_356 (by decide) ?_
              refine lr_count (rest := []) (w := 18) S hK hN ht0 ht1 hA hD hW hS hok9.1.1  (cwV 1 hts gL_texts_X6_count rfl rfl rfl hdv_X6_count ⟨Nat.le_of_ble_eq_true rfl, Nat.le_of_ble_eq_true rfl⟩) rfl hl.1 (Nat.le_of_ble_eq_true rfl) dL_texts_358 ⟨Nat.zero_le _, Nat.zero_le _⟩ (fun H locs hW hS => ?_)
              show W p9 l e9 (eR 20 1000) s9 m9 a9 b9 t9 c9 H locs 0 0 Q (F0 m9 361 ls [.int (couA ((ptG q8 f8 q8 0 0 t u 0 s1 s2).1) ((ptG q8 f8 q8 0 0 t u 0 s1 s2).2.1) 0 (recL hs (t, u)).length 18)])
              have hW : SW D cI cT o aT aB aS g y z ad ((ptG q8 f8 q8 0 0 t u 0 s1 s2).1) ((ptG q8 f8 q8 0 0 t u 0 s1 s2).2.1) (recL hs (t, u)) sn 0 f8 ((ptG q8 f8 q8 0 0 t u 0 s1 s2).2.2.1) ((ptG q8 f8 q8 0 0 t u 0 s1 s2).2.2.2.1) ((ptG q8 f8 q8 0 0 t u 0 s1 s2).2.2.2.2) H := hW
              refine ej_topi (show (couA ((ptG q8 f8 q8 0 0 t u 0 s1 s2).1) ((ptG q8 f8 q8 0 0 t u 0 s1 s2).2.1) 0 (recL hs (t, u)).length 18) = nI ((recL hs (t, u)).length) from lkc_18 ((ptG q8 f8 q8 0 0 t u 0 s1 s2).1) ((ptG q8 f8 q8 0 0 t u 0 s1 s2).2.1) 0 ((recL hs (t, u)).length)) ?_
              refine ej_topi (show (nI ((recL hs (t, u)).length)) = nI (recN hs.length) from (congrArg nI (recL_len (t, u) hn4))) ?_
              refine lv_iload hx hb dL_texts_361 (lv_at hl 8 rfl) ?_
              refine lv_iconst (v := 4) hx hb dL_texts_363 (by decide) ?_
              refine lv_icmp_ge (tgt := 374) hx hb dL_texts_364 (by decide) (fun c_364 => ?_) (fun c_364 => ?_)
              · have n_364 : 4 ≤ hs.length := ej_tle (a := 4) (b := hs.length) (by omega) (by omega) c_364
                refine lv_iconst (v := 4) hx hb dL_texts_374 (by decide) ?_
                refine lv_icmp_ne (tgt := 505) hx hb dL_texts_375 (by decide) (fun h9 => absurd ((congrArg nI (show recN hs.length = 4 from by unfold recN; split <;> omega))) h9) (fun _ => ?_)
                refine lv_aload_n hx hb dL_texts_378 rfl (lv_at hl 10 rfl) ?_
                refine lv_iconst (v := 0) hx hb dL_texts_379 (by decide) ?_
                refine lr_count (rest := []) (w := 0) S hK hN ht0 ht1 hA hD hW hS hok9.1.1  (cwV 1 hts gL_texts_X6_count rfl rfl rfl hdv_X6_count ⟨Nat.le_of_ble_eq_true rfl, Nat.le_of_ble_eq_true rfl⟩) rfl hl.1 (Nat.le_of_ble_eq_true rfl) dL_texts_380 ⟨Nat.zero_le _, Nat.zero_le _⟩ (fun H locs hW hS => ?_)
                show W p9 l e9 (eR 20 1000) s9 m9 a9 b9 t9 c9 H locs 0 0 Q (F0 m9 383 ls [.int (couA ((ptG q8 f8 q8 0 0 t u 0 s1 s2).1) ((ptG q8 f8 q8 0 0 t u 0 s1 s2).2.1) 0 (recL hs (t, u)).length 0)])
                have hW : SW D cI cT o aT aB aS g y z ad ((ptG q8 f8 q8 0 0 t u 0 s1 s2).1) ((ptG q8 f8 q8 0 0 t u 0 s1 s2).2.1) (recL hs (t, u)) sn 0 f8 ((ptG q8 f8 q8 0 0 t u 0 s1 s2).2.2.1) ((ptG q8 f8 q8 0 0 t u 0 s1 s2).2.2.2.1) ((ptG q8 f8 q8 0 0 t u 0 s1 s2).2.2.2.2) H := hW
                refine ej_topi (show (couA ((ptG q8 f8 q8 0 0 t u 0 s1 s2).1) ((ptG q8 f8 q8 0 0 t u 0 s1 s2).2.1) 0 (recL hs (t, u)).length 0) = T_po ((ptG q8 f8 q8 0 0 t u 0 s1 s2).2.1) from lkc_0 ((ptG q8 f8 q8 0 0 t u 0 s1 s2).1) ((ptG q8 f8 q8 0 0 t u 0 s1 s2).2.1) 0 ((recL hs (t, u)).length)) ?_
                refine lv_iload hx hb dL_texts_383 (lv_at hl 6 rfl) ?_
                refine lv_iload hx hb dL_texts_385 (lv_at hl 3 rfl) ?_
                refine lv_iadd hx hb dL_texts_387 ?_
                refine lv_icmp_ne (tgt := 505) hx hb dL_texts_388 (by decide) (fun h9 => absurd (hd2) h9) (fun _ => ?_)
                refine lv_iload hx hb dL_texts_391 (lv_at hl 0 rfl) ?_
                refine lv_bipush (v := (-4)) hx hb dL_texts_393 (by decide) ?_
                refine lv_icmp_ne (tgt := 432) hx hb dL_texts_395 (by decide) (fun _ => ?_) (fun h9 => absurd h9 (show ¬ (1 : Int32) = (-4) from by decide))
                refine lv_iload hx hb dL_texts_432 (lv_at hl 0 rfl) ?_
                refine lv_iconst (v := 1) hx hb dL_texts_434 (by decide) ?_
                refine lv_icmp_ne (tgt := 505) hx hb dL_texts_435 (by decide) (fun h9 => absurd (show (1 : Int32) = 1 from by decide) h9) (fun _ => ?_)
                refine lv_aload_n hx hb dL_texts_438 rfl (lv_at hl 10 rfl) ?_
                refine lv_bipush (v := 14) hx hb dL_texts_439 (by decide) ?_
                refine lr_count (rest := []) (w := 14) S hK hN ht0 ht1 hA hD hW hS hok9.1.1  (cwV 1 hts gL_texts_X6_count rfl rfl rfl hdv_X6_count ⟨Nat.le_of_ble_eq_true rfl, Nat.le_of_ble_eq_true rfl⟩) rfl hl.1 (Nat.le_of_ble_eq_true rfl) dL_texts_441 ⟨Nat.zero_le _, Nat.zero_le _⟩ (fun H locs hW hS => ?_)
                show W p9 l e9 (eR 20 1000) s9 m9 a9 b9 t9 c9 H locs 0 0 Q (F0 m9 444 ls [.int (couA ((ptG q8 f8 q8 0 0 t u 0 s1 s2).1) ((ptG q8 f8 q8 0 0 t u 0 s1 s2).2.1) 0 (recL hs (t, u)).length 14)])
                have hW : SW D cI cT o aT aB aS g y z ad ((ptG q8 f8 q8 0 0 t u 0 s1 s2).1) ((ptG q8 f8 q8 0 0 t u 0 s1 s2).2.1) (recL hs (t, u)) sn 0 f8 ((ptG q8 f8 q8 0 0 t u 0 s1 s2).2.2.1) ((ptG q8 f8 q8 0 0 t u 0 s1 s2).2.2.2.1) ((ptG q8 f8 q8 0 0 t u 0 s1 s2).2.2.2.2) H := hW
                refine ej_topi (show (couA ((ptG q8 f8 q8 0 0 t u 0 s1 s2).1) ((ptG q8 f8 q8 0 0 t u 0 s1 s2).2.1) 0 (recL hs (t, u)).length 14) = T_re ((ptG q8 f8 q8 0 0 t u 0 s1 s2).2.1) from lkc_14 ((ptG q8 f8 q8 0 0 t u 0 s1 s2).1) ((ptG q8 f8 q8 0 0 t u 0 s1 s2).2.1) 0 ((recL hs (t, u)).length)) ?_
                refine lv_iload hx hb dL_texts_444 (lv_at hl 7 rfl) ?_
                refine lv_iconst (v := 1) hx hb dL_texts_446 (by decide) ?_
                refine lv_iadd hx hb dL_texts_447 ?_
                refine lv_icmp_ne (tgt := 505) hx hb dL_texts_448 (by decide) (fun h9 => absurd (hre) h9) (fun _ => ?_)
                refine lv_aload_n hx hb dL_texts_451 rfl (lv_at hl 10 rfl) ?_
                refine lv_iconst (v := 1) hx hb dL_texts_452 (by decide) ?_
                refine lr_count (rest := []) (w := 1) S hK hN ht0 ht1 hA hD hW hS hok9.1.1  (cwV 1 hts gL_texts_X6_count rfl rfl rfl hdv_X6_count ⟨Nat.le_of_ble_eq_true rfl, Nat.le_of_ble_eq_true rfl⟩) rfl hl.1 (Nat.le_of_ble_eq_true rfl) dL_texts_453 ⟨Nat.zero_le _, Nat.zero_le _⟩ (fun H locs hW hS => ?_)
                show W p9 l e9 (eR 20 1000) s9 m9 a9 b9 t9 c9 H locs 0 0 Q (F0 m9 456 ls [.int (couA ((ptG q8 f8 q8 0 0 t u 0 s1 s2).1) ((ptG q8 f8 q8 0 0 t u 0 s1 s2).2.1) 0 (recL hs (t, u)).length 1)])
                have hW : SW D cI cT o aT aB aS g y z ad ((ptG q8 f8 q8 0 0 t u 0 s1 s2).1) ((ptG q8 f8 q8 0 0 t u 0 s1 s2).2.1) (recL hs (t, u)) sn 0 f8 ((ptG q8 f8 q8 0 0 t u 0 s1 s2).2.2.1) ((ptG q8 f8 q8 0 0 t u 0 s1 s2).2.2.2.1) ((ptG q8 f8 q8 0 0 t u 0 s1 s2).2.2.2.2) H := hW
                refine ej_topi (show (couA ((ptG q8 f8 q8 0 0 t u 0 s1 s2).1) ((ptG q8 f8 q8 0 0 t u 0 s1 s2).2.1) 0 (recL hs (t, u)).length 1) = T_le ((ptG q8 f8 q8 0 0 t u 0 s1 s2).2.1) from lkc_1 ((ptG q8 f8 q8 0 0 t u 0 s1 s2).1) ((ptG q8 f8 q8 0 0 t u 0 s1 s2).2.1) 0 ((recL hs (t, u)).length)) ?_
                refine ej_topi (show (T_le ((ptG q8 f8 q8 0 0 t u 0 s1 s2).2.1)) = 0 from hle0) ?_
                refine lv_if_ne (tgt := 505) hx hb dL_texts_456 (by decide) (fun h9 => absurd (show (0 : Int32) = 0 from by decide) h9) (fun _ => ?_)
                refine lv_aload_n hx hb dL_texts_459 rfl (lv_at hl 10 rfl) ?_
                refine lv_iconst (v := 1) hx hb dL_texts_460 (by decide) ?_
                refine lr_why (rest := []) (v := 1) S hK hN ht0 ht1 hA hD hW hS hok9.1.1 (by decide) (cwV 1 hts gL_texts_X6_why rfl rfl rfl hdv_X6_why ⟨Nat.le_of_ble_eq_true rfl, Nat.le_of_ble_eq_true rfl⟩) rfl hl.1 (Nat.le_of_ble_eq_true rfl) dL_texts_461 ⟨Nat.zero_le _, Nat.zero_le _⟩ (fun H locs hW hS => ?_)
                show W p9 l e9 (eR 20 1000) s9 m9 a9 b9 t9 c9 H locs 0 0 Q (F0 m9 464 ls [.int (if ((ptG q8 f8 q8 0 0 t u 0 s1 s2).2.2.1) = 0 then -4 else if 1 = 0 then ((ptG q8 f8 q8 0 0 t u 0 s1 s2).2.2.1) else if 1 = 1 then ((ptG q8 f8 q8 0 0 t u 0 s1 s2).2.2.2.1) else ((ptG q8 f8 q8 0 0 t u 0 s1 s2).2.2.2.2))])
                have hW : SW D cI cT o aT aB aS g y z ad ((ptG q8 f8 q8 0 0 t u 0 s1 s2).1) ((ptG q8 f8 q8 0 0 t u 0 s1 s2).2.1) (recL hs (t, u)) sn 0 f8 ((ptG q8 f8 q8 0 0 t u 0 s1 s2).2.2.1) ((ptG q8 f8 q8 0 0 t u 0 s1 s2).2.2.2.1) ((ptG q8 f8 q8 0 0 t u 0 s1 s2).2.2.2.2) H := hW
                refine ej_topi (show (if ((ptG q8 f8 q8 0 0 t u 0 s1 s2).2.2.1) = 0 then -4 else if 1 = 0 then ((ptG q8 f8 q8 0 0 t u 0 s1 s2).2.2.1) else if 1 = 1 then ((ptG q8 f8 q8 0 0 t u 0 s1 s2).2.2.2.1) else ((ptG q8 f8 q8 0 0 t u 0 s1 s2).2.2.2.2)) = (if ((ptG q8 f8 q8 0 0 t u 0 s1 s2).2.2.1) = 0 then -4 else (ptG q8 f8 q8 0 0 t u 0 s1 s2).2.2.2.1) from rfl) ?_
                refine ej_topi (show (if ((ptG q8 f8 q8 0 0 t u 0 s1 s2).2.2.1) = 0 then -4 else (ptG q8 f8 q8 0 0 t u 0 s1 s2).2.2.2.1) = nI pp from ((if_neg hxn).trans hy)) ?_
                refine lv_if_lt (tgt := 505) hx hb dL_texts_464 (by decide) (fun h9 => absurd h9 (ej_nlt (a := pp) (b := 0) (by omega) (show 0 ≤ pp from by omega))) (fun _ => ?_)
                refine lv_aload_n hx hb dL_texts_467 rfl (lv_at hl 10 rfl) ?_
                refine lv_iconst (v := 1) hx hb dL_texts_468 (by decide) ?_
                refine lr_why (rest := []) (v := 1) S hK hN ht0 ht1 hA hD hW hS hok9.1.1 (by decide) (cwV 1 hts gL_texts_X6_why rfl rfl rfl hdv_X6_why ⟨Nat.le_of_ble_eq_true rfl, Nat.le_of_ble_eq_true rfl⟩) rfl hl.1 (Nat.le_of_ble_eq_true rfl) dL_texts_469 ⟨Nat.zero_le _, Nat.zero_le _⟩ (fun H locs hW hS => ?_)
                show W p9 l e9 (eR 20 1000) s9 m9 a9 b9 t9 c9 H locs 0 0 Q (F0 m9 472 ls [.int (if ((ptG q8 f8 q8 0 0 t u 0 s1 s2).2.2.1) = 0 then -4 else if 1 = 0 then ((ptG q8 f8 q8 0 0 t u 0 s1 s2).2.2.1) else if 1 = 1 then ((ptG q8 f8 q8 0 0 t u 0 s1 s2).2.2.2.1) else ((ptG q8 f8 q8 0 0 t u 0 s1 s2).2.2.2.2))])
                have hW : SW D cI cT o aT aB aS g y z ad ((ptG q8 f8 q8 0 0 t u 0 s1 s2).1) ((ptG q8 f8 q8 0 0 t u 0 s1 s2).2.1) (recL hs (t, u)) sn 0 f8 ((ptG q8 f8 q8 0 0 t u 0 s1 s2).2.2.1) ((ptG q8 f8 q8 0 0 t u 0 s1 s2).2.2.2.1) ((ptG q8 f8 q8 0 0 t u 0 s1 s2).2.2.2.2) H := hW
                refine ej_topi (show (if ((ptG q8 f8 q8 0 0 t u 0 s1 s2).2.2.1) = 0 then -4 else if 1 = 0 then ((ptG q8 f8 q8 0 0 t u 0 s1 s2).2.2.1) else if 1 = 1 then ((ptG q8 f8 q8 0 0 t u 0 s1 s2).2.2.2.1) else ((ptG q8 f8 q8 0 0 t u 0 s1 s2).2.2.2.2)) = (if ((ptG q8 f8 q8 0 0 t u 0 s1 s2).2.2.1) = 0 then -4 else (ptG q8 f8 q8 0 0 t u 0 s1 s2).2.2.2.1) from rfl) ?_
                refine ej_topi (show (if ((ptG q8 f8 q8 0 0 t u 0 s1 s2).2.2.1) = 0 then -4 else (ptG q8 f8 q8 0 0 t u 0 s1 s2).2.2.2.1) = nI pp from ((if_neg hxn).trans hy)) ?_
                refine lv_iload_n hx hb dL_texts_472 rfl (lv_at hl 12 rfl) ?_
                refine lv_icmp_ge (tgt := 505) hx hb dL_texts_473 (by decide) (fun h9 => absurd h9 (ej_ge (a := pp) (b := N) (by omega) (show pp < N from by omega))) (fun _ => ?_)
                refine lv_aload_n hx hb dL_texts_476 rfl (lv_at hl 10 rfl) ?_
                refine lv_iconst (v := 2) hx hb dL_texts_477 (by decide) ?_
                refine lr_why (rest := []) (v := 2) S hK hN ht0 ht1 hA hD hW hS hok9.1.1 (by decide) (cwV 1 hts gL_texts_X6_why rfl rfl rfl hdv_X6_why ⟨Nat.le_of_ble_eq_true rfl, Nat.le_of_ble_eq_true rfl⟩) rfl hl.1 (Nat.le_of_ble_eq_true rfl) dL_texts_478 ⟨Nat.zero_le _, Nat.zero_le _⟩ (fun H locs hW hS => ?_)
                show W p9 l e9 (eR 20 1000) s9 m9 a9 b9 t9 c9 H locs 0 0 Q (F0 m9 481 ls [.int (if ((ptG q8 f8 q8 0 0 t u 0 s1 s2).2.2.1) = 0 then -4 else if 2 = 0 then ((ptG q8 f8 q8 0 0 t u 0 s1 s2).2.2.1) else if 2 = 1 then ((ptG q8 f8 q8 0 0 t u 0 s1 s2).2.2.2.1) else ((ptG q8 f8 q8 0 0 t u 0 s1 s2).2.2.2.2))])
                have hW : SW D cI cT o aT aB aS g y z ad ((ptG q8 f8 q8 0 0 t u 0 s1 s2).1) ((ptG q8 f8 q8 0 0 t u 0 s1 s2).2.1) (recL hs (t, u)) sn 0 f8 ((ptG q8 f8 q8 0 0 t u 0 s1 s2).2.2.1) ((ptG q8 f8 q8 0 0 t u 0 s1 s2).2.2.2.1) ((ptG q8 f8 q8 0 0 t u 0 s1 s2).2.2.2.2) H := hW
                refine ej_topi (show (if ((ptG q8 f8 q8 0 0 t u 0 s1 s2).2.2.1) = 0 then -4 else if 2 = 0 then ((ptG q8 f8 q8 0 0 t u 0 s1 s2).2.2.1) else if 2 = 1 then ((ptG q8 f8 q8 0 0 t u 0 s1 s2).2.2.2.1) else ((ptG q8 f8 q8 0 0 t u 0 s1 s2).2.2.2.2)) = (if ((ptG q8 f8 q8 0 0 t u 0 s1 s2).2.2.1) = 0 then -4 else (ptG q8 f8 q8 0 0 t u 0 s1 s2).2.2.2.2) from rfl) ?_
                refine ej_topi (show (if ((ptG q8 f8 q8 0 0 t u 0 s1 s2).2.2.1) = 0 then -4 else (ptG q8 f8 q8 0 0 t u 0 s1 s2).2.2.2.2) = nI ii from ((if_neg hxn).trans hz)) ?_
                refine lv_iconst (v := 2) hx hb dL_texts_481 (by decide) ?_
                refine lv_aload_n hx hb dL_texts_482 rfl (lv_at hl 10 rfl) ?_
                refine lv_iconst (v := 1) hx hb dL_texts_483 (by decide) ?_
                refine lr_why (rest := [.int 2, .int (nI ii)]) (v := 1) S hK hN ht0 ht1 hA hD hW hS hok9.1.1 (by decide) (cwV 1 hts gL_texts_X6_why rfl rfl rfl hdv_X6_why ⟨Nat.le_of_ble_eq_true rfl, Nat.le_of_ble_eq_true rfl⟩) rfl hl.1 (Nat.le_of_ble_eq_true rfl) dL_texts_484 ⟨Nat.zero_le _, Nat.zero_le _⟩ (fun H locs hW hS => ?_)
                show W p9 l e9 (eR 20 1000) s9 m9 a9 b9 t9 c9 H locs 0 0 Q (F0 m9 487 ls [.int (if ((ptG q8 f8 q8 0 0 t u 0 s1 s2).2.2.1) = 0 then -4 else if 1 = 0 then ((ptG q8 f8 q8 0 0 t u 0 s1 s2).2.2.1) else if 1 = 1 then ((ptG q8 f8 q8 0 0 t u 0 s1 s2).2.2.2.1) else ((ptG q8 f8 q8 0 0 t u 0 s1 s2).2.2.2.2)), .int 2, .int (nI ii)])
                have hW : SW D cI cT o aT aB aS g y z ad ((ptG q8 f8 q8 0 0 t u 0 s1 s2).1) ((ptG q8 f8 q8 0 0 t u 0 s1 s2).2.1) (recL hs (t, u)) sn 0 f8 ((ptG q8 f8 q8 0 0 t u 0 s1 s2).2.2.1) ((ptG q8 f8 q8 0 0 t u 0 s1 s2).2.2.2.1) ((ptG q8 f8 q8 0 0 t u 0 s1 s2).2.2.2.2) H := hW
                refine ej_topi (show (if ((ptG q8 f8 q8 0 0 t u 0 s1 s2).2.2.1) = 0 then -4 else if 1 = 0 then ((ptG q8 f8 q8 0 0 t u 0 s1 s2).2.2.1) else if 1 = 1 then ((ptG q8 f8 q8 0 0 t u 0 s1 s2).2.2.2.1) else ((ptG q8 f8 q8 0 0 t u 0 s1 s2).2.2.2.2)) = (if ((ptG q8 f8 q8 0 0 t u 0 s1 s2).2.2.1) = 0 then -4 else (ptG q8 f8 q8 0 0 t u 0 s1 s2).2.2.2.1) from rfl) ?_
                refine ej_topi (show (if ((ptG q8 f8 q8 0 0 t u 0 s1 s2).2.2.1) = 0 then -4 else (ptG q8 f8 q8 0 0 t u 0 s1 s2).2.2.2.1) = nI pp from ((if_neg hxn).trans hy)) ?_
                refine lv_imul hx hb dL_texts_487 ?_
                refine ej_topi (show (2 : Int32) * (nI pp) = nI (2 * pp) from pk_mul 2 pp) ?_
                refine lv_icmp_lt (tgt := 505) hx hb dL_texts_488 (by decide) (fun h9 => absurd h9 (ej_nlt (a := ii) (b := (2 * pp)) (by omega) (show (2 * pp) ≤ ii from by omega))) (fun _ => ?_)
                refine lv_aload_n hx hb dL_texts_491 rfl (lv_at hl 10 rfl) ?_
                refine lv_iconst (v := 2) hx hb dL_texts_492 (by decide) ?_
                refine lr_why (rest := []) (v := 2) S hK hN ht0 ht1 hA hD hW hS hok9.1.1 (by decide) (cwV 1 hts gL_texts_X6_why rfl rfl rfl hdv_X6_why ⟨Nat.le_of_ble_eq_true rfl, Nat.le_of_ble_eq_true rfl⟩) rfl hl.1 (Nat.le_of_ble_eq_true rfl) dL_texts_493 ⟨Nat.zero_le _, Nat.zero_le _⟩ (fun H locs hW hS => ?_)
                show W p9 l e9 (eR 20 1000) s9 m9 a9 b9 t9 c9 H locs 0 0 Q (F0 m9 496 ls [.int (if ((ptG q8 f8 q8 0 0 t u 0 s1 s2).2.2.1) = 0 then -4 else if 2 = 0 then ((ptG q8 f8 q8 0 0 t u 0 s1 s2).2.2.1) else if 2 = 1 then ((ptG q8 f8 q8 0 0 t u 0 s1 s2).2.2.2.1) else ((ptG q8 f8 q8 0 0 t u 0 s1 s2).2.2.2.2))])
                have hW : SW D cI cT o aT aB aS g y z ad ((ptG q8 f8 q8 0 0 t u 0 s1 s2).1) ((ptG q8 f8 q8 0 0 t u 0 s1 s2).2.1) (recL hs (t, u)) sn 0 f8 ((ptG q8 f8 q8 0 0 t u 0 s1 s2).2.2.1) ((ptG q8 f8 q8 0 0 t u 0 s1 s2).2.2.2.1) ((ptG q8 f8 q8 0 0 t u 0 s1 s2).2.2.2.2) H := hW
                refine ej_topi (show (if ((ptG q8 f8 q8 0 0 t u 0 s1 s2).2.2.1) = 0 then -4 else if 2 = 0 then ((ptG q8 f8 q8 0 0 t u 0 s1 s2).2.2.1) else if 2 = 1 then ((ptG q8 f8 q8 0 0 t u 0 s1 s2).2.2.2.1) else ((ptG q8 f8 q8 0 0 t u 0 s1 s2).2.2.2.2)) = (if ((ptG q8 f8 q8 0 0 t u 0 s1 s2).2.2.1) = 0 then -4 else (ptG q8 f8 q8 0 0 t u 0 s1 s2).2.2.2.2) from rfl) ?_
                refine ej_topi (show (if ((ptG q8 f8 q8 0 0 t u 0 s1 s2).2.2.1) = 0 then -4 else (ptG q8 f8 q8 0 0 t u 0 s1 s2).2.2.2.2) = nI ii from ((if_neg hxn).trans hz)) ?_
                refine lv_iload hx hb dL_texts_496 (lv_at hl 5 rfl) ?_
                refine lv_icmp_ge (tgt := 505) hx hb dL_texts_498 (by decide) (fun h9 => absurd h9 (ej_ge (a := ii) (b := q8) (by omega) (show ii < q8 from by omega))) (fun _ => ?_)
                refine lv_iconst (v := 1) hx hb dL_texts_501 (by decide) ?_
                refine lv_goto (tgt := 506) hx hb dL_texts_502 (by decide) ?_
                exact hQ _ _ _ _ _ _ _ _ _ _ _ _ _ dL_texts_506 rfl (by exact ⟨rfl, hok9, Or.inr rfl⟩) hW hS
              · have n_364 : hs.length < 4 := ej_tnle (a := 4) (b := hs.length) (by omega) (by omega) c_364
                refine lv_iload hx hb dL_texts_367 (lv_at hl 8 rfl) ?_
                refine lv_iconst (v := 1) hx hb dL_texts_369 (by decide) ?_
                refine lv_iadd hx hb dL_texts_370 ?_
                refine ej_topi (show (nI hs.length) + 1 = nI (hs.length + 1) from nI_add hs.length 1) ?_
                refine lv_goto (tgt := 375) hx hb dL_texts_371 (by decide) ?_
                refine lv_icmp_ne (tgt := 505) hx hb dL_texts_375 (by decide) (fun h9 => absurd ((congrArg nI (show recN hs.length = hs.length + 1 from by unfold recN; split <;> omega))) h9) (fun _ => ?_)
                refine lv_aload_n hx hb dL_texts_378 rfl (lv_at hl 10 rfl) ?_
                refine lv_iconst (v := 0) hx hb dL_texts_379 (by decide) ?_
                refine lr_count (rest := []) (w := 0) S hK hN ht0 ht1 hA hD hW hS hok9.1.1  (cwV 1 hts gL_texts_X6_count rfl rfl rfl hdv_X6_count ⟨Nat.le_of_ble_eq_true rfl, Nat.le_of_ble_eq_true rfl⟩) rfl hl.1 (Nat.le_of_ble_eq_true rfl) dL_texts_380 ⟨Nat.zero_le _, Nat.zero_le _⟩ (fun H locs hW hS => ?_)
                show W p9 l e9 (eR 20 1000) s9 m9 a9 b9 t9 c9 H locs 0 0 Q (F0 m9 383 ls [.int (couA ((ptG q8 f8 q8 0 0 t u 0 s1 s2).1) ((ptG q8 f8 q8 0 0 t u 0 s1 s2).2.1) 0 (recL hs (t, u)).length 0)])
                have hW : SW D cI cT o aT aB aS g y z ad ((ptG q8 f8 q8 0 0 t u 0 s1 s2).1) ((ptG q8 f8 q8 0 0 t u 0 s1 s2).2.1) (recL hs (t, u)) sn 0 f8 ((ptG q8 f8 q8 0 0 t u 0 s1 s2).2.2.1) ((ptG q8 f8 q8 0 0 t u 0 s1 s2).2.2.2.1) ((ptG q8 f8 q8 0 0 t u 0 s1 s2).2.2.2.2) H := hW
                refine ej_topi (show (couA ((ptG q8 f8 q8 0 0 t u 0 s1 s2).1) ((ptG q8 f8 q8 0 0 t u 0 s1 s2).2.1) 0 (recL hs (t, u)).length 0) = T_po ((ptG q8 f8 q8 0 0 t u 0 s1 s2).2.1) from lkc_0 ((ptG q8 f8 q8 0 0 t u 0 s1 s2).1) ((ptG q8 f8 q8 0 0 t u 0 s1 s2).2.1) 0 ((recL hs (t, u)).length)) ?_
                refine lv_iload hx hb dL_texts_383 (lv_at hl 6 rfl) ?_
                refine lv_iload hx hb dL_texts_385 (lv_at hl 3 rfl) ?_
                refine lv_iadd hx hb dL_texts_387 ?_
                refine lv_icmp_ne (tgt := 505) hx hb dL_texts_388 (by decide) (fun h9 => absurd (hd2) h9) (fun _ => ?_)
                refine lv_iload hx hb dL_texts_391 (lv_at hl 0 rfl) ?_
                refine lv_bipush (v := (-4)) hx hb dL_texts_393 (by decide) ?_
                refine lv_icmp_ne (tgt := 432) hx hb dL_texts_395 (by decide) (fun _ => ?_) (fun h9 => absurd h9 (show ¬ (1 : Int32) = (-4) from by decide))
                refine lv_iload hx hb dL_texts_432 (lv_at hl 0 rfl) ?_
                refine lv_iconst (v := 1) hx hb dL_texts_434 (by decide) ?_
                refine lv_icmp_ne (tgt := 505) hx hb dL_texts_435 (by decide) (fun h9 => absurd (show (1 : Int32) = 1 from by decide) h9) (fun _ => ?_)
                refine lv_aload_n hx hb dL_texts_438 rfl (lv_at hl 10 rfl) ?_
                refine lv_bipush (v := 14) hx hb dL_texts_439 (by decide) ?_
                refine lr_count (rest := []) (w := 14) S hK hN ht0 ht1 hA hD hW hS hok9.1.1  (cwV 1 hts gL_texts_X6_count rfl rfl rfl hdv_X6_count ⟨Nat.le_of_ble_eq_true rfl, Nat.le_of_ble_eq_true rfl⟩) rfl hl.1 (Nat.le_of_ble_eq_true rfl) dL_texts_441 ⟨Nat.zero_le _, Nat.zero_le _⟩ (fun H locs hW hS => ?_)
                show W p9 l e9 (eR 20 1000) s9 m9 a9 b9 t9 c9 H locs 0 0 Q (F0 m9 444 ls [.int (couA ((ptG q8 f8 q8 0 0 t u 0 s1 s2).1) ((ptG q8 f8 q8 0 0 t u 0 s1 s2).2.1) 0 (recL hs (t, u)).length 14)])
                have hW : SW D cI cT o aT aB aS g y z ad ((ptG q8 f8 q8 0 0 t u 0 s1 s2).1) ((ptG q8 f8 q8 0 0 t u 0 s1 s2).2.1) (recL hs (t, u)) sn 0 f8 ((ptG q8 f8 q8 0 0 t u 0 s1 s2).2.2.1) ((ptG q8 f8 q8 0 0 t u 0 s1 s2).2.2.2.1) ((ptG q8 f8 q8 0 0 t u 0 s1 s2).2.2.2.2) H := hW
                refine ej_topi (show (couA ((ptG q8 f8 q8 0 0 t u 0 s1 s2).1) ((ptG q8 f8 q8 0 0 t u 0 s1 s2).2.1) 0 (recL hs (t, u)).length 14) = T_re ((ptG q8 f8 q8 0 0 t u 0 s1 s2).2.1) from lkc_14 ((ptG q8 f8 q8 0 0 t u 0 s1 s2).1) ((ptG q8 f8 q8 0 0 t u 0 s1 s2).2.1) 0 ((recL hs (t, u)).length)) ?_
                refine lv_iload hx hb dL_texts_444 (lv_at hl 7 rfl) ?_
                refine lv_iconst (v := 1) hx hb dL_texts_446 (by decide) ?_
                refine lv_iadd hx hb dL_texts_447 ?_
                refine lv_icmp_ne (tgt := 505) hx hb dL_texts_448 (by decide) (fun h9 => absurd (hre) h9) (fun _ => ?_)
                refine lv_aload_n hx hb dL_texts_451 rfl (lv_at hl 10 rfl) ?_
                refine lv_iconst (v := 1) hx hb dL_texts_452 (by decide) ?_
                refine lr_count (rest := []) (w := 1) S hK hN ht0 ht1 hA hD hW hS hok9.1.1  (cwV 1 hts gL_texts_X6_count rfl rfl rfl hdv_X6_count ⟨Nat.le_of_ble_eq_true rfl, Nat.le_of_ble_eq_true rfl⟩) rfl hl.1 (Nat.le_of_ble_eq_true rfl) dL_texts_453 ⟨Nat.zero_le _, Nat.zero_le _⟩ (fun H locs hW hS => ?_)
                show W p9 l e9 (eR 20 1000) s9 m9 a9 b9 t9 c9 H locs 0 0 Q (F0 m9 456 ls [.int (couA ((ptG q8 f8 q8 0 0 t u 0 s1 s2).1) ((ptG q8 f8 q8 0 0 t u 0 s1 s2).2.1) 0 (recL hs (t, u)).length 1)])
                have hW : SW D cI cT o aT aB aS g y z ad ((ptG q8 f8 q8 0 0 t u 0 s1 s2).1) ((ptG q8 f8 q8 0 0 t u 0 s1 s2).2.1) (recL hs (t, u)) sn 0 f8 ((ptG q8 f8 q8 0 0 t u 0 s1 s2).2.2.1) ((ptG q8 f8 q8 0 0 t u 0 s1 s2).2.2.2.1) ((ptG q8 f8 q8 0 0 t u 0 s1 s2).2.2.2.2) H := hW
                refine ej_topi (show (couA ((ptG q8 f8 q8 0 0 t u 0 s1 s2).1) ((ptG q8 f8 q8 0 0 t u 0 s1 s2).2.1) 0 (recL hs (t, u)).length 1) = T_le ((ptG q8 f8 q8 0 0 t u 0 s1 s2).2.1) from lkc_1 ((ptG q8 f8 q8 0 0 t u 0 s1 s2).1) ((ptG q8 f8 q8 0 0 t u 0 s1 s2).2.1) 0 ((recL hs (t, u)).length)) ?_
                refine ej_topi (show (T_le ((ptG q8 f8 q8 0 0 t u 0 s1 s2).2.1)) = 0 from hle0) ?_
                refine lv_if_ne (tgt := 505) hx hb dL_texts_456 (by decide) (fun h9 => absurd (show (0 : Int32) = 0 from by decide) h9) (fun _ => ?_)
                refine lv_aload_n hx hb dL_texts_459 rfl (lv_at hl 10 rfl) ?_
                refine lv_iconst (v := 1) hx hb dL_texts_460 (by decide) ?_
                refine lr_why (rest := []) (v := 1) S hK hN ht0 ht1 hA hD hW hS hok9.1.1 (by decide) (cwV 1 hts gL_texts_X6_why rfl rfl rfl hdv_X6_why ⟨Nat.le_of_ble_eq_true rfl, Nat.le_of_ble_eq_true rfl⟩) rfl hl.1 (Nat.le_of_ble_eq_true rfl) dL_texts_461 ⟨Nat.zero_le _, Nat.zero_le _⟩ (fun H locs hW hS => ?_)
                show W p9 l e9 (eR 20 1000) s9 m9 a9 b9 t9 c9 H locs 0 0 Q (F0 m9 464 ls [.int (if ((ptG q8 f8 q8 0 0 t u 0 s1 s2).2.2.1) = 0 then -4 else if 1 = 0 then ((ptG q8 f8 q8 0 0 t u 0 s1 s2).2.2.1) else if 1 = 1 then ((ptG q8 f8 q8 0 0 t u 0 s1 s2).2.2.2.1) else ((ptG q8 f8 q8 0 0 t u 0 s1 s2).2.2.2.2))])
                have hW : SW D cI cT o aT aB aS g y z ad ((ptG q8 f8 q8 0 0 t u 0 s1 s2).1) ((ptG q8 f8 q8 0 0 t u 0 s1 s2).2.1) (recL hs (t, u)) sn 0 f8 ((ptG q8 f8 q8 0 0 t u 0 s1 s2).2.2.1) ((ptG q8 f8 q8 0 0 t u 0 s1 s2).2.2.2.1) ((ptG q8 f8 q8 0 0 t u 0 s1 s2).2.2.2.2) H := hW
                refine ej_topi (show (if ((ptG q8 f8 q8 0 0 t u 0 s1 s2).2.2.1) = 0 then -4 else if 1 = 0 then ((ptG q8 f8 q8 0 0 t u 0 s1 s2).2.2.1) else if 1 = 1 then ((ptG q8 f8 q8 0 0 t u 0 s1 s2).2.2.2.1) else ((ptG q8 f8 q8 0 0 t u 0 s1 s2).2.2.2.2)) = (if ((ptG q8 f8 q8 0 0 t u 0 s1 s2).2.2.1) = 0 then -4 else (ptG q8 f8 q8 0 0 t u 0 s1 s2).2.2.2.1) from rfl) ?_
                refine ej_topi (show (if ((ptG q8 f8 q8 0 0 t u 0 s1 s2).2.2.1) = 0 then -4 else (ptG q8 f8 q8 0 0 t u 0 s1 s2).2.2.2.1) = nI pp from ((if_neg hxn).trans hy)) ?_
                refine lv_if_lt (tgt := 505) hx hb dL_texts_464 (by decide) (fun h9 => absurd h9 (ej_nlt (a := pp) (b := 0) (by omega) (show 0 ≤ pp from by omega))) (fun _ => ?_)
                refine lv_aload_n hx hb dL_texts_467 rfl (lv_at hl 10 rfl) ?_
                refine lv_iconst (v := 1) hx hb dL_texts_468 (by decide) ?_
                refine lr_why (rest := []) (v := 1) S hK hN ht0 ht1 hA hD hW hS hok9.1.1 (by decide) (cwV 1 hts gL_texts_X6_why rfl rfl rfl hdv_X6_why ⟨Nat.le_of_ble_eq_true rfl, Nat.le_of_ble_eq_true rfl⟩) rfl hl.1 (Nat.le_of_ble_eq_true rfl) dL_texts_469 ⟨Nat.zero_le _, Nat.zero_le _⟩ (fun H locs hW hS => ?_)
                show W p9 l e9 (eR 20 1000) s9 m9 a9 b9 t9 c9 H locs 0 0 Q (F0 m9 472 ls [.int (if ((ptG q8 f8 q8 0 0 t u 0 s1 s2).2.2.1) = 0 then -4 else if 1 = 0 then ((ptG q8 f8 q8 0 0 t u 0 s1 s2).2.2.1) else if 1 = 1 then ((ptG q8 f8 q8 0 0 t u 0 s1 s2).2.2.2.1) else ((ptG q8 f8 q8 0 0 t u 0 s1 s2).2.2.2.2))])
                have hW : SW D cI cT o aT aB aS g y z ad ((ptG q8 f8 q8 0 0 t u 0 s1 s2).1) ((ptG q8 f8 q8 0 0 t u 0 s1 s2).2.1) (recL hs (t, u)) sn 0 f8 ((ptG q8 f8 q8 0 0 t u 0 s1 s2).2.2.1) ((ptG q8 f8 q8 0 0 t u 0 s1 s2).2.2.2.1) ((ptG q8 f8 q8 0 0 t u 0 s1 s2).2.2.2.2) H := hW
                refine ej_topi (show (if ((ptG q8 f8 q8 0 0 t u 0 s1 s2).2.2.1) = 0 then -4 else if 1 = 0 then ((ptG q8 f8 q8 0 0 t u 0 s1 s2).2.2.1) else if 1 = 1 then ((ptG q8 f8 q8 0 0 t u 0 s1 s2).2.2.2.1) else ((ptG q8 f8 q8 0 0 t u 0 s1 s2).2.2.2.2)) = (if ((ptG q8 f8 q8 0 0 t u 0 s1 s2).2.2.1) = 0 then -4 else (ptG q8 f8 q8 0 0 t u 0 s1 s2).2.2.2.1) from rfl) ?_
                refine ej_topi (show (if ((ptG q8 f8 q8 0 0 t u 0 s1 s2).2.2.1) = 0 then -4 else (ptG q8 f8 q8 0 0 t u 0 s1 s2).2.2.2.1) = nI pp from ((if_neg hxn).trans hy)) ?_
                refine lv_iload_n hx hb dL_texts_472 rfl (lv_at hl 12 rfl) ?_
                refine lv_icmp_ge (tgt := 505) hx hb dL_texts_473 (by decide) (fun h9 => absurd h9 (ej_ge (a := pp) (b := N) (by omega) (show pp < N from by omega))) (fun _ => ?_)
                refine lv_aload_n hx hb dL_texts_476 rfl (lv_at hl 10 rfl) ?_
                refine lv_iconst (v := 2) hx hb dL_texts_477 (by decide) ?_
                refine lr_why (rest := []) (v := 2) S hK hN ht0 ht1 hA hD hW hS hok9.1.1 (by decide) (cwV 1 hts gL_texts_X6_why rfl rfl rfl hdv_X6_why ⟨Nat.le_of_ble_eq_true rfl, Nat.le_of_ble_eq_true rfl⟩) rfl hl.1 (Nat.le_of_ble_eq_true rfl) dL_texts_478 ⟨Nat.zero_le _, Nat.zero_le _⟩ (fun H locs hW hS => ?_)
                show W p9 l e9 (eR 20 1000) s9 m9 a9 b9 t9 c9 H locs 0 0 Q (F0 m9 481 ls [.int (if ((ptG q8 f8 q8 0 0 t u 0 s1 s2).2.2.1) = 0 then -4 else if 2 = 0 then ((ptG q8 f8 q8 0 0 t u 0 s1 s2).2.2.1) else if 2 = 1 then ((ptG q8 f8 q8 0 0 t u 0 s1 s2).2.2.2.1) else ((ptG q8 f8 q8 0 0 t u 0 s1 s2).2.2.2.2))])
                have hW : SW D cI cT o aT aB aS g y z ad ((ptG q8 f8 q8 0 0 t u 0 s1 s2).1) ((ptG q8 f8 q8 0 0 t u 0 s1 s2).2.1) (recL hs (t, u)) sn 0 f8 ((ptG q8 f8 q8 0 0 t u 0 s1 s2).2.2.1) ((ptG q8 f8 q8 0 0 t u 0 s1 s2).2.2.2.1) ((ptG q8 f8 q8 0 0 t u 0 s1 s2).2.2.2.2) H := hW
                refine ej_topi (show (if ((ptG q8 f8 q8 0 0 t u 0 s1 s2).2.2.1) = 0 then -4 else if 2 = 0 then ((ptG q8 f8 q8 0 0 t u 0 s1 s2).2.2.1) else if 2 = 1 then ((ptG q8 f8 q8 0 0 t u 0 s1 s2).2.2.2.1) else ((ptG q8 f8 q8 0 0 t u 0 s1 s2).2.2.2.2)) = (if ((ptG q8 f8 q8 0 0 t u 0 s1 s2).2.2.1) = 0 then -4 else (ptG q8 f8 q8 0 0 t u 0 s1 s2).2.2.2.2) from rfl) ?_
                refine ej_topi (show (if ((ptG q8 f8 q8 0 0 t u 0 s1 s2).2.2.1) = 0 then -4 else (ptG q8 f8 q8 0 0 t u 0 s1 s2).2.2.2.2) = nI ii from ((if_neg hxn).trans hz)) ?_
                refine lv_iconst (v := 2) hx hb dL_texts_481 (by decide) ?_
                refine lv_aload_n hx hb dL_texts_482 rfl (lv_at hl 10 rfl) ?_
                refine lv_iconst (v := 1) hx hb dL_texts_483 (by decide) ?_
                refine lr_why (rest := [.int 2, .int (nI ii)]) (v := 1) S hK hN ht0 ht1 hA hD hW hS hok9.1.1 (by decide) (cwV 1 hts gL_texts_X6_why rfl rfl rfl hdv_X6_why ⟨Nat.le_of_ble_eq_true rfl, Nat.le_of_ble_eq_true rfl⟩) rfl hl.1 (Nat.le_of_ble_eq_true rfl) dL_texts_484 ⟨Nat.zero_le _, Nat.zero_le _⟩ (fun H locs hW hS => ?_)
                show W p9 l e9 (eR 20 1000) s9 m9 a9 b9 t9 c9 H locs 0 0 Q (F0 m9 487 ls [.int (if ((ptG q8 f8 q8 0 0 t u 0 s1 s2).2.2.1) = 0 then -4 else if 1 = 0 then ((ptG q8 f8 q8 0 0 t u 0 s1 s2).2.2.1) else if 1 = 1 then ((ptG q8 f8 q8 0 0 t u 0 s1 s2).2.2.2.1) else ((ptG q8 f8 q8 0 0 t u 0 s1 s2).2.2.2.2)), .int 2, .int (nI ii)])
                have hW : SW D cI cT o aT aB aS g y z ad ((ptG q8 f8 q8 0 0 t u 0 s1 s2).1) ((ptG q8 f8 q8 0 0 t u 0 s1 s2).2.1) (recL hs (t, u)) sn 0 f8 ((ptG q8 f8 q8 0 0 t u 0 s1 s2).2.2.1) ((ptG q8 f8 q8 0 0 t u 0 s1 s2).2.2.2.1) ((ptG q8 f8 q8 0 0 t u 0 s1 s2).2.2.2.2) H := hW
                refine ej_topi (show (if ((ptG q8 f8 q8 0 0 t u 0 s1 s2).2.2.1) = 0 then -4 else if 1 = 0 then ((ptG q8 f8 q8 0 0 t u 0 s1 s2).2.2.1) else if 1 = 1 then ((ptG q8 f8 q8 0 0 t u 0 s1 s2).2.2.2.1) else ((ptG q8 f8 q8 0 0 t u 0 s1 s2).2.2.2.2)) = (if ((ptG q8 f8 q8 0 0 t u 0 s1 s2).2.2.1) = 0 then -4 else (ptG q8 f8 q8 0 0 t u 0 s1 s2).2.2.2.1) from rfl) ?_
                refine ej_topi (show (if ((ptG q8 f8 q8 0 0 t u 0 s1 s2).2.2.1) = 0 then -4 else (ptG q8 f8 q8 0 0 t u 0 s1 s2).2.2.2.1) = nI pp from ((if_neg hxn).trans hy)) ?_
                refine lv_imul hx hb dL_texts_487 ?_
                refine ej_topi (show (2 : Int32) * (nI pp) = nI (2 * pp) from pk_mul 2 pp) ?_
                refine lv_icmp_lt (tgt := 505) hx hb dL_texts_488 (by decide) (fun h9 => absurd h9 (ej_nlt (a := ii) (b := (2 * pp)) (by omega) (show (2 * pp) ≤ ii from by omega))) (fun _ => ?_)
                refine lv_aload_n hx hb dL_texts_491 rfl (lv_at hl 10 rfl) ?_
                refine lv_iconst (v := 2) hx hb dL_texts_492 (by decide) ?_
                refine lr_why (rest := []) (v := 2) S hK hN ht0 ht1 hA hD hW hS hok9.1.1 (by decide) (cwV 1 hts gL_texts_X6_why rfl rfl rfl hdv_X6_why ⟨Nat.le_of_ble_eq_true rfl, Nat.le_of_ble_eq_true rfl⟩) rfl hl.1 (Nat.le_of_ble_eq_true rfl) dL_texts_493 ⟨Nat.zero_le _, Nat.zero_le _⟩ (fun H locs hW hS => ?_)
                show W p9 l e9 (eR 20 1000) s9 m9 a9 b9 t9 c9 H locs 0 0 Q (F0 m9 496 ls [.int (if ((ptG q8 f8 q8 0 0 t u 0 s1 s2).2.2.1) = 0 then -4 else if 2 = 0 then ((ptG q8 f8 q8 0 0 t u 0 s1 s2).2.2.1) else if 2 = 1 then ((ptG q8 f8 q8 0 0 t u 0 s1 s2).2.2.2.1) else ((ptG q8 f8 q8 0 0 t u 0 s1 s2).2.2.2.2))])
                have hW : SW D cI cT o aT aB aS g y z ad ((ptG q8 f8 q8 0 0 t u 0 s1 s2).1) ((ptG q8 f8 q8 0 0 t u 0 s1 s2).2.1) (recL hs (t, u)) sn 0 f8 ((ptG q8 f8 q8 0 0 t u 0 s1 s2).2.2.1) ((ptG q8 f8 q8 0 0 t u 0 s1 s2).2.2.2.1) ((ptG q8 f8 q8 0 0 t u 0 s1 s2).2.2.2.2) H := hW
                refine ej_topi (show (if ((ptG q8 f8 q8 0 0 t u 0 s1 s2).2.2.1) = 0 then -4 else if 2 = 0 then ((ptG q8 f8 q8 0 0 t u 0 s1 s2).2.2.1) else if 2 = 1 then ((ptG q8 f8 q8 0 0 t u 0 s1 s2).2.2.2.1) else ((ptG q8 f8 q8 0 0 t u 0 s1 s2).2.2.2.2)) = (if ((ptG q8 f8 q8 0 0 t u 0 s1 s2).2.2.1) = 0 then -4 else (ptG q8 f8 q8 0 0 t u 0 s1 s2).2.2.2.2) from rfl) ?_
                refine ej_topi (show (if ((ptG q8 f8 q8 0 0 t u 0 s1 s2).2.2.1) = 0 then -4 else (ptG q8 f8 q8 0 0 t u 0 s1 s2).2.2.2.2) = nI ii from ((if_neg hxn).trans hz)) ?_
                refine lv_iload hx hb dL_texts_496 (lv_at hl 5 rfl) ?_
                refine lv_icmp_ge (tgt := 505) hx hb dL_texts_498 (by decide) (fun h9 => absurd h9 (ej_ge (a := ii) (b := q8) (by omega) (show ii < q8 from by omega))) (fun _ => ?_)
                refine lv_iconst (v := 1) hx hb dL_texts_501 (by decide) ?_
                refine lv_goto (tgt := 506) hx hb dL_texts_502 (by decide) ?_
                exact hQ _ _ _ _ _ _ _ _ _ _ _ _ _ dL_texts_506 rfl (by exact ⟨rfl, hok9, Or.inr rfl⟩) hW hS
          · refine ej_topi hff ?_
            refine lv_istore (lv' := [(10, .int (nI j)), (9, .int (nI q8)), (8, .int (T_po u)), (7, .int (T_re u)), (6, .int (nI hs.length)), (4, .long (lookV t u)), (0, .ref (o 0)), (1, .int x), (2, .int (nI N)), (3, .int 1)]) hx hb dL_texts_230 hl (by decide) rfl (fun ls hl => ?_)
            refine lv_aload_n hx hb dL_texts_232 rfl (lv_at hl 6 rfl) ?_
            refine lr_shots_no (rest := [])  S hK hN ht0 ht1 hA hD hW hS htl (fun z => by rw [hff] at z; exact absurd z (nI_ne4 (by omega))) (cwV 0 hts gL_texts_X6_shots rfl rfl rfl hdv_X6_shots ⟨Nat.le_of_ble_eq_true rfl, Nat.le_of_ble_eq_true rfl⟩) rfl hl.1 (Nat.le_of_ble_eq_true rfl) dL_texts_233 ⟨Nat.zero_le _, Nat.zero_le _⟩ (fun H locs hW hS => ?_)
            show W p9 l e9 (eR 20 1000) s9 m9 a9 b9 t9 c9 H locs 0 0 Q (F0 m9 236 ls [.int (-2)])
            have hW : SW D cI cT o aT aB aS g y z ad t u hs sn q8 f8 s0 s1 s2 H := hW
            refine lv_istore (lv' := [(11, .int (-2)), (10, .int (nI j)), (9, .int (nI q8)), (8, .int (T_po u)), (7, .int (T_re u)), (6, .int (nI hs.length)), (4, .long (lookV t u)), (0, .ref (o 0)), (1, .int x), (2, .int (nI N)), (3, .int 1)]) hx hb dL_texts_236 hl (by decide) rfl (fun ls hl => ?_)
            refine lv_aload_n hx hb dL_texts_238 rfl (lv_at hl 7 rfl) ?_
            refine lr_clear (rest := [])  S hK hN ht0 ht1 hA hD hW hS htl  (cwV 0 hts gL_texts_X6_clear rfl rfl rfl hdv_X6_clear ⟨Nat.le_of_ble_eq_true rfl, Nat.le_of_ble_eq_true rfl⟩) rfl hl.1 (Nat.le_of_ble_eq_true rfl) dL_texts_239 ⟨Nat.zero_le _, Nat.zero_le _⟩ (fun H locs hW hS => ?_)
            show W p9 l e9 (eR 20 1000) s9 m9 a9 b9 t9 c9 H locs 0 0 Q (F0 m9 242 ls [.int (nI q8)])
            have hW : SW D cI cT o aT aB aS g y z ad t u hs sn 0 f8 s0 s1 s2 H := hW
            refine lv_istore (lv' := [(12, .int (nI q8)), (11, .int (-2)), (10, .int (nI j)), (9, .int (nI q8)), (8, .int (T_po u)), (7, .int (T_re u)), (6, .int (nI hs.length)), (4, .long (lookV t u)), (0, .ref (o 0)), (1, .int x), (2, .int (nI N)), (3, .int 1)]) hx hb dL_texts_242 hl (by decide) rfl (fun ls hl => ?_)
            refine lv_iload_n hx hb dL_texts_244 rfl (lv_at hl 11 rfl) ?_
            refine lv_if_eq (tgt := 279) hx hb dL_texts_245 (by decide) (fun h9 => absurd h9 (show ¬ (1 : Int32) = 0 from by decide)) (fun _ => ?_)
            refine lv_iload hx hb dL_texts_248 (lv_at hl 1 rfl) ?_
            refine lv_bipush (v := (-2)) hx hb dL_texts_250 (by decide) ?_
            refine lv_icmp_ne (tgt := 259) hx hb dL_texts_252 (by decide) (fun h9 => absurd (show ((-2) : Int32) = (-2) from by decide) h9) (fun _ => ?_)
            refine lv_iconst (v := 1) hx hb dL_texts_255 (by decide) ?_
            refine lv_goto (tgt := 260) hx hb dL_texts_256 (by decide) ?_
            refine lv_iload hx hb dL_texts_260 (lv_at hl 2 rfl) ?_
            refine lv_bipush (v := (-4)) hx hb dL_texts_262 (by decide) ?_
            refine lv_icmp_eq (tgt := 271) hx hb dL_texts_264 (by decide) (fun h9 => absurd h9 (nI_ne4 (by omega))) (fun _ => ?_)
            refine lv_iconst (v := 1) hx hb dL_texts_267 (by decide) ?_
            refine lv_goto (tgt := 272) hx hb dL_texts_268 (by decide) ?_
            refine lv_icmp_ne (tgt := 279) hx hb dL_texts_272 (by decide) (fun h9 => absurd (show (1 : Int32) = 1 from by decide) h9) (fun _ => ?_)
            refine lv_iconst (v := 1) hx hb dL_texts_275 (by decide) ?_
            refine lv_goto (tgt := 280) hx hb dL_texts_276 (by decide) ?_
            refine lv_istore (lv' := [(13, .int 1), (12, .int (nI q8)), (11, .int (-2)), (10, .int (nI j)), (9, .int (nI q8)), (8, .int (T_po u)), (7, .int (T_re u)), (6, .int (nI hs.length)), (4, .long (lookV t u)), (0, .ref (o 0)), (1, .int x), (2, .int (nI N)), (3, .int 1)]) hx hb dL_texts_280 hl (by decide) rfl (fun ls hl => ?_)
            refine lv_iload hx hb dL_texts_282 (lv_at hl 2 rfl) ?_
            refine lv_if_ge (tgt := 338) hx hb dL_texts_284 (by decide) (fun h9 => absurd h9 (show ¬ (0 : Int32) ≤ (-2) from by decide)) (fun _ => ?_)
            refine lv_iload hx hb dL_texts_287 (lv_at hl 0 rfl) ?_
            refine lv_if_eq (tgt := 336) hx hb dL_texts_289 (by decide) (fun h9 => absurd h9 (show ¬ (1 : Int32) = 0 from by decide)) (fun _ => ?_)
            refine lv_iload hx hb dL_texts_292 (lv_at hl 3 rfl) ?_
            refine lv_if_lt (tgt := 336) hx hb dL_texts_294 (by decide) (fun h9 => absurd h9 (ej_nlt (a := j) (b := 0) (by omega) (show 0 ≤ j from by omega))) (fun _ => ?_)
            refine lv_iload hx hb dL_texts_297 (lv_at hl 3 rfl) ?_
            refine lv_iload hx hb dL_texts_299 (lv_at hl 4 rfl) ?_
            refine lv_icmp_gt (tgt := 336) hx hb dL_texts_301 (by decide) (fun h9 => absurd h9 (ej_nlt (a := q8) (b := j) (by omega) (show j ≤ q8 from by omega))) (fun _ => ?_)
            refine lv_iload hx hb dL_texts_304 (lv_at hl 1 rfl) ?_
            refine lv_iload hx hb dL_texts_306 (lv_at hl 4 rfl) ?_
            refine lv_icmp_ne (tgt := 336) hx hb dL_texts_308 (by decide) (fun h9 => absurd (congrArg nI (show q8 = q8 from by omega)) h9) (fun _ => ?_)
            refine lv_aload_n hx hb dL_texts_311 rfl (lv_at hl 9 rfl) ?_
            refine ej_L (rest := []) (As := [.ref (o 0)]) S hK hN hA hD hW hS (k_look l D tys cI cT ht0 ht1 o aT aB aS g y z ad t u hs sn 0 f8 s0 s1 s2 htl) (va_cwS 1 hts gL_texts_L_look rfl rfl rfl hds_L_look ⟨Nat.le_of_ble_eq_true rfl, Nat.le_of_ble_eq_true rfl⟩) rfl rfl hl.1 (Nat.le_of_ble_eq_true rfl) dL_texts_312 ⟨Nat.zero_le _, Nat.zero_le _⟩ (fun r9 t9_ u9_ hs9_ q9_ f9_ x9_0 x9_1 x9_2 H locs hP9 hW hS => ?_)
            obtain ⟨rfl, rfl, rfl, rfl, rfl, rfl, rfl, rfl, rfl⟩ := hP9
            show W p9 l e9 (eR 20 1000) s9 m9 a9 b9 t9 c9 H locs 0 0 Q (F0 m9 315 ls [.long (lookV t u)])
            have hW : SW D cI cT o aT aB aS g y z ad t u hs sn 0 f8 s0 s1 s2 H := hW
            refine lv_lload hx hb dL_texts_315 (lv_at hl 8 rfl) ?_
            refine W.lcmp hx hb dL_texts_317 ?_
            refine ej_topi (show (lg_cmp (lookV t u) (lookV t u)) = 0 from lg_self _) ?_
            refine lv_if_ne (tgt := 336) hx hb dL_texts_318 (by decide) (fun h9 => absurd (show (0 : Int32) = 0 from by decide) h9) (fun _ => ?_)
            refine lv_aload_n hx hb dL_texts_321 rfl (lv_at hl 9 rfl) ?_
            refine lv_bipush (v := 18) hx hb dL_texts_322 (by decide) ?_
            refine lr_count (rest := []) (w := 18) S hK hN ht0 ht1 hA hD hW hS htl  (cwV 1 hts gL_texts_X6_count rfl rfl rfl hdv_X6_count ⟨Nat.le_of_ble_eq_true rfl, Nat.le_of_ble_eq_true rfl⟩) rfl hl.1 (Nat.le_of_ble_eq_true rfl) dL_texts_324 ⟨Nat.zero_le _, Nat.zero_le _⟩ (fun H locs hW hS => ?_)
            show W p9 l e9 (eR 20 1000) s9 m9 a9 b9 t9 c9 H locs 0 0 Q (F0 m9 327 ls [.int (couA t u 0 hs.length 18)])
            have hW : SW D cI cT o aT aB aS g y z ad t u hs sn 0 f8 s0 s1 s2 H := hW
            refine ej_topi (show (couA t u 0 hs.length 18) = nI hs.length from lkc_18 t u 0 hs.length) ?_
            refine lv_iload hx hb dL_texts_327 (lv_at hl 7 rfl) ?_
            refine lv_icmp_ne (tgt := 336) hx hb dL_texts_329 (by decide) (fun h9 => absurd (congrArg nI (show hs.length = hs.length from by omega)) h9) (fun _ => ?_)
            refine lv_iconst (v := 1) hx hb dL_texts_332 (by decide) ?_
            refine lv_goto (tgt := 337) hx hb dL_texts_333 (by decide) ?_
            exact hQ _ _ _ _ _ _ _ _ _ _ _ _ _ dL_texts_337 rfl (by exact ⟨rfl, okS_up ho (by omega), Or.inl ⟨rfl, rfl, rfl⟩⟩) hW hS
        refine lv_iload_n hx hb dL_texts_157 rfl (lv_at hl 3 rfl) ?_
        refine lv_if_eq (tgt := 186) hx hb dL_texts_158 (by decide) (fun h9 => absurd h9 (show ¬ (1 : Int32) = 0 from by decide)) (fun _ => ?_)
        refine lv_iload_n hx hb dL_texts_161 rfl (lv_at hl 1 rfl) ?_
        refine lv_bipush (v := 26) hx hb dL_texts_162 (by decide) ?_
        refine lv_ishr hx hb dL_texts_164 ?_
        refine lv_bipush (v := 7) hx hb dL_texts_165 (by decide) ?_
        refine ej_L0 (rest := []) (As := [.int (x >>> (26 &&& 31)), .int 7]) S hK hN hA hD hW hS (c_L_low l D tys cI ht0 (x >>> (26 &&& 31)) 7 (by omega) (by omega)) (va_cwS 2 hts gL_texts_L_low rfl rfl rfl hds_L_low ⟨Nat.le_of_ble_eq_true rfl, Nat.le_of_ble_eq_true rfl⟩) rfl rfl hl.1 (Nat.le_of_ble_eq_true rfl) dL_texts_167 ⟨Nat.zero_le _, Nat.zero_le _⟩ (fun H locs hW hS => ?_)
        show W p9 l e9 (eR 20 1000) s9 m9 a9 b9 t9 c9 H locs 0 0 Q (F0 m9 170 ls [.int (nI (lowN (x >>> (26 &&& 31)) 7))])
        have lw_167 := lowN_lt (x >>> (26 &&& 31)) (n := 7) (by omega)
        refine lv_if_gt (tgt := 182) hx hb dL_texts_170 (by decide) (fun c_170 => ?_) (fun c_170 => ?_)
        · have n_170 : 0 < (lowN (x >>> (26 &&& 31)) 7) := ej_tlt (a := 0) (b := (lowN (x >>> (26 &&& 31)) 7)) (by omega) (by omega) c_170
          refine lv_iconst (v := 1) hx hb dL_texts_182 (by decide) ?_
          refine lv_goto (tgt := 187) hx hb dL_texts_183 (by decide) ?_
          refine lv_istore_n (lv' := [(3, .int 1), (0, .ref (o 0)), (1, .int x), (2, .int (nI N)), (4, .int (nI k))]) hx hb dL_texts_187 rfl hl (by decide) rfl (fun ls hl => ?_)
          exact jp188 qq ff _ _ _ (PT_0 hT1 hT2) hW hS (lv_sub hl [1, 2, 3, 0] rfl)
        · have n_170 : (lowN (x >>> (26 &&& 31)) 7) ≤ 0 := ej_tnlt (a := 0) (b := (lowN (x >>> (26 &&& 31)) 7)) (by omega) (by omega) c_170
          refine lv_aload_n hx hb dL_texts_173 rfl (lv_at hl 0 rfl) ?_
          refine lv_bipush (v := 44) hx hb dL_texts_174 (by decide) ?_
          refine lr_append (rest := []) (v := 44) S hK hN ht0 ht1 hA hD hW hS htl (by decide) (by omega) (cwV 1 hts gL_texts_X6_append rfl rfl rfl hdv_X6_append ⟨Nat.le_of_ble_eq_true rfl, Nat.le_of_ble_eq_true rfl⟩) rfl hl.1 (Nat.le_of_ble_eq_true rfl) dL_texts_176 ⟨Nat.zero_le _, Nat.zero_le _⟩ (fun H locs hW hS => ?_)
          show W p9 l e9 (eR 20 1000) s9 m9 a9 b9 t9 c9 H locs 0 0 Q (F0 m9 179 ls [.int (nI (qq + 1))])
          have hW : SW D cI cT o aT aB aS g y z ad t u hs sn (qq + 1) (upd ff qq 44) s0 s1 s2 H := hW
          refine lv_if_le (tgt := 186) hx hb dL_texts_179 (by decide) (fun h9 => absurd h9 (ej_ge (a := 0) (b := (qq + 1)) (by omega) (show 0 < (qq + 1) from by omega))) (fun _ => ?_)
          refine lv_iconst (v := 1) hx hb dL_texts_182 (by decide) ?_
          refine lv_goto (tgt := 187) hx hb dL_texts_183 (by decide) ?_
          refine lv_istore_n (lv' := [(3, .int 1), (0, .ref (o 0)), (1, .int x), (2, .int (nI N)), (4, .int (nI k))]) hx hb dL_texts_187 rfl hl (by decide) rfl (fun ls hl => ?_)
          exact jp188 (qq + 1) (upd ff qq 44) _ _ _ (PT_1 hT1 hT2) hW hS (lv_sub hl [1, 2, 3, 0] rfl)
      · have n_26 : k < N := ej_tnle (a := N) (b := k) (by omega) (by omega) c_26
        refine lv_iload_n hx hb dL_texts_29 rfl (lv_at hl 1 rfl) ?_
        refine lv_iconst (v := 1) hx hb dL_texts_30 (by decide) ?_
        refine lv_iload hx hb dL_texts_31 (lv_at hl 4 rfl) ?_
        refine lv_iadd hx hb dL_texts_33 ?_
        refine ej_topi (show (1 : Int32) + (nI k) = nI (1 + k) from nI_add 1 k) ?_
        refine lv_ishr hx hb dL_texts_34 ?_
        refine lv_istore (lv' := [(5, .int (x >>> ((nI (1 + k)) &&& 31))), (0, .ref (o 0)), (1, .int x), (2, .int (nI N)), (3, .int 1), (4, .int (nI k))]) hx hb dL_texts_35 hl (by decide) rfl (fun ls hl => ?_)
        refine lv_iload hx hb dL_texts_37 (lv_at hl 0 rfl) ?_
        refine lv_bipush (v := 9) hx hb dL_texts_39 (by decide) ?_
        refine ej_L0 (rest := []) (As := [.int (x >>> ((nI (1 + k)) &&& 31)), .int 9]) S hK hN hA hD hW hS (c_L_low l D tys cI ht0 (x >>> ((nI (1 + k)) &&& 31)) 9 (by omega) (by omega)) (va_cwS 2 hts gL_texts_L_low rfl rfl rfl hds_L_low ⟨Nat.le_of_ble_eq_true rfl, Nat.le_of_ble_eq_true rfl⟩) rfl rfl hl.1 (Nat.le_of_ble_eq_true rfl) dL_texts_41 ⟨Nat.zero_le _, Nat.zero_le _⟩ (fun H locs hW hS => ?_)
        show W p9 l e9 (eR 20 1000) s9 m9 a9 b9 t9 c9 H locs 0 0 Q (F0 m9 44 ls [.int (nI (lowN (x >>> ((nI (1 + k)) &&& 31)) 9))])
        have lw_41 := lowN_lt (x >>> ((nI (1 + k)) &&& 31)) (n := 9) (by omega)
        refine lv_if_ne (tgt := 51) hx hb dL_texts_44 (by decide) (fun c_44 => ?_) (fun c_44 => ?_)
        · have n_44 : (lowN (x >>> ((nI (1 + k)) &&& 31)) 9) ≠ 0 := ej_tne (a := (lowN (x >>> ((nI (1 + k)) &&& 31)) 9)) (b := 0) (by omega) (by omega) c_44
          refine lv_iconst (v := 0) hx hb dL_texts_51 (by decide) ?_
          refine lv_istore (lv' := [(6, .int 0), (5, .int (x >>> ((nI (1 + k)) &&& 31))), (0, .ref (o 0)), (1, .int x), (2, .int (nI N)), (3, .int 1), (4, .int (nI k))]) hx hb dL_texts_52 hl (by decide) rfl (fun ls hl => ?_)
          refine lv_iload_n hx hb dL_texts_54 rfl (lv_at hl 5 rfl) ?_
          refine lv_if_eq (tgt := 149) hx hb dL_texts_55 (by decide) (fun h9 => absurd h9 (show ¬ (1 : Int32) = 0 from by decide)) (fun _ => ?_)
          refine lv_iload hx hb dL_texts_58 (lv_at hl 6 rfl) ?_
          refine lv_if_eq (tgt := 72) hx hb dL_texts_60 (by decide) (fun c_60 => ?_) (fun c_60 => ?_)
          · have n_60 : k = 0 := ej_teq (a := k) (b := 0) (by omega) (by omega) c_60
            refine lv_iload hx hb dL_texts_72 (lv_at hl 0 rfl) ?_
            refine lv_if_eq (tgt := 89) hx hb dL_texts_74 (by decide) (fun _ => ?_) (fun h9 => absurd (show (0 : Int32) = 0 from by decide) h9)
            refine lv_aload_n hx hb dL_texts_89 rfl (lv_at hl 2 rfl) ?_
            refine lv_bipush (v := 48) hx hb dL_texts_90 (by decide) ?_
            refine lv_iload hx hb dL_texts_92 (lv_at hl 1 rfl) ?_
            refine lv_iconst (v := 2) hx hb dL_texts_94 (by decide) ?_
            refine lv_ishr hx hb dL_texts_95 ?_
            refine lv_iload_n hx hb dL_texts_96 rfl (lv_at hl 3 rfl) ?_
            refine lv_bipush (v := 23) hx hb dL_texts_97 (by decide) ?_
            refine lv_ishr hx hb dL_texts_99 ?_
            refine lv_bipush (v := 9) hx hb dL_texts_100 (by decide) ?_
            refine ej_L0 (rest := [.int ((x >>> ((nI (1 + k)) &&& 31)) >>> (2 &&& 31)), .int 48, .ref (o 0)]) (As := [.int (x >>> (23 &&& 31)), .int 9]) S hK hN hA hD hW hS (c_L_low l D tys cI ht0 (x >>> (23 &&& 31)) 9 (by omega) (by omega)) (va_cwS 2 hts gL_texts_L_low rfl rfl rfl hds_L_low ⟨Nat.le_of_ble_eq_true rfl, Nat.le_of_ble_eq_true rfl⟩) rfl rfl hl.1 (Nat.le_of_ble_eq_true rfl) dL_texts_102 ⟨Nat.zero_le _, Nat.zero_le _⟩ (fun H locs hW hS => ?_)
            show W p9 l e9 (eR 20 1000) s9 m9 a9 b9 t9 c9 H locs 0 0 Q (F0 m9 105 ls [.int (nI (lowN (x >>> (23 &&& 31)) 9)), .int ((x >>> ((nI (1 + k)) &&& 31)) >>> (2 &&& 31)), .int 48, .ref (o 0)])
            have lw_102 := lowN_lt (x >>> (23 &&& 31)) (n := 9) (by omega)
            have jp115 : ∀ (H : Heap) (locs : List Loc) (ls : Array Slot), SW D cI cT o aT aB aS g y z ad t u hs sn qq ff s0 s1 s2 H → va_S A H0 H locs → lv_has ls 15 [(6, .int 0), (5, .int (x >>> ((nI (1 + k)) &&& 31))), (0, .ref (o 0)), (1, .int x), (2, .int (nI N)), (3, .int 1), (4, .int (nI k))] → W p9 l e9 (eR 20 1000) s9 m9 a9 b9 t9 c9 H locs 0 0 Q (F0 m9 115 ls [.int (nI M9), .int ((x >>> ((nI (1 + k)) &&& 31)) >>> (2 &&& 31)), .int 48, .ref (o 0)]) := by
              intro H locs ls hW hS hl
              refine ej_L0 (rest := [.int 48, .ref (o 0)]) (As := [.int ((x >>> ((nI (1 + k)) &&& 31)) >>> (2 &&& 31)), .int (nI M9)]) S hK hN hA hD hW hS (c_L_low l D tys cI ht0 ((x >>> ((nI (1 + k)) &&& 31)) >>> (2 &&& 31)) M9 (by omega) (by omega)) (va_cwS 2 hts gL_texts_L_low rfl rfl rfl hds_L_low ⟨Nat.le_of_ble_eq_true rfl, Nat.le_of_ble_eq_true rfl⟩) rfl rfl hl.1 (Nat.le_of_ble_eq_true rfl) dL_texts_115 ⟨Nat.zero_le _, Nat.zero_le _⟩ (fun H locs hW hS => ?_)
              show W p9 l e9 (eR 20 1000) s9 m9 a9 b9 t9 c9 H locs 0 0 Q (F0 m9 118 ls [.int (nI (lowN ((x >>> ((nI (1 + k)) &&& 31)) >>> (2 &&& 31)) M9)), .int 48, .ref (o 0)])
              have lw_115 := lowN_lt ((x >>> ((nI (1 + k)) &&& 31)) >>> (2 &&& 31)) (n := M9) (by omega)
              refine lv_iadd hx hb dL_texts_118 ?_
              refine ej_topi (show (48 : Int32) + (nI (lowN ((x >>> ((nI (1 + k)) &&& 31)) >>> (2 &&& 31)) M9)) = nI (48 + (lowN ((x >>> ((nI (1 + k)) &&& 31)) >>> (2 &&& 31)) M9)) from nI_add 48 (lowN ((x >>> ((nI (1 + k)) &&& 31)) >>> (2 &&& 31)) M9)) ?_
              refine lr_append (rest := []) (v := nI (48 + (lowN ((x >>> ((nI (1 + k)) &&& 31)) >>> (2 &&& 31)) M9))) S hK hN ht0 ht1 hA hD hW hS htl (dig_ok (by omega)) (by omega) (cwV 1 hts gL_texts_X6_append rfl rfl rfl hdv_X6_append ⟨Nat.le_of_ble_eq_true rfl, Nat.le_of_ble_eq_true rfl⟩) rfl hl.1 (Nat.le_of_ble_eq_true rfl) dL_texts_119 ⟨Nat.zero_le _, Nat.zero_le _⟩ (fun H locs hW hS => ?_)
              show W p9 l e9 (eR 20 1000) s9 m9 a9 b9 t9 c9 H locs 0 0 Q (F0 m9 122 ls [.int (nI (qq + 1))])
              have hW : SW D cI cT o aT aB aS g y z ad t u hs sn (qq + 1) (upd ff qq (nI (48 + (lowN ((x >>> ((nI (1 + k)) &&& 31)) >>> (2 &&& 31)) M9)))) s0 s1 s2 H := hW
              refine lv_if_le (tgt := 149) hx hb dL_texts_122 (by decide) (fun h9 => absurd h9 (ej_ge (a := 0) (b := (qq + 1)) (by omega) (show 0 < (qq + 1) from by omega))) (fun _ => ?_)
              refine lv_iload hx hb dL_texts_125 (lv_at hl 1 rfl) ?_
              refine lv_iconst (v := 3) hx hb dL_texts_127 (by decide) ?_
              refine lv_ishr hx hb dL_texts_128 ?_
              refine lv_iconst (v := 2) hx hb dL_texts_129 (by decide) ?_
              refine ej_L0 (rest := []) (As := [.int ((x >>> ((nI (1 + k)) &&& 31)) >>> (3 &&& 31)), .int 2]) S hK hN hA hD hW hS (c_L_low l D tys cI ht0 ((x >>> ((nI (1 + k)) &&& 31)) >>> (3 &&& 31)) 2 (by omega) (by omega)) (va_cwS 2 hts gL_texts_L_low rfl rfl rfl hds_L_low ⟨Nat.le_of_ble_eq_true rfl, Nat.le_of_ble_eq_true rfl⟩) rfl rfl hl.1 (Nat.le_of_ble_eq_true rfl) dL_texts_130 ⟨Nat.zero_le _, Nat.zero_le _⟩ (fun H locs hW hS => ?_)
              show W p9 l e9 (eR 20 1000) s9 m9 a9 b9 t9 c9 H locs 0 0 Q (F0 m9 133 ls [.int (nI (lowN ((x >>> ((nI (1 + k)) &&& 31)) >>> (3 &&& 31)) 2))])
              have lw_130 := lowN_lt ((x >>> ((nI (1 + k)) &&& 31)) >>> (3 &&& 31)) (n := 2) (by omega)
              refine lv_if_eq (tgt := 145) hx hb dL_texts_133 (by decide) (fun c_133 => ?_) (fun c_133 => ?_)
              · have n_133 : (lowN ((x >>> ((nI (1 + k)) &&& 31)) >>> (3 &&& 31)) 2) = 0 := ej_teq (a := (lowN ((x >>> ((nI (1 + k)) &&& 31)) >>> (3 &&& 31)) 2)) (b := 0) (by omega) (by omega) c_133
                refine lv_iconst (v := 1) hx hb dL_texts_145 (by decide) ?_
                refine lv_goto (tgt := 150) hx hb dL_texts_146 (by decide) ?_
                refine lv_istore_n (lv' := [(3, .int 1), (6, .int 0), (5, .int (x >>> ((nI (1 + k)) &&& 31))), (0, .ref (o 0)), (1, .int x), (2, .int (nI N)), (4, .int (nI k))]) hx hb dL_texts_150 rfl hl (by decide) rfl (fun ls hl => ?_)
                refine lv_iinc (v := nI (k + 1)) (lv' := [(4, .int (nI (k + 1))), (3, .int 1), (6, .int 0), (5, .int (x >>> ((nI (1 + k)) &&& 31))), (0, .ref (o 0)), (1, .int x), (2, .int (nI N))]) hx hb dL_texts_151 hl (k := 6) rfl (nI_add k 1) (by decide) rfl (fun ls hl => ?_)
                refine lv_goto (tgt := 23) hx hb dL_texts_154 (by decide) ?_
                have hl : lv_has ls 15 [(0, .ref (o 0)), (1, .int x), (2, .int (nI N)), (3, .int 1), (4, .int (nI (k + 1)))] := lv_sub hl [4, 5, 6, 1, 0] rfl
                have hl : lv_has ls 15 [(0, .ref (o 0)), (1, .int x), (2, .int (nI N)), (3, .int 1), (4, .int (nI (k + 1)))] := by exact hl
                exact ih23  (k + 1) (qq + 1) (upd ff qq (nI (48 + (lowN ((x >>> ((nI (1 + k)) &&& 31)) >>> (2 &&& 31)) M9)))) (by omega) (by omega) (by refine ⟨?_, by omega⟩; rw [cm_app, if_neg (dig_44 (by omega))]; omega) _ _ _ hW hS hl
              · have n_133 : (lowN ((x >>> ((nI (1 + k)) &&& 31)) >>> (3 &&& 31)) 2) ≠ 0 := ej_tne (a := (lowN ((x >>> ((nI (1 + k)) &&& 31)) >>> (3 &&& 31)) 2)) (b := 0) (by omega) (by omega) c_133
                refine lv_aload_n hx hb dL_texts_136 rfl (lv_at hl 2 rfl) ?_
                refine lv_bipush (v := 33) hx hb dL_texts_137 (by decide) ?_
                refine lr_append (rest := []) (v := 33) S hK hN ht0 ht1 hA hD hW hS htl (by decide) (by omega) (cwV 1 hts gL_texts_X6_append rfl rfl rfl hdv_X6_append ⟨Nat.le_of_ble_eq_true rfl, Nat.le_of_ble_eq_true rfl⟩) rfl hl.1 (Nat.le_of_ble_eq_true rfl) dL_texts_139 ⟨Nat.zero_le _, Nat.zero_le _⟩ (fun H locs hW hS => ?_)
                show W p9 l e9 (eR 20 1000) s9 m9 a9 b9 t9 c9 H locs 0 0 Q (F0 m9 142 ls [.int (nI ((qq + 1) + 1))])
                have hW : SW D cI cT o aT aB aS g y z ad t u hs sn ((qq + 1) + 1) (upd (upd ff qq (nI (48 + (lowN ((x >>> ((nI (1 + k)) &&& 31)) >>> (2 &&& 31)) M9)))) (qq + 1) 33) s0 s1 s2 H := hW
                refine lv_if_le (tgt := 149) hx hb dL_texts_142 (by decide) (fun h9 => absurd h9 (ej_ge (a := 0) (b := ((qq + 1) + 1)) (by omega) (show 0 < ((qq + 1) + 1) from by omega))) (fun _ => ?_)
                refine lv_iconst (v := 1) hx hb dL_texts_145 (by decide) ?_
                refine lv_goto (tgt := 150) hx hb dL_texts_146 (by decide) ?_
                refine lv_istore_n (lv' := [(3, .int 1), (6, .int 0), (5, .int (x >>> ((nI (1 + k)) &&& 31))), (0, .ref (o 0)), (1, .int x), (2, .int (nI N)), (4, .int (nI k))]) hx hb dL_texts_150 rfl hl (by decide) rfl (fun ls hl => ?_)
                refine lv_iinc (v := nI (k + 1)) (lv' := [(4, .int (nI (k + 1))), (3, .int 1), (6, .int 0), (5, .int (x >>> ((nI (1 + k)) &&& 31))), (0, .ref (o 0)), (1, .int x), (2, .int (nI N))]) hx hb dL_texts_151 hl (k := 6) rfl (nI_add k 1) (by decide) rfl (fun ls hl => ?_)
                refine lv_goto (tgt := 23) hx hb dL_texts_154 (by decide) ?_
                have hl : lv_has ls 15 [(0, .ref (o 0)), (1, .int x), (2, .int (nI N)), (3, .int 1), (4, .int (nI (k + 1)))] := lv_sub hl [4, 5, 6, 1, 0] rfl
                have hl : lv_has ls 15 [(0, .ref (o 0)), (1, .int x), (2, .int (nI N)), (3, .int 1), (4, .int (nI (k + 1)))] := by exact hl
                exact ih23  (k + 1) ((qq + 1) + 1) (upd (upd ff qq (nI (48 + (lowN ((x >>> ((nI (1 + k)) &&& 31)) >>> (2 &&& 31)) M9)))) (qq + 1) 33) (by omega) (by omega) (by refine ⟨?_, by omega⟩; rw [cm_app, if_neg (show ¬ (33 : Int32) = 44 by decide), cm_app, if_neg (dig_44 (by omega))]; omega) _ _ _ hW hS hl
            refine lv_if_ne (tgt := 113) hx hb dL_texts_105 (by decide) (fun c_105 => ?_) (fun c_105 => ?_)
            · have n_105 : (lowN (x >>> (23 &&& 31)) 9) ≠ 0 := ej_tne (a := (lowN (x >>> (23 &&& 31)) 9)) (b := 0) (by omega) (by omega) c_105
              refine lv_bipush (v := 7) hx hb dL_texts_113 (by decide) ?_
              refine ej_topi (show (7 : Int32) = nI M9 from (by rw [e_M9, if_neg n_105]; rfl)) ?_
              exact jp115 _ _ _ hW hS (lv_sub hl [0, 1, 2, 3, 4, 5, 6] rfl)
            · have n_105 : (lowN (x >>> (23 &&& 31)) 9) = 0 := ej_teq (a := (lowN (x >>> (23 &&& 31)) 9)) (b := 0) (by omega) (by omega) c_105
              refine lv_bipush (v := 8) hx hb dL_texts_108 (by decide) ?_
              refine lv_goto (tgt := 115) hx hb dL_texts_110 (by decide) ?_
              refine ej_topi (show (8 : Int32) = nI M9 from (by rw [e_M9, if_pos n_105]; rfl)) ?_
              exact jp115 _ _ _ hW hS (lv_sub hl [0, 1, 2, 3, 4, 5, 6] rfl)
          · have n_60 : k ≠ 0 := ej_tne (a := k) (b := 0) (by omega) (by omega) c_60
            refine lv_aload_n hx hb dL_texts_63 rfl (lv_at hl 2 rfl) ?_
            refine lv_bipush (v := 44) hx hb dL_texts_64 (by decide) ?_
            refine lr_append (rest := []) (v := 44) S hK hN ht0 ht1 hA hD hW hS htl (by decide) (by omega) (cwV 1 hts gL_texts_X6_append rfl rfl rfl hdv_X6_append ⟨Nat.le_of_ble_eq_true rfl, Nat.le_of_ble_eq_true rfl⟩) rfl hl.1 (Nat.le_of_ble_eq_true rfl) dL_texts_66 ⟨Nat.zero_le _, Nat.zero_le _⟩ (fun H locs hW hS => ?_)
            show W p9 l e9 (eR 20 1000) s9 m9 a9 b9 t9 c9 H locs 0 0 Q (F0 m9 69 ls [.int (nI (qq + 1))])
            have hW : SW D cI cT o aT aB aS g y z ad t u hs sn (qq + 1) (upd ff qq 44) s0 s1 s2 H := hW
            refine lv_if_le (tgt := 149) hx hb dL_texts_69 (by decide) (fun h9 => absurd h9 (ej_ge (a := 0) (b := (qq + 1)) (by omega) (show 0 < (qq + 1) from by omega))) (fun _ => ?_)
            refine lv_iload hx hb dL_texts_72 (lv_at hl 0 rfl) ?_
            refine lv_if_eq (tgt := 89) hx hb dL_texts_74 (by decide) (fun _ => ?_) (fun h9 => absurd (show (0 : Int32) = 0 from by decide) h9)
            refine lv_aload_n hx hb dL_texts_89 rfl (lv_at hl 2 rfl) ?_
            refine lv_bipush (v := 48) hx hb dL_texts_90 (by decide) ?_
            refine lv_iload hx hb dL_texts_92 (lv_at hl 1 rfl) ?_
            refine lv_iconst (v := 2) hx hb dL_texts_94 (by decide) ?_
            refine lv_ishr hx hb dL_texts_95 ?_
            refine lv_iload_n hx hb dL_texts_96 rfl (lv_at hl 3 rfl) ?_
            refine lv_bipush (v := 23) hx hb dL_texts_97 (by decide) ?_
            refine lv_ishr hx hb dL_texts_99 ?_
            refine lv_bipush (v := 9) hx hb dL_texts_100 (by decide) ?_
            refine ej_L0 (rest := [.int ((x >>> ((nI (1 + k)) &&& 31)) >>> (2 &&& 31)), .int 48, .ref (o 0)]) (As := [.int (x >>> (23 &&& 31)), .int 9]) S hK hN hA hD hW hS (c_L_low l D tys cI ht0 (x >>> (23 &&& 31)) 9 (by omega) (by omega)) (va_cwS 2 hts gL_texts_L_low rfl rfl rfl hds_L_low ⟨Nat.le_of_ble_eq_true rfl, Nat.le_of_ble_eq_true rfl⟩) rfl rfl hl.1 (Nat.le_of_ble_eq_true rfl) dL_texts_102 ⟨Nat.zero_le _, Nat.zero_le _⟩ (fun H locs hW hS => ?_)
            show W p9 l e9 (eR 20 1000) s9 m9 a9 b9 t9 c9 H locs 0 0 Q (F0 m9 105 ls [.int (nI (lowN (x >>> (23 &&& 31)) 9)), .int ((x >>> ((nI (1 + k)) &&& 31)) >>> (2 &&& 31)), .int 48, .ref (o 0)])
            have lw_102 := lowN_lt (x >>> (23 &&& 31)) (n := 9) (by omega)
            have jp115 : ∀ (H : Heap) (locs : List Loc) (ls : Array Slot), SW D cI cT o aT aB aS g y z ad t u hs sn (qq + 1) (upd ff qq 44) s0 s1 s2 H → va_S A H0 H locs → lv_has ls 15 [(6, .int 0), (5, .int (x >>> ((nI (1 + k)) &&& 31))), (0, .ref (o 0)), (1, .int x), (2, .int (nI N)), (3, .int 1), (4, .int (nI k))] → W p9 l e9 (eR 20 1000) s9 m9 a9 b9 t9 c9 H locs 0 0 Q (F0 m9 115 ls [.int (nI M9), .int ((x >>> ((nI (1 + k)) &&& 31)) >>> (2 &&& 31)), .int 48, .ref (o 0)]) := by
              intro H locs ls hW hS hl
              refine ej_L0 (rest := [.int 48, .ref (o 0)]) (As := [.int ((x >>> ((nI (1 + k)) &&& 31)) >>> (2 &&& 31)), .int (nI M9)]) S hK hN hA hD hW hS (c_L_low l D tys cI ht0 ((x >>> ((nI (1 + k)) &&& 31)) >>> (2 &&& 31)) M9 (by omega) (by omega)) (va_cwS 2 hts gL_texts_L_low rfl rfl rfl hds_L_low ⟨Nat.le_of_ble_eq_true rfl, Nat.le_of_ble_eq_true rfl⟩) rfl rfl hl.1 (Nat.le_of_ble_eq_true rfl) dL_texts_115 ⟨Nat.zero_le _, Nat.zero_le _⟩ (fun H locs hW hS => ?_)
              show W p9 l e9 (eR 20 1000) s9 m9 a9 b9 t9 c9 H locs 0 0 Q (F0 m9 118 ls [.int (nI (lowN ((x >>> ((nI (1 + k)) &&& 31)) >>> (2 &&& 31)) M9)), .int 48, .ref (o 0)])
              have lw_115 := lowN_lt ((x >>> ((nI (1 + k)) &&& 31)) >>> (2 &&& 31)) (n := M9) (by omega)
              refine lv_iadd hx hb dL_texts_118 ?_
              refine ej_topi (show (48 : Int32) + (nI (lowN ((x >>> ((nI (1 + k)) &&& 31)) >>> (2 &&& 31)) M9)) = nI (48 + (lowN ((x >>> ((nI (1 + k)) &&& 31)) >>> (2 &&& 31)) M9)) from nI_add 48 (lowN ((x >>> ((nI (1 + k)) &&& 31)) >>> (2 &&& 31)) M9)) ?_
              refine lr_append (rest := []) (v := nI (48 + (lowN ((x >>> ((nI (1 + k)) &&& 31)) >>> (2 &&& 31)) M9))) S hK hN ht0 ht1 hA hD hW hS htl (dig_ok (by omega)) (by omega) (cwV 1 hts gL_texts_X6_append rfl rfl rfl hdv_X6_append ⟨Nat.le_of_ble_eq_true rfl, Nat.le_of_ble_eq_true rfl⟩) rfl hl.1 (Nat.le_of_ble_eq_true rfl) dL_texts_119 ⟨Nat.zero_le _, Nat.zero_le _⟩ (fun H locs hW hS => ?_)
              show W p9 l e9 (eR 20 1000) s9 m9 a9 b9 t9 c9 H locs 0 0 Q (F0 m9 122 ls [.int (nI ((qq + 1) + 1))])
              have hW : SW D cI cT o aT aB aS g y z ad t u hs sn ((qq + 1) + 1) (upd (upd ff qq 44) (qq + 1) (nI (48 + (lowN ((x >>> ((nI (1 + k)) &&& 31)) >>> (2 &&& 31)) M9)))) s0 s1 s2 H := hW
              refine lv_if_le (tgt := 149) hx hb dL_texts_122 (by decide) (fun h9 => absurd h9 (ej_ge (a := 0) (b := ((qq + 1) + 1)) (by omega) (show 0 < ((qq + 1) + 1) from by omega))) (fun _ => ?_)
              refine lv_iload hx hb dL_texts_125 (lv_at hl 1 rfl) ?_
              refine lv_iconst (v := 3) hx hb dL_texts_127 (by decide) ?_
              refine lv_ishr hx hb dL_texts_128 ?_
              refine lv_iconst (v := 2) hx hb dL_texts_129 (by decide) ?_
              refine ej_L0 (rest := []) (As := [.int ((x >>> ((nI (1 + k)) &&& 31)) >>> (3 &&& 31)), .int 2]) S hK hN hA hD hW hS (c_L_low l D tys cI ht0 ((x >>> ((nI (1 + k)) &&& 31)) >>> (3 &&& 31)) 2 (by omega) (by omega)) (va_cwS 2 hts gL_texts_L_low rfl rfl rfl hds_L_low ⟨Nat.le_of_ble_eq_true rfl, Nat.le_of_ble_eq_true rfl⟩) rfl rfl hl.1 (Nat.le_of_ble_eq_true rfl) dL_texts_130 ⟨Nat.zero_le _, Nat.zero_le _⟩ (fun H locs hW hS => ?_)
              show W p9 l e9 (eR 20 1000) s9 m9 a9 b9 t9 c9 H locs 0 0 Q (F0 m9 133 ls [.int (nI (lowN ((x >>> ((nI (1 + k)) &&& 31)) >>> (3 &&& 31)) 2))])
              have lw_130 := lowN_lt ((x >>> ((nI (1 + k)) &&& 31)) >>> (3 &&& 31)) (n := 2) (by omega)
              refine lv_if_eq (tgt := 145) hx hb dL_texts_133 (by decide) (fun c_133 => ?_) (fun c_133 => ?_)
              · have n_133 : (lowN ((x >>> ((nI (1 + k)) &&& 31)) >>> (3 &&& 31)) 2) = 0 := ej_teq (a := (lowN ((x >>> ((nI (1 + k)) &&& 31)) >>> (3 &&& 31)) 2)) (b := 0) (by omega) (by omega) c_133
                refine lv_iconst (v := 1) hx hb dL_texts_145 (by decide) ?_
                refine lv_goto (tgt := 150) hx hb dL_texts_146 (by decide) ?_
                refine lv_istore_n (lv' := [(3, .int 1), (6, .int 0), (5, .int (x >>> ((nI (1 + k)) &&& 31))), (0, .ref (o 0)), (1, .int x), (2, .int (nI N)), (4, .int (nI k))]) hx hb dL_texts_150 rfl hl (by decide) rfl (fun ls hl => ?_)
                refine lv_iinc (v := nI (k + 1)) (lv' := [(4, .int (nI (k + 1))), (3, .int 1), (6, .int 0), (5, .int (x >>> ((nI (1 + k)) &&& 31))), (0, .ref (o 0)), (1, .int x), (2, .int (nI N))]) hx hb dL_texts_151 hl (k := 6) rfl (nI_add k 1) (by decide) rfl (fun ls hl => ?_)
                refine lv_goto (tgt := 23) hx hb dL_texts_154 (by decide) ?_
                have hl : lv_has ls 15 [(0, .ref (o 0)), (1, .int x), (2, .int (nI N)), (3, .int 1), (4, .int (nI (k + 1)))] := lv_sub hl [4, 5, 6, 1, 0] rfl
                have hl : lv_has ls 15 [(0, .ref (o 0)), (1, .int x), (2, .int (nI N)), (3, .int 1), (4, .int (nI (k + 1)))] := by exact hl
                exact ih23  (k + 1) ((qq + 1) + 1) (upd (upd ff qq 44) (qq + 1) (nI (48 + (lowN ((x >>> ((nI (1 + k)) &&& 31)) >>> (2 &&& 31)) M9)))) (by omega) (by omega) (by refine ⟨?_, by omega⟩; rw [cm_app, if_neg (dig_44 (by omega)), cm_app, if_pos rfl]; omega) _ _ _ hW hS hl
              · have n_133 : (lowN ((x >>> ((nI (1 + k)) &&& 31)) >>> (3 &&& 31)) 2) ≠ 0 := ej_tne (a := (lowN ((x >>> ((nI (1 + k)) &&& 31)) >>> (3 &&& 31)) 2)) (b := 0) (by omega) (by omega) c_133
                refine lv_aload_n hx hb dL_texts_136 rfl (lv_at hl 2 rfl) ?_
                refine lv_bipush (v := 33) hx hb dL_texts_137 (by decide) ?_
                refine lr_append (rest := []) (v := 33) S hK hN ht0 ht1 hA hD hW hS htl (by decide) (by omega) (cwV 1 hts gL_texts_X6_append rfl rfl rfl hdv_X6_append ⟨Nat.le_of_ble_eq_true rfl, Nat.le_of_ble_eq_true rfl⟩) rfl hl.1 (Nat.le_of_ble_eq_true rfl) dL_texts_139 ⟨Nat.zero_le _, Nat.zero_le _⟩ (fun H locs hW hS => ?_)
                show W p9 l e9 (eR 20 1000) s9 m9 a9 b9 t9 c9 H locs 0 0 Q (F0 m9 142 ls [.int (nI (((qq + 1) + 1) + 1))])
                have hW : SW D cI cT o aT aB aS g y z ad t u hs sn (((qq + 1) + 1) + 1) (upd (upd (upd ff qq 44) (qq + 1) (nI (48 + (lowN ((x >>> ((nI (1 + k)) &&& 31)) >>> (2 &&& 31)) M9)))) ((qq + 1) + 1) 33) s0 s1 s2 H := hW
                refine lv_if_le (tgt := 149) hx hb dL_texts_142 (by decide) (fun h9 => absurd h9 (ej_ge (a := 0) (b := (((qq + 1) + 1) + 1)) (by omega) (show 0 < (((qq + 1) + 1) + 1) from by omega))) (fun _ => ?_)
                refine lv_iconst (v := 1) hx hb dL_texts_145 (by decide) ?_
                refine lv_goto (tgt := 150) hx hb dL_texts_146 (by decide) ?_
                refine lv_istore_n (lv' := [(3, .int 1), (6, .int 0), (5, .int (x >>> ((nI (1 + k)) &&& 31))), (0, .ref (o 0)), (1, .int x), (2, .int (nI N)), (4, .int (nI k))]) hx hb dL_texts_150 rfl hl (by decide) rfl (fun ls hl => ?_)
                refine lv_iinc (v := nI (k + 1)) (lv' := [(4, .int (nI (k + 1))), (3, .int 1), (6, .int 0), (5, .int (x >>> ((nI (1 + k)) &&& 31))), (0, .ref (o 0)), (1, .int x), (2, .int (nI N))]) hx hb dL_texts_151 hl (k := 6) rfl (nI_add k 1) (by decide) rfl (fun ls hl => ?_)
                refine lv_goto (tgt := 23) hx hb dL_texts_154 (by decide) ?_
                have hl : lv_has ls 15 [(0, .ref (o 0)), (1, .int x), (2, .int (nI N)), (3, .int 1), (4, .int (nI (k + 1)))] := lv_sub hl [4, 5, 6, 1, 0] rfl
                have hl : lv_has ls 15 [(0, .ref (o 0)), (1, .int x), (2, .int (nI N)), (3, .int 1), (4, .int (nI (k + 1)))] := by exact hl
                exact ih23  (k + 1) (((qq + 1) + 1) + 1) (upd (upd (upd ff qq 44) (qq + 1) (nI (48 + (lowN ((x >>> ((nI (1 + k)) &&& 31)) >>> (2 &&& 31)) M9)))) ((qq + 1) + 1) 33) (by omega) (by omega) (by refine ⟨?_, by omega⟩; rw [cm_app, if_neg (show ¬ (33 : Int32) = 44 by decide), cm_app, if_neg (dig_44 (by omega)), cm_app, if_pos rfl]; omega) _ _ _ hW hS hl
            refine lv_if_ne (tgt := 113) hx hb dL_texts_105 (by decide) (fun c_105 => ?_) (fun c_105 => ?_)
            · have n_105 : (lowN (x >>> (23 &&& 31)) 9) ≠ 0 := ej_tne (a := (lowN (x >>> (23 &&& 31)) 9)) (b := 0) (by omega) (by omega) c_105
              refine lv_bipush (v := 7) hx hb dL_texts_113 (by decide) ?_
              refine ej_topi (show (7 : Int32) = nI M9 from (by rw [e_M9, if_neg n_105]; rfl)) ?_
              exact jp115 _ _ _ hW hS (lv_sub hl [0, 1, 2, 3, 4, 5, 6] rfl)
            · have n_105 : (lowN (x >>> (23 &&& 31)) 9) = 0 := ej_teq (a := (lowN (x >>> (23 &&& 31)) 9)) (b := 0) (by omega) (by omega) c_105
              refine lv_bipush (v := 8) hx hb dL_texts_108 (by decide) ?_
              refine lv_goto (tgt := 115) hx hb dL_texts_110 (by decide) ?_
              refine ej_topi (show (8 : Int32) = nI M9 from (by rw [e_M9, if_pos n_105]; rfl)) ?_
              exact jp115 _ _ _ hW hS (lv_sub hl [0, 1, 2, 3, 4, 5, 6] rfl)
        · have n_44 : (lowN (x >>> ((nI (1 + k)) &&& 31)) 9) = 0 := ej_teq (a := (lowN (x >>> ((nI (1 + k)) &&& 31)) 9)) (b := 0) (by omega) (by omega) c_44
          refine lv_iconst (v := 1) hx hb dL_texts_47 (by decide) ?_
          refine lv_goto (tgt := 52) hx hb dL_texts_48 (by decide) ?_
          refine lv_istore (lv' := [(6, .int 1), (5, .int (x >>> ((nI (1 + k)) &&& 31))), (0, .ref (o 0)), (1, .int x), (2, .int (nI N)), (3, .int 1), (4, .int (nI k))]) hx hb dL_texts_52 hl (by decide) rfl (fun ls hl => ?_)
          refine lv_iload_n hx hb dL_texts_54 rfl (lv_at hl 5 rfl) ?_
          refine lv_if_eq (tgt := 149) hx hb dL_texts_55 (by decide) (fun h9 => absurd h9 (show ¬ (1 : Int32) = 0 from by decide)) (fun _ => ?_)
          refine lv_iload hx hb dL_texts_58 (lv_at hl 6 rfl) ?_
          refine lv_if_eq (tgt := 72) hx hb dL_texts_60 (by decide) (fun c_60 => ?_) (fun c_60 => ?_)
          · have n_60 : k = 0 := ej_teq (a := k) (b := 0) (by omega) (by omega) c_60
            refine lv_iload hx hb dL_texts_72 (lv_at hl 0 rfl) ?_
            refine lv_if_eq (tgt := 89) hx hb dL_texts_74 (by decide) (fun h9 => absurd h9 (show ¬ (1 : Int32) = 0 from by decide)) (fun _ => ?_)
            refine lv_aload_n hx hb dL_texts_77 rfl (lv_at hl 2 rfl) ?_
            refine lv_bipush (v := 101) hx hb dL_texts_78 (by decide) ?_
            refine lr_append (rest := []) (v := 101) S hK hN ht0 ht1 hA hD hW hS htl (by decide) (by omega) (cwV 1 hts gL_texts_X6_append rfl rfl rfl hdv_X6_append ⟨Nat.le_of_ble_eq_true rfl, Nat.le_of_ble_eq_true rfl⟩) rfl hl.1 (Nat.le_of_ble_eq_true rfl) dL_texts_80 ⟨Nat.zero_le _, Nat.zero_le _⟩ (fun H locs hW hS => ?_)
            show W p9 l e9 (eR 20 1000) s9 m9 a9 b9 t9 c9 H locs 0 0 Q (F0 m9 83 ls [.int (nI (qq + 1))])
            have hW : SW D cI cT o aT aB aS g y z ad t u hs sn (qq + 1) (upd ff qq 101) s0 s1 s2 H := hW
            refine lv_if_le (tgt := 149) hx hb dL_texts_83 (by decide) (fun h9 => absurd h9 (ej_ge (a := 0) (b := (qq + 1)) (by omega) (show 0 < (qq + 1) from by omega))) (fun _ => ?_)
            refine lv_goto (tgt := 145) hx hb dL_texts_86 (by decide) ?_
            refine lv_iconst (v := 1) hx hb dL_texts_145 (by decide) ?_
            refine lv_goto (tgt := 150) hx hb dL_texts_146 (by decide) ?_
            refine lv_istore_n (lv' := [(3, .int 1), (6, .int 1), (5, .int (x >>> ((nI (1 + k)) &&& 31))), (0, .ref (o 0)), (1, .int x), (2, .int (nI N)), (4, .int (nI k))]) hx hb dL_texts_150 rfl hl (by decide) rfl (fun ls hl => ?_)
            refine lv_iinc (v := nI (k + 1)) (lv' := [(4, .int (nI (k + 1))), (3, .int 1), (6, .int 1), (5, .int (x >>> ((nI (1 + k)) &&& 31))), (0, .ref (o 0)), (1, .int x), (2, .int (nI N))]) hx hb dL_texts_151 hl (k := 6) rfl (nI_add k 1) (by decide) rfl (fun ls hl => ?_)
            refine lv_goto (tgt := 23) hx hb dL_texts_154 (by decide) ?_
            have hl : lv_has ls 15 [(0, .ref (o 0)), (1, .int x), (2, .int (nI N)), (3, .int 1), (4, .int (nI (k + 1)))] := lv_sub hl [4, 5, 6, 1, 0] rfl
            have hl : lv_has ls 15 [(0, .ref (o 0)), (1, .int x), (2, .int (nI N)), (3, .int 1), (4, .int (nI (k + 1)))] := by exact hl
            exact ih23  (k + 1) (qq + 1) (upd ff qq 101) (by omega) (by omega) (by refine ⟨?_, by omega⟩; rw [cm_app, if_neg (show ¬ (101 : Int32) = 44 by decide)]; omega) _ _ _ hW hS hl
          · have n_60 : k ≠ 0 := ej_tne (a := k) (b := 0) (by omega) (by omega) c_60
            refine lv_aload_n hx hb dL_texts_63 rfl (lv_at hl 2 rfl) ?_
            refine lv_bipush (v := 44) hx hb dL_texts_64 (by decide) ?_
            refine lr_append (rest := []) (v := 44) S hK hN ht0 ht1 hA hD hW hS htl (by decide) (by omega) (cwV 1 hts gL_texts_X6_append rfl rfl rfl hdv_X6_append ⟨Nat.le_of_ble_eq_true rfl, Nat.le_of_ble_eq_true rfl⟩) rfl hl.1 (Nat.le_of_ble_eq_true rfl) dL_texts_66 ⟨Nat.zero_le _, Nat.zero_le _⟩ (fun H locs hW hS => ?_)
            show W p9 l e9 (eR 20 1000) s9 m9 a9 b9 t9 c9 H locs 0 0 Q (F0 m9 69 ls [.int (nI (qq + 1))])
            have hW : SW D cI cT o aT aB aS g y z ad t u hs sn (qq + 1) (upd ff qq 44) s0 s1 s2 H := hW
            refine lv_if_le (tgt := 149) hx hb dL_texts_69 (by decide) (fun h9 => absurd h9 (ej_ge (a := 0) (b := (qq + 1)) (by omega) (show 0 < (qq + 1) from by omega))) (fun _ => ?_)
            refine lv_iload hx hb dL_texts_72 (lv_at hl 0 rfl) ?_
            refine lv_if_eq (tgt := 89) hx hb dL_texts_74 (by decide) (fun h9 => absurd h9 (show ¬ (1 : Int32) = 0 from by decide)) (fun _ => ?_)
            refine lv_aload_n hx hb dL_texts_77 rfl (lv_at hl 2 rfl) ?_
            refine lv_bipush (v := 101) hx hb dL_texts_78 (by decide) ?_
            refine lr_append (rest := []) (v := 101) S hK hN ht0 ht1 hA hD hW hS htl (by decide) (by omega) (cwV 1 hts gL_texts_X6_append rfl rfl rfl hdv_X6_append ⟨Nat.le_of_ble_eq_true rfl, Nat.le_of_ble_eq_true rfl⟩) rfl hl.1 (Nat.le_of_ble_eq_true rfl) dL_texts_80 ⟨Nat.zero_le _, Nat.zero_le _⟩ (fun H locs hW hS => ?_)
            show W p9 l e9 (eR 20 1000) s9 m9 a9 b9 t9 c9 H locs 0 0 Q (F0 m9 83 ls [.int (nI ((qq + 1) + 1))])
            have hW : SW D cI cT o aT aB aS g y z ad t u hs sn ((qq + 1) + 1) (upd (upd ff qq 44) (qq + 1) 101) s0 s1 s2 H := hW
            refine lv_if_le (tgt := 149) hx hb dL_texts_83 (by decide) (fun h9 => absurd h9 (ej_ge (a := 0) (b := ((qq + 1) + 1)) (by omega) (show 0 < ((qq + 1) + 1) from by omega))) (fun _ => ?_)
            refine lv_goto (tgt := 145) hx hb dL_texts_86 (by decide) ?_
            refine lv_iconst (v := 1) hx hb dL_texts_145 (by decide) ?_
            refine lv_goto (tgt := 150) hx hb dL_texts_146 (by decide) ?_
            refine lv_istore_n (lv' := [(3, .int 1), (6, .int 1), (5, .int (x >>> ((nI (1 + k)) &&& 31))), (0, .ref (o 0)), (1, .int x), (2, .int (nI N)), (4, .int (nI k))]) hx hb dL_texts_150 rfl hl (by decide) rfl (fun ls hl => ?_)
            refine lv_iinc (v := nI (k + 1)) (lv' := [(4, .int (nI (k + 1))), (3, .int 1), (6, .int 1), (5, .int (x >>> ((nI (1 + k)) &&& 31))), (0, .ref (o 0)), (1, .int x), (2, .int (nI N))]) hx hb dL_texts_151 hl (k := 6) rfl (nI_add k 1) (by decide) rfl (fun ls hl => ?_)
            refine lv_goto (tgt := 23) hx hb dL_texts_154 (by decide) ?_
            have hl : lv_has ls 15 [(0, .ref (o 0)), (1, .int x), (2, .int (nI N)), (3, .int 1), (4, .int (nI (k + 1)))] := lv_sub hl [4, 5, 6, 1, 0] rfl
            have hl : lv_has ls 15 [(0, .ref (o 0)), (1, .int x), (2, .int (nI N)), (3, .int 1), (4, .int (nI (k + 1)))] := by exact hl
            exact ih23  (k + 1) ((qq + 1) + 1) (upd (upd ff qq 44) (qq + 1) 101) (by omega) (by omega) (by refine ⟨?_, by omega⟩; rw [cm_app, if_neg (show ¬ (101 : Int32) = 44 by decide), cm_app, if_pos rfl]; omega) _ _ _ hW hS hl
  have hl : lv_has ls 15 [(0, .ref (o 0)), (1, .int x), (2, .int (nI N)), (3, .int 1), (4, .int 0)] := lv_sub hl [3, 4, 2, 1, 0] rfl
  have hl : lv_has ls 15 [(0, .ref (o 0)), (1, .int x), (2, .int (nI N)), (3, .int 1), (4, .int (nI 0))] := by exact hl
  exact lp23 ((N - 0) + 1) 0 0 f (by omega) (by omega) ⟨Nat.le_refl _, Nat.le_refl _⟩ _ _ _ hW hS hl
