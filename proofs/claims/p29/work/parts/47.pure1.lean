/-! ===== what the class keeps: ranges and accounts ===== -/
def sumN (g : Nat → Nat) : Nat → Nat
  | 0 => 0
  | n + 1 => sumN g n + g n
theorem sumI_nat {f : Nat → Int32} {g : Nat → Nat} : ∀ n : Nat, (∀ k : Nat, k < n → f k = nI (g k)) → sumI f n = nI (sumN g n)
  | 0, _ => rfl
  | n + 1, h => by rw [sumI, sumN, sumI_nat n (fun k hk => h k (by omega)), h n (by omega), nI_add]
theorem sumN_le {g : Nat → Nat} {b : Nat} : ∀ n : Nat, (∀ k : Nat, k < n → g k ≤ b) → sumN g n ≤ b * n
  | 0, _ => Nat.zero_le _
  | n + 1, h => by
    rw [sumN, Nat.mul_succ]
    have h1 := sumN_le n (fun k hk => h k (by omega))
    have h2 := h n (by omega)
    omega
theorem sumI_upd {f : Nat → Int32} {k : Nat} {v : Int32} : ∀ n : Nat, k < n → sumI (upd f k (f k + v)) n = sumI f n + v
  | 0, h => absurd h (Nat.not_lt_zero _)
  | n + 1, h => by
    rw [sumI, sumI]
    by_cases q : k = n
    · subst q
      rw [sumI_congr (f := upd f k (f k + v)) (g := f) k (fun j hj => upd_off (by omega)), upd_at, Int32.add_assoc]
    · rw [sumI_upd n (by omega), upd_off (by omega), Int32.add_assoc, Int32.add_comm v, ← Int32.add_assoc]
def rowV (t : Pn) (r : Nat) : Int32 := sumI (fun c => P_vi t (7 * r + c)) 7
theorem meet_vi (t : Pn) (k : Nat) (d h : Int32) : P_vi (meetT t k d h) = upd (P_vi t) k (P_vi t k + 1) := by unfold meetT; split <;> rfl
theorem rowV_meet_in {t : Pn} {r c : Nat} {d h : Int32} (hc : c < 7) : rowV (meetT t (7 * r + c) d h) r = rowV t r + 1 := by
  unfold rowV
  rw [meet_vi]
  have e : (fun j => upd (P_vi t) (7 * r + c) (P_vi t (7 * r + c) + 1) (7 * r + j)) = upd (fun j => P_vi t (7 * r + j)) c ((fun j => P_vi t (7 * r + j)) c + 1) := by
    funext j
    unfold upd
    by_cases q : j = c
    · subst q; rw [if_pos rfl, if_pos rfl]
    · rw [if_neg (by omega), if_neg q]
  rw [e]
  exact sumI_upd 7 hc
theorem rowV_meet_out {t : Pn} {r r' c : Nat} {d h : Int32} (hc : c < 7) (hr : ¬ r' = r) : rowV (meetT t (7 * r + c) d h) r' = rowV t r' := by
  unfold rowV
  rw [meet_vi]
  refine sumI_congr 7 fun j hj => ?_
  exact upd_off (by omega)
theorem rowV_roll (t : Pn) {c : Nat} (h : Int32) (hc : c < 7) : ∀ r r' : Nat, (r' < r → rowV (rollT t c h r).1 r' = rowV t r' + 1) ∧ (r ≤ r' → rowV (rollT t c h r).1 r' = rowV t r')
  | 0, r' => ⟨fun q => absurd q (Nat.not_lt_zero _), fun _ => rfl⟩
  | r + 1, r' => by
    obtain ⟨h1, h2⟩ := rowV_roll t h hc r r'
    have hl := rollT_lt t h hc r
    rw [rollT_1]
    refine ⟨fun q => ?_, fun q => ?_⟩
    · by_cases w : r' = r
      · subst w
        rw [rowV_meet_in hl, h2 (Nat.le_refl _)]
      · rw [rowV_meet_out hl w, h1 (by omega)]
    · rw [rowV_meet_out hl (by omega), h2 (by omega)]
theorem meet_bb (t : Pn) (k : Nat) (d h : Int32) : P_bb (meetT t k d h) = P_bb t ∨ (¬ h = 0 ∧ P_bb (meetT t k d h) = P_bb t + 1) := by
  unfold meetT
  by_cases q : P_ou t k = 0
  · rw [if_pos q]
    by_cases w : ¬ h = 0 ∧ (¬ P_be t k + d < -3 ∧ ¬ 3 < P_be t k + d)
    · refine Or.inr ⟨w.1, ?_⟩
      show (if ¬ h = 0 ∧ (¬ P_be t k + d < -3 ∧ ¬ 3 < P_be t k + d) then P_bb t + 1 else P_bb t) = P_bb t + 1
      rw [if_pos w]
    · refine Or.inl ?_
      show (if ¬ h = 0 ∧ (¬ P_be t k + d < -3 ∧ ¬ 3 < P_be t k + d) then P_bb t + 1 else P_bb t) = P_bb t
      rw [if_neg w]
  · rw [if_neg q]; exact Or.inl rfl
theorem roll_bb (t : Pn) (c : Nat) (h : Int32) : ∀ r : Nat, ∃ j : Nat, j ≤ r ∧ (h = 0 → j = 0) ∧ P_bb (rollT t c h r).1 = P_bb t + nI j
  | 0 => ⟨0, Nat.le_refl _, fun _ => rfl, (Int32.add_zero _).symm⟩
  | r + 1 => by
    obtain ⟨j, hj, h0, e⟩ := roll_bb t c h r
    rw [rollT_1]
    rcases meet_bb (rollT t c h r).1 (7 * r + (rollT t c h r).2) (dirT (rollT t c h r).1 (7 * r + (rollT t c h r).2)) h with q | ⟨q0, q⟩
    · exact ⟨j, by omega, h0, q.trans e⟩
    · exact ⟨j + 1, by omega, fun z => absurd z q0, by rw [q, e, Int32.add_assoc]; exact congrArg _ (nI_add j 1)⟩
/-- bends and sides are in their ranges -/
def rngT (t : Pn) : Prop := (∀ p : Nat, p < 35 → ∃ b : Nat, b ≤ 6 ∧ P_be t p + 3 = nI b) ∧ ∀ p : Nat, p < 35 → P_si t p = 0 ∨ P_si t p = 1
theorem rng_step {x d : Int32} {b : Nat} (hb : b ≤ 6) (hx : x + 3 = nI b) (hd : dOK d) (hq : ¬ x + d < -3 ∧ ¬ 3 < x + d) : ∃ b' : Nat, b' ≤ 6 ∧ x + d + 3 = nI b' := by
  have h2 := be_of hx
  subst h2
  rcases (show b = 0 ∨ b = 1 ∨ b = 2 ∨ b = 3 ∨ b = 4 ∨ b = 5 ∨ b = 6 by omega) with h | h | h | h | h | h | h <;> subst h <;> rcases hd with rfl | rfl | rfl <;> first | exact absurd hq (by decide) | exact ⟨0, by decide, by decide⟩ | exact ⟨1, by decide, by decide⟩ | exact ⟨2, by decide, by decide⟩ | exact ⟨3, by decide, by decide⟩ | exact ⟨4, by decide, by decide⟩ | exact ⟨5, by decide, by decide⟩ | exact ⟨6, by decide, by decide⟩
theorem rng_upd {f : Nat → Int32} {k : Nat} {v : Int32} (hf : ∀ p : Nat, p < 35 → ∃ b : Nat, b ≤ 6 ∧ f p + 3 = nI b) (hv : ∃ b : Nat, b ≤ 6 ∧ v + 3 = nI b) : ∀ p : Nat, p < 35 → ∃ b : Nat, b ≤ 6 ∧ upd f k v p + 3 = nI b := by
  intro p hp
  unfold upd
  by_cases q : p = k
  · rw [if_pos q]; exact hv
  · rw [if_neg q]; exact hf p hp
theorem sid_upd {f : Nat → Int32} {k : Nat} {v : Int32} (hf : ∀ p : Nat, p < 35 → f p = 0 ∨ f p = 1) (hv : v = 0 ∨ v = 1) : ∀ p : Nat, p < 35 → upd f k v p = 0 ∨ upd f k v p = 1 := by
  intro p hp
  unfold upd
  by_cases q : p = k
  · rw [if_pos q]; exact hv
  · rw [if_neg q]; exact hf p hp
theorem meet_rng {t : Pn} {k : Nat} {d h : Int32} (hk : k < 35) (hd : dOK d) (hr : rngT t) : rngT (meetT t k d h) := by
  unfold meetT
  by_cases q : P_ou t k = 0
  · rw [if_pos q]
    refine ⟨?_, ?_⟩
    · show ∀ p : Nat, p < 35 → ∃ b : Nat, b ≤ 6 ∧ (if ¬ h = 0 ∧ (¬ P_be t k + d < -3 ∧ ¬ 3 < P_be t k + d) then upd (P_be t) k (P_be t k + d) else P_be t) p + 3 = nI b
      by_cases w : ¬ h = 0 ∧ (¬ P_be t k + d < -3 ∧ ¬ 3 < P_be t k + d)
      · rw [if_pos w]
        obtain ⟨b, hb, e⟩ := hr.1 k hk
        exact rng_upd hr.1 (rng_step hb e hd w.2)
      · rw [if_neg w]; exact hr.1
    · show ∀ p : Nat, p < 35 → (if leanT t k = 0 then upd (P_si t) k (1 - P_si t k) else P_si t) p = 0 ∨ (if leanT t k = 0 then upd (P_si t) k (1 - P_si t k) else P_si t) p = 1
      by_cases w : leanT t k = 0
      · rw [if_pos w]; exact sid_upd hr.2 (flip01 (hr.2 k hk))
      · rw [if_neg w]; exact hr.2
  · rw [if_neg q]; exact hr
theorem roll_rng {t : Pn} {c : Nat} (h : Int32) (hc : c < 7) (ht : tilOK t) (hr : rngT t) : ∀ r : Nat, r ≤ 5 → rngT (rollT t c h r).1
  | 0, _ => hr
  | r + 1, q => by
    have hl := rollT_lt t h hc r
    rw [rollT_1]
    exact meet_rng (by omega) (dirT_ok (rollT_til c h r ht) _) (roll_rng h hc ht hr r (by omega))
def fuOK (u : Tr) : Prop := ∃ F : Nat, 1 ≤ F ∧ F ≤ 9 ∧ T_fu u = nI F
/-- the accounts agree; m bounds the shots -/
def accN (m : Nat) (t : Pn) (u : Tr) : Prop := (∃ S Hd B P : Nat, S ≤ m ∧ Hd ≤ S ∧ B ≤ 5 * Hd ∧ P ≤ 14 * S ∧ T_sh u = nI S ∧ T_ha u = nI Hd ∧ P_bb t = nI B ∧ T_po u = nI P) ∧ (∀ r : Nat, r < 5 → rowV t r = T_sh u) ∧ sumI (T_en u) 7 = T_sh u ∧ ∀ k : Nat, k < 7 → ∃ e : Nat, e ≤ m ∧ T_en u k = nI e
def okS (m : Nat) (t : Pn) (u : Tr) : Prop := okT t ∧ okW u ∧ rngT t ∧ fuOK u ∧ accN m t u
theorem okS_up {m m' : Nat} {t : Pn} {u : Tr} (h : okS m t u) (hm : m ≤ m') : okS m' t u := by
  obtain ⟨h1, h2, h3, h4, ⟨S, Hd, B, P, a1, a2⟩, h6, h7, h8⟩ := h
  refine ⟨h1, h2, h3, h4, ⟨S, Hd, B, P, by omega, a2⟩, h6, h7, fun k hk => ?_⟩
  obtain ⟨e, he, e2⟩ := h8 k hk
  exact ⟨e, by omega, e2⟩
theorem take_en (u : Tr) (k : Nat) : T_en (takeT u k) = upd (T_en u) k (T_en u k + 1) := by unfold takeT; split <;> rfl
theorem shU_no {t : Pn} {u : Tr} {c : Nat} {h : Int32} (q : ¬ 0 < T_le u) : shU t u c h = (T_wo u, T_he u, T_en u, T_fu u, T_le u, T_lo u, T_po u, T_sh u, T_ha u, T_re u + 1) := by unfold shU; rw [if_neg q]
theorem shP_no {t : Pn} {u : Tr} {c : Nat} {h : Int32} (q : ¬ 0 < T_le u) : shP t u c h = t := by unfold shP; rw [if_neg q]
theorem shP_go {t : Pn} {u : Tr} {c : Nat} {h : Int32} (q : 0 < T_le u) : shP t u c h = (rollT t c h 5).1 := by unfold shP; rw [if_pos q]
theorem shU_go {t : Pn} {u : Tr} {c : Nat} {h : Int32} (q : 0 < T_le u) : shU t u c h = (T_wo u, T_he (takeT u (rollT t c h 5).2), T_en (takeT u (rollT t c h 5).2), T_fu u, T_le u - 1, T_lo (takeT u (rollT t c h 5).2), T_po u + shG t u c h, T_sh u + 1, if h = 0 then T_ha u else T_ha u + 1, T_re u) := by unfold shU; rw [if_pos q]
theorem okS_sh {m : Nat} {t : Pn} {u : Tr} {c : Nat} (h : Int32) (hc : c < 7) (ho : okS m t u) : okS (m + 1) (shP t u c h) (shU t u c h) := by
  obtain ⟨h1, h2, h3, h4, ⟨S, Hd, B, P, a1, a2, a3, a4, eS, eH, eB, eP⟩, h6, h7, h8⟩ := ho
  refine ⟨okT_sh u c h h1, okW_sh h hc h2, ?_⟩
  by_cases q : 0 < T_le u
  · rw [shP_go q, shU_go q]
    have hp := rollT_lt t h hc 5
    refine ⟨roll_rng h hc h1.1 h3 5 (Nat.le_refl _), h4, ⟨?_, ?_, ?_, ?_⟩⟩
    · obtain ⟨j, hj, j0, ej⟩ := roll_bb t c h 5
      obtain ⟨gn, hg, eg⟩ := shG_rng h hc h1 h2
      by_cases w : h = 0
      · refine ⟨S + 1, Hd, B, P + gn, by omega, by omega, by omega, by omega, ?_, ?_, ?_, ?_⟩
        · show T_sh u + 1 = _; rw [eS]; exact nI_add S 1
        · show (if h = 0 then T_ha u else T_ha u + 1) = _; rw [if_pos w]; exact eH
        · rw [ej, j0 w, eB, nI_add]; rfl
        · show T_po u + shG t u c h = _; rw [eP, eg, nI_add]
      · refine ⟨S + 1, Hd + 1, B + j, P + gn, by omega, by omega, by omega, by omega, ?_, ?_, ?_, ?_⟩
        · show T_sh u + 1 = _; rw [eS]; exact nI_add S 1
        · show (if h = 0 then T_ha u else T_ha u + 1) = _; rw [if_neg w, eH]; exact nI_add Hd 1
        · rw [ej, eB, nI_add]
        · show T_po u + shG t u c h = _; rw [eP, eg, nI_add]
    · intro r hr
      rw [(rowV_roll t h hc 5 r).1 hr, h6 r hr]
    · show sumI (T_en (takeT u (rollT t c h 5).2)) 7 = T_sh u + 1
      rw [take_en, sumI_upd 7 hp, h7]
    · intro k hk
      show ∃ e : Nat, e ≤ m + 1 ∧ T_en (takeT u (rollT t c h 5).2) k = nI e
      rw [take_en]
      unfold upd
      by_cases w : k = (rollT t c h 5).2
      · rw [if_pos w, ← w]
        obtain ⟨e, he, e2⟩ := h8 k hk
        exact ⟨e + 1, by omega, by rw [e2]; exact nI_add e 1⟩
      · rw [if_neg w]
        obtain ⟨e, he, e2⟩ := h8 k hk
        exact ⟨e, by omega, e2⟩
  · rw [shP_no q, shU_no q]
    refine ⟨h3, h4, ⟨S, Hd, B, P, by omega, a2, a3, a4, eS, eH, eB, eP⟩, h6, h7, fun k hk => ?_⟩
    obtain ⟨e, he, e2⟩ := h8 k hk
    exact ⟨e, by omega, e2⟩
theorem okS_emp {m : Nat} {t : Pn} {u : Tr} (ho : okS m t u) : okS m t (empU u) := ⟨ho.1, okW_emp ho.2.1, ho.2.2⟩
theorem okS_bh {m : Nat} {t : Pn} {u : Tr} {k : Nat} {d : Int32} (hk : k < 35) (hd : dOK d) (ho : okS m t u) : okS m (bhP t k d) (bhU t u k d) := by
  obtain ⟨h1, h2, h3, h4, h5⟩ := ho
  refine ⟨okT_bh k d h1, okW_bh k d h2, ?_⟩
  unfold bhP bhU
  by_cases q : P_ou t k = 0
  · rw [if_pos q, if_pos q]
    by_cases w : ¬ P_be t k + d < -3 ∧ ¬ 3 < P_be t k + d
    · rw [if_pos w, if_pos w]
      obtain ⟨b, hb, e⟩ := h3.1 k hk
      exact ⟨⟨rng_upd h3.1 (rng_step hb e hd w), h3.2⟩, h4, h5⟩
    · rw [if_neg w, if_neg w]; exact ⟨h3, h4, h5⟩
  · rw [if_neg q, if_neg q]; exact ⟨h3, h4, h5⟩
theorem okS_pl {m : Nat} {t : Pn} {u : Tr} {k : Nat} (hk : k < 35) (ho : okS m t u) : okS m (plT t k) u := by
  obtain ⟨h1, h2, h3, h4⟩ := ho
  exact ⟨okT_pl h1 hk, h2, ⟨rng_upd h3.1 ⟨3, by decide, by decide⟩, sid_upd h3.2 (Or.inl rfl)⟩, h4⟩
theorem okS_bl {m : Nat} {t : Pn} {u : Tr} {k : Nat} (hk : k < 35) (ho : okS m t u) : okS m (blT t k) u := by
  obtain ⟨h1, h2, h3, h4⟩ := ho
  exact ⟨okT_bl h1 hk, h2, h3, h4⟩
theorem okS_wo {m : Nat} {t : Pn} {u : Tr} {k : Nat} {w : Int32} (hw : inP w 9) (ho : okS m t u) : okS m t (woU u k w) := by
  obtain ⟨h1, h2, h3⟩ := ho
  exact ⟨h1, okW_wo hw h2, h3⟩
theorem okS_ti {m : Nat} {t : Pn} {u : Tr} {w : Int32} (hw : inP w 2) (ho : okS m t u) : okS m (tiT t w) u := by
  obtain ⟨h1, h2, h3⟩ := ho
  exact ⟨okT_ti h1 hw, h2, h3⟩
theorem okS_fu {m : Nat} {t : Pn} {u : Tr} {w F : Nat} (h1 : 1 ≤ F) (h9 : F ≤ 9) (ho : okS m t u) : okS m t (fuU u (nI F)) := by
  obtain ⟨h1', h2, h3, _, h5⟩ := ho
  exact ⟨h1', okW_fu _ h2, h3, ⟨F, h1, h9, rfl⟩, h5⟩
theorem rng_rd {t : Pn} (k : Nat) (c : Int32) (hr : rngT t) : rngT (readT t k c) := by
  refine ⟨rng_upd hr.1 ?_, sid_upd hr.2 (Or.inl rfl)⟩
  split
  · exact ⟨2, by decide, by decide⟩
  · split
    · exact ⟨4, by decide, by decide⟩
    · exact ⟨3, by decide, by decide⟩
theorem rng_brd {t : Pn} (n : Nat) (f : Nat → Int32) (hr : rngT t) : ∀ k : Nat, rngT (brdT t n f k)
  | 0 => hr
  | k + 1 => rng_rd k _ (rng_brd n f hr k)
theorem brd_vi (t : Pn) (n : Nat) (f : Nat → Int32) : ∀ k : Nat, P_vi (brdT t n f k) = P_vi t ∧ P_bb (brdT t n f k) = P_bb t
  | 0 => ⟨rfl, rfl⟩
  | k + 1 => brd_vi t n f k
theorem okS_brd {m : Nat} {t : Pn} {u : Tr} (n : Nat) (f : Nat → Int32) (ho : okS m t u) : okS m (brdT t n f 35) u := by
  obtain ⟨h1, h2, h3, h4, ⟨S, Hd, B, P, a⟩, h6, h7⟩ := ho
  obtain ⟨e1, e2⟩ := brd_vi t n f 35
  refine ⟨okT_brd n f h1 35, h2, rng_brd n f h3 35, h4, ⟨S, Hd, B, P, ?_⟩, fun r hr => ?_, h7⟩
  · rw [e2]; exact a
  · unfold rowV; rw [e1]; exact h6 r hr
theorem pin_ok {m : Nat} {t : Pn} {u : Tr} (ho : okS m t u) : pinOK t := by
  intro p hp
  rcases ho.1.2.1 p hp with q | q
  · exact Or.inr ⟨q, ho.2.2.1.1 p hp⟩
  · exact Or.inl ⟨q, ho.1.2.2.2 p hp q⟩
