/-! ===== where balls end, what shots would bring, the best place ===== -/
theorem next_dir (t : Pn) (p : Nat) (ht : tilOK t) : (nextM t p).testBit (bes (p % 7) (dirT t p)) = true := by
  have hb : ∀ c : Nat, (2 ^ c).testBit c = true := fun c => (pow_bit c c).mpr rfl
  unfold nextM dirT
  by_cases q : P_ou t p = 0
  · rw [if_pos q, if_pos q]
    by_cases w : leanT t p = 0
    · rw [if_pos w, if_pos w, Nat.testBit_or, Bool.or_eq_true]
      by_cases z : P_si t p = 0
      · rw [if_pos z]; exact Or.inl (hb _)
      · rw [if_neg z]; exact Or.inr (hb _)
    · rw [if_neg w, if_neg w]; exact hb _
  · rw [if_neg q, if_neg q, bes_0]; exact hb _
theorem end_bit {t : Pn} {c : Nat} (ht : tilOK t) (hc : c < 7) : ∀ r : Nat, (fwdM t r).testBit (posT t c r) = true
  | 0 => by
    have h127 : ∀ c : Nat, c < 7 → (127 : Nat).testBit c = true := by decide
    exact h127 c hc
  | r + 1 => by
    rw [fwdM, posT, bel_bit]
    have hl := posT_lt t hc r
    refine ⟨posT t c r, hl, end_bit ht hc r, ?_⟩
    have h := next_dir t (7 * r + posT t c r) ht
    rw [show (7 * r + posT t c r) % 7 = posT t c r by omega] at h
    exact h
theorem fwd_pos {t : Pn} (ht : tilOK t) : 0 < fwdM t 5 := by
  have h := end_bit (c := 0) ht (by decide) 5
  rcases Nat.eq_zero_or_pos (fwdM t 5) with q | q
  · rw [q, Nat.zero_testBit] at h; exact absurd h (by decide)
  · exact q
theorem le_20 {u : Tr} (h : okU u) : ∃ L : Nat, L ≤ 20 ∧ T_le u = nI L := by
  obtain ⟨a, hh, l, e1, _, _, s⟩ := h
  exact ⟨a, by omega, e1⟩
theorem take_lo (u : Tr) (k : Nat) : T_lo (takeT u k) = T_lo u ∨ T_lo (takeT u k) = T_lo u + 1 := by
  unfold takeT
  split
  · exact Or.inl rfl
  · exact Or.inr rfl
theorem ifW {m L : Nat} {t : Pn} {u : Tr} {k : Nat} (h : Int32) (hk : k < 7) (ho : okS m t u) (hL : L ≤ 20) (eL : T_le u = nI L) : ∀ j : Nat, okS (m + j) (ifG t u k h j).1 (ifG t u k h j).2 ∧ T_le (ifG t u k h j).2 = nI (L - j) ∧ (∃ d : Nat, d ≤ 14 * j ∧ d ≤ 14 * L ∧ T_po (ifG t u k h j).2 = T_po u + nI d) ∧ ∃ e : Nat, e ≤ j ∧ e ≤ L ∧ T_lo (ifG t u k h j).2 = T_lo u + nI e
  | 0 => ⟨ho, eL, ⟨0, Nat.zero_le _, Nat.zero_le _, (Int32.add_zero _).symm⟩, ⟨0, Nat.zero_le _, Nat.zero_le _, (Int32.add_zero _).symm⟩⟩
  | j + 1 => by
    obtain ⟨h1, h2, ⟨d, hd1, hd2, hd3⟩, e, he1, he2, he3⟩ := ifW h hk ho hL eL j
    rw [ifG]
    generalize hst : ifG t u k h j = st at h1 h2 hd3 he3
    by_cases q : 0 < T_le st.2
    · rw [if_pos q]
      have hj : j < L := by
        rw [h2] at q
        have := ej_tlt (a := 0) (b := L - j) (by omega) (by omega) q
        omega
      obtain ⟨gn, hg, eg⟩ := shG_rng h hk h1.1 h1.2.1
      refine ⟨okS_sh h hk h1, ?_, ?_, ?_⟩
      · show T_le (shU st.1 st.2 k h) = _
        rw [shU_go q]
        show T_le st.2 - 1 = _
        rw [h2, show (1 : Int32) = nI 1 from rfl, pk_sub (by omega)]
        congr 1
      · refine ⟨d + gn, by omega, ?_, ?_⟩
        · have : d ≤ 14 * j := hd1
          omega
        · show T_po (shU st.1 st.2 k h) = _
          rw [shU_go q]
          show T_po st.2 + shG st.1 st.2 k h = _
          rw [hd3, eg, Int32.add_assoc, nI_add]
      · rcases take_lo st.2 (rollT st.1 k h 5).2 with z | z
        · refine ⟨e, by omega, he2, ?_⟩
          show T_lo (shU st.1 st.2 k h) = _
          rw [shU_go q]
          exact z.trans he3
        · refine ⟨e + 1, by omega, by omega, ?_⟩
          show T_lo (shU st.1 st.2 k h) = _
          rw [shU_go q]
          show T_lo (takeT st.2 (rollT st.1 k h 5).2) = _
          rw [z, he3, Int32.add_assoc]
          exact congrArg _ (nI_add e 1)
    · rw [if_neg q]
      have hj : L ≤ j := by
        rcases Nat.lt_or_ge j L with z | z
        · exfalso
          apply q
          rw [h2]
          exact ej_lt (a := 0) (b := L - j) (by omega) (by omega)
        · exact z
      exact ⟨okS_up h1 (by omega), by rw [h2]; congr 1; omega, ⟨d, by omega, hd2, hd3⟩, ⟨e, by omega, he2, he3⟩⟩
theorem bst_max {t : Pn} {u : Tr} (h : Int32) (ht : okT t) (hu : okW u) (hl : 0 < T_le u) : ∀ k : Nat, k < 7 → (bstG t u h (k + 1)).1 < k + 1 ∧ (bstG t u h (k + 1)).2.1 = T_po (shU t u (bstG t u h (k + 1)).1 h) - T_po u ∧ ∀ j : Nat, j < k + 1 → T_po (shU t u j h) - T_po u ≤ (bstG t u h (k + 1)).2.1
  | 0, hk => by
    obtain ⟨a, ha, ea⟩ := gain_rng h hk ht hu hl
    have hlt : (-1 : Int32) < T_po (shU t u 0 h) - T_po u := by
      rw [ea, Int32.lt_iff_toInt_lt, nI_toInt (by omega)]
      have e4 : (-1 : Int32).toInt = -1 := by decide
      omega
    have e : bstG t u h 1 = (0, T_po (shU t u 0 h) - T_po u, nI (popc (fwdM (shP t u 0 h) 5))) := by
      rw [bstG]
      exact if_pos (Or.inl hlt)
    rw [e]
    refine ⟨Nat.zero_lt_one, rfl, fun j hj => ?_⟩
    rw [show j = 0 by omega]
    exact Int32.le_refl _
  | k + 1, hk => by
    obtain ⟨h1, h2, h3⟩ := bst_max h ht hu hl k (by omega)
    rw [bstG]
    by_cases q : (bstG t u h (k + 1)).2.1 < T_po (shU t u (k + 1) h) - T_po u ∨ (T_po (shU t u (k + 1) h) - T_po u = (bstG t u h (k + 1)).2.1 ∧ (bstG t u h (k + 1)).2.2 < nI (popc (fwdM (shP t u (k + 1) h) 5)))
    · rw [if_pos q]
      refine ⟨Nat.lt_succ_self _, rfl, fun j hj => ?_⟩
      show T_po (shU t u j h) - T_po u ≤ T_po (shU t u (k + 1) h) - T_po u
      by_cases w : j = k + 1
      · rw [w]; exact Int32.le_refl _
      · refine Int32.le_trans (h3 j (by omega)) ?_
        rcases q with q | q
        · exact Int32.le_of_lt q
        · rw [q.1]; exact Int32.le_refl _
    · rw [if_neg q]
      refine ⟨by omega, h2, fun j hj => ?_⟩
      by_cases w : j = k + 1
      · rw [w]; exact Int32.not_lt.mp (fun z => q (Or.inl z))
      · exact h3 j (by omega)
theorem best_max {t : Pn} {u : Tr} {k : Nat} (h : Int32) (ht : okT t) (hu : okW u) (hl : 0 < T_le u) (hk : k < 7) : ¬ (T_po (ifG t u (bstG t u h 7).1 h 1).2 - T_po u < T_po (ifG t u k h 1).2 - T_po u) := by
  obtain ⟨h1, h2, h3⟩ := bst_max h ht hu hl 6 (by decide)
  rw [if_1 hl, if_1 hl]
  show ¬ (T_po (shU t u (bstG t u h 7).1 h) - T_po u < T_po (shU t u k h) - T_po u)
  rw [← h2]
  exact Int32.not_lt.mpr (h3 k hk)
theorem bst_lt {t : Pn} {u : Tr} (h : Int32) (ht : okT t) (hu : okW u) (hl : 0 < T_le u) : (bstG t u h 7).1 < 7 := (bst_max h ht hu hl 6 (by decide)).1
theorem bad20 {j : Nat} (hj : j < 22) (h : ¬ (0 < j ∧ j ≤ 20)) : ¬ (¬ nI j < 1 ∧ ¬ 20 < nI j) := by
  rcases (show j = 0 ∨ j = 21 by omega) with z | z <;> subst z <;> decide
