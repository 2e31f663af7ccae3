/-! ===== shots as texts ===== -/
/-- commas ahead of the place i -/
def cmN (f : Nat → Int32) : Nat → Nat
  | 0 => 0
  | i + 1 => cmN f i + (if f i = 44 then 1 else 0)
theorem cm_congr {f g : Nat → Int32} : ∀ i : Nat, (∀ j : Nat, j < i → f j = g j) → cmN f i = cmN g i
  | 0, _ => rfl
  | i + 1, h => by rw [cmN, cmN, cm_congr i (fun j hj => h j (by omega)), h i (by omega)]
theorem cm_upd {f : Nat → Int32} {q i : Nat} {v : Int32} (h : i ≤ q) : cmN (upd f q v) i = cmN f i := cm_congr i (fun j hj => upd_off (by omega))
theorem cm_app {f : Nat → Int32} {q : Nat} {v : Int32} : cmN (upd f q v) (q + 1) = cmN f q + (if v = 44 then 1 else 0) := by
  rw [cmN, cm_upd (Nat.le_refl _), upd_at]
theorem cm_mono (f : Nat → Int32) (i : Nat) : ∀ d : Nat, cmN f i ≤ cmN f (i + d)
  | 0 => Nat.le_refl _
  | d + 1 => Nat.le_trans (cm_mono f i d) (Nat.le_add_right _ _)
theorem cm_le (f : Nat → Int32) {i j : Nat} (h : i ≤ j) : cmN f i ≤ cmN f j := by
  have := cm_mono f i (j - i)
  rwa [show i + (j - i) = j by omega] at this
theorem dig_44 {d : Nat} (h : d < 8) : ¬ nI (48 + d) = 44 := ej_ne (a := 48 + d) (b := 44) (by omega) (by omega) (by omega)
theorem dig_ok {d : Nat} (h : d < 8) : ¬ nI (48 + d) < 33 ∧ ¬ 126 < nI (48 + d) := ⟨ej_nlt (a := 48 + d) (b := 33) (by omega) (by omega), ej_nlt (a := 126) (b := 48 + d) (by omega) (by omega)⟩
/-- a sign that is no comma has fewer commas ahead than there are parts -/
def PT (N q : Nat) (f : Nat → Int32) : Prop := ∀ i : Nat, i < q → ¬ f i = 44 → cmN f i < N
theorem PT_0 {N q : Nat} {f : Nat → Int32} (h1 : cmN f q ≤ N - 1) (h2 : q ≤ 3 * N) : PT N q f := by
  intro i hi _
  have := cm_le f (Nat.le_of_lt hi)
  omega
theorem PT_1 {N q : Nat} {f : Nat → Int32} (h1 : cmN f q ≤ N - 1) (h2 : q ≤ 3 * N) : PT N (q + 1) (upd f q 44) := by
  intro i hi hn
  by_cases z : i = q
  · rw [z, upd_at] at hn; exact absurd rfl hn
  · rw [cm_upd (by omega)]
    have := cm_le f (show i ≤ q by omega)
    omega
theorem codeP_in {n k : Nat} {f : Nat → Int32} (h : k < n) : codeP n f k = f k := if_pos h
/-- no comma stands at the begin, or behind a comma -/
theorem fs_sep {n : Nat} {f : Nat → Int32} (hn : n ≤ 60) : ∀ (r i : Nat) (b : Int32), i + r = n → fsG n f r i b = -4 → ∀ j : Nat, i ≤ j → j < n → f j = 44 → (j = i → ¬ b = 44) ∧ (i < j → ¬ f (j - 1) = 44)
  | 0, i, b, hi, _, j, h1, h2, _ => by omega
  | r + 1, i, b, hi, h, j, h1, h2, h44 => by
    rw [fsG, codeP_in (show i < n by omega)] at h
    by_cases q : mayF b (f i)
    · rw [if_pos q] at h
      have ih := fs_sep hn r (i + 1) (f i) (by omega) h
      by_cases z : j = i
      · subst z
        refine ⟨fun _ hb => ?_, fun w => absurd w (Nat.lt_irrefl _)⟩
        rw [h44, hb] at q
        exact absurd q (by decide)
      · refine ⟨fun w => absurd w z, fun _ => ?_⟩
        obtain ⟨a, c⟩ := ih j (by omega) h2 h44
        by_cases w : j = i + 1
        · have := a w
          rw [w, Nat.add_sub_cancel]; exact this
        · exact c (by omega)
    · rw [if_neg q] at h
      exact absurd h (nI_ne4 (by omega))
theorem cm_half {n : Nat} {f : Nat → Int32} (h : ∀ j : Nat, j < n → f j = 44 → 0 < j ∧ ¬ f (j - 1) = 44) : ∀ i : Nat, i ≤ n → 2 * cmN f i ≤ i
  | 0, _ => Nat.le_refl _
  | 1, hi => by
    rw [cmN, cmN]
    by_cases q : f 0 = 44
    · exact absurd (h 0 (by omega) q).1 (Nat.lt_irrefl _)
    · rw [if_neg q]; omega
  | i + 2, hi => by
    have ih := cm_half h i (by omega)
    have ih1 := cm_half h (i + 1) (by omega)
    rw [cmN]
    by_cases q : f (i + 1) = 44
    · have h2 := (h (i + 1) (by omega) q).2
      rw [if_pos q, cmN]
      rw [Nat.add_sub_cancel] at h2
      rw [if_neg h2]
      omega
    · rw [if_neg q]; omega
theorem fs_half {n : Nat} {f : Nat → Int32} (hn : n ≤ 60) (h : fsG n f n 0 44 = -4) : ∀ i : Nat, i ≤ n → 2 * cmN f i ≤ i := by
  refine cm_half fun j hj h44 => ?_
  obtain ⟨a, b⟩ := fs_sep hn n 0 44 (Nat.zero_add n) h j (Nat.zero_le _) hj h44
  rcases Nat.eq_zero_or_pos j with z | z
  · exact absurd rfl (a z)
  · exact ⟨z, b z⟩
theorem fs_rng (n : Nat) (f : Nat → Int32) : ∀ (r i : Nat) (b : Int32), i + r = n → fsG n f r i b = -4 ∨ ∃ j : Nat, j ≤ n ∧ fsG n f r i b = nI j
  | 0, i, b, hi => by
    rw [fsG]
    split
    · exact Or.inr ⟨n, Nat.le_refl _, rfl⟩
    · exact Or.inl rfl
  | r + 1, i, b, hi => by
    rw [fsG]
    split
    · exact fs_rng n f r (i + 1) _ (by omega)
    · exact Or.inr ⟨i, by omega, rfl⟩
theorem ptG_stop {n : Nat} {f : Nat → Int32} {r i p : Nat} {t : Pn} {u : Tr} {x y z : Int32} (h : ¬ x = 0) : ptG n f r i p t u x y z = (t, u, x, y, z) := by
  cases r with
  | zero => rfl
  | succ r => rw [ptG, if_neg h]
/-- what a run of shots comes to -/
def ptP (n : Nat) (f : Nat → Int32) (m r : Nat) (u : Tr) (X : PtS) : Prop := okS m X.1 X.2.1 ∧ (∃ d : Nat, d ≤ 14 * r ∧ T_po X.2.1 = T_po u + nI d) ∧ ((X.2.2.1 = 0 ∧ T_re X.2.1 = T_re u) ∨ (X.2.2.1 = 1 ∧ T_re X.2.1 = T_re u + 1 ∧ T_le X.2.1 = 0 ∧ ∃ p i : Nat, X.2.2.2.1 = nI p ∧ X.2.2.2.2 = nI i ∧ i < n ∧ ¬ f i = 44 ∧ p = cmN f i))
theorem ptP_up {n m r r' : Nat} {f : Nat → Int32} {u : Tr} {X : PtS} (h : ptP n f m r u X) (hr : r ≤ r') : ptP n f m r' u X := by
  obtain ⟨h1, ⟨d, hd1, hd2⟩, h3⟩ := h
  exact ⟨h1, ⟨d, by omega, hd2⟩, h3⟩
theorem pt_all {n : Nat} {f : Nat → Int32} : ∀ (r i m : Nat) (t : Pn) (u : Tr) (y z : Int32), i + r = n → okS m t u → ptP n f (m + r) r u (ptG n f r i (cmN f i) t u 0 y z)
  | 0, i, m, t, u, y, z, hi, ho => ⟨ho, ⟨0, Nat.zero_le _, (Int32.add_zero _).symm⟩, Or.inl ⟨rfl, rfl⟩⟩
  | r + 1, i, m, t, u, y, z, hi, ho => by
    have hr : m + (r + 1) = (m + 1) + r := by omega
    rw [ptG, if_pos rfl, codeP_in (show i < n by omega), hr]
    by_cases q1 : f i = 44
    · rw [if_pos q1]
      have h := pt_all (n := n) (f := f) r (i + 1) (m + 1) t u y z (by omega) (okS_up ho (by omega))
      rw [cmN, if_pos q1] at h
      exact ptP_up h (Nat.le_succ r)
    · have hc : cmN f (i + 1) = cmN f i := by rw [cmN, if_neg q1]; rfl
      rw [if_neg q1]
      by_cases q2 : f i = 101
      · rw [if_pos q2]
        have h := pt_all (n := n) (f := f) r (i + 1) (m + 1) t (empU u) y z (by omega) (okS_up (okS_emp ho) (by omega))
        rw [hc] at h
        exact ptP_up h (Nat.le_succ r)
      · rw [if_neg q2]
        by_cases q3 : plc (f i)
        · have hk := (plc_nat q3).2
          rw [if_pos q3]
          generalize (if codeP n f (i + 1) = 33 then (1 : Int32) else 0) = hd
          generalize (f i - 48).toNatClampNeg = c at hk
          by_cases q4 : 0 < T_le u
          · have h10 := shR_10 hd hk ho.1 ho.2.1 q4
            rw [if_pos h10]
            obtain ⟨h1, ⟨d, hd1, hd2⟩, h3⟩ := pt_all (n := n) (f := f) r (i + 1) (m + 1) (shP t u c hd) (shU t u c hd) y z (by omega) (okS_sh hd hk ho)
            rw [hc] at h1 hd2 h3
            obtain ⟨gn, hg, eg⟩ := shG_rng hd hk ho.1 ho.2.1
            refine ⟨h1, ⟨gn + d, ?_, ?_⟩, ?_⟩
            · omega
            · rw [hd2, sh_po q4, eg, Int32.add_assoc, nI_add]
            · rw [sh_re q4] at h3
              exact h3
          · have e1 := shR_n0 (t := t) (c := c) (h := hd) q4
            have hn10 : ¬ 10 ≤ shR t u c hd := by rw [e1]; decide
            rw [if_neg hn10, e1, ptG_stop (by decide), shP_no q4, shU_no q4]
            refine ⟨okS_up ?_ (show m ≤ m + 1 + r by omega), ⟨0, Nat.zero_le _, (Int32.add_zero _).symm⟩, Or.inr ⟨rfl, rfl, ?_, cmN f i, i, rfl, rfl, by omega, q1, rfl⟩⟩
            · exact ho
            · obtain ⟨L, hL, eL⟩ := le_20 ho.2.1.1
              show T_le u = 0
              rw [eL] at q4 ⊢
              rcases Nat.eq_zero_or_pos L with w | w
              · rw [w]; rfl
              · exact absurd (ej_lt (a := 0) (b := L) (by omega) w) q4
        · rw [if_neg q3]
          have h := pt_all (n := n) (f := f) r (i + 1) (m + 1) t u y z (by omega) (okS_up ho (by omega))
          rw [hc] at h
          exact ptP_up h (Nat.le_succ r)
theorem lg_self (x : Int64) : lg_cmp x x = 0 := by
  unfold lg_cmp
  simp
theorem nI_ne2 {d : Nat} (h : d < 2 ^ 31) : ¬ nI d = -2 := by
  intro e
  have h1 := congrArg Int32.toInt e
  rw [nI_toInt h] at h1
  have e4 : (-2 : Int32).toInt = -2 := by decide
  omega
