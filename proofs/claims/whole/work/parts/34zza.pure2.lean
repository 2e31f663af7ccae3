/-! ===== a run of shots: class and model ===== -/
def stE (P : PtS) (M : SmS) : Prop := P.1 = M.2.2.2.2.1 ∧ P.2.1 = M.2.2.2.2.2.1 ∧ ((P.2.2.1 = 0 ∧ M.2.2.2.1 = 0) ∨ (¬ P.2.2.1 = 0 ∧ ¬ M.2.2.2.1 = 0 ∧ M.2.2.2.2.2.2.2 0 = P.2.2.1 ∧ M.2.2.2.2.2.2.2 1 = P.2.2.2.1 ∧ M.2.2.2.2.2.2.2 2 = P.2.2.2.2))
theorem acc_comma {le : Nat} {f : Nat → Int32} {r x : Nat} (h : accS le f (r + 1) x) (hl : tsN le f 1 x < le) : codeP le f (tsN le f 1 x) = 44 := by
  have hF := acc_F h
  unfold accS at h
  rw [hF, asG, if_pos ⟨by decide, hl⟩] at h
  by_cases q : codeP le f (tsN le f 1 x) = 44
  · exact q
  · rw [if_neg q] at h; exact absurd rfl h
theorem ptG_stop {n : Nat} {f : Nat → Int32} {r i p : Nat} {t : Pn} {u : Tr} {x y z : Int32} (h : ¬ x = 0) : ptG n f r i p t u x y z = (t, u, x, y, z) := by
  cases r with
  | zero => rfl
  | succ r => rw [ptG, if_neg h]
theorem shR_n0 {t : Pn} {u : Tr} {c : Nat} {h : Int32} (q : ¬ 0 < T_le u) : shR t u c h = 1 := if_neg q
theorem run_eq (n : Nat) (f : Nat → Int32) : ∀ (d i r p : Nat) (t : Pn) (u : Tr) (o h b : Int32) (z : Nat → Int32) (s1 s2 : Int32), n ≤ i + d → n ≤ i + r → i ≤ n → (i < n → accS n f r i) → okT t → okW u → stE (ptG n f (n - i) i p t u 0 s1 s2) (smG n f r i o h 0 p t u b z) := by
  intro d
  have hend : ∀ (r p : Nat) (t : Pn) (u : Tr) (o h b : Int32) (z : Nat → Int32) (s1 s2 : Int32), stE (ptG n f (n - n) n p t u 0 s1 s2) (smG n f r n o h 0 p t u b z) := by
    intro r p t u o h b z s1 s2
    rw [Nat.sub_self, ptG, smG_done (fun q => Nat.lt_irrefl _ q.2)]
    exact ⟨rfl, rfl, Or.inl ⟨rfl, rfl⟩⟩
  induction d with
  | zero =>
    intro i r p t u o h b z s1 s2 hd hr hi ha ht hu
    have e : i = n := by omega
    subst e
    exact hend r p t u o h b z s1 s2
  | succ d ih =>
    intro i r p t u o h b z s1 s2 hd hr hi ha ht hu
    rcases Nat.lt_or_ge i n with hl | hl
    · obtain ⟨r0, rfl⟩ : ∃ q : Nat, r = q + 1 := ⟨r - 1, by omega⟩
      have ac := ha hl
      have as9 := acc_step hl hr ac
      have tail : ∀ (t' : Pn) (u' : Tr) (b' : Int32) (z' : Nat → Int32), okT t' → okW u' → stE (ptG n f (n - tsN n f 1 i) (tsN n f 1 i) p t' u' 0 s1 s2) (smG n f r0 (tsN n f 1 i + 1) (tsO n f i) (tsH n f 1 i) 0 (p + 1) t' u' b' z') := by
        intro t' u' b' z' ht' hu'
        rcases Nat.lt_or_ge (tsN n f 1 i) n with w | w
        · have c44 := acc_comma ac w
          rw [show n - tsN n f 1 i = (n - (tsN n f 1 i + 1)) + 1 by omega, ptG, if_pos rfl, if_pos c44]
          exact ih (tsN n f 1 i + 1) r0 (p + 1) t' u' _ _ b' z' s1 s2 (by omega) (by omega) (by omega) as9.2 ht' hu'
        · have e : tsN n f 1 i = n := Nat.le_antisymm (tsN_le hi) w
          rw [e, Nat.sub_self, ptG, smG_done (fun q => absurd q.2 (by omega))]
          exact ⟨rfl, rfl, Or.inl ⟨rfl, rfl⟩⟩
      rw [smG, if_pos ⟨rfl, hl⟩, show n - i = (n - (i + 1)) + 1 by omega, ptG, if_pos rfl]
      by_cases q : codeP n f i = 101
      · have hO : tsO n f i = -4 := if_pos q
        have hneg : tsO n f i < 0 := by rw [hO]; decide
        have hN : tsN n f 1 i = i + 1 := if_pos q
        have e10 : smT t u (tsO n f i) (tsH n f 1 i) = 30 := by
          unfold smT
          rw [if_pos hneg, okU_emp20 hu.1]; decide
        have e1 : smP t u (tsO n f i) (tsH n f 1 i) = t := if_pos hneg
        have e2 : smU t u (tsO n f i) (tsH n f 1 i) = empU u := if_pos hneg
        rw [if_neg (by rw [q]; decide), if_pos q, if_pos (by rw [e10]; decide), e1, e2]
        have tl := tail t (empU u) (smB t u b (tsO n f i) (tsH n f 1 i)) z ht (okW_emp hu)
        rw [hN] at tl ⊢
        exact tl
      · have hF := acc_F ac
        unfold tsF at hF
        rw [if_neg q] at hF
        have pp : ¬ codeP n f i - 48 < 0 ∧ ¬ 6 < codeP n f i - 48 := by
          by_cases z : ¬ (1 : Int32) = 0 ∧ (¬ codeP n f i - 48 < 0 ∧ ¬ 6 < codeP n f i - 48)
          · exact z.2
          · rw [if_neg z] at hF; exact absurd hF (by decide)
        have pl := pp_plc pp
        have c44 : ¬ codeP n f i = 44 := fun e => by rw [e] at pl; exact pl.1 (by decide)
        have hO : tsO n f i = codeP n f i - 48 := if_neg q
        have hH : tsH n f 1 i = if codeP n f (i + 1) = 33 then 1 else 0 := by
          unfold tsH
          rw [if_neg q]
          by_cases w : codeP n f (i + 1) = 33
          · rw [if_pos ⟨⟨by decide, pp⟩, w⟩, if_pos w]
          · rw [if_neg (fun z => w z.2), if_neg w]
        have hneg : ¬ tsO n f i < 0 := by rw [hO]; exact pp.1
        have hc : (codeP n f i - 48).toNatClampNeg < 7 := by
          have := (acc_op ac hneg).2
          rw [hO] at this
          exact this
        have eT : smT t u (tsO n f i) (tsH n f 1 i) = shR t u (codeP n f i - 48).toNatClampNeg (if codeP n f (i + 1) = 33 then 1 else 0) := by
          unfold smT; rw [if_neg hneg, hO, hH]
        have eP : smP t u (tsO n f i) (tsH n f 1 i) = shP t u (codeP n f i - 48).toNatClampNeg (if codeP n f (i + 1) = 33 then 1 else 0) := by
          unfold smP; rw [if_neg hneg, hO, hH]
        have eU : smU t u (tsO n f i) (tsH n f 1 i) = shU t u (codeP n f i - 48).toNatClampNeg (if codeP n f (i + 1) = 33 then 1 else 0) := by
          unfold smU; rw [if_neg hneg, hO, hH]
        rw [if_neg c44, if_neg q, if_pos pl, eT, eP, eU]
        by_cases k : 10 ≤ shR t u (codeP n f i - 48).toNatClampNeg (if codeP n f (i + 1) = 33 then 1 else 0)
        · rw [if_pos k, if_pos k]
          have tl := tail (shP t u (codeP n f i - 48).toNatClampNeg (if codeP n f (i + 1) = 33 then 1 else 0)) (shU t u (codeP n f i - 48).toNatClampNeg (if codeP n f (i + 1) = 33 then 1 else 0)) (smB t u b (tsO n f i) (tsH n f 1 i)) z (okT_sh u _ _ ht) (okW_sh _ hc hu)
          by_cases w : codeP n f (i + 1) = 33
          · have hN : tsN n f 1 i = i + 2 := by unfold tsN; rw [if_neg q, if_pos ⟨by decide, pp⟩, if_pos w]
            have hx1 : i + 1 < n := by
              rcases Nat.lt_or_ge (i + 1) n with z | z
              · exact z
              · rw [codeP_ge z] at w; exact absurd w (by decide)
            rw [show n - (i + 1) = (n - (i + 2)) + 1 by omega, ptG, if_pos rfl, if_neg (show ¬ codeP n f (i + 1) = 44 by rw [w]; decide), if_neg (show ¬ codeP n f (i + 1) = 101 by rw [w]; decide), if_neg (show ¬ plc (codeP n f (i + 1)) by rw [w]; decide)]
            rw [hN] at tl ⊢
            exact tl
          · have hN : tsN n f 1 i = i + 1 := by unfold tsN; rw [if_neg q, if_pos ⟨by decide, pp⟩, if_neg w]
            rw [hN] at tl ⊢
            exact tl
        · have l0 : ¬ 0 < T_le u := fun l => k (shR_10 _ hc ht hu l)
          have e1 := shR_n0 (t := t) (c := (codeP n f i - 48).toNatClampNeg) (h := if codeP n f (i + 1) = 33 then 1 else 0) l0
          rw [if_neg k, if_neg k, smG_done (fun z => absurd z.1 (by decide)), e1, ptG_stop (by decide)]
          have n10 : ¬ (1 : Int32) = 0 := by decide
          exact ⟨rfl, rfl, Or.inr ⟨n10, n10, rfl, rfl, rfl⟩⟩
    · have e : i = n := by omega
      subst e
      exact hend r p t u o h b z s1 s2
theorem okT_pt (n : Nat) (f : Nat → Int32) : ∀ (r i p : Nat) (t : Pn) (u : Tr) (x y z : Int32), okT t → okW u → okT (ptG n f r i p t u x y z).1 ∧ okW (ptG n f r i p t u x y z).2.1
  | 0, _, _, t, u, x, y, z, ht, hu => ⟨ht, hu⟩
  | r + 1, i, p, t, u, x, y, z, ht, hu => by
    rw [ptG]
    by_cases q0 : x = 0
    · rw [if_pos q0]
      by_cases q1 : codeP n f i = 44
      · rw [if_pos q1]; exact okT_pt n f r _ _ _ _ _ _ _ ht hu
      · rw [if_neg q1]
        by_cases q2 : codeP n f i = 101
        · rw [if_pos q2]; exact okT_pt n f r _ _ _ _ _ _ _ ht (okW_emp hu)
        · rw [if_neg q2]
          by_cases q3 : plc (codeP n f i)
          · have hc := (plc_nat q3).2
            rw [if_pos q3]
            generalize (if codeP n f (i + 1) = 33 then (1 : Int32) else 0) = hd
            generalize (codeP n f i - 48).toNatClampNeg = c at hc
            by_cases q4 : 10 ≤ shR t u c hd
            · rw [if_pos q4]; exact okT_pt n f r _ _ _ _ _ _ _ (okT_sh u _ _ ht) (okW_sh _ hc hu)
            · rw [if_neg q4]; exact okT_pt n f r _ _ _ _ _ _ _ (okT_sh u _ _ ht) (okW_sh _ hc hu)
          · rw [if_neg q3]; exact okT_pt n f r _ _ _ _ _ _ _ ht hu
    · rw [if_neg q0]; exact ⟨ht, hu⟩
/-! ===== shots are counted ===== -/
def shN (u : Tr) (m : Nat) : Prop := ∃ k : Nat, k ≤ m ∧ T_sh u = nI k
theorem shN_up {u : Tr} {m m' : Nat} (h : shN u m) (hm : m ≤ m') : shN u m' := by
  obtain ⟨k, hk, e⟩ := h
  exact ⟨k, by omega, e⟩
theorem shN_sh {t : Pn} {u : Tr} {c : Nat} {h : Int32} {m : Nat} (q : shN u m) : shN (shU t u c h) (m + 1) := by
  obtain ⟨k, hk, e⟩ := q
  unfold shU
  split
  · refine ⟨k + 1, by omega, ?_⟩
    show T_sh u + 1 = nI (k + 1)
    rw [e]
    exact nI_add k 1
  · exact ⟨k, by omega, e⟩
theorem shN_pt (n : Nat) (f : Nat → Int32) : ∀ (r i p : Nat) (t : Pn) (u : Tr) (x y z : Int32) (m : Nat), shN u m → shN (ptG n f r i p t u x y z).2.1 (m + r)
  | 0, _, _, t, u, x, y, z, m, hu => hu
  | r + 1, i, p, t, u, x, y, z, m, hu => by
    have hs : ∀ (u' : Tr) (m' : Nat), m' ≤ m + 1 → shN u' m' → shN u' (m + 1) := fun u' m' h q => shN_up q h
    have e : m + (r + 1) = (m + 1) + r := by omega
    rw [ptG, e]
    by_cases q0 : x = 0
    · rw [if_pos q0]
      by_cases q1 : codeP n f i = 44
      · rw [if_pos q1]; exact shN_pt n f r _ _ _ _ _ _ _ _ (shN_up hu (by omega))
      · rw [if_neg q1]
        by_cases q2 : codeP n f i = 101
        · rw [if_pos q2]
          have h2 : shN (empU u) (m + 1) := shN_up (m := m) hu (by omega)
          exact shN_pt n f r _ _ _ _ _ _ _ _ h2
        · rw [if_neg q2]
          by_cases q3 : plc (codeP n f i)
          · rw [if_pos q3]
            generalize (if codeP n f (i + 1) = 33 then (1 : Int32) else 0) = hd
            generalize (codeP n f i - 48).toNatClampNeg = c
            have h2 : shN (shU t u c hd) (m + 1) := shN_sh hu
            by_cases q4 : 10 ≤ shR t u c hd
            · rw [if_pos q4]; exact shN_pt n f r _ _ _ _ _ _ _ _ h2
            · rw [if_neg q4]; exact shN_pt n f r _ _ _ _ _ _ _ _ h2
          · rw [if_neg q3]; exact shN_pt n f r _ _ _ _ _ _ _ _ (shN_up hu (by omega))
    · rw [if_neg q0]; exact shN_up hu (by omega)
theorem mean_iff {u : Tr} {m : Nat} (h : shN u m) (hm : m < 2 ^ 31) : (0 < T_sh u) = (¬ T_sh u = 0) := by
  obtain ⟨k, hk, e⟩ := h
  rw [e]
  refine propext ⟨fun q z => ?_, fun q => ?_⟩
  · rw [z] at q; exact absurd q (by decide)
  · exact le_pos (nI_pos' (by omega)) q
/-! ===== the ring of the history ===== -/
theorem ring_rec {hp ps : Nat → Pn × Tr} {n ro : Nat} (x : Pn × Tr) (hn : n ≤ 4) (hr : ro < 4) (h : ∀ i : Nat, i < n → hp ((i + ro) % 4) = ps i) : ∀ i : Nat, i < recN n → updH hp (recI ro n) x ((i + recR ro n) % 4) = recS ps n x i := by
  intro i hi
  unfold recN at hi
  unfold updH recI recR recS updH shfH
  by_cases q : n = 4
  · rw [if_pos q] at hi
    subst q
    simp only [if_true]
    by_cases w : i = 3
    · subst w
      rw [if_pos (by omega)]
      rfl
    · rw [if_neg (show ¬ (i + (ro + 1) % 4) % 4 = ro by omega), if_neg w, if_pos (by omega), ← h (i + 1) (by omega)]
      congr 1
      omega
  · rw [if_neg q] at hi
    simp only [q, if_false]
    by_cases w : i = n
    · subst w; rw [if_pos rfl, if_pos rfl]
    · rw [if_neg (show ¬ (i + ro) % 4 = (n + ro) % 4 by omega), if_neg w]
      exact h i (by omega)
theorem recN_le {n : Nat} (h : n ≤ 4) : recN n ≤ 4 := by unfold recN; split <;> omega
theorem recR_lt {ro n : Nat} (h : ro < 4) : recR ro n < 4 := by unfold recR; split <;> omega
