/-! ===== boards as texts ===== -/
/-- what the law draws for the place k of a board -/
def hwB (x : Int32) (k : Nat) : Nat := lowN (x >>> (nI (k % 19) &&& 31)) 8
def cB (x : Int32) (O k : Nat) : Int32 := if k = O then 120 else if hwB x k = 0 then 46 else if hwB x k = 1 then 60 else if hwB x k = 2 then 62 else if hwB x k = 3 then 111 else 124
def pnN (x : Int32) : Nat → Nat
  | 0 => 0
  | k + 1 => pnN x k + (if hwB x k = 0 then 0 else 1)
theorem od_iff {od : Int32} {O k : Nat} (hO : (od = -1 ∧ O = 100) ∨ (od = nI O ∧ O < 35)) (hk : k < 60) : nI k = od ↔ k = O := by
  rcases hO with ⟨h1, h2⟩ | ⟨h1, h2⟩
  · rw [h1]
    refine ⟨fun z => ?_, fun z => by omega⟩
    have h3 := congrArg Int32.toInt z
    rw [nI_toInt (by omega)] at h3
    have e4 : (-1 : Int32).toInt = -1 := by decide
    omega
  · rw [h1]
    exact nI_eq (by omega) (by omega)
theorem cB_ok (x : Int32) (O k : Nat) : ¬ cB x O k < 33 ∧ ¬ 126 < cB x O k := by
  unfold cB
  split
  · decide
  · split
    · decide
    · split
      · decide
      · split
        · decide
        · split
          · decide
          · decide
theorem padB_step {x : Int32} {O k : Nat} {f : Nat → Int32} (h : ∀ j : Nat, j < k → f j = cB x O j) : ∀ j : Nat, j < k + 1 → upd f k (cB x O k) j = cB x O j := by
  intro j hj
  unfold upd
  by_cases q : j = k
  · rw [if_pos q, q]
  · rw [if_neg q]; exact h j (by omega)
theorem cB_pin {x : Int32} {O k : Nat} (h : ¬ k = O) : pinS (cB x O k) := by
  unfold cB
  rw [if_neg h]
  split
  · exact Or.inr (Or.inr (Or.inr (Or.inl rfl)))
  · split
    · exact Or.inl rfl
    · split
      · exact Or.inr (Or.inr (Or.inl rfl))
      · split
        · exact Or.inr (Or.inr (Or.inr (Or.inr rfl)))
        · exact Or.inr (Or.inl rfl)
theorem cB_odd {x : Int32} {O k : Nat} (h : k = O) : ¬ pinS (cB x O k) := by
  unfold cB
  rw [if_pos h]
  decide
theorem fbB {x : Int32} {O n : Nat} {f : Nat → Int32} (h : ∀ j : Nat, j < n → f j = cB x O j) : ∀ r i : Nat, i + r = n → i ≤ O → i ≤ 35 → fbG n f r i = if O < n ∧ O < 35 then nI O else if n < 35 then nI n else if 35 < n then 35 else -4
  | 0, i, hi, h1, h2 => by
    have e : i = n := by omega
    rw [fbG, if_neg (show ¬ (O < n ∧ O < 35) by omega)]
    by_cases q : n < 35
    · rw [if_pos q, if_pos q]
    · rw [if_neg q, if_neg q, if_neg (by omega)]
  | r + 1, i, hi, h1, h2 => by
    have hc : codeP n f i = cB x O i := by unfold codeP; rw [if_pos (by omega)]; exact h i (by omega)
    rw [fbG, hc]
    by_cases q : i = 35
    · rw [if_neg (fun z => by omega), if_neg (show ¬ (O < n ∧ O < 35) by omega), if_neg (by omega), if_pos (by omega), q]
      rfl
    · by_cases w : i = O
      · rw [if_neg (fun z => cB_odd w z.2), if_pos (show O < n ∧ O < 35 by omega), w]
      · rw [if_pos ⟨by omega, cB_pin w⟩]
        exact fbB h r (i + 1) (by omega) (by omega) (by omega)
theorem brd_ou (t : Pn) (n : Nat) (f : Nat → Int32) : ∀ m j : Nat, j < m → P_ou (brdT t n f m) j = (if codeP n f j = 46 then 1 else 0) ∧ P_si (brdT t n f m) j = 0
  | 0, _, h => absurd h (Nat.not_lt_zero _)
  | m + 1, j, h => by
    show upd (P_ou (brdT t n f m)) m (if codeP n f m = 46 then 1 else 0) j = _ ∧ upd (P_si (brdT t n f m)) m 0 j = 0
    by_cases q : j = m
    · rw [q, upd_at, upd_at]; exact ⟨rfl, rfl⟩
    · rw [upd_off q, upd_off q]; exact brd_ou t n f m j (by omega)
theorem pn_sum (x : Int32) : ∀ m : Nat, pnN x m + sumN (fun j => if hwB x j = 0 then 1 else 0) m = m
  | 0 => rfl
  | m + 1 => by
    have h := pn_sum x m
    rw [pnN, sumN]
    by_cases q : hwB x m = 0
    · rw [if_pos q, if_pos q]; omega
    · rw [if_neg q, if_neg q]; omega
theorem cB_46 {x : Int32} {k : Nat} (hk : k < 35) : cB x 100 k = 46 ↔ hwB x k = 0 := by
  unfold cB
  rw [if_neg (by omega)]
  by_cases q : hwB x k = 0
  · rw [if_pos q]; exact ⟨fun _ => q, fun _ => rfl⟩
  · rw [if_neg q]
    refine ⟨fun z => ?_, fun z => absurd z q⟩
    exfalso
    revert z
    split
    · decide
    · split
      · decide
      · split
        · decide
        · decide
theorem brd_count {x : Int32} {n : Nat} {f : Nat → Int32} (t : Pn) (hn : n = 35) (h : ∀ j : Nat, j < n → f j = cB x 100 j) : 35 - sumI (P_ou (brdT t n f 35)) 35 = nI (pnN x n) := by
  have hs : sumI (P_ou (brdT t n f 35)) 35 = nI (sumN (fun j => if hwB x j = 0 then 1 else 0) 35) := by
    refine sumI_nat 35 fun j hj => ?_
    rw [(brd_ou t n f 35 j hj).1]
    have hc : codeP n f j = cB x 100 j := by unfold codeP; rw [if_pos (by omega)]; exact h j (by omega)
    rw [hc]
    by_cases q : hwB x j = 0
    · rw [if_pos ((cB_46 hj).mpr q), if_pos q]; rfl
    · rw [if_neg (fun z => q ((cB_46 hj).mp z)), if_neg q]; rfl
  have hp := pn_sum x 35
  rw [hs, hn, show (35 : Int32) = nI 35 from rfl, pk_sub (by omega)]
  congr 1
  omega
theorem brd_side (t : Pn) (n : Nat) (f : Nat → Int32) : ¬ (if P_ou (brdT t n f 35) 34 = 0 then P_si (brdT t n f 35) 34 else -4) = 1 := by
  rw [(brd_ou t n f 35 34 (by decide)).2]
  split <;> decide
