/-! ===== short words ===== -/
theorem lkc_0 (t : Pn) (u : Tr) (q n : Nat) : couA t u q n 0 = T_po u := rfl
theorem lkc_1 (t : Pn) (u : Tr) (q n : Nat) : couA t u q n 1 = T_le u := rfl
theorem lkc_2 (t : Pn) (u : Tr) (q n : Nat) : couA t u q n 2 = sumI (T_he u) 7 := rfl
theorem lkc_3 (t : Pn) (u : Tr) (q n : Nat) : couA t u q n 3 = T_lo u := rfl
theorem lkc_4 (t : Pn) (u : Tr) (q n : Nat) : couA t u q n 4 = 35 - sumI (P_ou t) 35 := rfl
theorem lkc_5 (t : Pn) (u : Tr) (q n : Nat) : couA t u q n 5 = strS t := rfl
theorem lkc_6 (t : Pn) (u : Tr) (q n : Nat) : couA t u q n 6 = bndS t := rfl
theorem lkc_7 (t : Pn) (u : Tr) (q n : Nat) : couA t u q n 7 = sumI (P_bl t) 35 := rfl
theorem lkc_8 (t : Pn) (u : Tr) (q n : Nat) : couA t u q n 8 = fulS u := rfl
theorem lkc_9 (t : Pn) (u : Tr) (q n : Nat) : couA t u q n 9 = nI (popc (fwdM t 5)) := rfl
theorem lkc_10 (t : Pn) (u : Tr) (q n : Nat) : couA t u q n 10 = T_sh u := rfl
theorem lkc_11 (t : Pn) (u : Tr) (q n : Nat) : couA t u q n 11 = T_ha u := rfl
theorem lkc_12 (t : Pn) (u : Tr) (q n : Nat) : couA t u q n 12 = P_ri t := rfl
theorem lkc_13 (t : Pn) (u : Tr) (q n : Nat) : couA t u q n 13 = P_bb t := rfl
theorem lkc_14 (t : Pn) (u : Tr) (q n : Nat) : couA t u q n 14 = T_re u := rfl
theorem lkc_15 (t : Pn) (u : Tr) (q n : Nat) : couA t u q n 15 = P_ti t := rfl
theorem lkc_16 (t : Pn) (u : Tr) (q n : Nat) : couA t u q n 16 = T_fu u := rfl
theorem lkc_17 (t : Pn) (u : Tr) (q n : Nat) : couA t u q n 17 = nI q := rfl
theorem lkc_18 (t : Pn) (u : Tr) (q n : Nat) : couA t u q n 18 = nI n := rfl
theorem lkp_0 (t : Pn) (k : Nat) : pinR t k 0 = if P_ou t k = 0 then P_be t k + 3 else -4 := rfl
theorem lkp_1 (t : Pn) (k : Nat) : pinR t k 1 = P_bl t k := rfl
theorem lkp_2 (t : Pn) (k : Nat) : pinR t k 2 = if P_ou t k = 0 then P_si t k else -4 := rfl
theorem lkp_3 (t : Pn) (k : Nat) : pinR t k 3 = P_vi t k := rfl
theorem lkp_4 (t : Pn) (k : Nat) : pinR t k 4 = if (fwdM t (k / 7)).testBit (k % 7) = true then 1 else 0 := rfl
theorem lkw_0 (t : Pn) (u : Tr) (k : Nat) : pocR t u k 0 = T_wo u k := rfl
theorem lkw_1 (t : Pn) (u : Tr) (k : Nat) : pocR t u k 1 = T_he u k := rfl
theorem lkw_2 (t : Pn) (u : Tr) (k : Nat) : pocR t u k 2 = if ¬ T_he u k < T_fu u then 1 else 0 := rfl
theorem lkw_3 (t : Pn) (u : Tr) (k : Nat) : pocR t u k 3 = T_en u k := rfl
theorem lkw_4 (t : Pn) (u : Tr) (k : Nat) : pocR t u k 4 = nI (popc (stM t k)) := rfl
theorem lkc_in (t : Pn) (u : Tr) (q n : Nat) {k : Nat} (hk : k < 17) : couA t u q n (nI k) = couA t u 0 0 (nI k) := by
  have h17 : ¬ nI k = 17 := ej_ne (a := k) (b := 17) (by omega) (by omega) (by omega)
  have h18 : ¬ nI k = 18 := ej_ne (a := k) (b := 18) (by omega) (by omega) (by omega)
  unfold couA couB
  rw [if_neg h17, if_neg h18, if_neg h17, if_neg h18]
/-- the value that low answers -/
def lowN (v : Int32) (n : Nat) : Nat := v.toBitVec.toNat % 2147483648 % n
theorem lowN_lt (v : Int32) {n : Nat} (h : 0 < n) : lowN v n < n := Nat.mod_lt _ h
/-- the state is left as it was -/
def sameL (t : Pn) (u : Tr) (hs : List (Pn × Tr)) (q : Nat) (f : Nat → Int32) (s0 s1 s2 : Int32) (Pv : Value → Prop) : PoL := fun v t1 u1 hs1 q1 f1 x0 x1 x2 => Pv v ∧ t = t1 ∧ u = u1 ∧ hs = hs1 ∧ q = q1 ∧ f = f1 ∧ s0 = x0 ∧ s1 = x1 ∧ s2 = x2
/-! ===== look ===== -/
def lkC (t : Pn) (u : Tr) : Nat → Int64
  | 0 => 479
  | k + 1 => 31 * lkC t u k + (couA t u 0 0 (nI k)).toInt64
def lkPi (t : Pn) (p : Nat) (h : Int64) : Nat → Int64
  | 0 => h
  | k + 1 => 31 * lkPi t p h k + (pinR t p (nI k)).toInt64
def lkPs (t : Pn) (h : Int64) : Nat → Int64
  | 0 => h
  | p + 1 => lkPi t p (lkPs t h p) 4
def lkK (t : Pn) (u : Tr) (h : Int64) : Nat → Int64
  | 0 => h
  | k + 1 => 31 * lkK t u h k + (pocR t u (k / 4) (nI (k % 4))).toInt64
/-- what look answers -/
def lookV (t : Pn) (u : Tr) : Int64 := lkK t u (lkPs t (lkC t u 17) 35) 28
theorem bes_p (c : Nat) : bes c 1 = if c = 6 then 6 else c + 1 := by unfold bes; rw [if_neg (by decide), if_pos rfl]
theorem bes_m (c : Nat) : bes c (-1) = c - 1 := by unfold bes; rw [if_pos rfl]
/-- a pin's bend, as the look tells it -/
def pinOK (t : Pn) : Prop := ∀ p : Nat, p < 35 → (P_ou t p = 1 ∧ P_be t p = 0) ∨ (P_ou t p = 0 ∧ ∃ b : Nat, b ≤ 6 ∧ P_be t p + 3 = nI b)
theorem be_of {x : Int32} {b : Nat} (h : x + 3 = nI b) : x = nI b - 3 := by rw [← h, Int32.add_sub_cancel]
theorem be_lt {x : Int32} {b : Nat} (hb : b ≤ 6) (h : x + 3 = nI b) : (x < 0 ↔ b < 3) ∧ (0 < x ↔ 3 < b) ∧ (x = 0 ↔ b = 3) := by
  have h2 := be_of h
  subst h2
  rcases (show b = 0 ∨ b = 1 ∨ b = 2 ∨ b = 3 ∨ b = 4 ∨ b = 5 ∨ b = 6 by omega) with h | h | h | h | h | h | h <;> subst h <;> decide
theorem next_out {t : Pn} {p : Nat} (ho : P_ou t p = 1) : nextM t p = 2 ^ (p % 7) := by
  unfold nextM; rw [if_neg (by rw [ho]; decide)]
theorem next_in {t : Pn} {p b : Nat} (ho : P_ou t p = 0) (hb : b ≤ 6) (hbe : P_be t p + 3 = nI b) : nextM t p = if leanT t p = 0 then 2 ^ bes (p % 7) (-1) ||| 2 ^ bes (p % 7) 1 else 2 ^ bes (p % 7) (leanT t p) := by
  unfold nextM; rw [if_pos ho]
theorem lean_l {t : Pn} {p b : Nat} (hb : b ≤ 6) (hbe : P_be t p + 3 = nI b) (h : b < 3) : leanT t p = -1 := by
  unfold leanT; rw [if_pos ((be_lt hb hbe).1.mpr h)]
theorem lean_r {t : Pn} {p b : Nat} (hb : b ≤ 6) (hbe : P_be t p + 3 = nI b) (h : 3 < b) : leanT t p = 1 := by
  unfold leanT; rw [if_neg (fun z => by have := (be_lt hb hbe).1.mp z; omega), if_pos ((be_lt hb hbe).2.1.mpr h)]
theorem lean_0 {t : Pn} {p b : Nat} (hb : b ≤ 6) (hbe : P_be t p + 3 = nI b) (h : b = 3) : leanT t p = P_ti t - 1 := by
  unfold leanT; rw [if_neg (fun z => by have := (be_lt hb hbe).1.mp z; omega), if_neg (fun z => by have := (be_lt hb hbe).2.1.mp z; omega)]
