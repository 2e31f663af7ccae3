/-! ===== the pins, as functions ===== -/
-- fa_and, fa_or, fa_bit: begun from the kit's laws (NUMBERS)
theorem fa_and (a b : Nat) : nI a &&& nI b = nI (a &&& b) := by
  apply Int32.toBitVec_inj.1
  show BitVec.ofNat 32 a &&& BitVec.ofNat 32 b = BitVec.ofNat 32 (a &&& b)
  apply BitVec.eq_of_getLsbD_eq
  intro i hi
  simp [hi]
theorem fa_or (a b : Nat) : nI a ||| nI b = nI (a ||| b) := by
  apply Int32.toBitVec_inj.1
  show BitVec.ofNat 32 a ||| BitVec.ofNat 32 b = BitVec.ofNat 32 (a ||| b)
  apply BitVec.eq_of_getLsbD_eq
  intro i hi
  simp [hi]
theorem fb_bit_nat (n j : Nat) : n &&& 2 ^ j = 0 ↔ n.testBit j = false := by
  constructor
  · intro h
    have h1 : (n &&& 2 ^ j).testBit j = false := by rw [h]; simp
    rw [Nat.testBit_and] at h1
    simpa using h1
  · intro h
    apply Nat.eq_of_testBit_eq
    intro i
    rw [Nat.testBit_and]
    by_cases hi : j = i
    · subst hi; simp [h]
    · first | (simp [Nat.testBit_two_pow, hi]; done) | (simp [Nat.testBit_two_pow_of_ne hi]; done)
theorem ej_bit {m k : Nat} (hk : k < 31) : nI (m &&& 2 ^ k) = 0 ↔ ¬ m.testBit k = true := by
  have h2 : (2 : Nat) ^ k < 2 ^ 31 := Nat.pow_lt_pow_right (by decide) hk
  have hle : m &&& 2 ^ k ≤ 2 ^ k := Nat.and_le_right
  rw [show (0 : Int32) = nI 0 from rfl, nI_eq (by omega) (by decide), fb_bit_nat]
  simp
theorem ej_bitF {m k : Nat} (hk : k < 31) (h : nI (m &&& 2 ^ k) = 0) : ¬ m.testBit k = true := (ej_bit hk).mp h
theorem ej_bitT {m k : Nat} (hk : k < 31) (h : ¬ nI (m &&& 2 ^ k) = 0) : m.testBit k = true := Decidable.byContradiction fun q => h ((ej_bit hk).mpr q)
theorem ej_shl1 : ∀ n : Nat, n < 31 → (1 : Int32) <<< (nI n &&& 31) = nI (2 ^ n) := by decide +kernel
theorem ej_xa {x y : Int32} (h : x ≤ y) : ¬ y < x := Int32.not_lt.mpr h
theorem ej_xb {x y : Int32} (h : x < y) : ¬ y ≤ x := Int32.not_le.mpr h
theorem ej_xc {x y : Int32} (h : ¬ x < y) : y ≤ x := Int32.not_lt.mp h
theorem ej_xd {x y : Int32} (h : ¬ x ≤ y) : y < x := Int32.not_le.mp h
/-- the place that a ball comes to from the place c -/
def bes (c : Nat) (d : Int32) : Nat := if d = -1 then c - 1 else if d = 1 then (if c = 6 then 6 else c + 1) else c
theorem bes_lt (d : Int32) {c : Nat} (hc : c < 7) : bes c d < 7 := by
  unfold bes
  split
  · omega
  · split
    · split <;> omega
    · exact hc
theorem bes_31 (d : Int32) {c : Nat} (hc : c < 7) : bes c d < 31 := Nat.lt_of_lt_of_le (bes_lt d hc) (by decide)
def dOK (d : Int32) : Prop := d = -1 ∨ d = 0 ∨ d = 1
theorem bes_okA : ∀ c : Nat, c < 7 → (if 0 < (if (6 : Int32) < nI c + (-1) then (6 : Int32) else nI c + (-1)) then (if (6 : Int32) < nI c + (-1) then (6 : Int32) else nI c + (-1)) else 0) = nI (bes c (-1)) := by decide +kernel
theorem bes_okB : ∀ c : Nat, c < 7 → (if 0 < (if (6 : Int32) < nI c + 0 then (6 : Int32) else nI c + 0) then (if (6 : Int32) < nI c + 0 then (6 : Int32) else nI c + 0) else 0) = nI (bes c 0) := by decide +kernel
theorem bes_okC : ∀ c : Nat, c < 7 → (if 0 < (if (6 : Int32) < nI c + 1 then (6 : Int32) else nI c + 1) then (if (6 : Int32) < nI c + 1 then (6 : Int32) else nI c + 1) else 0) = nI (bes c 1) := by decide +kernel
theorem bes_okA' : ∀ c : Nat, c < 7 → (if 0 < (if nI c + (-1) < (6 : Int32) then nI c + (-1) else (6 : Int32)) then (if nI c + (-1) < (6 : Int32) then nI c + (-1) else (6 : Int32)) else 0) = nI (bes c (-1)) := by decide +kernel
theorem bes_okB' : ∀ c : Nat, c < 7 → (if 0 < (if nI c + 0 < (6 : Int32) then nI c + 0 else (6 : Int32)) then (if nI c + 0 < (6 : Int32) then nI c + 0 else (6 : Int32)) else 0) = nI (bes c 0) := by decide +kernel
theorem bes_okC' : ∀ c : Nat, c < 7 → (if 0 < (if nI c + 1 < (6 : Int32) then nI c + 1 else (6 : Int32)) then (if nI c + 1 < (6 : Int32) then nI c + 1 else (6 : Int32)) else 0) = nI (bes c 1) := by decide +kernel
theorem bes_ok {c : Nat} {d : Int32} (hc : c < 7) (hd : dOK d) : (if 0 < (if nI c + d < (6 : Int32) then nI c + d else (6 : Int32)) then (if nI c + d < (6 : Int32) then nI c + d else (6 : Int32)) else 0) = nI (bes c d) := by
  rcases hd with rfl | rfl | rfl
  · exact bes_okA' c hc
  · exact bes_okB' c hc
  · exact bes_okC' c hc
theorem bes_ok2 {c : Nat} {d : Int32} (hc : c < 7) (hd : dOK d) : (if 0 < (if (6 : Int32) < nI c + d then (6 : Int32) else nI c + d) then (if (6 : Int32) < nI c + d then (6 : Int32) else nI c + d) else 0) = nI (bes c d) := by
  rcases hd with rfl | rfl | rfl
  · exact bes_okA c hc
  · exact bes_okB c hc
  · exact bes_okC c hc
/-- the tilt is one of three -/
def tilOK (t : Pn) : Prop := P_ti t = 0 ∨ P_ti t = 1 ∨ P_ti t = 2
def leanT (t : Pn) (p : Nat) : Int32 := if P_be t p < 0 then -1 else if 0 < P_be t p then 1 else P_ti t - 1
def dirT (t : Pn) (p : Nat) : Int32 := if P_ou t p = 0 then (if leanT t p = 0 then (if P_si t p = 0 then -1 else 1) else leanT t p) else 0
theorem leanT_ok {t : Pn} (h : tilOK t) (p : Nat) : dOK (leanT t p) := by
  unfold leanT dOK
  split
  · exact Or.inl rfl
  · split
    · exact Or.inr (Or.inr rfl)
    · rcases h with h | h | h <;> rw [h] <;> decide
theorem dirT_ok {t : Pn} (h : tilOK t) (p : Nat) : dOK (dirT t p) := by
  unfold dirT
  split
  · split
    · split
      · exact Or.inl rfl
      · exact Or.inr (Or.inr rfl)
    · exact leanT_ok h p
  · exact Or.inr (Or.inl rfl)
theorem dOK_m : dOK (-1) := Or.inl rfl
theorem dOK_p : dOK 1 := Or.inr (Or.inr rfl)
/-- the places of the next row, as bits -/
def nextM (t : Pn) (p : Nat) : Nat := if P_ou t p = 0 then (if leanT t p = 0 then 2 ^ bes (p % 7) (-1) ||| 2 ^ bes (p % 7) 1 else 2 ^ bes (p % 7) (leanT t p)) else 2 ^ (p % 7)
def posT (t : Pn) (c : Nat) : Nat → Nat
  | 0 => c
  | r + 1 => bes (posT t c r) (dirT t (7 * r + posT t c r))
theorem posT_lt (t : Pn) {c : Nat} (hc : c < 7) : ∀ r : Nat, posT t c r < 7
  | 0 => hc
  | r + 1 => bes_lt _ (posT_lt t hc r)
def meetT (t : Pn) (k : Nat) (d h : Int32) : Pn :=
  if P_ou t k = 0 then
    (if ¬ h = 0 ∧ (¬ P_be t k + d < -3 ∧ ¬ 3 < P_be t k + d) then upd (P_be t) k (P_be t k + d) else P_be t, P_ou t, P_bl t, if leanT t k = 0 then upd (P_si t) k (1 - P_si t k) else P_si t, upd (P_vi t) k (P_vi t k + 1), P_ti t, P_ri t + P_bl t k, if ¬ h = 0 ∧ (¬ P_be t k + d < -3 ∧ ¬ 3 < P_be t k + d) then P_bb t + 1 else P_bb t)
  else (P_be t, P_ou t, P_bl t, P_si t, upd (P_vi t) k (P_vi t k + 1), P_ti t, P_ri t, P_bb t)
theorem meetT_ti (t : Pn) (k : Nat) (d h : Int32) : P_ti (meetT t k d h) = P_ti t := by
  unfold meetT
  split <;> rfl
def rollT (t : Pn) (c : Nat) (h : Int32) : Nat → Pn × Nat
  | 0 => (t, c)
  | r + 1 => (meetT (rollT t c h r).1 (7 * r + (rollT t c h r).2) (dirT (rollT t c h r).1 (7 * r + (rollT t c h r).2)) h, bes (rollT t c h r).2 (dirT (rollT t c h r).1 (7 * r + (rollT t c h r).2)))
theorem rollT_lt (t : Pn) {c : Nat} (h : Int32) (hc : c < 7) : ∀ r : Nat, (rollT t c h r).2 < 7
  | 0 => hc
  | r + 1 => bes_lt _ (rollT_lt t h hc r)
theorem rollT_ti (t : Pn) (c : Nat) (h : Int32) : ∀ r : Nat, P_ti (rollT t c h r).1 = P_ti t
  | 0 => rfl
  | r + 1 => (meetT_ti _ _ _ _).trans (rollT_ti t c h r)
theorem rollT_til {t : Pn} (c : Nat) (h : Int32) (r : Nat) (ht : tilOK t) : tilOK (rollT t c h r).1 := by
  unfold tilOK
  rw [rollT_ti]
  exact ht
def signI (t : Pn) (k : Nat) : Int32 := if P_ou t k = 0 then (if P_bl t k = 0 then (if P_be t k < 0 then 60 else if 0 < P_be t k then 62 else 124) else 111) else 46
def readT (t : Pn) (k : Nat) (c : Int32) : Pn := (upd (P_be t) k (if c = 60 then -1 else if c = 62 then 1 else 0), upd (P_ou t) k (if c = 46 then 1 else 0), upd (P_bl t) k (if c = 111 then 1 else 0), upd (P_si t) k 0, P_vi t, P_ti t, P_ri t, P_bb t)
def popc (m : Nat) : Nat := m / 1 % 2 + m / 2 % 2 + m / 4 % 2 + m / 8 % 2 + m / 16 % 2 + m / 32 % 2 + m / 64 % 2
