/-! ===== the pins, as functions ===== -/
-- fa_and, fa_or, fa_bit: begun from the kit's laws (NUMBERS)
theorem fa_and (a b : Nat) : nI a &&& nI b = nI (a &&& b) := by
  apply Int32.toBitVec_inj.1
  show BitVec.ofNat 32 a &&& BitVec.ofNat 32 b = BitVec.ofNat 32 (a &&& b)
  apply BitVec.eq_of_getLsbD_eq
  intro i hi
  simp [hi]
theorem fa_or (a b : Nat) : nI a ||| nI b = nI (a ||| b) := by
  apply Int32.toBitVec_inj.1
  show BitVec.ofNat 32 a ||| BitVec.ofNat 32 b = BitVec.ofNat 32 (a ||| b)
  apply BitVec.eq_of_getLsbD_eq
  intro i hi
  simp [hi]
theorem fb_bit_nat (n j : Nat) : n &&& 2 ^ j = 0 ↔ n.testBit j = false := by
  constructor
  · intro h
    have h1 : (n &&& 2 ^ j).testBit j = false := by rw [h]; simp
    rw [Nat.testBit_and] at h1
    simpa using h1
  · intro h
    apply Nat.eq_of_testBit_eq
    intro i
    rw [Nat.testBit_and]
    by_cases hi : j = i
    · subst hi; simp [h]
    · first | (simp [Nat.testBit_two_pow, hi]; done) | (simp [Nat.testBit_two_pow_of_ne hi]; done)
theorem ej_bit {m k : Nat} (hk : k < 31) : nI (m &&& 2 ^ k) = 0 ↔ ¬ m.testBit k = true := by
  have h2 : (2 : Nat) ^ k < 2 ^ 31 := Nat.pow_lt_pow_right (by decide) hk
  have hle : m &&& 2 ^ k ≤ 2 ^ k := Nat.and_le_right
  rw [show (0 : Int32) = nI 0 from rfl, nI_eq (by omega) (by decide), fb_bit_nat]
  simp
theorem ej_bitF {m k : Nat} (hk : k < 31) (h : nI (m &&& 2 ^ k) = 0) : ¬ m.testBit k = true := (ej_bit hk).mp h
theorem ej_bitT {m k : Nat} (hk : k < 31) (h : ¬ nI (m &&& 2 ^ k) = 0) : m.testBit k = true := Decidable.byContradiction fun q => h ((ej_bit hk).mpr q)
theorem ej_shl1 : ∀ n : Nat, n < 31 → (1 : Int32) <<< (nI n &&& 31) = nI (2 ^ n) := by decide +kernel
theorem ej_xa {x y : Int32} (h : x ≤ y) : ¬ y < x := Int32.not_lt.mpr h
theorem ej_xb {x y : Int32} (h : x < y) : ¬ y ≤ x := Int32.not_le.mpr h
theorem ej_xc {x y : Int32} (h : ¬ x < y) : y ≤ x := Int32.not_lt.mp h
theorem ej_xd {x y : Int32} (h : ¬ x ≤ y) : y < x := Int32.not_le.mp h
/-- the place that a ball comes to from the place c -/
def bes (c : Nat) (d : Int32) : Nat := if d = -1 then c - 1 else if d = 1 then (if c = 6 then 6 else c + 1) else c
theorem bes_lt (d : Int32) {c : Nat} (hc : c < 7) : bes c d < 7 := by
  unfold bes
  split
  · omega
  · split
    · split <;> omega
    · exact hc
theorem bes_31 (d : Int32) {c : Nat} (hc : c < 7) : bes c d < 31 := Nat.lt_of_lt_of_le (bes_lt d hc) (by decide)
def dOK (d : Int32) : Prop := d = -1 ∨ d = 0 ∨ d = 1
theorem bes_okA : ∀ c : Nat, c < 7 → (if 0 < (if (6 : Int32) < nI c + (-1) then (6 : Int32) else nI c + (-1)) then (if (6 : Int32) < nI c + (-1) then (6 : Int32) else nI c + (-1)) else 0) = nI (bes c (-1)) := by decide +kernel
theorem bes_okB : ∀ c : Nat, c < 7 → (if 0 < (if (6 : Int32) < nI c + 0 then (6 : Int32) else nI c + 0) then (if (6 : Int32) < nI c + 0 then (6 : Int32) else nI c + 0) else 0) = nI (bes c 0) := by decide +kernel
theorem bes_okC : ∀ c : Nat, c < 7 → (if 0 < (if (6 : Int32) < nI c + 1 then (6 : Int32) else nI c + 1) then (if (6 : Int32) < nI c + 1 then (6 : Int32) else nI c + 1) else 0) = nI (bes c 1) := by decide +kernel
theorem bes_okA' : ∀ c : Nat, c < 7 → (if 0 < (if nI c + (-1) < (6 : Int32) then nI c + (-1) else (6 : Int32)) then (if nI c + (-1) < (6 : Int32) then nI c + (-1) else (6 : Int32)) else 0) = nI (bes c (-1)) := by decide +kernel
theorem bes_okB' : ∀ c : Nat, c < 7 → (if 0 < (if nI c + 0 < (6 : Int32) then nI c + 0 else (6 : Int32)) then (if nI c + 0 < (6 : Int32) then nI c + 0 else (6 : Int32)) else 0) = nI (bes c 0) := by decide +kernel
theorem bes_okC' : ∀ c : Nat, c < 7 → (if 0 < (if nI c + 1 < (6 : Int32) then nI c + 1 else (6 : Int32)) then (if nI c + 1 < (6 : Int32) then nI c + 1 else (6 : Int32)) else 0) = nI (bes c 1) := by decide +kernel
theorem bes_ok {c : Nat} {d : Int32} (hc : c < 7) (hd : dOK d) : (if 0 < (if nI c + d < (6 : Int32) then nI c + d else (6 : Int32)) then (if nI c + d < (6 : Int32) then nI c + d else (6 : Int32)) else 0) = nI (bes c d) := by
  rcases hd with rfl | rfl | rfl
  · exact bes_okA' c hc
  · exact bes_okB' c hc
  · exact bes_okC' c hc
theorem bes_ok2 {c : Nat} {d : Int32} (hc : c < 7) (hd : dOK d) : (if 0 < (if (6 : Int32) < nI c + d then (6 : Int32) else nI c + d) then (if (6 : Int32) < nI c + d then (6 : Int32) else nI c + d) else 0) = nI (bes c d) := by
  rcases hd with rfl | rfl | rfl
  · exact bes_okA c hc
  · exact bes_okB c hc
  · exact bes_okC c hc
/-- the tilt is one of three -/
def tilOK (t : Pn) : Prop := P_ti t = 0 ∨ P_ti t = 1 ∨ P_ti t = 2
def leanT (t : Pn) (p : Nat) : Int32 := if P_be t p < 0 then -1 else if 0 < P_be t p then 1 else P_ti t - 1
def dirT (t : Pn) (p : Nat) : Int32 := if P_ou t p = 0 then (if leanT t p = 0 then (if P_si t p = 0 then -1 else 1) else leanT t p) else 0
theorem leanT_ok {t : Pn} (h : tilOK t) (p : Nat) : dOK (leanT t p) := by
  unfold leanT dOK
  split
  · exact Or.inl rfl
  · split
    · exact Or.inr (Or.inr rfl)
    · rcases h with h | h | h <;> rw [h] <;> decide
theorem dirT_ok {t : Pn} (h : tilOK t) (p : Nat) : dOK (dirT t p) := by
  unfold dirT
  split
  · split
    · split
      · exact Or.inl rfl
      · exact Or.inr (Or.inr rfl)
    · exact leanT_ok h p
  · exact Or.inr (Or.inl rfl)
theorem dOK_m : dOK (-1) := Or.inl rfl
theorem dOK_p : dOK 1 := Or.inr (Or.inr rfl)
/-- the places of the next row, as bits -/
def nextM (t : Pn) (p : Nat) : Nat := if P_ou t p = 0 then (if leanT t p = 0 then 2 ^ bes (p % 7) (-1) ||| 2 ^ bes (p % 7) 1 else 2 ^ bes (p % 7) (leanT t p)) else 2 ^ (p % 7)
def posT (t : Pn) (c : Nat) : Nat → Nat
  | 0 => c
  | r + 1 => bes (posT t c r) (dirT t (7 * r + posT t c r))
theorem posT_lt (t : Pn) {c : Nat} (hc : c < 7) : ∀ r : Nat, posT t c r < 7
  | 0 => hc
  | r + 1 => bes_lt _ (posT_lt t hc r)
def meetT (t : Pn) (k : Nat) (d h : Int32) : Pn :=
  if P_ou t k = 0 then
    (if ¬ h = 0 ∧ (¬ P_be t k + d < -3 ∧ ¬ 3 < P_be t k + d) then upd (P_be t) k (P_be t k + d) else P_be t, P_ou t, P_bl t, if leanT t k = 0 then upd (P_si t) k (1 - P_si t k) else P_si t, upd (P_vi t) k (P_vi t k + 1), P_ti t, P_ri t + P_bl t k, if ¬ h = 0 ∧ (¬ P_be t k + d < -3 ∧ ¬ 3 < P_be t k + d) then P_bb t + 1 else P_bb t)
  else (P_be t, P_ou t, P_bl t, P_si t, upd (P_vi t) k (P_vi t k + 1), P_ti t, P_ri t, P_bb t)
theorem meetT_ti (t : Pn) (k : Nat) (d h : Int32) : P_ti (meetT t k d h) = P_ti t := by
  unfold meetT
  split <;> rfl
def rollT (t : Pn) (c : Nat) (h : Int32) : Nat → Pn × Nat
  | 0 => (t, c)
  | r + 1 => (meetT (rollT t c h r).1 (7 * r + (rollT t c h r).2) (dirT (rollT t c h r).1 (7 * r + (rollT t c h r).2)) h, bes (rollT t c h r).2 (dirT (rollT t c h r).1 (7 * r + (rollT t c h r).2)))
theorem rollT_1 (t : Pn) (c : Nat) (h : Int32) (r : Nat) : (rollT t c h (r + 1)).1 = meetT (rollT t c h r).1 (7 * r + (rollT t c h r).2) (dirT (rollT t c h r).1 (7 * r + (rollT t c h r).2)) h := rfl
theorem rollT_2 (t : Pn) (c : Nat) (h : Int32) (r : Nat) : (rollT t c h (r + 1)).2 = bes (rollT t c h r).2 (dirT (rollT t c h r).1 (7 * r + (rollT t c h r).2)) := rfl
theorem rollT_lt (t : Pn) {c : Nat} (h : Int32) (hc : c < 7) : ∀ r : Nat, (rollT t c h r).2 < 7
  | 0 => hc
  | r + 1 => bes_lt _ (rollT_lt t h hc r)
theorem rollT_ti (t : Pn) (c : Nat) (h : Int32) : ∀ r : Nat, P_ti (rollT t c h r).1 = P_ti t
  | 0 => rfl
  | r + 1 => (meetT_ti _ _ _ _).trans (rollT_ti t c h r)
theorem rollT_til {t : Pn} (c : Nat) (h : Int32) (r : Nat) (ht : tilOK t) : tilOK (rollT t c h r).1 := by
  unfold tilOK
  rw [rollT_ti]
  exact ht
def signI (t : Pn) (k : Nat) : Int32 := if P_ou t k = 0 then (if P_bl t k = 0 then (if P_be t k < 0 then 60 else if 0 < P_be t k then 62 else 124) else 111) else 46
def readT (t : Pn) (k : Nat) (c : Int32) : Pn := (upd (P_be t) k (if c = 60 then -1 else if c = 62 then 1 else 0), upd (P_ou t) k (if c = 46 then 1 else 0), upd (P_bl t) k (if c = 111 then 1 else 0), upd (P_si t) k 0, P_vi t, P_ti t, P_ri t, P_bb t)
def popc (m : Nat) : Nat := m / 1 % 2 + m / 2 % 2 + m / 4 % 2 + m / 8 % 2 + m / 16 % 2 + m / 32 % 2 + m / 64 % 2
theorem ej_tab {cI : ClassId} {a : Nat → Nat} {t t' : Pn} {u u' : Tr} (h : t = t') (h2 : u = u') : tabW cI a t u = tabW cI a t' u' := by rw [h, h2]
/-! ===== a table ===== -/
def takeT (u : Tr) (k : Nat) : Tr := if T_he u k < T_fu u then (T_wo u, upd (T_he u) k (T_he u k + 1), upd (T_en u) k (T_en u k + 1), T_fu u, T_le u, T_lo u, T_po u, T_sh u, T_ha u, T_re u) else (T_wo u, T_he u, upd (T_en u) k (T_en u k + 1), T_fu u, T_le u, T_lo u + 1, T_po u, T_sh u, T_ha u, T_re u)
def gainT (u : Tr) (k : Nat) : Int32 := if T_he u k < T_fu u then T_wo u k else 0
def shP (t : Pn) (u : Tr) (c : Nat) (h : Int32) : Pn := if 0 < T_le u then (rollT t c h 5).1 else t
def shG (t : Pn) (u : Tr) (c : Nat) (h : Int32) : Int32 := P_ri (rollT t c h 5).1 - P_ri t + gainT u (rollT t c h 5).2
def shU (t : Pn) (u : Tr) (c : Nat) (h : Int32) : Tr := if 0 < T_le u then (T_wo u, T_he (takeT u (rollT t c h 5).2), T_en (takeT u (rollT t c h 5).2), T_fu u, T_le u - 1, T_lo (takeT u (rollT t c h 5).2), T_po u + shG t u c h, T_sh u + 1, if h = 0 then T_ha u else T_ha u + 1, T_re u) else (T_wo u, T_he u, T_en u, T_fu u, T_le u, T_lo u, T_po u, T_sh u, T_ha u, T_re u + 1)
def shR (t : Pn) (u : Tr) (c : Nat) (h : Int32) : Int32 := if 0 < T_le u then 10 + shG t u c h else 1
def bhR (t : Pn) (k : Nat) (d : Int32) : Int32 := if P_ou t k = 0 then (if ¬ P_be t k + d < -3 ∧ ¬ 3 < P_be t k + d then 10 + (P_be t k + d) + 3 else 3) else 2
def bhP (t : Pn) (k : Nat) (d : Int32) : Pn := if P_ou t k = 0 then (if ¬ P_be t k + d < -3 ∧ ¬ 3 < P_be t k + d then (upd (P_be t) k (P_be t k + d), P_ou t, P_bl t, P_si t, P_vi t, P_ti t, P_ri t, P_bb t) else t) else t
def bhU (t : Pn) (u : Tr) (k : Nat) (d : Int32) : Tr := if P_ou t k = 0 then (if ¬ P_be t k + d < -3 ∧ ¬ 3 < P_be t k + d then u else (T_wo u, T_he u, T_en u, T_fu u, T_le u, T_lo u, T_po u, T_sh u, T_ha u, T_re u + 1)) else (T_wo u, T_he u, T_en u, T_fu u, T_le u, T_lo u, T_po u, T_sh u, T_ha u, T_re u + 1)
def empU (u : Tr) : Tr := (T_wo u, fun _ => 0, T_en u, T_fu u, T_le u + (sumI (T_he u) 7 + T_lo u), 0, T_po u, T_sh u, T_ha u, T_re u)
theorem takeT_w (u : Tr) (k : Nat) (l s h : Int32) : takeT (T_wo u, T_he u, T_en u, T_fu u, l, T_lo u, T_po u, s, h, T_re u) k = (T_wo u, T_he (takeT u k), T_en (takeT u k), T_fu u, l, T_lo (takeT u k), T_po u, s, h, T_re u) := by
  unfold takeT
  show (if T_he u k < T_fu u then _ else _) = _
  by_cases q : T_he u k < T_fu u
  · rw [if_pos q, if_pos q]
  · rw [if_neg q, if_neg q]
/-! ===== the pad ===== -/
abbrev pinS (c : Int32) : Prop := c = 60 ∨ (c = 124 ∨ (c = 62 ∨ (c = 46 ∨ c = 111)))
abbrev plc (c : Int32) : Prop := ¬ c < 48 ∧ ¬ 54 < c
abbrev mayF (b c : Int32) : Prop := (b = 44 ∧ (plc c ∨ c = 101)) ∨ (¬ b = 44 ∧ (c = 44 ∨ (c = 33 ∧ plc b)))
def codeP (n : Nat) (f : Nat → Int32) (k : Nat) : Int32 := if k < n then f k else 0
def fbG (n : Nat) (f : Nat → Int32) : Nat → Nat → Int32
  | 0, _ => if n < 35 then nI n else -4
  | r + 1, i => if i < 35 ∧ pinS (codeP n f i) then fbG n f r (i + 1) else nI i
def fsG (n : Nat) (f : Nat → Int32) : Nat → Nat → Int32 → Int32
  | 0, _, b => if b = 44 then nI n else -4
  | r + 1, i, b => if mayF b (codeP n f i) then fsG n f r (i + 1) (codeP n f i) else nI i
/-! ===== roads ===== -/
def belG (t : Pn) (r m : Nat) : Nat → Nat
  | 0 => 0
  | c + 1 => if m.testBit c = true then belG t r m c ||| nextM t (7 * r + c) else belG t r m c
def fwdM (t : Pn) : Nat → Nat
  | 0 => 127
  | r + 1 => belG t r (fwdM t r) 7
def abvG (t : Pn) (r m : Nat) : Nat → Nat
  | 0 => 0
  | c + 1 => if nI (nextM t (7 * r + c) &&& m) = 0 then abvG t r m c else abvG t r m c ||| 2 ^ c
def stM (t : Pn) (k : Nat) : Nat := abvG t 0 (abvG t 1 (abvG t 2 (abvG t 3 (abvG t 4 (2 ^ k) 7) 7) 7) 7) 7
def bkG (t : Pn) : Nat → Nat
  | 0 => 0
  | k + 1 => if nI (stM t k) = 0 then bkG t k else bkG t k ||| 2 ^ k
def paG (m : Nat) (w : Int32) (g : Nat → Int32) : Nat → (Nat → Int32)
  | 0 => g
  | c + 1 => if m.testBit c = true then upd (paG m w g c) c (paG m w g c c + w) else paG m w g c
def wbG (t : Pn) (r : Nat) (h : Nat → Int32) : Nat → (Nat → Int32)
  | 0 => fun _ => 0
  | c + 1 => paG (nextM t (7 * r + c)) (h c) (wbG t r h c) 7
def whG (t : Pn) : Nat → (Nat → Int32)
  | 0 => fun _ => 1
  | r + 1 => wbG t r (whG t r) 7
def wfG (t : Pn) (k : Nat) : Nat → Nat → Nat → Int32
  | 0, _, c => if c = k then 1 else 0
  | d + 1, r, c => sumI (fun n => if (nextM t (7 * r + c)).testBit n = true then wfG t k d (r + 1) n else 0) 7
/-! ===== the history: four tables in a ring ===== -/
def hisF (ad : Nat → Nat → Nat) (ro : Nat) : Nat → Option Nat := fun j => some (ad ((j + ro) % 4) 0)
def rf4 (x0 x1 x2 x3 : Nat) : Nat → Option Nat := fun j => if j = 0 then some x0 else if j = 1 then some x1 else if j = 2 then some x2 else some x3
def recI (ro n : Nat) : Nat := if n = 4 then ro else (n + ro) % 4
def recR (ro n : Nat) : Nat := if n = 4 then (ro + 1) % 4 else ro
def recN (n : Nat) : Nat := if n = 4 then 4 else n + 1
def updH (hp : Nat → Pn × Tr) (i : Nat) (x : Pn × Tr) : Nat → Pn × Tr := fun j => if j = i then x else hp j
theorem ej_4 {P : Nat → Prop} (h0 : P 0) (h1 : P 1) (h2 : P 2) (h3 : P 3) : ∀ k : Nat, k < 4 → P k := by
  intro k hk
  rcases (show k = 0 ∨ k = 1 ∨ k = 2 ∨ k = 3 by omega) with rfl | rfl | rfl | rfl
  · exact h0
  · exact h1
  · exact h2
  · exact h3
/-- a row of references, by other words that agree on its places -/
theorem ej_rowq {D : va_G} {w : va_W} {H : Heap} {q a : Nat} {cI : ClassId} {n : Nat} {f : Nat → Option Nat} (g : Nat → Option Nat) (hP : va_P D vwCl w H) (hq : w[q]? = some (a, .inl (cI, n, .inr (.inr (.inr (.inr f)))))) (h : ∀ k : Nat, k < n → f k = g k) : va_P D vwCl (w.set q (a, .inl (cI, n, .inr (.inr (.inr (.inr g)))))) H := by
  have hl := (List.getElem?_eq_some_iff.mp hq).1
  have e : vp_cell cI (n, .inr (.inr (.inr (.inr f)))) = vp_cell cI (n, .inr (.inr (.inr (.inr g)))) := by
    rw [vp_cell_q, vp_cell_q]
    unfold arrV
    congr 1
    apply Array.ext
    · simp
    · intro i h1 h2
      simp at h1
      simp [h i h1]
  intro k x hk
  by_cases hkq : k = q
  · subst hkq
    rw [List.getElem?_set_self hl] at hk
    cases hk
    have h1 := hP k _ hq
    show H[a]? = some (vp_cell cI (n, .inr (.inr (.inr (.inr g)))))
    rw [← e]
    exact h1
  · rw [List.getElem?_set_ne (Ne.symm hkq)] at hk
    exact hP k x hk
theorem ej_rowqD {A : Nat → Prop} {w : va_W} {q a : Nat} {cI : ClassId} {n : Nat} {f : Nat → Option Nat} (g : Nat → Option Nat) (hD : va_D A w) (hq : w[q]? = some (a, .inl (cI, n, .inr (.inr (.inr (.inr f)))))) : va_D A (w.set q (a, .inl (cI, n, .inr (.inr (.inr (.inr g)))))) := hD.set hq
