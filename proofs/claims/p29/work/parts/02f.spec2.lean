/-! ===== the class's face, as functions ===== -/
abbrev inP (v hi : Int32) : Prop := ¬ v < 0 ∧ ¬ hi < v
theorem ej_in {v : Int32} (hi : Int32) (n : Nat) (hM : hi.toInt = n) (h : ¬ v < 0 ∧ ¬ hi < v) : ∃ k : Nat, k < n + 1 ∧ v = nI k := by
  obtain ⟨j, hj, e⟩ := nI_of2 hM h.1 (Int32.not_lt.mp h.2)
  exact ⟨j, by omega, e⟩
theorem ej_in34 {v : Int32} (h : ¬ v < 0 ∧ ¬ 34 < v) : ∃ k : Nat, k < 35 ∧ v = nI k := ej_in 34 34 (by decide) h
theorem ej_in6 {v : Int32} (h : ¬ v < 0 ∧ ¬ 6 < v) : ∃ k : Nat, k < 7 ∧ v = nI k := ej_in 6 6 (by decide) h
theorem ej_in20 {v : Int32} (h : ¬ v < 1 ∧ ¬ 20 < v) : ∃ k : Nat, k < 21 ∧ v = nI k := by
  refine ej_in 20 20 (by decide) ⟨fun q => h.1 ?_, h.2⟩
  have q2 := Int32.lt_iff_toInt_lt.mp q
  have e0 : (0 : Int32).toInt = 0 := by decide
  have e1 : (1 : Int32).toInt = 1 := by decide
  rw [e0] at q2
  rw [Int32.lt_iff_toInt_lt, e1]
  omega
theorem plc_nat {c : Int32} (h : plc c) : c - 48 = nI (c - 48).toNatClampNeg ∧ (c - 48).toNatClampNeg < 7 := by
  have h1 : (48 : Int) ≤ c.toInt := by
    have := Int32.not_lt.mp h.1
    have := Int32.le_iff_toInt_le.mp this
    have e : (48 : Int32).toInt = 48 := by decide
    omega
  have h2 : c.toInt ≤ 54 := by
    have := Int32.not_lt.mp h.2
    have := Int32.le_iff_toInt_le.mp this
    have e : (54 : Int32).toInt = 54 := by decide
    omega
  obtain ⟨n, hn, e⟩ : ∃ n : Nat, n < 7 ∧ c = nI (48 + n) := by
    refine ⟨(c.toInt - 48).toNat, by omega, Int32.toInt_inj.mp ?_⟩
    rw [nI_toInt (by omega)]
    omega
  subst e
  have e2 : nI (48 + n) - 48 = nI n := by
    rw [show (48 : Int32) = nI 48 from rfl, pk_sub (by omega)]
    congr 1
    omega
  rw [e2, nI_clamp (by omega)]
  exact ⟨rfl, hn⟩
theorem nextM_lt (t : Pn) (p : Nat) : nextM t p < 128 := by
  have h7 : p % 7 < 7 := Nat.mod_lt _ (by decide)
  have pw : ∀ c : Nat, c < 7 → (2 : Nat) ^ c < 128 := fun c hc => Nat.lt_of_lt_of_le (Nat.pow_lt_pow_right (by decide) hc) (by decide)
  unfold nextM
  split
  · split
    · exact Nat.or_lt_two_pow (n := 7) (pw _ (bes_lt _ h7)) (pw _ (bes_lt _ h7))
    · exact pw _ (bes_lt _ h7)
  · exact pw _ h7
theorem belG_lt (t : Pn) (r m : Nat) : ∀ c : Nat, belG t r m c < 128
  | 0 => Nat.zero_lt_succ _
  | c + 1 => by
    rw [belG]
    split
    · exact Nat.or_lt_two_pow (n := 7) (belG_lt t r m c) (nextM_lt t _)
    · exact belG_lt t r m c
theorem fwdM_lt (t : Pn) : ∀ r : Nat, fwdM t r < 128
  | 0 => Nat.le_of_ble_eq_true rfl
  | r + 1 => belG_lt t r _ 7
theorem abvG_lt (t : Pn) (r m : Nat) : ∀ c : Nat, c ≤ 7 → abvG t r m c < 128
  | 0, _ => Nat.zero_lt_succ _
  | c + 1, h => by
    rw [abvG]
    split
    · exact abvG_lt t r m c (by omega)
    · exact Nat.or_lt_two_pow (n := 7) (abvG_lt t r m c (by omega)) (Nat.lt_of_lt_of_le (Nat.pow_lt_pow_right (by decide) (show c < 7 by omega)) (by decide))
theorem stM_lt (t : Pn) (k : Nat) : stM t k < 128 := abvG_lt t 0 _ 7 (by decide)
theorem shP_til {t : Pn} (u : Tr) (c : Nat) (h : Int32) (ht : tilOK t) : tilOK (shP t u c h) := by
  unfold shP
  split
  · exact rollT_til c h 5 ht
  · exact ht
def plT (t : Pn) (k : Nat) : Pn := (upd (P_be t) k 0, upd (P_ou t) k (1 - P_ou t k), P_bl t, upd (P_si t) k 0, P_vi t, P_ti t, P_ri t, P_bb t)
def blT (t : Pn) (k : Nat) : Pn := (P_be t, P_ou t, upd (P_bl t) k (1 - P_bl t k), P_si t, P_vi t, P_ti t, P_ri t, P_bb t)
def woU (u : Tr) (k : Nat) (w : Int32) : Tr := (upd (T_wo u) k w, T_he u, T_en u, T_fu u, T_le u, T_lo u, T_po u, T_sh u, T_ha u, T_re u)
def tiT (t : Pn) (w : Int32) : Pn := (P_be t, P_ou t, P_bl t, P_si t, P_vi t, w, P_ri t, P_bb t)
def fuU (u : Tr) (w : Int32) : Tr := (T_wo u, T_he u, T_en u, w, T_le u, T_lo u, T_po u, T_sh u, T_ha u, T_re u)
def brdT (t : Pn) (n : Nat) (f : Nat → Int32) : Nat → Pn
  | 0 => t
  | k + 1 => readT (brdT t n f k) k (codeP n f k)
/-- the state of a run of shots: table, and where it stopped -/
abbrev PtS : Type := Pn × Tr × Int32 × Int32 × Int32
def ptG (n : Nat) (f : Nat → Int32) : Nat → Nat → Nat → Pn → Tr → Int32 → Int32 → Int32 → PtS
  | 0, _, _, t, u, x, y, z => (t, u, x, y, z)
  | r + 1, i, p, t, u, x, y, z =>
    if x = 0 then
      if codeP n f i = 44 then ptG n f r (i + 1) (p + 1) t u x y z
      else if codeP n f i = 101 then ptG n f r (i + 1) p t (empU u) x y z
      else if plc (codeP n f i) then
        if 10 ≤ shR t u (codeP n f i - 48).toNatClampNeg (if codeP n f (i + 1) = 33 then 1 else 0)
        then ptG n f r (i + 1) p (shP t u (codeP n f i - 48).toNatClampNeg (if codeP n f (i + 1) = 33 then 1 else 0)) (shU t u (codeP n f i - 48).toNatClampNeg (if codeP n f (i + 1) = 33 then 1 else 0)) x y z
        else ptG n f r (i + 1) p (shP t u (codeP n f i - 48).toNatClampNeg (if codeP n f (i + 1) = 33 then 1 else 0)) (shU t u (codeP n f i - 48).toNatClampNeg (if codeP n f (i + 1) = 33 then 1 else 0)) (shR t u (codeP n f i - 48).toNatClampNeg (if codeP n f (i + 1) = 33 then 1 else 0)) (nI p) (nI i)
      else ptG n f r (i + 1) p t u x y z
    else (t, u, x, y, z)
def pinR (t : Pn) (k : Nat) (w : Int32) : Int32 := if w = 0 then (if P_ou t k = 0 then P_be t k + 3 else -4) else if w = 1 then P_bl t k else if w = 2 then (if P_ou t k = 0 then P_si t k else -4) else if w = 3 then P_vi t k else if w = 4 then (if (fwdM t (k / 7)).testBit (k % 7) = true then 1 else 0) else -1
def pocR (t : Pn) (u : Tr) (k : Nat) (w : Int32) : Int32 := if w = 0 then T_wo u k else if w = 1 then T_he u k else if w = 2 then (if ¬ T_he u k < T_fu u then 1 else 0) else if w = 3 then T_en u k else if w = 4 then nI (popc (stM t k)) else -1
def strS (t : Pn) : Int32 := sumI (fun p => if P_ou t p = 0 ∧ P_be t p = 0 then 1 else 0) 35
def bndS (t : Pn) : Int32 := sumI (fun p => if 0 ≤ P_be t p then P_be t p else 0 - P_be t p) 35
def fulS (u : Tr) : Int32 := sumI (fun k => if ¬ T_he u k < T_fu u then 1 else 0) 7
def couB (t : Pn) (u : Tr) (q n : Nat) (w : Int32) : Int32 := if w = 10 then T_sh u else if w = 11 then T_ha u else if w = 12 then P_ri t else if w = 13 then P_bb t else if w = 14 then T_re u else if w = 15 then P_ti t else if w = 16 then T_fu u else if w = 17 then nI q else if w = 18 then nI n else -1
def couA (t : Pn) (u : Tr) (q n : Nat) (w : Int32) : Int32 := if w = 0 then T_po u else if w = 1 then T_le u else if w = 2 then sumI (T_he u) 7 else if w = 3 then T_lo u else if w = 4 then 35 - sumI (P_ou t) 35 else if w = 5 then strS t else if w = 6 then bndS t else if w = 7 then sumI (P_bl t) 35 else if w = 8 then fulS u else if w = 9 then nI (popc (fwdM t 5)) else couB t u q n w
def ifG (t : Pn) (u : Tr) (k : Nat) (h : Int32) : Nat → Pn × Tr
  | 0 => (t, u)
  | j + 1 => if 0 < T_le (ifG t u k h j).2 then (shP (ifG t u k h j).1 (ifG t u k h j).2 k h, shU (ifG t u k h j).1 (ifG t u k h j).2 k h) else ifG t u k h j
theorem ifG_stop {t : Pn} {u : Tr} {k : Nat} {h : Int32} {i : Nat} (hs : ¬ 0 < T_le (ifG t u k h i).2) : ∀ c : Nat, ifG t u k h (i + c) = ifG t u k h i
  | 0 => rfl
  | c + 1 => by
    rw [show i + (c + 1) = (i + c) + 1 from rfl, ifG, ifG_stop hs c, if_neg hs]
theorem ifG_til {t : Pn} (u : Tr) (k : Nat) (h : Int32) (ht : tilOK t) : ∀ j : Nat, tilOK (ifG t u k h j).1
  | 0 => ht
  | j + 1 => by
    rw [ifG]
    split
    · exact shP_til _ _ _ (ifG_til u k h ht j)
    · exact ifG_til u k h ht j
def ifR (t : Pn) (u : Tr) (x : Pn × Tr) (w : Int32) : Int32 := if w = 0 then T_po x.2 - T_po u else if w = 1 then T_lo x.2 - T_lo u else nI (fwdM x.1 5)
/-- the best place so far, its gain, its reach -/
def bstG (t : Pn) (u : Tr) (h : Int32) : Nat → Nat × Int32 × Int32
  | 0 => (0, -1, -1)
  | k + 1 => if (bstG t u h k).2.1 < T_po (shU t u k h) - T_po u ∨ (T_po (shU t u k h) - T_po u = (bstG t u h k).2.1 ∧ (bstG t u h k).2.2 < nI (popc (fwdM (shP t u k h) 5))) then (k, T_po (shU t u k h) - T_po u, nI (popc (fwdM (shP t u k h) 5))) else bstG t u h k
def trP (t : Pn) (u : Tr) (h : Int32) (tb : Pn) : Nat → Pn
  | 0 => tb
  | k + 1 => shP t u k h
def trU (t : Pn) (u : Tr) (h : Int32) (ub : Tr) : Nat → Tr
  | 0 => ub
  | k + 1 => shU t u k h
theorem mean_n {x y : Int32} (hy : y ≠ 0) : vf_n64 (FP.ddiv (FP.i2d x) (FP.i2d y)) := by
  have h0 : FP.Core.dIsNaN (FP.Core.i2d x) = false := by
    have h := (FP.Core.fin_bits _).mp (FP.Core.i2d_fin x)
    cases h9 : FP.Core.dIsNaN (FP.Core.i2d x) with
    | false => rfl
    | true => have := (FP.Core.isNaN_bits _).mp h9; omega
  have h := FP.Core.ddiv_out h0 (FP.Core.i2d_fin y) (fun q => FP.Core.i2d_ne_zero hy ((FP.Core.zero_bits2 _).mp q))
  have h2 : ¬ 9218868437227405312 < (FP.Core.ddiv (FP.Core.i2d x) (FP.Core.i2d y)).toNat % 2 ^ 63 := fun q => by
    have := (FP.Core.isNaN_bits _).mpr q
    rw [h] at this
    cases this
  show (FP.Core.ddiv (FP.Core.i2d x) (FP.Core.i2d y)) &&& 0x7fffffffffffffff ≤ 0x7ff0000000000000
  rw [UInt64.le_iff_toNat_le, UInt64.toNat_and]
  rw [show (0x7fffffffffffffff : UInt64).toNat = 2 ^ 63 - 1 by decide, Nat.and_two_pow_sub_one_eq_mod, show (0x7ff0000000000000 : UInt64).toNat = 9218868437227405312 by decide]
  omega
