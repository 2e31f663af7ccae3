/-! ===== the mean against itself ===== -/
theorem mean_self {x y : Int32} (hy : y ≠ 0) : Op.cmpValue (FP.dcmp (FP.ddiv (FP.i2d x) (FP.i2d y)) (FP.ddiv (FP.i2d x) (FP.i2d y))) .l = 0 := by
  have h0 : FP.Core.dIsNaN (FP.Core.i2d x) = false := by
    have h := (FP.Core.fin_bits _).mp (FP.Core.i2d_fin x)
    cases h9 : FP.Core.dIsNaN (FP.Core.i2d x) with
    | false => rfl
    | true => have := (FP.Core.isNaN_bits _).mp h9; omega
  have h := FP.Core.ddiv_out h0 (FP.Core.i2d_fin y) (fun q => FP.Core.i2d_ne_zero hy ((FP.Core.zero_bits2 _).mp q))
  have hv : FP.Core.val64 (FP.Core.ddiv (FP.Core.i2d x) (FP.Core.i2d y)) ≠ .nan := fun q => by
    rw [(FP.Core.dIsNaN_iff _).mpr q] at h
    cases h
  have e : FP.dcmp (FP.ddiv (FP.i2d x) (FP.i2d y)) (FP.ddiv (FP.i2d x) (FP.i2d y)) = some .eq := FP.Core.dcmp_self hv
  rw [e]
  rfl
theorem mean_zero : Op.cmpValue (FP.dcmp 0 0) .l = 0 := by
  have hv : FP.Core.val64 0 ≠ .nan := fun q => by
    have h := (FP.Core.isNaN_bits 0).mp ((FP.Core.dIsNaN_iff _).mpr q)
    exact absurd h (by decide)
  have e : FP.dcmp 0 0 = some .eq := FP.Core.dcmp_self hv
  rw [e]
  rfl
/-! ===== accounts ===== -/
theorem okU_sum {u : Tr} (h : okU u) : ∃ a b l : Nat, T_le u = nI a ∧ sumI (T_he u) 7 = nI b ∧ T_lo u = nI l ∧ a + b + l = 20 ∧ ∀ k : Nat, k < 7 → ∃ e : Nat, e ≤ 20 ∧ T_he u k = nI e := by
  obtain ⟨a, hh, l, e1, e2, e3, s⟩ := h
  refine ⟨a, sumN hh 7, l, e1, sumI_nat 7 e2, e3, ?_, fun k hk => ⟨hh k, ?_, e2 k hk⟩⟩
  · show a + (0 + hh 0 + hh 1 + hh 2 + hh 3 + hh 4 + hh 5 + hh 6) + l = 20
    omega
  · rcases (show k = 0 ∨ k = 1 ∨ k = 2 ∨ k = 3 ∨ k = 4 ∨ k = 5 ∨ k = 6 by omega) with z | z | z | z | z | z | z <;> subst z <;> omega
theorem til_nat {t : Pn} (h : tilOK t) : ∃ T : Nat, T ≤ 2 ∧ P_ti t = nI T := by
  rcases h with h | h | h
  · exact ⟨0, by decide, h⟩
  · exact ⟨1, by decide, h⟩
  · exact ⟨2, by decide, h⟩
def pinQ (t : Pn) : Nat → Int32 := sumI (fun p => if P_ou t p = 0 then 1 else 0)
def strQ (t : Pn) : Nat → Int32 := sumI (fun p => if P_ou t p = 0 ∧ P_be t p = 0 then 1 else 0)
def bndQ (t : Pn) : Nat → Int32 := sumI (fun p => if 0 ≤ P_be t p then P_be t p else 0 - P_be t p)
section QQ
variable {t : Pn} {p b : Nat}
theorem pinQ_out (ho : P_ou t p = 1) : pinQ t p + 0 = pinQ t (p + 1) := by
  show _ = pinQ t p + (if P_ou t p = 0 then 1 else 0)
  rw [if_neg (by rw [ho]; decide)]
theorem pinQ_in (ho : P_ou t p = 0) : pinQ t p + 1 = pinQ t (p + 1) := by
  show _ = pinQ t p + (if P_ou t p = 0 then 1 else 0)
  rw [if_pos ho]
theorem strQ_0 (h : ¬ (P_ou t p = 0 ∧ P_be t p = 0)) : strQ t p + 0 = strQ t (p + 1) := by
  show _ = strQ t p + (if P_ou t p = 0 ∧ P_be t p = 0 then 1 else 0)
  rw [if_neg h]
theorem strQ_1 (h : P_ou t p = 0 ∧ P_be t p = 0) : strQ t p + 1 = strQ t (p + 1) := by
  show _ = strQ t p + (if P_ou t p = 0 ∧ P_be t p = 0 then 1 else 0)
  rw [if_pos h]
theorem bndQ_out (hbe : P_be t p = 0) : bndQ t p + 0 = bndQ t (p + 1) := by
  show _ = bndQ t p + (if 0 ≤ P_be t p then P_be t p else 0 - P_be t p)
  rw [hbe]; rfl
theorem bndQ_l (hb : b ≤ 6) (hbe : P_be t p + 3 = nI b) (h : b < 3) : bndQ t p + nI (3 - b) = bndQ t (p + 1) := by
  show _ = bndQ t p + (if 0 ≤ P_be t p then P_be t p else 0 - P_be t p)
  rw [abs_b hb hbe, show (b - 3) + (3 - b) = 3 - b by omega]
theorem bndQ_r (hb : b ≤ 6) (hbe : P_be t p + 3 = nI b) (h : 3 ≤ b) : bndQ t p + nI (b - 3) = bndQ t (p + 1) := by
  show _ = bndQ t p + (if 0 ≤ P_be t p then P_be t p else 0 - P_be t p)
  rw [abs_b hb hbe, show (b - 3) + (3 - b) = b - 3 by omega]
theorem sg_out (ho : P_ou t p = 1) : signI t p = 46 := by unfold signI; rw [if_neg (by rw [ho]; decide)]
theorem sg_bell (ho : P_ou t p = 0) (h : P_bl t p = 1) : signI t p = 111 := by unfold signI; rw [if_pos ho, if_neg (by rw [h]; decide)]
theorem sg_l (ho : P_ou t p = 0) (h : P_bl t p = 0) (hb : b ≤ 6) (hbe : P_be t p + 3 = nI b) (h3 : b < 3) : signI t p = 60 := by unfold signI; rw [if_pos ho, if_pos h, if_pos ((be_lt hb hbe).1.mpr h3)]
theorem sg_r (ho : P_ou t p = 0) (h : P_bl t p = 0) (hb : b ≤ 6) (hbe : P_be t p + 3 = nI b) (h3 : 3 < b) : signI t p = 62 := by
  unfold signI
  rw [if_pos ho, if_pos h, if_neg (fun z => by have := (be_lt hb hbe).1.mp z; omega), if_pos ((be_lt hb hbe).2.1.mpr h3)]
theorem sg_0 (ho : P_ou t p = 0) (h : P_bl t p = 0) (hb : b ≤ 6) (hbe : P_be t p + 3 = nI b) (h3 : b = 3) : signI t p = 124 := by
  unfold signI
  rw [if_pos ho, if_pos h, if_neg (fun z => by have := (be_lt hb hbe).1.mp z; omega), if_neg (fun z => by have := (be_lt hb hbe).2.1.mp z; omega)]
end QQ
theorem bl_0 {t : Pn} {p : Nat} (h : P_bl t p = 0 ∨ P_bl t p = 1) (hn : ¬ P_bl t p = 1) : P_bl t p = 0 := by
  rcases h with h | h
  · exact h
  · exact absurd h hn
theorem si_ge {x : Int32} (h : x = 0 ∨ x = 1) : ¬ x < 0 ∧ ¬ 1 < x := by
  rcases h with h | h <;> rw [h] <;> decide
theorem pinQ_all {t : Pn} (h : outOK t) : pinQ t 35 = 35 - sumI (P_ou t) 35 := by
  have hs : ∀ n : Nat, n ≤ 35 → ∃ a b : Nat, pinQ t n = nI a ∧ sumI (P_ou t) n = nI b ∧ a + b = n := by
    intro n
    induction n with
    | zero => intro _; exact ⟨0, 0, rfl, rfl, rfl⟩
    | succ n ih =>
      intro hn
      obtain ⟨a, b, e1, e2, e3⟩ := ih (by omega)
      rcases h n (by omega) with q | q
      · refine ⟨a + 1, b, ?_, ?_, by omega⟩
        · rw [← pinQ_in q, e1]; exact nI_add a 1
        · rw [sumI, q, e2, Int32.add_zero]
      · refine ⟨a, b + 1, ?_, ?_, by omega⟩
        · rw [← pinQ_out q, e1, Int32.add_zero]
        · rw [sumI, q, e2]; exact nI_add b 1
  obtain ⟨a, b, e1, e2, e3⟩ := hs 35 (Nat.le_refl _)
  rw [e1, e2, show (35 : Int32) = nI 35 from rfl, pk_sub (by omega)]
  congr 1
  omega
theorem bit_nat {x c : Nat} (hx : x < 128) (hc : c < 7) : (nI x >>> (nI c &&& 31)) &&& 1 = nI (if x.testBit c = true then 1 else 0) := by
  rw [bit_ok x hx c hc]
  split <;> rfl
theorem bit_one {x c : Nat} {a : Nat} (h : nI (if x.testBit c = true then 1 else 0) = 1) : x.testBit c = true := by
  by_cases q : x.testBit c = true
  · exact q
  · rw [if_neg q] at h; exact absurd h (by decide)
theorem belS (t : Pn) (r m c : Nat) : nI (belG t r m c) ||| nI (if m.testBit c = true then nextM t (7 * r + c) else 0) = nI (belG t r m (c + 1)) := by
  rw [fa_or, belG]
  split
  · rfl
  · rw [Nat.or_zero]
theorem bk_fwd (t : Pn) : bkG t 7 = fwdM t 5 := (bk_cm t).trans (cm_fwd t 5)
/-! ===== ways, counted ===== -/
def wN (t : Pn) (k : Nat) : Nat → Nat → Nat → Nat
  | 0, _, c => if c = k then 1 else 0
  | d + 1, r, c => sumN (fun n => if (nextM t (7 * r + c)).testBit n = true then wN t k d (r + 1) n else 0) 7
theorem wf_nat (t : Pn) (k : Nat) : ∀ d r c : Nat, wfG t k d r c = nI (wN t k d r c)
  | 0, r, c => by rw [wfG, wN]; split <;> rfl
  | d + 1, r, c => by
    rw [wfG, wN]
    refine sumI_nat 7 fun n _ => ?_
    split
    · exact wf_nat t k d (r + 1) n
    · rfl
theorem wh_wf (t : Pn) {k : Nat} (hk : k < 7) : whG t 5 k = sumI (fun c => wfG t k 5 0 c) 7 := by
  rw [← it_wh, ← wf_it t hk 5 0 (fun _ => 1)]
  refine sumI_congr 7 fun c _ => ?_
  rw [Int32.one_mul]
theorem wh_nat (t : Pn) {k : Nat} (hk : k < 7) : whG t 5 k = nI (sumN (fun c => wN t k 5 0 c) 7) := by
  rw [wh_wf t hk]
  exact sumI_nat 7 fun c _ => wf_nat t k 5 0 c
theorem sumN_mono {g g' : Nat → Nat} : ∀ n : Nat, (∀ k : Nat, k < n → g k ≤ g' k) → sumN g n ≤ sumN g' n
  | 0, _ => Nat.le_refl _
  | n + 1, h => Nat.add_le_add (sumN_mono n (fun k hk => h k (by omega))) (h n (by omega))
theorem sumN_ge {g : Nat → Nat} {j : Nat} : ∀ n : Nat, j < n → g j ≤ sumN g n
  | 0, h => absurd h (Nat.not_lt_zero _)
  | n + 1, h => by
    rw [sumN]
    by_cases q : j = n
    · rw [q]; exact Nat.le_add_left _ _
    · exact Nat.le_trans (sumN_ge n (by omega)) (Nat.le_add_right _ _)
theorem sumN_congr {g g' : Nat → Nat} : ∀ n : Nat, (∀ k : Nat, k < n → g k = g' k) → sumN g n = sumN g' n
  | 0, _ => rfl
  | n + 1, h => by rw [sumN, sumN, sumN_congr n (fun k hk => h k (by omega)), h n (by omega)]
theorem sumN_add (g g' : Nat → Nat) : ∀ n : Nat, sumN (fun k => g k + g' k) n = sumN g n + sumN g' n
  | 0 => rfl
  | n + 1 => by rw [sumN, sumN, sumN, sumN_add g g' n]; omega
theorem sumN_zero : ∀ n : Nat, sumN (fun _ => 0) n = 0
  | 0 => rfl
  | n + 1 => by rw [sumN, sumN_zero n]
theorem sumN_swap (F : Nat → Nat → Nat) (m : Nat) : ∀ n : Nat, sumN (fun a => sumN (fun b => F a b) m) n = sumN (fun b => sumN (fun a => F a b) n) m
  | 0 => (sumN_zero m).symm
  | n + 1 => by
    rw [sumN, sumN_swap F m n, ← sumN_add]
    rfl
theorem wN_pos {t : Pn} {k d r c n : Nat} (hn : n < 7) (hb : (nextM t (7 * r + c)).testBit n = true) (h : 1 ≤ wN t k d (r + 1) n) : 1 ≤ wN t k (d + 1) r c := by
  rw [wN]
  refine Nat.le_trans ?_ (sumN_ge (j := n) 7 hn)
  show 1 ≤ (if (nextM t (7 * r + c)).testBit n = true then wN t k d (r + 1) n else 0)
  rw [if_pos hb]; exact h
theorem nx7 {t : Pn} {p n : Nat} (h : (nextM t p).testBit n = true) : n < 7 := bit_7 (nextM_lt t p) h
theorem st_way {t : Pn} {k c : Nat} (h : (stM t k).testBit c = true) : c < 7 ∧ 1 ≤ wN t k 5 0 c := by
  simp only [stM, abv_bit, pow_bit] at h
  obtain ⟨h0, c1, e1, h1, c2, e2, h2, c3, e3, h3, c4, e4, h4, c5, e5, rfl⟩ := h
  refine ⟨h0, ?_⟩
  refine wN_pos h1 e1 (wN_pos h2 e2 (wN_pos h3 e3 (wN_pos h4 e4 (wN_pos (nx7 e5) e5 ?_))))
  rw [wN, if_pos rfl]; exact Nat.le_refl 1
theorem popc_N : ∀ m : Nat, m < 128 → popc m = sumN (fun c => if m.testBit c = true then 1 else 0) 7 := by decide +kernel
theorem st_ways (t : Pn) (k : Nat) : popc (stM t k) ≤ sumN (fun c => wN t k 5 0 c) 7 := by
  rw [popc_N _ (stM_lt t k)]
  refine sumN_mono 7 fun c _ => ?_
  by_cases q : (stM t k).testBit c = true
  · rw [if_pos q]; exact (st_way q).2
  · rw [if_neg q]; exact Nat.zero_le _
/-- a pocket that can be reached is reached from some place -/
theorem st_set (t : Pn) (k : Nat) (hk : k < 7) : (if (fwdM t 5).testBit k = true then 1 else 0) ≤ popc (stM t k) ∧ popc (stM t k) ≤ 7 * (if (fwdM t 5).testBit k = true then 1 else 0) := by
  have h7 := popc_le (stM t k) (stM_lt t k)
  have hbit : (fwdM t 5).testBit k = true ↔ ∃ c : Nat, (stM t k).testBit c = true := by
    rw [← bk_fwd, bk_bit]
    exact ⟨fun z => z.2, fun z => ⟨hk, z⟩⟩
  by_cases q : (fwdM t 5).testBit k = true
  · rw [if_pos q]
    obtain ⟨c, hc⟩ := hbit.mp q
    refine ⟨?_, by omega⟩
    rw [popc_N _ (stM_lt t k)]
    refine Nat.le_trans ?_ (sumN_ge (j := c) 7 (bit_7 (stM_lt t k) hc))
    show 1 ≤ (if (stM t k).testBit c = true then 1 else 0)
    rw [if_pos hc]; exact Nat.le_refl 1
  · rw [if_neg q]
    refine ⟨Nat.zero_le _, ?_⟩
    rw [popc_N _ (stM_lt t k), sumN_congr (g' := fun _ => 0) 7 (fun c _ => if_neg (fun z => q (hbit.mpr ⟨c, z⟩))), sumN_zero]
    exact Nat.zero_le _
theorem nx_two : ∀ a : Nat, a < 7 → ∀ b : Nat, b < 7 → 1 ≤ popc (2 ^ a ||| 2 ^ b) ∧ popc (2 ^ a ||| 2 ^ b) ≤ 2 := by decide +kernel
theorem nx_one : ∀ a : Nat, a < 7 → popc (2 ^ a) = 1 := by decide +kernel
theorem nx_pop (t : Pn) (p : Nat) : 1 ≤ popc (nextM t p) ∧ popc (nextM t p) ≤ 2 := by
  have h7 : p % 7 < 7 := Nat.mod_lt _ (by decide)
  unfold nextM
  split
  · split
    · exact nx_two _ (bes_lt _ h7) _ (bes_lt _ h7)
    · rw [nx_one _ (bes_lt _ h7)]; decide
  · rw [nx_one _ h7]; decide
theorem sumN_mul (b : Nat) (g : Nat → Nat) : ∀ n : Nat, sumN (fun k => b * g k) n = b * sumN g n
  | 0 => rfl
  | n + 1 => by rw [sumN, sumN, sumN_mul b g n, Nat.mul_add]
/-- all ways of a place of a row -/
def twN (t : Pn) (d r c : Nat) : Nat := sumN (fun k => wN t k d r c) 7
theorem tw_step (t : Pn) (d r c : Nat) : twN t (d + 1) r c = sumN (fun n => if (nextM t (7 * r + c)).testBit n = true then twN t d (r + 1) n else 0) 7 := by
  unfold twN
  have e : ∀ k : Nat, k < 7 → wN t k (d + 1) r c = sumN (fun n => if (nextM t (7 * r + c)).testBit n = true then wN t k d (r + 1) n else 0) 7 := fun k _ => by rw [wN]
  rw [sumN_congr 7 e, sumN_swap]
  refine sumN_congr 7 fun n _ => ?_
  by_cases q : (nextM t (7 * r + c)).testBit n = true
  · rw [if_pos q]
    exact sumN_congr 7 fun k _ => if_pos q
  · rw [if_neg q, sumN_congr (g' := fun _ => 0) 7 (fun k _ => if_neg q), sumN_zero]
theorem tw_0 : ∀ c : Nat, c < 7 → sumN (fun k => if c = k then 1 else 0) 7 = 1 := by decide +kernel
theorem tw_rng (t : Pn) : ∀ d r c : Nat, c < 7 → 1 ≤ twN t d r c ∧ twN t d r c ≤ 2 ^ d
  | 0, r, c, hc => by
    have e : twN t 0 r c = 1 := by
      unfold twN
      exact tw_0 c hc
    rw [e]; decide
  | d + 1, r, c, hc => by
    obtain ⟨h1, h2⟩ := nx_pop t (7 * r + c)
    have hp := popc_N _ (nextM_lt t (7 * r + c))
    rw [tw_step]
    constructor
    · refine Nat.le_trans (hp ▸ h1) (sumN_mono 7 fun n hn => ?_)
      by_cases q : (nextM t (7 * r + c)).testBit n = true
      · rw [if_pos q, if_pos q]; exact (tw_rng t d (r + 1) n hn).1
      · rw [if_neg q]; exact Nat.zero_le _
    · have h3 : sumN (fun n => if (nextM t (7 * r + c)).testBit n = true then twN t d (r + 1) n else 0) 7 ≤ sumN (fun n => 2 ^ d * (if (nextM t (7 * r + c)).testBit n = true then 1 else 0)) 7 := by
        refine sumN_mono 7 fun n hn => ?_
        by_cases q : (nextM t (7 * r + c)).testBit n = true
        · rw [if_pos q, if_pos q, Nat.mul_one]; exact (tw_rng t d (r + 1) n hn).2
        · rw [if_neg q]; exact Nat.zero_le _
      rw [sumN_mul, ← hp] at h3
      have h4 : 2 ^ d * popc (nextM t (7 * r + c)) ≤ 2 ^ d * 2 := Nat.mul_le_mul_left _ h2
      rw [Nat.pow_succ]
      omega
theorem wh_tot (t : Pn) : ∃ w : Nat, 7 ≤ w ∧ w ≤ 224 ∧ sumI (whG t 5) 7 = nI w := by
  refine ⟨sumN (fun k => sumN (fun c => wN t k 5 0 c) 7) 7, ?_, ?_, sumI_nat 7 fun k hk => wh_nat t hk⟩
  · rw [sumN_swap]
    have h : sumN (fun _ => 1) 7 ≤ sumN (fun c => twN t 5 0 c) 7 := sumN_mono 7 fun c hc => (tw_rng t 5 0 c hc).1
    exact h
  · rw [sumN_swap]
    have h : sumN (fun c => twN t 5 0 c) 7 ≤ sumN (fun _ => 32) 7 := sumN_mono 7 fun c hc => (tw_rng t 5 0 c hc).2
    exact h
theorem ful_Q (u : Tr) : fulS u = sumI (fun k => if ¬ T_he u k < T_fu u then 1 else 0) 7 := rfl
theorem str_Q (t : Pn) : strQ t 35 = strS t := rfl
theorem bnd_Q (t : Pn) : bndQ t 35 = bndS t := rfl
theorem wh_le (t : Pn) (k : Nat) (hk : k < 7) : sumN (fun c => wN t k 5 0 c) 7 ≤ 224 := by
  have h : sumN (fun c => wN t k 5 0 c) 7 ≤ sumN (fun _ => 32) 7 := sumN_mono 7 fun c hc => by
    have h1 := (tw_rng t 5 0 c hc).2
    have h2 : wN t k 5 0 c ≤ twN t 5 0 c := sumN_ge (g := fun k => wN t k 5 0 c) (j := k) 7 hk
    exact Nat.le_trans h2 h1
  exact h
