/-! ===== roads told in two ways ===== -/
theorem pow_bit (k j : Nat) : (2 ^ k).testBit j = true ↔ k = j := by
  rw [Nat.testBit_two_pow]
  exact decide_eq_true_iff
theorem bel_bit (t : Pn) (r m n : Nat) : ∀ j : Nat, (belG t r m j).testBit n = true ↔ ∃ c : Nat, c < j ∧ m.testBit c = true ∧ (nextM t (7 * r + c)).testBit n = true
  | 0 => by
    rw [belG]
    exact ⟨fun q => absurd q (by rw [Nat.zero_testBit]; decide), fun ⟨c, hc, _⟩ => absurd hc (Nat.not_lt_zero c)⟩
  | j + 1 => by
    rw [belG]
    by_cases q : m.testBit j = true
    · rw [if_pos q, Nat.testBit_or, Bool.or_eq_true, bel_bit t r m n j]
      constructor
      · rintro (⟨c, hc, h1, h2⟩ | h2)
        · exact ⟨c, by omega, h1, h2⟩
        · exact ⟨j, by omega, q, h2⟩
      · rintro ⟨c, hc, h1, h2⟩
        rcases Nat.lt_or_ge c j with w | w
        · exact Or.inl ⟨c, w, h1, h2⟩
        · have e : c = j := by omega
          subst e
          exact Or.inr h2
    · rw [if_neg q, bel_bit t r m n j]
      constructor
      · rintro ⟨c, hc, h1, h2⟩
        exact ⟨c, by omega, h1, h2⟩
      · rintro ⟨c, hc, h1, h2⟩
        rcases Nat.lt_or_ge c j with w | w
        · exact ⟨c, w, h1, h2⟩
        · have e : c = j := by omega
          subst e
          exact absurd h1 q
theorem and_bits {a m : Nat} (ha : a < 128) : ¬ nI (a &&& m) = 0 ↔ ∃ n : Nat, a.testBit n = true ∧ m.testBit n = true := by
  have hlt : a &&& m < 2 ^ 31 := Nat.lt_of_le_of_lt Nat.and_le_left (by omega)
  rw [show (0 : Int32) = nI 0 from rfl, nI_eq hlt (by decide)]
  constructor
  · intro h
    obtain ⟨n, hn⟩ := Nat.exists_testBit_of_ne_zero h
    rw [Nat.testBit_and, Bool.and_eq_true] at hn
    exact ⟨n, hn⟩
  · rintro ⟨n, h1, h2⟩ e
    have h3 : (a &&& m).testBit n = true := by rw [Nat.testBit_and, h1, h2]; rfl
    rw [e, Nat.zero_testBit] at h3
    exact absurd h3 (by decide)
theorem abv_bit (t : Pn) (r m c : Nat) : ∀ j : Nat, (abvG t r m j).testBit c = true ↔ c < j ∧ ∃ n : Nat, (nextM t (7 * r + c)).testBit n = true ∧ m.testBit n = true
  | 0 => by
    rw [abvG]
    exact ⟨fun q => absurd q (by rw [Nat.zero_testBit]; decide), fun h => absurd h.1 (Nat.not_lt_zero c)⟩
  | j + 1 => by
    rw [abvG]
    by_cases q : nI (nextM t (7 * r + j) &&& m) = 0
    · rw [if_pos q, abv_bit t r m c j]
      constructor
      · rintro ⟨h1, h2⟩; exact ⟨by omega, h2⟩
      · rintro ⟨h1, h2⟩
        rcases Nat.lt_or_ge c j with w | w
        · exact ⟨w, h2⟩
        · have e : c = j := by omega
          subst e
          exact absurd q ((and_bits (nextM_lt t _)).mpr h2)
    · rw [if_neg q, Nat.testBit_or, Bool.or_eq_true, abv_bit t r m c j, pow_bit]
      constructor
      · rintro (⟨h1, h2⟩ | e)
        · exact ⟨by omega, h2⟩
        · subst e; exact ⟨by omega, (and_bits (nextM_lt t _)).mp q⟩
      · rintro ⟨h1, h2⟩
        rcases Nat.lt_or_ge c j with w | w
        · exact Or.inl ⟨w, h2⟩
        · exact Or.inr (by omega)
theorem bit_7 {x n : Nat} (h : x < 128) (q : x.testBit n = true) : n < 7 := by
  rcases Nat.lt_or_ge n 7 with w | w
  · exact w
  · have h2 : x < 2 ^ n := Nat.lt_of_lt_of_le h (show 2 ^ 7 ≤ 2 ^ n from Nat.pow_le_pow_right (by decide) w)
    rw [Nat.testBit_lt_two_pow h2] at q
    exact absurd q (by decide)
theorem st_bit (t : Pn) (k c : Nat) : (stM t k).testBit c = true ↔ (c < 7 ∧ (cmG t (2 ^ c) 5).testBit k = true) := by
  simp only [stM, abv_bit, cmG, bel_bit, pow_bit]
  constructor
  · rintro ⟨h0, c1, e1, h1, c2, e2, h2, c3, e3, h3, c4, e4, h4, c5, e5, rfl⟩
    exact ⟨h0, c4, h4, ⟨c3, h3, ⟨c2, h2, ⟨c1, h1, ⟨c, h0, rfl, e1⟩, e2⟩, e3⟩, e4⟩, e5⟩
  · rintro ⟨h0, c4, h4, ⟨c3, h3, ⟨c2, h2, ⟨c1, h1, ⟨c0, hc0, rfl, e1⟩, e2⟩, e3⟩, e4⟩, e5⟩
    exact ⟨h0, c1, e1, h1, c2, e2, h2, c3, e3, h3, c4, e4, h4, k, e5, rfl⟩
theorem cm_lin (t : Pn) (k : Nat) : (cmG t 127 5).testBit k = true ↔ ∃ c : Nat, c < 7 ∧ (cmG t (2 ^ c) 5).testBit k = true := by
  have h127 : ∀ c : Nat, c < 7 → (127 : Nat).testBit c = true := by decide
  simp only [cmG, bel_bit, pow_bit]
  constructor
  · rintro ⟨c4, h4, ⟨c3, h3, ⟨c2, h2, ⟨c1, h1, ⟨c0, hc0, _, e1⟩, e2⟩, e3⟩, e4⟩, e5⟩
    exact ⟨c0, hc0, c4, h4, ⟨c3, h3, ⟨c2, h2, ⟨c1, h1, ⟨c0, hc0, rfl, e1⟩, e2⟩, e3⟩, e4⟩, e5⟩
  · rintro ⟨c, hc, c4, h4, ⟨c3, h3, ⟨c2, h2, ⟨c1, h1, ⟨c0, hc0, rfl, e1⟩, e2⟩, e3⟩, e4⟩, e5⟩
    exact ⟨c4, h4, ⟨c3, h3, ⟨c2, h2, ⟨c1, h1, ⟨c, hc0, h127 c hc, e1⟩, e2⟩, e3⟩, e4⟩, e5⟩
theorem nz_bits {a : Nat} (ha : a < 128) : ¬ nI a = 0 ↔ ∃ n : Nat, a.testBit n = true := by
  have h := and_bits (a := a) (m := a) ha
  rw [Nat.and_self] at h
  rw [h]
  exact ⟨fun ⟨n, q, _⟩ => ⟨n, q⟩, fun ⟨n, q⟩ => ⟨n, q, q⟩⟩
theorem bk_bit (t : Pn) (k : Nat) : ∀ j : Nat, (bkG t j).testBit k = true ↔ k < j ∧ ∃ c : Nat, (stM t k).testBit c = true
  | 0 => by
    rw [bkG]
    exact ⟨fun q => absurd q (by rw [Nat.zero_testBit]; decide), fun h => absurd h.1 (Nat.not_lt_zero k)⟩
  | j + 1 => by
    rw [bkG]
    by_cases q : nI (stM t j) = 0
    · rw [if_pos q, bk_bit t k j]
      constructor
      · rintro ⟨h1, h2⟩; exact ⟨by omega, h2⟩
      · rintro ⟨h1, h2⟩
        rcases Nat.lt_or_ge k j with w | w
        · exact ⟨w, h2⟩
        · have e : k = j := by omega
          subst e
          exact absurd q ((nz_bits (stM_lt t k)).mpr h2)
    · rw [if_neg q, Nat.testBit_or, Bool.or_eq_true, bk_bit t k j, pow_bit]
      constructor
      · rintro (⟨h1, h2⟩ | e)
        · exact ⟨by omega, h2⟩
        · subst e; exact ⟨by omega, (nz_bits (stM_lt t _)).mp q⟩
      · rintro ⟨h1, h2⟩
        rcases Nat.lt_or_ge k j with w | w
        · exact Or.inl ⟨w, h2⟩
        · exact Or.inr (by omega)
theorem bk_cm (t : Pn) : bkG t 7 = cmG t 127 5 := by
  apply Nat.eq_of_testBit_eq
  intro k
  rw [Bool.eq_iff_iff, bk_bit, cm_lin]
  constructor
  · rintro ⟨hk, c, h⟩
    exact ⟨c, (st_bit t k c).mp h⟩
  · rintro ⟨c, hc, h⟩
    exact ⟨bit_7 (cmG_lt t (pow_ok c hc) 5) h, c, (st_bit t k c).mpr ⟨hc, h⟩⟩
theorem popc_sum : ∀ m : Nat, m < 128 → nI (popc m) = sumI (fun c => if m.testBit c = true then 1 else 0) 7 := by decide +kernel
theorem sumI_congr {f g : Nat → Int32} : ∀ n : Nat, (∀ k : Nat, k < n → f k = g k) → sumI f n = sumI g n
  | 0, _ => rfl
  | n + 1, h => by rw [sumI, sumI, sumI_congr n (fun k hk => h k (by omega)), h n (by omega)]
theorem st_sum (t : Pn) (k : Nat) : nI (popc (stM t k)) = sumI (fun c => if (cmG t (2 ^ c) 5).testBit k = true then 1 else 0) 7 := by
  rw [popc_sum _ (stM_lt t k)]
  refine sumI_congr 7 fun c hc => ?_
  have h := st_bit t k c
  by_cases q : (cmG t (2 ^ c) 5).testBit k = true
  · rw [if_pos q, if_pos (h.mpr ⟨hc, q⟩)]
  · rw [if_neg q, if_neg (fun z => q (h.mp z).2)]
/-! ===== ways ===== -/
theorem pa_val (m : Nat) (w : Int32) (g : Nat → Int32) (x : Nat) : ∀ c : Nat, paG m w g c x = if x < c ∧ m.testBit x = true then g x + w else g x
  | 0 => by rw [paG, if_neg (fun q => absurd q.1 (Nat.not_lt_zero x))]
  | c + 1 => by
    rw [paG]
    by_cases q : m.testBit c = true
    · rw [if_pos q]
      unfold upd
      by_cases z : x = c
      · subst z
        rw [if_pos rfl, pa_val m w g x x, if_neg (fun q => absurd q.1 (Nat.lt_irrefl x)), if_pos ⟨by omega, q⟩]
      · rw [if_neg z, pa_val m w g x c]
        by_cases y : x < c ∧ m.testBit x = true
        · rw [if_pos y, if_pos ⟨by omega, y.2⟩]
        · rw [if_neg y, if_neg (fun a => y ⟨by omega, a.2⟩)]
    · rw [if_neg q, pa_val m w g x c]
      by_cases y : x < c ∧ m.testBit x = true
      · rw [if_pos y, if_pos ⟨by omega, y.2⟩]
      · rw [if_neg y, if_neg (fun a => y ⟨by
          have : x ≠ c := fun e => q (e ▸ a.2)
          omega, a.2⟩)]
theorem aU_val (g : Nat → Int32) (c x : Nat) (w : Int32) : aU g c w x = if x = c then g x + w else g x := by
  unfold aU upd
  by_cases h : x = c
  · subst h; rw [if_pos rfl]
  · rw [if_neg h, if_neg h]
theorem wb_sp (t : Pn) (r : Nat) (m : Nat → Int32) : ∀ c : Nat, c ≤ 7 → wbG t r m c = spG t r m c
  | 0, _ => rfl
  | c + 1, hc => by
    rw [wbG, spG, wb_sp t r m c (by omega)]
    generalize spG t r m c = g
    have e7 : (7 * r + c) % 7 = c := by omega
    funext x
    rw [pa_val]
    have hx : ∀ y : Nat, y < 7 → ((x < 7 ∧ (2 ^ y).testBit x = true) ↔ x = y) := by
      intro y hy
      rw [pow_bit]
      exact ⟨fun q => q.2.symm, fun q => ⟨by omega, q.symm⟩⟩
    have b1 := bes_lt (-1) (show c < 7 by omega)
    have b2 := bes_lt 1 (show c < 7 by omega)
    have hne : bes c (-1) ≠ bes c 1 := by
      unfold bes
      rw [if_pos rfl, if_neg (by decide), if_pos rfl]
      split <;> omega
    unfold nextM
    rw [e7]
    by_cases ho : P_ou t (7 * r + c) = 0
    · rw [if_pos ho]
      by_cases hl : leanT t (7 * r + c) = 0
      · have hA : P_ou t (7 * r + c) = 0 ∧ leanT t (7 * r + c) = 0 := ⟨ho, hl⟩
        have hor : ∀ a b : Nat, ((a ||| b).testBit x = true) ↔ (a.testBit x = true ∨ b.testBit x = true) := fun a b => by rw [Nat.testBit_or, Bool.or_eq_true]
        rw [if_pos hl, if_pos hA, aU_val, aU_val]
        by_cases q1 : x = bes c (-1)
        · rw [if_pos ⟨by omega, (hor _ _).mpr (Or.inl ((hx _ b1).mpr q1).2)⟩, if_neg (fun z => hne (q1.symm.trans z)), if_pos q1]
        · by_cases q2 : x = bes c 1
          · rw [if_pos ⟨by omega, (hor _ _).mpr (Or.inr ((hx _ b2).mpr q2).2)⟩, if_pos q2, if_neg q1]
          · rw [if_neg (fun z => ((hor _ _).mp z.2).elim (fun y => q1 ((hx _ b1).mp ⟨z.1, y⟩)) (fun y => q2 ((hx _ b2).mp ⟨z.1, y⟩))), if_neg q2, if_neg q1]
      · have b3 := bes_lt (leanT t (7 * r + c)) (show c < 7 by omega)
        have hA : ¬ (P_ou t (7 * r + c) = 0 ∧ leanT t (7 * r + c) = 0) := fun z => hl z.2
        rw [if_neg hl, if_neg hA, if_pos ho, aU_val, aU_val, Int32.add_zero, ite_self]
        by_cases q1 : x = bes c (leanT t (7 * r + c))
        · rw [if_pos ((hx _ b3).mpr q1), if_pos q1]
        · rw [if_neg (fun z => q1 ((hx _ b3).mp z)), if_neg q1]
    · have hA : ¬ (P_ou t (7 * r + c) = 0 ∧ leanT t (7 * r + c) = 0) := fun z => ho z.1
      rw [if_neg ho, if_neg hA, if_neg ho, bes_0, aU_val, aU_val, Int32.add_zero, ite_self]
      by_cases q1 : x = c
      · rw [if_pos ((hx _ (by omega)).mpr q1), if_pos q1]
      · rw [if_neg (fun z => q1 ((hx _ (by omega)).mp z)), if_neg q1]
theorem wh_wm (t : Pn) : ∀ r : Nat, whG t r = wmG t r
  | 0 => rfl
  | r + 1 => by rw [whG, wmG, wh_wm t r, wb_sp t r _ 7 (Nat.le_refl 7)]
theorem sumI_add (f g : Nat → Int32) : ∀ n : Nat, sumI (fun k => f k + g k) n = sumI f n + sumI g n
  | 0 => rfl
  | n + 1 => by
    rw [sumI, sumI, sumI, sumI_add f g n, Int32.add_assoc, Int32.add_assoc]
    congr 1
    rw [← Int32.add_assoc, ← Int32.add_assoc, Int32.add_comm (sumI g n)]
theorem sumI_zero : ∀ n : Nat, sumI (fun _ => 0) n = 0
  | 0 => rfl
  | n + 1 => by rw [sumI, sumI_zero n, Int32.add_zero]
theorem sumI_mulL (w : Int32) (f : Nat → Int32) : ∀ n : Nat, sumI (fun k => w * f k) n = w * sumI f n
  | 0 => (Int32.mul_zero).symm
  | n + 1 => by rw [sumI, sumI, sumI_mulL w f n, Int32.mul_add]
theorem sumI_mulR (w : Int32) (f : Nat → Int32) : ∀ n : Nat, sumI (fun k => f k * w) n = sumI f n * w
  | 0 => (Int32.zero_mul).symm
  | n + 1 => by rw [sumI, sumI, sumI_mulR w f n, Int32.add_mul]
theorem sumI_swap (F : Nat → Nat → Int32) (m : Nat) : ∀ n : Nat, sumI (fun a => sumI (fun b => F a b) m) n = sumI (fun b => sumI (fun a => F a b) n) m
  | 0 => by
    show (0 : Int32) = sumI (fun _ => 0) m
    exact (sumI_zero m).symm
  | n + 1 => by
    rw [sumI, sumI_swap F m n, ← sumI_add]
    rfl
theorem wb_val (t : Pn) (r : Nat) (h : Nat → Int32) (x : Nat) (hx : x < 7) : ∀ c : Nat, wbG t r h c x = sumI (fun a => if (nextM t (7 * r + a)).testBit x = true then h a else 0) c
  | 0 => rfl
  | c + 1 => by
    rw [wbG, pa_val, sumI, wb_val t r h x hx c]
    by_cases q : (nextM t (7 * r + c)).testBit x = true
    · rw [if_pos ⟨hx, q⟩, if_pos q]
    · rw [if_neg (fun z => q z.2), if_neg q, Int32.add_zero]
def itG (t : Pn) (r : Nat) (h : Nat → Int32) : Nat → (Nat → Int32)
  | 0 => h
  | d + 1 => itG t (r + 1) (wbG t r h 7) d
theorem wf_it (t : Pn) {k : Nat} (hk : k < 7) : ∀ (d r : Nat) (h : Nat → Int32), sumI (fun c => h c * wfG t k d r c) 7 = itG t r h d k
  | 0, r, h => by
    show sumI (fun c => h c * (if c = k then 1 else 0)) 7 = h k
    rw [sumI_7]
    rcases (show k = 0 ∨ k = 1 ∨ k = 2 ∨ k = 3 ∨ k = 4 ∨ k = 5 ∨ k = 6 by omega) with z | z | z | z | z | z | z <;> subst z <;> simp
  | d + 1, r, h => by
    rw [itG, ← wf_it t hk d (r + 1) (wbG t r h 7)]
    have e1 : ∀ c : Nat, c < 7 → h c * wfG t k (d + 1) r c = sumI (fun n => (if (nextM t (7 * r + c)).testBit n = true then h c else 0) * wfG t k d (r + 1) n) 7 := by
      intro c _
      rw [wfG, ← sumI_mulL]
      refine sumI_congr 7 fun n _ => ?_
      split
      · rfl
      · rw [Int32.mul_zero, Int32.zero_mul]
    rw [sumI_congr 7 e1, sumI_swap]
    refine sumI_congr 7 fun n hn => ?_
    rw [sumI_mulR, wb_val t r h n hn]
theorem it_wh (t : Pn) : itG t 0 (fun _ => 1) 5 = whG t 5 := rfl
theorem wf_wm (t : Pn) {k : Nat} (hk : k < 7) : sumI (fun c => wfG t k 5 0 c) 7 = wmG t 5 k := by
  rw [← wh_wm, ← it_wh, ← wf_it t hk 5 0 (fun _ => 1)]
  refine sumI_congr 7 fun c _ => ?_
  rw [Int32.one_mul]
/-! ===== where a ball ends ===== -/
theorem roll_soft (t : Pn) {c : Nat} (hc : c < 7) : ∀ r : Nat, P_be (rollT t c 0 r).1 = P_be t ∧ (∀ p : Nat, 7 * r ≤ p → P_si (rollT t c 0 r).1 p = P_si t p)
  | 0 => ⟨rfl, fun _ _ => rfl⟩
  | r + 1 => by
    obtain ⟨h1, h2⟩ := roll_soft t hc r
    have hl := rollT_lt t 0 hc r
    rw [rollT_1]
    generalize hk : 7 * r + (rollT t c 0 r).2 = k
    generalize dirT (rollT t c 0 r).1 k = d
    unfold meetT
    by_cases q : P_ou (rollT t c 0 r).1 k = 0
    · rw [if_pos q]
      refine ⟨?_, fun p hp => ?_⟩
      · show (if ¬ (0 : Int32) = 0 ∧ (¬ P_be (rollT t c 0 r).1 k + d < -3 ∧ ¬ 3 < P_be (rollT t c 0 r).1 k + d) then upd (P_be (rollT t c 0 r).1) k (P_be (rollT t c 0 r).1 k + d) else P_be (rollT t c 0 r).1) = P_be t
        rw [if_neg (fun z => z.1 rfl)]
        exact h1
      · show (if leanT (rollT t c 0 r).1 k = 0 then upd (P_si (rollT t c 0 r).1) k (1 - P_si (rollT t c 0 r).1 k) else P_si (rollT t c 0 r).1) p = P_si t p
        split
        · unfold upd
          rw [if_neg (by omega)]
          exact h2 p (by omega)
        · exact h2 p (by omega)
    · rw [if_neg q]
      exact ⟨h1, fun p hp => h2 p (by omega)⟩
theorem dir_same {t t' : Pn} {p : Nat} (h1 : P_be t' = P_be t) (h2 : P_ou t' = P_ou t) (h3 : P_si t' p = P_si t p) (h4 : P_ti t' = P_ti t) : dirT t' p = dirT t p := by
  unfold dirT leanT
  rw [h1, h2, h3, h4]
theorem pos_roll (t : Pn) {c : Nat} (hc : c < 7) : ∀ r : Nat, posT t c r = (rollT t c 0 r).2
  | 0 => rfl
  | r + 1 => by
    rw [posT, rollT_2, pos_roll t hc r]
    congr 1
    exact (dir_same (roll_soft t hc r).1 (rollT_ou t c 0 r) ((roll_soft t hc r).2 _ (Nat.le_add_right _ _)) (rollT_ti t c 0 r)).symm
/-! ===== the best place ===== -/
theorem if_1 {t : Pn} {u : Tr} {k : Nat} {h : Int32} (hl : 0 < T_le u) : ifG t u k h 1 = (shP t u k h, shU t u k h) := by
  rw [ifG, if_pos (show 0 < T_le (ifG t u k h 0).2 from hl)]
  rfl
theorem gain_rng {t : Pn} {u : Tr} {c : Nat} (h : Int32) (hc : c < 7) (ht : okT t) (hu : okW u) (hl : 0 < T_le u) : ∃ m : Nat, m ≤ 14 ∧ T_po (shU t u c h) - T_po u = nI m := by
  obtain ⟨m, hm, e⟩ := shG_rng h hc ht hu
  refine ⟨m, hm, ?_⟩
  unfold shU
  rw [if_pos hl]
  show T_po u + shG t u c h - T_po u = nI m
  rw [i32_ad, e]
theorem popc_le : ∀ m : Nat, m < 128 → popc m ≤ 7 := by decide +kernel
theorem best_eq {t : Pn} {u : Tr} (h : Int32) (ht : okT t) (hu : okW u) (hl : 0 < T_le u) : ∀ k : Nat, k ≤ 7 → (bstG t u h k).1 = (bmS t u h k).1 ∧ ((k = 0 ∧ bstG t u h k = (0, -1, -1) ∧ bmS t u h k = (0, -1)) ∨ (0 < k ∧ ∃ a b : Nat, a ≤ 14 ∧ b ≤ 7 ∧ (bstG t u h k).2 = (nI a, nI b) ∧ (bmS t u h k).2 = nI (10 * a + b)))
  | 0, _ => ⟨rfl, Or.inl ⟨rfl, rfl, rfl⟩⟩
  | k + 1, hk => by
    obtain ⟨e1, e2⟩ := best_eq h ht hu hl k (by omega)
    obtain ⟨a, ha, ea⟩ := gain_rng h (show k < 7 by omega) ht hu hl
    have hb := popc_le _ (fwdM_lt (shP t u k h) 5)
    generalize hbe : popc (fwdM (shP t u k h) 5) = b at hb
    have em : bmG t u h k = nI (10 * a + b) := by
      unfold bmG ifR
      rw [if_1 hl, if_pos rfl]
      show (10 : Int32) * (T_po (shU t u k h) - T_po u) + nI (popc (fwdM (shP t u k h) 5)) = _
      rw [ea, hbe, show (10 : Int32) = nI 10 from rfl, pk_mul, nI_add]
    have ec : (((bstG t u h k).2.1 < T_po (shU t u k h) - T_po u ∨ (T_po (shU t u k h) - T_po u = (bstG t u h k).2.1 ∧ (bstG t u h k).2.2 < nI (popc (fwdM (shP t u k h) 5))))) ↔ (bmS t u h k).2 < bmG t u h k := by
      rw [em, ea, hbe]
      rcases e2 with ⟨hk0, q1, q2⟩ | ⟨hk0, a', b', ha', hb', q1, q2⟩
      · rw [q1, q2]
        have h1 : ∀ x : Nat, x < 2 ^ 31 → (-1 : Int32) < nI x := fun x hx => by
          rw [Int32.lt_iff_toInt_lt, nI_toInt hx]
          have e4 : (-1 : Int32).toInt = -1 := by decide
          omega
        exact ⟨fun _ => h1 _ (by omega), fun _ => Or.inl (h1 _ (by omega))⟩
      · rw [q1, q2]
        show (nI a' < nI a ∨ (nI a = nI a' ∧ nI b' < nI b)) ↔ nI (10 * a' + b') < nI (10 * a + b)
        rw [nI_ltI (by omega) (by omega), nI_ltI (by omega) (by omega), nI_ltI (by omega) (by omega), nI_eq (by omega) (by omega)]
        omega
    rw [bstG, bmS]
    by_cases q : (bmS t u h k).2 < bmG t u h k
    · rw [if_pos (ec.mpr q), if_pos q, if_pos q]
      refine ⟨rfl, Or.inr ⟨by omega, a, b, ha, hb, ?_, em⟩⟩
      show (T_po (shU t u k h) - T_po u, nI (popc (fwdM (shP t u k h) 5))) = (nI a, nI b)
      rw [ea, hbe]
    · rw [if_neg (fun z => q (ec.mp z)), if_neg q, if_neg q]
      refine ⟨e1, Or.inr ⟨by omega, ?_⟩⟩
      rcases e2 with ⟨hk0, q1, q2⟩ | ⟨hk0, a', b', ha', hb', q1, q2⟩
      · exfalso
        rw [q2, em] at q
        apply q
        show (-1 : Int32) < nI (10 * a + b)
        rw [Int32.lt_iff_toInt_lt, nI_toInt (by omega)]
        have e4 : (-1 : Int32).toInt = -1 := by decide
        omega
      · exact ⟨a', b', ha', hb', q1, q2⟩
/-! ===== bends ===== -/
theorem bnd_eq {t : Pn} (ht : okT t) : bndS t = sumI (fun p => if P_ou t p = 0 then (if 0 ≤ P_be t p then P_be t p else -(P_be t p)) else 0) 35 := by
  refine sumI_congr 35 fun p hp => ?_
  rcases ht.2.1 p hp with q | q
  · rw [if_pos q]
    split
    · rfl
    · exact Int32.zero_sub _
  · have hn : ¬ P_ou t p = 0 := by rw [q]; decide
    rw [if_neg hn, ht.2.2.2 p hp q]
    decide
