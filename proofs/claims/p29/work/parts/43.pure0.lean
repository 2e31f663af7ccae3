/-! ===== lemmas of the class, as in whole ===== -/
theorem upd_at (f : Nat → Int32) (k : Nat) (v : Int32) : upd f k v k = v := if_pos rfl
theorem upd_off {f : Nat → Int32} {k j : Nat} {v : Int32} (h : ¬ j = k) : upd f k v j = f j := if_neg h
def outOK (t : Pn) : Prop := ∀ p : Nat, p < 35 → P_ou t p = 0 ∨ P_ou t p = 1
theorem ones_ok : ∀ m : Nat, m < 128 → sumI (fun k => (nI m >>> (nI k &&& 31)) &&& 1) 7 = nI (popc m) := by decide +kernel
theorem bes_0 (c : Nat) : bes c 0 = c := by unfold bes; rw [if_neg (by decide), if_neg (by decide)]
theorem meetT_ou (t : Pn) (k : Nat) (d h : Int32) : P_ou (meetT t k d h) = P_ou t := by unfold meetT; split <;> rfl
theorem rollT_ou (t : Pn) (c : Nat) (h : Int32) : ∀ r : Nat, P_ou (rollT t c h r).1 = P_ou t
  | 0 => rfl
  | r + 1 => by rw [rollT_1, meetT_ou, rollT_ou t c h r]
theorem meetT_ri (t : Pn) (k : Nat) (d h : Int32) : P_ri (meetT t k d h) = P_ri t + (if P_ou t k = 0 then P_bl t k else 0) := by
  unfold meetT
  by_cases q : P_ou t k = 0
  · rw [if_pos q, if_pos q]
  · rw [if_neg q, if_neg q]; exact (Int32.add_zero _).symm
theorem i32_sw (a b x : Int32) : a - b + x = a + x - b := by
  rw [Int32.sub_eq_add_neg, Int32.sub_eq_add_neg, Int32.add_assoc, Int32.add_comm (-b) x, ← Int32.add_assoc]
theorem i32_bk (a b : Int32) : a + (b - a) = b := by
  rw [Int32.sub_eq_add_neg, Int32.add_comm b, ← Int32.add_assoc, ← Int32.sub_eq_add_neg, Int32.sub_self, Int32.zero_add]
theorem le_pos {x : Int32} (h0 : 0 ≤ x) (h : ¬ x = 0) : 0 < x := by
  rcases Int32.lt_or_eq_of_le h0 with q | q
  · exact q
  · exact absurd q.symm h
theorem ej_in2 {v : Int32} (h : ¬ v < 0 ∧ ¬ 2 < v) : ∃ k : Nat, k < 3 ∧ v = nI k := ej_in 2 2 (by decide) h
def belOK (t : Pn) : Prop := ∀ p : Nat, p < 35 → P_bl t p = 0 ∨ P_bl t p = 1
def cmG (t : Pn) (m : Nat) : Nat → Nat
  | 0 => m
  | r + 1 => belG t r (cmG t m r) 7
theorem cmG_lt (t : Pn) {m : Nat} (hm : m < 128) : ∀ r : Nat, cmG t m r < 128
  | 0 => hm
  | r + 1 => belG_lt t r _ 7
theorem cm_fwd (t : Pn) : ∀ r : Nat, cmG t 127 r = fwdM t r
  | 0 => rfl
  | r + 1 => by rw [cmG, fwdM, cm_fwd t r]
theorem bit_ok : ∀ x : Nat, x < 128 → ∀ j : Nat, j < 7 → (nI x >>> (nI j &&& 31)) &&& 1 = if x.testBit j = true then 1 else 0 := by decide +kernel
theorem pow_ok : ∀ i : Nat, i < 7 → 2 ^ i < 128 := by decide +kernel
theorem ej_p1 {P : Prop} [Decidable P] (h : (if P then (1 : Int32) else 0) = 1) : P := by
  by_cases q : P
  · exact q
  · rw [if_neg q] at h; exact absurd h (by decide)
theorem ej_p0 {P : Prop} [Decidable P] (h : ¬ (if P then (1 : Int32) else 0) = 1) : ¬ P := fun q => h (if_pos q)
def okU (u : Tr) : Prop := ∃ (a : Nat) (hh : Nat → Nat) (l : Nat), T_le u = nI a ∧ (∀ k : Nat, k < 7 → T_he u k = nI (hh k)) ∧ T_lo u = nI l ∧ a + (hh 0 + hh 1 + hh 2 + hh 3 + hh 4 + hh 5 + hh 6) + l = 20
theorem okU_le {u : Tr} (h : okU u) : 0 ≤ T_le u := by
  obtain ⟨a, hh, l, e, _, _, s⟩ := h
  rw [e]
  exact nI_pos' (by omega)
theorem okU_sh {t : Pn} {u : Tr} {c : Nat} (h : Int32) (hc : c < 7) (ho : okU u) : okU (shU t u c h) := by
  unfold shU
  by_cases q : 0 < T_le u
  · rw [if_pos q]
    obtain ⟨a, hh, l, e1, e2, e3, s⟩ := ho
    have hp := rollT_lt t h hc 5
    generalize shG t u c h = gg
    generalize (rollT t c h 5).2 = p at hp
    have ha : 0 < a := by
      rw [e1] at q
      exact ej_tlt (a := 0) (b := a) (by omega) (by omega) q
    have el : T_le u - 1 = nI (a - 1) := by
      rw [e1]
      exact pk_sub (b := 1) (by omega)
    unfold takeT
    by_cases q2 : T_he u p < T_fu u
    · simp only [q2, if_true]
      refine ⟨a - 1, fun k => if k = p then hh p + 1 else hh k, l, el, ?_, e3, ?_⟩
      · intro k hk
        show upd (T_he u) p (T_he u p + 1) k = nI (if k = p then hh p + 1 else hh k)
        unfold upd
        by_cases z : k = p
        · rw [if_pos z, if_pos z, e2 p hp]
          exact nI_add (hh p) 1
        · rw [if_neg z, if_neg z]
          exact e2 k hk
      · show a - 1 + ((if 0 = p then hh p + 1 else hh 0) + (if 1 = p then hh p + 1 else hh 1) + (if 2 = p then hh p + 1 else hh 2) + (if 3 = p then hh p + 1 else hh 3) + (if 4 = p then hh p + 1 else hh 4) + (if 5 = p then hh p + 1 else hh 5) + (if 6 = p then hh p + 1 else hh 6)) + l = 20
        rcases (show p = 0 ∨ p = 1 ∨ p = 2 ∨ p = 3 ∨ p = 4 ∨ p = 5 ∨ p = 6 by omega) with z | z | z | z | z | z | z <;> subst z <;> simp <;> omega
    · simp only [q2, if_false]
      refine ⟨a - 1, hh, l + 1, el, e2, ?_, by omega⟩
      show T_lo u + 1 = nI (l + 1)
      rw [e3]
      exact nI_add l 1
  · rw [if_neg q]
    exact ho
theorem sumI_7 (f : Nat → Int32) : sumI f 7 = 0 + f 0 + f 1 + f 2 + f 3 + f 4 + f 5 + f 6 := rfl
theorem okU_emp {u : Tr} (ho : okU u) : okU (empU u) := by
  obtain ⟨a, hh, l, e1, e2, e3, s⟩ := ho
  refine ⟨20, fun _ => 0, 0, ?_, fun k _ => rfl, rfl, rfl⟩
  show T_le u + (sumI (T_he u) 7 + T_lo u) = nI 20
  rw [sumI_7, e1, e3, e2 0 (by omega), e2 1 (by omega), e2 2 (by omega), e2 3 (by omega), e2 4 (by omega), e2 5 (by omega), e2 6 (by omega), show (0 : Int32) = nI 0 from rfl]
  simp only [nI_add]
  congr 1
  omega
theorem okU_emp20 {u : Tr} (ho : okU u) : T_le (empU u) = 20 := by
  obtain ⟨a, hh, l, e1, e2, e3, s⟩ := ho
  show T_le u + (sumI (T_he u) 7 + T_lo u) = nI 20
  rw [sumI_7, e1, e3, e2 0 (by omega), e2 1 (by omega), e2 2 (by omega), e2 3 (by omega), e2 4 (by omega), e2 5 (by omega), e2 6 (by omega), show (0 : Int32) = nI 0 from rfl]
  simp only [nI_add]
  congr 1
  omega
theorem rollT_ouE (t : Pn) (c : Nat) (h : Int32) (r : Nat) (ho : outOK t) : outOK (rollT t c h r).1 := by
  unfold outOK
  rw [rollT_ou]
  exact ho
theorem shP_out {t : Pn} (u : Tr) (c : Nat) (h : Int32) (ho : outOK t) : outOK (shP t u c h) := by
  unfold shP
  by_cases q : 0 < T_le u
  · rw [if_pos q]; exact rollT_ouE t c h 5 ho
  · rw [if_neg q]; exact ho
theorem codeP_ge {n k : Nat} {f : Nat → Int32} (h : n ≤ k) : codeP n f k = 0 := if_neg (by omega)
theorem nI_ne4 {x : Nat} (h : x < 100) : ¬ nI x = -4 := by
  intro e
  have h1 := congrArg Int32.toInt e
  rw [nI_toInt (by omega)] at h1
  have e4 : (-4 : Int32).toInt = -4 := by decide
  omega
def benOK (t : Pn) : Prop := ∀ p : Nat, p < 35 → P_ou t p = 1 → P_be t p = 0
def okT (t : Pn) : Prop := tilOK t ∧ outOK t ∧ belOK t ∧ benOK t
def okW (u : Tr) : Prop := okU u ∧ ∀ k : Nat, k < 7 → ∃ m : Nat, m ≤ 9 ∧ T_wo u k = nI m
theorem meetT_bl (t : Pn) (k : Nat) (d h : Int32) : P_bl (meetT t k d h) = P_bl t := by unfold meetT; split <;> rfl
theorem meetT_ben {t : Pn} {k : Nat} (d h : Int32) (hb : benOK t) : benOK (meetT t k d h) := by
  intro p hp ho
  rw [meetT_ou] at ho
  unfold meetT
  by_cases q : P_ou t k = 0
  · rw [if_pos q]
    show (if ¬ h = 0 ∧ (¬ P_be t k + d < -3 ∧ ¬ 3 < P_be t k + d) then upd (P_be t) k (P_be t k + d) else P_be t) p = 0
    split
    · unfold upd
      by_cases z : p = k
      · rw [z, q] at ho; exact absurd ho (by decide)
      · rw [if_neg z]; exact hb p hp ho
    · exact hb p hp ho
  · rw [if_neg q]; exact hb p hp ho
theorem rollT_ben {t : Pn} (c : Nat) (h : Int32) (hb : benOK t) : ∀ r : Nat, benOK (rollT t c h r).1
  | 0 => hb
  | r + 1 => by rw [rollT_1]; exact meetT_ben _ _ (rollT_ben c h hb r)
theorem rollT_bl (t : Pn) (c : Nat) (h : Int32) : ∀ r : Nat, P_bl (rollT t c h r).1 = P_bl t
  | 0 => rfl
  | r + 1 => by rw [rollT_1, meetT_bl, rollT_bl t c h r]
theorem okT_sh {t : Pn} (u : Tr) (c : Nat) (h : Int32) (ht : okT t) : okT (shP t u c h) := by
  refine ⟨shP_til u c h ht.1, shP_out u c h ht.2.1, ?_, ?_⟩
  · unfold shP
    split
    · unfold belOK; rw [rollT_bl]; exact ht.2.2.1
    · exact ht.2.2.1
  · unfold shP
    split
    · exact rollT_ben c h ht.2.2.2 5
    · exact ht.2.2.2
theorem rollT_rings {t : Pn} {c : Nat} (h : Int32) (hc : c < 7) (ht : okT t) : ∀ r : Nat, r ≤ 5 → ∃ m : Nat, m ≤ r ∧ P_ri (rollT t c h r).1 = P_ri t + nI m
  | 0, _ => ⟨0, Nat.le_refl _, (Int32.add_zero _).symm⟩
  | r + 1, hr => by
    obtain ⟨m, hm, e⟩ := rollT_rings h hc ht r (by omega)
    rw [rollT_1, meetT_ri, e]
    have hk : 7 * r + (rollT t c h r).2 < 35 := by have := rollT_lt t h hc r; omega
    split
    · rw [rollT_bl]
      rcases ht.2.2.1 _ hk with z | z
      · rw [z, Int32.add_zero]; exact ⟨m, by omega, rfl⟩
      · rw [z, Int32.add_assoc]; exact ⟨m + 1, by omega, congrArg _ (nI_add m 1)⟩
    · rw [Int32.add_zero]; exact ⟨m, by omega, rfl⟩
theorem i32_ad (a b : Int32) : a + b - a = b := by
  rw [Int32.add_comm, Int32.add_sub_cancel]
theorem shG_rng {t : Pn} {u : Tr} {c : Nat} (h : Int32) (hc : c < 7) (ht : okT t) (hu : okW u) : ∃ m : Nat, m ≤ 14 ∧ shG t u c h = nI m := by
  obtain ⟨m, hm, e⟩ := rollT_rings h hc ht 5 (Nat.le_refl _)
  unfold shG gainT
  rw [e, i32_ad]
  split
  · obtain ⟨w, hw, e2⟩ := hu.2 _ (rollT_lt t h hc 5)
    rw [e2, nI_add]
    exact ⟨m + w, by omega, rfl⟩
  · rw [Int32.add_zero]; exact ⟨m, by omega, rfl⟩
theorem shR_10 {t : Pn} {u : Tr} {c : Nat} (h : Int32) (hc : c < 7) (ht : okT t) (hu : okW u) (hl : 0 < T_le u) : 10 ≤ shR t u c h := by
  obtain ⟨m, hm, e⟩ := shG_rng h hc ht hu
  unfold shR
  rw [if_pos hl, e]
  show (10 : Int32) ≤ nI 10 + nI m
  rw [nI_add]
  exact ej_le (a := 10) (b := 10 + m) (by omega) (by omega)
theorem takeT_wo (u : Tr) (k : Nat) : T_wo (takeT u k) = T_wo u := by unfold takeT; split <;> rfl
theorem shU_wo (t : Pn) (u : Tr) (c : Nat) (h : Int32) : T_wo (shU t u c h) = T_wo u := by unfold shU; split <;> rfl
theorem okW_sh {t : Pn} {u : Tr} {c : Nat} (h : Int32) (hc : c < 7) (hu : okW u) : okW (shU t u c h) := by
  refine ⟨okU_sh h hc hu.1, ?_⟩
  rw [shU_wo]
  exact hu.2
theorem okW_emp {u : Tr} (hu : okW u) : okW (empU u) := ⟨okU_emp hu.1, hu.2⟩
theorem okW_wo {u : Tr} {k : Nat} {w : Int32} (hw : inP w 9) (hu : okW u) : okW (woU u k w) := by
  refine ⟨hu.1, fun j hj => ?_⟩
  show ∃ m : Nat, m ≤ 9 ∧ upd (T_wo u) k w j = nI m
  unfold upd
  split
  · obtain ⟨m, hm, e⟩ := ej_in 9 9 (by decide) hw
    exact ⟨m, by omega, e⟩
  · exact hu.2 j hj
theorem okW_fu {u : Tr} (w : Int32) (hu : okW u) : okW (fuU u w) := hu
theorem okW_bh {t : Pn} {u : Tr} (k : Nat) (d : Int32) (hu : okW u) : okW (bhU t u k d) := by
  unfold bhU
  split
  · split
    · exact hu
    · exact hu
  · exact hu
theorem okT_bh {t : Pn} (k : Nat) (d : Int32) (ht : okT t) : okT (bhP t k d) := by
  unfold bhP
  by_cases q : P_ou t k = 0
  · rw [if_pos q]
    split
    · refine ⟨ht.1, ht.2.1, ht.2.2.1, fun p hp ho => ?_⟩
      show upd (P_be t) k (P_be t k + d) p = 0
      unfold upd
      by_cases z : p = k
      · rw [z] at ho; exact absurd (q.symm.trans ho) (by decide)
      · rw [if_neg z]; exact ht.2.2.2 p hp ho
    · exact ht
  · rw [if_neg q]; exact ht
theorem flip01 {x : Int32} (h : x = 0 ∨ x = 1) : 1 - x = 0 ∨ 1 - x = 1 := by
  rcases h with h | h <;> rw [h] <;> decide
theorem okT_pl {t : Pn} {k : Nat} (ht : okT t) (hk : k < 35) : okT (plT t k) := by
  refine ⟨ht.1, fun p hp => ?_, ht.2.2.1, fun p hp ho => ?_⟩
  · show upd (P_ou t) k (1 - P_ou t k) p = 0 ∨ upd (P_ou t) k (1 - P_ou t k) p = 1
    unfold upd
    split
    · exact flip01 (ht.2.1 k hk)
    · exact ht.2.1 p hp
  · show upd (P_be t) k 0 p = 0
    have ho : upd (P_ou t) k (1 - P_ou t k) p = 1 := ho
    unfold upd at ho ⊢
    by_cases z : p = k
    · rw [if_pos z]
    · rw [if_neg z] at ho ⊢; exact ht.2.2.2 p hp ho
theorem okT_bl {t : Pn} {k : Nat} (ht : okT t) (hk : k < 35) : okT (blT t k) := by
  refine ⟨ht.1, ht.2.1, fun p hp => ?_, ht.2.2.2⟩
  show upd (P_bl t) k (1 - P_bl t k) p = 0 ∨ upd (P_bl t) k (1 - P_bl t k) p = 1
  unfold upd
  split
  · exact flip01 (ht.2.2.1 k hk)
  · exact ht.2.2.1 p hp
theorem okT_ti {t : Pn} {w : Int32} (ht : okT t) (hw : inP w 2) : okT (tiT t w) := by
  refine ⟨?_, ht.2.1, ht.2.2.1, ht.2.2.2⟩
  obtain ⟨m, hm, e⟩ := ej_in 2 2 (by decide) hw
  subst e
  show nI m = 0 ∨ nI m = 1 ∨ nI m = 2
  rcases (show m = 0 ∨ m = 1 ∨ m = 2 by omega) with h | h | h <;> subst h
  · exact Or.inl rfl
  · exact Or.inr (Or.inl rfl)
  · exact Or.inr (Or.inr rfl)
theorem okT_rd {t : Pn} (k : Nat) (c : Int32) (ht : okT t) : okT (readT t k c) := by
  refine ⟨ht.1, fun p hp => ?_, fun p hp => ?_, fun p hp ho => ?_⟩
  · show upd (P_ou t) k (if c = 46 then 1 else 0) p = 0 ∨ upd (P_ou t) k (if c = 46 then 1 else 0) p = 1
    unfold upd
    split
    · split
      · exact Or.inr rfl
      · exact Or.inl rfl
    · exact ht.2.1 p hp
  · show upd (P_bl t) k (if c = 111 then 1 else 0) p = 0 ∨ upd (P_bl t) k (if c = 111 then 1 else 0) p = 1
    unfold upd
    split
    · split
      · exact Or.inr rfl
      · exact Or.inl rfl
    · exact ht.2.2.1 p hp
  · show upd (P_be t) k (if c = 60 then -1 else if c = 62 then 1 else 0) p = 0
    have ho : upd (P_ou t) k (if c = 46 then 1 else 0) p = 1 := ho
    unfold upd at ho ⊢
    by_cases z : p = k
    · rw [if_pos z] at ho ⊢
      by_cases y : c = 46
      · subst y; rfl
      · rw [if_neg y] at ho; exact absurd ho (by decide)
    · rw [if_neg z] at ho ⊢; exact ht.2.2.2 p hp ho
theorem okT_brd {t : Pn} (n : Nat) (f : Nat → Int32) (ht : okT t) : ∀ k : Nat, okT (brdT t n f k)
  | 0 => ht
  | k + 1 => okT_rd k _ (okT_brd n f ht k)
theorem shR_n0 {t : Pn} {u : Tr} {c : Nat} {h : Int32} (q : ¬ 0 < T_le u) : shR t u c h = 1 := if_neg q
theorem okT_pt (n : Nat) (f : Nat → Int32) : ∀ (r i p : Nat) (t : Pn) (u : Tr) (x y z : Int32), okT t → okW u → okT (ptG n f r i p t u x y z).1 ∧ okW (ptG n f r i p t u x y z).2.1
  | 0, _, _, t, u, x, y, z, ht, hu => ⟨ht, hu⟩
  | r + 1, i, p, t, u, x, y, z, ht, hu => by
    rw [ptG]
    by_cases q0 : x = 0
    · rw [if_pos q0]
      by_cases q1 : codeP n f i = 44
      · rw [if_pos q1]; exact okT_pt n f r _ _ _ _ _ _ _ ht hu
      · rw [if_neg q1]
        by_cases q2 : codeP n f i = 101
        · rw [if_pos q2]; exact okT_pt n f r _ _ _ _ _ _ _ ht (okW_emp hu)
        · rw [if_neg q2]
          by_cases q3 : plc (codeP n f i)
          · have hc := (plc_nat q3).2
            rw [if_pos q3]
            generalize (if codeP n f (i + 1) = 33 then (1 : Int32) else 0) = hd
            generalize (codeP n f i - 48).toNatClampNeg = c at hc
            by_cases q4 : 10 ≤ shR t u c hd
            · rw [if_pos q4]; exact okT_pt n f r _ _ _ _ _ _ _ (okT_sh u _ _ ht) (okW_sh _ hc hu)
            · rw [if_neg q4]; exact okT_pt n f r _ _ _ _ _ _ _ (okT_sh u _ _ ht) (okW_sh _ hc hu)
          · rw [if_neg q3]; exact okT_pt n f r _ _ _ _ _ _ _ ht hu
    · rw [if_neg q0]; exact ⟨ht, hu⟩
theorem pow_bit (k j : Nat) : (2 ^ k).testBit j = true ↔ k = j := by
  rw [Nat.testBit_two_pow]
  exact decide_eq_true_iff
theorem bel_bit (t : Pn) (r m n : Nat) : ∀ j : Nat, (belG t r m j).testBit n = true ↔ ∃ c : Nat, c < j ∧ m.testBit c = true ∧ (nextM t (7 * r + c)).testBit n = true
  | 0 => by
    rw [belG]
    exact ⟨fun q => absurd q (by rw [Nat.zero_testBit]; decide), fun ⟨c, hc, _⟩ => absurd hc (Nat.not_lt_zero c)⟩
  | j + 1 => by
    rw [belG]
    by_cases q : m.testBit j = true
    · rw [if_pos q, Nat.testBit_or, Bool.or_eq_true, bel_bit t r m n j]
      constructor
      · rintro (⟨c, hc, h1, h2⟩ | h2)
        · exact ⟨c, by omega, h1, h2⟩
        · exact ⟨j, by omega, q, h2⟩
      · rintro ⟨c, hc, h1, h2⟩
        rcases Nat.lt_or_ge c j with w | w
        · exact Or.inl ⟨c, w, h1, h2⟩
        · have e : c = j := by omega
          subst e
          exact Or.inr h2
    · rw [if_neg q, bel_bit t r m n j]
      constructor
      · rintro ⟨c, hc, h1, h2⟩
        exact ⟨c, by omega, h1, h2⟩
      · rintro ⟨c, hc, h1, h2⟩
        rcases Nat.lt_or_ge c j with w | w
        · exact ⟨c, w, h1, h2⟩
        · have e : c = j := by omega
          subst e
          exact absurd h1 q
theorem and_bits {a m : Nat} (ha : a < 128) : ¬ nI (a &&& m) = 0 ↔ ∃ n : Nat, a.testBit n = true ∧ m.testBit n = true := by
  have hlt : a &&& m < 2 ^ 31 := Nat.lt_of_le_of_lt Nat.and_le_left (by omega)
  rw [show (0 : Int32) = nI 0 from rfl, nI_eq hlt (by decide)]
  constructor
  · intro h
    obtain ⟨n, hn⟩ := Nat.exists_testBit_of_ne_zero h
    rw [Nat.testBit_and, Bool.and_eq_true] at hn
    exact ⟨n, hn⟩
  · rintro ⟨n, h1, h2⟩ e
    have h3 : (a &&& m).testBit n = true := by rw [Nat.testBit_and, h1, h2]; rfl
    rw [e, Nat.zero_testBit] at h3
    exact absurd h3 (by decide)
theorem abv_bit (t : Pn) (r m c : Nat) : ∀ j : Nat, (abvG t r m j).testBit c = true ↔ c < j ∧ ∃ n : Nat, (nextM t (7 * r + c)).testBit n = true ∧ m.testBit n = true
  | 0 => by
    rw [abvG]
    exact ⟨fun q => absurd q (by rw [Nat.zero_testBit]; decide), fun h => absurd h.1 (Nat.not_lt_zero c)⟩
  | j + 1 => by
    rw [abvG]
    by_cases q : nI (nextM t (7 * r + j) &&& m) = 0
    · rw [if_pos q, abv_bit t r m c j]
      constructor
      · rintro ⟨h1, h2⟩; exact ⟨by omega, h2⟩
      · rintro ⟨h1, h2⟩
        rcases Nat.lt_or_ge c j with w | w
        · exact ⟨w, h2⟩
        · have e : c = j := by omega
          subst e
          exact absurd q ((and_bits (nextM_lt t _)).mpr h2)
    · rw [if_neg q, Nat.testBit_or, Bool.or_eq_true, abv_bit t r m c j, pow_bit]
      constructor
      · rintro (⟨h1, h2⟩ | e)
        · exact ⟨by omega, h2⟩
        · subst e; exact ⟨by omega, (and_bits (nextM_lt t _)).mp q⟩
      · rintro ⟨h1, h2⟩
        rcases Nat.lt_or_ge c j with w | w
        · exact Or.inl ⟨w, h2⟩
        · exact Or.inr (by omega)
theorem bit_7 {x n : Nat} (h : x < 128) (q : x.testBit n = true) : n < 7 := by
  rcases Nat.lt_or_ge n 7 with w | w
  · exact w
  · have h2 : x < 2 ^ n := Nat.lt_of_lt_of_le h (show 2 ^ 7 ≤ 2 ^ n from Nat.pow_le_pow_right (by decide) w)
    rw [Nat.testBit_lt_two_pow h2] at q
    exact absurd q (by decide)
theorem st_bit (t : Pn) (k c : Nat) : (stM t k).testBit c = true ↔ (c < 7 ∧ (cmG t (2 ^ c) 5).testBit k = true) := by
  simp only [stM, abv_bit, cmG, bel_bit, pow_bit]
  constructor
  · rintro ⟨h0, c1, e1, h1, c2, e2, h2, c3, e3, h3, c4, e4, h4, c5, e5, rfl⟩
    exact ⟨h0, c4, h4, ⟨c3, h3, ⟨c2, h2, ⟨c1, h1, ⟨c, h0, rfl, e1⟩, e2⟩, e3⟩, e4⟩, e5⟩
  · rintro ⟨h0, c4, h4, ⟨c3, h3, ⟨c2, h2, ⟨c1, h1, ⟨c0, hc0, rfl, e1⟩, e2⟩, e3⟩, e4⟩, e5⟩
    exact ⟨h0, c1, e1, h1, c2, e2, h2, c3, e3, h3, c4, e4, h4, k, e5, rfl⟩
theorem cm_lin (t : Pn) (k : Nat) : (cmG t 127 5).testBit k = true ↔ ∃ c : Nat, c < 7 ∧ (cmG t (2 ^ c) 5).testBit k = true := by
  have h127 : ∀ c : Nat, c < 7 → (127 : Nat).testBit c = true := by decide
  simp only [cmG, bel_bit, pow_bit]
  constructor
  · rintro ⟨c4, h4, ⟨c3, h3, ⟨c2, h2, ⟨c1, h1, ⟨c0, hc0, _, e1⟩, e2⟩, e3⟩, e4⟩, e5⟩
    exact ⟨c0, hc0, c4, h4, ⟨c3, h3, ⟨c2, h2, ⟨c1, h1, ⟨c0, hc0, rfl, e1⟩, e2⟩, e3⟩, e4⟩, e5⟩
  · rintro ⟨c, hc, c4, h4, ⟨c3, h3, ⟨c2, h2, ⟨c1, h1, ⟨c0, hc0, rfl, e1⟩, e2⟩, e3⟩, e4⟩, e5⟩
    exact ⟨c4, h4, ⟨c3, h3, ⟨c2, h2, ⟨c1, h1, ⟨c, hc0, h127 c hc, e1⟩, e2⟩, e3⟩, e4⟩, e5⟩
theorem nz_bits {a : Nat} (ha : a < 128) : ¬ nI a = 0 ↔ ∃ n : Nat, a.testBit n = true := by
  have h := and_bits (a := a) (m := a) ha
  rw [Nat.and_self] at h
  rw [h]
  exact ⟨fun ⟨n, q, _⟩ => ⟨n, q⟩, fun ⟨n, q⟩ => ⟨n, q, q⟩⟩
theorem bk_bit (t : Pn) (k : Nat) : ∀ j : Nat, (bkG t j).testBit k = true ↔ k < j ∧ ∃ c : Nat, (stM t k).testBit c = true
  | 0 => by
    rw [bkG]
    exact ⟨fun q => absurd q (by rw [Nat.zero_testBit]; decide), fun h => absurd h.1 (Nat.not_lt_zero k)⟩
  | j + 1 => by
    rw [bkG]
    by_cases q : nI (stM t j) = 0
    · rw [if_pos q, bk_bit t k j]
      constructor
      · rintro ⟨h1, h2⟩; exact ⟨by omega, h2⟩
      · rintro ⟨h1, h2⟩
        rcases Nat.lt_or_ge k j with w | w
        · exact ⟨w, h2⟩
        · have e : k = j := by omega
          subst e
          exact absurd q ((nz_bits (stM_lt t k)).mpr h2)
    · rw [if_neg q, Nat.testBit_or, Bool.or_eq_true, bk_bit t k j, pow_bit]
      constructor
      · rintro (⟨h1, h2⟩ | e)
        · exact ⟨by omega, h2⟩
        · subst e; exact ⟨by omega, (nz_bits (stM_lt t _)).mp q⟩
      · rintro ⟨h1, h2⟩
        rcases Nat.lt_or_ge k j with w | w
        · exact Or.inl ⟨w, h2⟩
        · exact Or.inr (by omega)
theorem bk_cm (t : Pn) : bkG t 7 = cmG t 127 5 := by
  apply Nat.eq_of_testBit_eq
  intro k
  rw [Bool.eq_iff_iff, bk_bit, cm_lin]
  constructor
  · rintro ⟨hk, c, h⟩
    exact ⟨c, (st_bit t k c).mp h⟩
  · rintro ⟨c, hc, h⟩
    exact ⟨bit_7 (cmG_lt t (pow_ok c hc) 5) h, c, (st_bit t k c).mpr ⟨hc, h⟩⟩
theorem popc_sum : ∀ m : Nat, m < 128 → nI (popc m) = sumI (fun c => if m.testBit c = true then 1 else 0) 7 := by decide +kernel
theorem sumI_congr {f g : Nat → Int32} : ∀ n : Nat, (∀ k : Nat, k < n → f k = g k) → sumI f n = sumI g n
  | 0, _ => rfl
  | n + 1, h => by rw [sumI, sumI, sumI_congr n (fun k hk => h k (by omega)), h n (by omega)]
theorem st_sum (t : Pn) (k : Nat) : nI (popc (stM t k)) = sumI (fun c => if (cmG t (2 ^ c) 5).testBit k = true then 1 else 0) 7 := by
  rw [popc_sum _ (stM_lt t k)]
  refine sumI_congr 7 fun c hc => ?_
  have h := st_bit t k c
  by_cases q : (cmG t (2 ^ c) 5).testBit k = true
  · rw [if_pos q, if_pos (h.mpr ⟨hc, q⟩)]
  · rw [if_neg q, if_neg (fun z => q (h.mp z).2)]
theorem pa_val (m : Nat) (w : Int32) (g : Nat → Int32) (x : Nat) : ∀ c : Nat, paG m w g c x = if x < c ∧ m.testBit x = true then g x + w else g x
  | 0 => by rw [paG, if_neg (fun q => absurd q.1 (Nat.not_lt_zero x))]
  | c + 1 => by
    rw [paG]
    by_cases q : m.testBit c = true
    · rw [if_pos q]
      unfold upd
      by_cases z : x = c
      · subst z
        rw [if_pos rfl, pa_val m w g x x, if_neg (fun q => absurd q.1 (Nat.lt_irrefl x)), if_pos ⟨by omega, q⟩]
      · rw [if_neg z, pa_val m w g x c]
        by_cases y : x < c ∧ m.testBit x = true
        · rw [if_pos y, if_pos ⟨by omega, y.2⟩]
        · rw [if_neg y, if_neg (fun a => y ⟨by omega, a.2⟩)]
    · rw [if_neg q, pa_val m w g x c]
      by_cases y : x < c ∧ m.testBit x = true
      · rw [if_pos y, if_pos ⟨by omega, y.2⟩]
      · rw [if_neg y, if_neg (fun a => y ⟨by
          have : x ≠ c := fun e => q (e ▸ a.2)
          omega, a.2⟩)]
theorem sumI_add (f g : Nat → Int32) : ∀ n : Nat, sumI (fun k => f k + g k) n = sumI f n + sumI g n
  | 0 => rfl
  | n + 1 => by
    rw [sumI, sumI, sumI, sumI_add f g n, Int32.add_assoc, Int32.add_assoc]
    congr 1
    rw [← Int32.add_assoc, ← Int32.add_assoc, Int32.add_comm (sumI g n)]
theorem sumI_zero : ∀ n : Nat, sumI (fun _ => 0) n = 0
  | 0 => rfl
  | n + 1 => by rw [sumI, sumI_zero n, Int32.add_zero]
theorem sumI_mulL (w : Int32) (f : Nat → Int32) : ∀ n : Nat, sumI (fun k => w * f k) n = w * sumI f n
  | 0 => (Int32.mul_zero).symm
  | n + 1 => by rw [sumI, sumI, sumI_mulL w f n, Int32.mul_add]
theorem sumI_mulR (w : Int32) (f : Nat → Int32) : ∀ n : Nat, sumI (fun k => f k * w) n = sumI f n * w
  | 0 => (Int32.zero_mul).symm
  | n + 1 => by rw [sumI, sumI, sumI_mulR w f n, Int32.add_mul]
theorem sumI_swap (F : Nat → Nat → Int32) (m : Nat) : ∀ n : Nat, sumI (fun a => sumI (fun b => F a b) m) n = sumI (fun b => sumI (fun a => F a b) n) m
  | 0 => by
    show (0 : Int32) = sumI (fun _ => 0) m
    exact (sumI_zero m).symm
  | n + 1 => by
    rw [sumI, sumI_swap F m n, ← sumI_add]
    rfl
theorem wb_val (t : Pn) (r : Nat) (h : Nat → Int32) (x : Nat) (hx : x < 7) : ∀ c : Nat, wbG t r h c x = sumI (fun a => if (nextM t (7 * r + a)).testBit x = true then h a else 0) c
  | 0 => rfl
  | c + 1 => by
    rw [wbG, pa_val, sumI, wb_val t r h x hx c]
    by_cases q : (nextM t (7 * r + c)).testBit x = true
    · rw [if_pos ⟨hx, q⟩, if_pos q]
    · rw [if_neg (fun z => q z.2), if_neg q, Int32.add_zero]
def itG (t : Pn) (r : Nat) (h : Nat → Int32) : Nat → (Nat → Int32)
  | 0 => h
  | d + 1 => itG t (r + 1) (wbG t r h 7) d
theorem wf_it (t : Pn) {k : Nat} (hk : k < 7) : ∀ (d r : Nat) (h : Nat → Int32), sumI (fun c => h c * wfG t k d r c) 7 = itG t r h d k
  | 0, r, h => by
    show sumI (fun c => h c * (if c = k then 1 else 0)) 7 = h k
    rw [sumI_7]
    rcases (show k = 0 ∨ k = 1 ∨ k = 2 ∨ k = 3 ∨ k = 4 ∨ k = 5 ∨ k = 6 by omega) with z | z | z | z | z | z | z <;> subst z <;> simp
  | d + 1, r, h => by
    rw [itG, ← wf_it t hk d (r + 1) (wbG t r h 7)]
    have e1 : ∀ c : Nat, c < 7 → h c * wfG t k (d + 1) r c = sumI (fun n => (if (nextM t (7 * r + c)).testBit n = true then h c else 0) * wfG t k d (r + 1) n) 7 := by
      intro c _
      rw [wfG, ← sumI_mulL]
      refine sumI_congr 7 fun n _ => ?_
      split
      · rfl
      · rw [Int32.mul_zero, Int32.zero_mul]
    rw [sumI_congr 7 e1, sumI_swap]
    refine sumI_congr 7 fun n hn => ?_
    rw [sumI_mulR, wb_val t r h n hn]
theorem it_wh (t : Pn) : itG t 0 (fun _ => 1) 5 = whG t 5 := rfl
theorem roll_soft (t : Pn) {c : Nat} (hc : c < 7) : ∀ r : Nat, P_be (rollT t c 0 r).1 = P_be t ∧ (∀ p : Nat, 7 * r ≤ p → P_si (rollT t c 0 r).1 p = P_si t p)
  | 0 => ⟨rfl, fun _ _ => rfl⟩
  | r + 1 => by
    obtain ⟨h1, h2⟩ := roll_soft t hc r
    have hl := rollT_lt t 0 hc r
    rw [rollT_1]
    generalize hk : 7 * r + (rollT t c 0 r).2 = k
    generalize dirT (rollT t c 0 r).1 k = d
    unfold meetT
    by_cases q : P_ou (rollT t c 0 r).1 k = 0
    · rw [if_pos q]
      refine ⟨?_, fun p hp => ?_⟩
      · show (if ¬ (0 : Int32) = 0 ∧ (¬ P_be (rollT t c 0 r).1 k + d < -3 ∧ ¬ 3 < P_be (rollT t c 0 r).1 k + d) then upd (P_be (rollT t c 0 r).1) k (P_be (rollT t c 0 r).1 k + d) else P_be (rollT t c 0 r).1) = P_be t
        rw [if_neg (fun z => z.1 rfl)]
        exact h1
      · show (if leanT (rollT t c 0 r).1 k = 0 then upd (P_si (rollT t c 0 r).1) k (1 - P_si (rollT t c 0 r).1 k) else P_si (rollT t c 0 r).1) p = P_si t p
        split
        · unfold upd
          rw [if_neg (by omega)]
          exact h2 p (by omega)
        · exact h2 p (by omega)
    · rw [if_neg q]
      exact ⟨h1, fun p hp => h2 p (by omega)⟩
theorem dir_same {t t' : Pn} {p : Nat} (h1 : P_be t' = P_be t) (h2 : P_ou t' = P_ou t) (h3 : P_si t' p = P_si t p) (h4 : P_ti t' = P_ti t) : dirT t' p = dirT t p := by
  unfold dirT leanT
  rw [h1, h2, h3, h4]
theorem pos_roll (t : Pn) {c : Nat} (hc : c < 7) : ∀ r : Nat, posT t c r = (rollT t c 0 r).2
  | 0 => rfl
  | r + 1 => by
    rw [posT, rollT_2, pos_roll t hc r]
    congr 1
    exact (dir_same (roll_soft t hc r).1 (rollT_ou t c 0 r) ((roll_soft t hc r).2 _ (Nat.le_add_right _ _)) (rollT_ti t c 0 r)).symm
theorem if_1 {t : Pn} {u : Tr} {k : Nat} {h : Int32} (hl : 0 < T_le u) : ifG t u k h 1 = (shP t u k h, shU t u k h) := by
  rw [ifG, if_pos (show 0 < T_le (ifG t u k h 0).2 from hl)]
  rfl
theorem gain_rng {t : Pn} {u : Tr} {c : Nat} (h : Int32) (hc : c < 7) (ht : okT t) (hu : okW u) (hl : 0 < T_le u) : ∃ m : Nat, m ≤ 14 ∧ T_po (shU t u c h) - T_po u = nI m := by
  obtain ⟨m, hm, e⟩ := shG_rng h hc ht hu
  refine ⟨m, hm, ?_⟩
  unfold shU
  rw [if_pos hl]
  show T_po u + shG t u c h - T_po u = nI m
  rw [i32_ad, e]
theorem popc_le : ∀ m : Nat, m < 128 → popc m ≤ 7 := by decide +kernel
theorem bnd_eq {t : Pn} (ht : okT t) : bndS t = sumI (fun p => if P_ou t p = 0 then (if 0 ≤ P_be t p then P_be t p else -(P_be t p)) else 0) 35 := by
  refine sumI_congr 35 fun p hp => ?_
  rcases ht.2.1 p hp with q | q
  · rw [if_pos q]
    split
    · rfl
    · exact Int32.zero_sub _
  · have hn : ¬ P_ou t p = 0 := by rw [q]; decide
    rw [if_neg hn, ht.2.2.2 p hp q]
    decide
