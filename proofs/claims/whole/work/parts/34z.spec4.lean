/-! ===== the balls of a table are twenty ===== -/
def okU (u : Tr) : Prop := ∃ (a : Nat) (hh : Nat → Nat) (l : Nat), T_le u = nI a ∧ (∀ k : Nat, k < 7 → T_he u k = nI (hh k)) ∧ T_lo u = nI l ∧ a + (hh 0 + hh 1 + hh 2 + hh 3 + hh 4 + hh 5 + hh 6) + l = 20
theorem okU_le {u : Tr} (h : okU u) : 0 ≤ T_le u := by
  obtain ⟨a, hh, l, e, _, _, s⟩ := h
  rw [e]
  exact nI_pos' (by omega)
theorem okU_sh {t : Pn} {u : Tr} {c : Nat} (h : Int32) (hc : c < 7) (ho : okU u) : okU (shU t u c h) := by
  unfold shU
  by_cases q : 0 < T_le u
  · rw [if_pos q]
    obtain ⟨a, hh, l, e1, e2, e3, s⟩ := ho
    have hp := rollT_lt t h hc 5
    generalize shG t u c h = gg
    generalize (rollT t c h 5).2 = p at hp
    have ha : 0 < a := by
      rw [e1] at q
      exact ej_tlt (a := 0) (b := a) (by omega) (by omega) q
    have el : T_le u - 1 = nI (a - 1) := by
      rw [e1]
      exact pk_sub (b := 1) (by omega)
    unfold takeT
    by_cases q2 : T_he u p < T_fu u
    · simp only [q2, if_true]
      refine ⟨a - 1, fun k => if k = p then hh p + 1 else hh k, l, el, ?_, e3, ?_⟩
      · intro k hk
        show upd (T_he u) p (T_he u p + 1) k = nI (if k = p then hh p + 1 else hh k)
        unfold upd
        by_cases z : k = p
        · rw [if_pos z, if_pos z, e2 p hp]
          exact nI_add (hh p) 1
        · rw [if_neg z, if_neg z]
          exact e2 k hk
      · show a - 1 + ((if 0 = p then hh p + 1 else hh 0) + (if 1 = p then hh p + 1 else hh 1) + (if 2 = p then hh p + 1 else hh 2) + (if 3 = p then hh p + 1 else hh 3) + (if 4 = p then hh p + 1 else hh 4) + (if 5 = p then hh p + 1 else hh 5) + (if 6 = p then hh p + 1 else hh 6)) + l = 20
        rcases (show p = 0 ∨ p = 1 ∨ p = 2 ∨ p = 3 ∨ p = 4 ∨ p = 5 ∨ p = 6 by omega) with z | z | z | z | z | z | z <;> subst z <;> simp <;> omega
    · simp only [q2, if_false]
      refine ⟨a - 1, hh, l + 1, el, e2, ?_, by omega⟩
      show T_lo u + 1 = nI (l + 1)
      rw [e3]
      exact nI_add l 1
  · rw [if_neg q]
    exact ho
theorem sumI_7 (f : Nat → Int32) : sumI f 7 = 0 + f 0 + f 1 + f 2 + f 3 + f 4 + f 5 + f 6 := rfl
theorem okU_emp {u : Tr} (ho : okU u) : okU (empU u) := by
  obtain ⟨a, hh, l, e1, e2, e3, s⟩ := ho
  refine ⟨20, fun _ => 0, 0, ?_, fun k _ => rfl, rfl, rfl⟩
  show T_le u + (sumI (T_he u) 7 + T_lo u) = nI 20
  rw [sumI_7, e1, e3, e2 0 (by omega), e2 1 (by omega), e2 2 (by omega), e2 3 (by omega), e2 4 (by omega), e2 5 (by omega), e2 6 (by omega), show (0 : Int32) = nI 0 from rfl]
  simp only [nI_add]
  congr 1
  omega
theorem okU_emp20 {u : Tr} (ho : okU u) : T_le (empU u) = 20 := by
  obtain ⟨a, hh, l, e1, e2, e3, s⟩ := ho
  show T_le u + (sumI (T_he u) 7 + T_lo u) = nI 20
  rw [sumI_7, e1, e3, e2 0 (by omega), e2 1 (by omega), e2 2 (by omega), e2 3 (by omega), e2 4 (by omega), e2 5 (by omega), e2 6 (by omega), show (0 : Int32) = nI 0 from rfl]
  simp only [nI_add]
  congr 1
  omega
theorem rollT_ouE (t : Pn) (c : Nat) (h : Int32) (r : Nat) (ho : outOK t) : outOK (rollT t c h r).1 := by
  unfold outOK
  rw [rollT_ou]
  exact ho
theorem shP_out {t : Pn} (u : Tr) (c : Nat) (h : Int32) (ho : outOK t) : outOK (shP t u c h) := by
  unfold shP
  by_cases q : 0 < T_le u
  · rw [if_pos q]; exact rollT_ouE t c h 5 ho
  · rw [if_neg q]; exact ho
/-! ===== the model's reading of shots ===== -/
abbrev tsP (le : Nat) (f : Nat → Int32) (sp : Nat) : Prop := ¬ codeP le f sp - 48 < 0 ∧ ¬ 6 < codeP le f sp - 48
def tsN (le : Nat) (f : Nat → Int32) (fo : Int32) (sp : Nat) : Nat := if codeP le f sp = 101 then sp + 1 else if ¬ fo = 0 ∧ (¬ codeP le f sp - 48 < 0 ∧ ¬ 6 < codeP le f sp - 48) then (if codeP le f (sp + 1) = 33 then sp + 2 else sp + 1) else sp
def tsF (le : Nat) (f : Nat → Int32) (fo : Int32) (sp : Nat) : Int32 := if codeP le f sp = 101 then fo else if ¬ fo = 0 ∧ (¬ codeP le f sp - 48 < 0 ∧ ¬ 6 < codeP le f sp - 48) then 1 else 0
def tsO (le : Nat) (f : Nat → Int32) (sp : Nat) : Int32 := if codeP le f sp = 101 then -4 else codeP le f sp - 48
def tsH (le : Nat) (f : Nat → Int32) (fo : Int32) (sp : Nat) : Int32 := if codeP le f sp = 101 then 0 else if (¬ fo = 0 ∧ (¬ codeP le f sp - 48 < 0 ∧ ¬ 6 < codeP le f sp - 48)) ∧ codeP le f (sp + 1) = 33 then 1 else 0
theorem codeP_ge {n k : Nat} {f : Nat → Int32} (h : n ≤ k) : codeP n f k = 0 := if_neg (by omega)
theorem tsN_ge (le : Nat) (f : Nat → Int32) (fo : Int32) (sp : Nat) : sp ≤ tsN le f fo sp := by
  unfold tsN
  split
  · omega
  · split
    · split <;> omega
    · exact Nat.le_refl _
theorem tsN_le {le : Nat} {f : Nat → Int32} {fo : Int32} {sp : Nat} (h : sp ≤ le) : tsN le f fo sp ≤ le := by
  unfold tsN
  rcases Nat.lt_or_ge sp le with q | q
  · split
    · omega
    · split
      · split
        · rename_i z
          rcases Nat.lt_or_ge (sp + 1) le with w | w
          · omega
          · rw [codeP_ge w] at z; exact absurd z (by decide)
        · omega
      · exact h
  · rw [codeP_ge q, if_neg (by decide), if_neg (fun z => z.2.1 (by decide))]
    exact h
theorem tsF_01 {le : Nat} {f : Nat → Int32} {fo : Int32} {sp : Nat} (h : fo = 0 ∨ fo = 1) : tsF le f fo sp = 0 ∨ tsF le f fo sp = 1 := by
  unfold tsF
  split
  · exact h
  · split
    · exact Or.inr rfl
    · exact Or.inl rfl
abbrev AsS : Type := Nat × Int32 × Int32 × Int32
def asG (le : Nat) (f : Nat → Int32) : Nat → Nat → Int32 → Int32 → Int32 → AsS
  | 0, x, y, o, h => (x, y, o, h)
  | r + 1, x, y, o, h => if ¬ y = 0 ∧ x < le then (if codeP le f x = 44 then asG le f r (tsN le f 1 (x + 1)) (tsF le f 1 (x + 1)) (tsO le f (x + 1)) (tsH le f 1 (x + 1)) else (x, 0, o, h)) else (x, y, o, h)
def asA (le : Nat) (f : Nat → Int32) : AsS := asG le f le (tsN le f 1 0) (tsF le f 1 0) (tsO le f 0) (tsH le f 1 0)
theorem asG_y0 (le : Nat) (f : Nat → Int32) (r x : Nat) (o h : Int32) : asG le f r x 0 o h = (x, 0, o, h) := by
  cases r with
  | zero => rfl
  | succ r => rw [asG, if_neg (fun q => q.1 rfl)]
theorem asG_done {le : Nat} {f : Nat → Int32} {r x : Nat} {y o h : Int32} (hx : le ≤ x) : asG le f r x y o h = (x, y, o, h) := by
  cases r with
  | zero => rfl
  | succ r => rw [asG, if_neg (fun q => by omega)]
theorem asG_le (le : Nat) (f : Nat → Int32) : ∀ (r x : Nat) (y o h : Int32), x ≤ le → (asG le f r x y o h).1 ≤ le
  | 0, x, y, o, h, hx => hx
  | r + 1, x, y, o, h, hx => by
    rw [asG]
    split
    · rename_i q
      split
      · exact asG_le le f r _ _ _ _ (tsN_le (by omega))
      · exact hx
    · exact hx
theorem asA_le (le : Nat) (f : Nat → Int32) : (asA le f).1 ≤ le := asG_le le f le _ _ _ _ (tsN_le (Nat.zero_le _))
/-- from the place x on the text reads as shots -/
def accS (le : Nat) (f : Nat → Int32) (r x : Nat) : Prop := ¬ (asG le f r (tsN le f 1 x) (tsF le f 1 x) (tsO le f x) (tsH le f 1 x)).2.1 = 0
theorem acc_F {le : Nat} {f : Nat → Int32} {r x : Nat} (h : accS le f r x) : tsF le f 1 x = 1 := by
  rcases tsF_01 (le := le) (f := f) (sp := x) (Or.inr (rfl : (1 : Int32) = 1)) with q | q
  · exfalso
    unfold accS at h
    rw [q, asG_y0] at h
    exact h rfl
  · exact q
theorem acc_step {le : Nat} {f : Nat → Int32} {r x : Nat} (hx : x < le) (hr : le ≤ x + (r + 1)) (h : accS le f (r + 1) x) : x < tsN le f 1 x ∧ (tsN le f 1 x + 1 < le → accS le f r (tsN le f 1 x + 1)) := by
  have hF := acc_F h
  have hlt : x < tsN le f 1 x := by
    unfold tsF at hF
    unfold tsN
    by_cases q : codeP le f x = 101
    · rw [if_pos q]; omega
    · rw [if_neg q] at hF ⊢
      by_cases q2 : ¬ (1 : Int32) = 0 ∧ (¬ codeP le f x - 48 < 0 ∧ ¬ 6 < codeP le f x - 48)
      · rw [if_pos q2]; split <;> omega
      · rw [if_neg q2] at hF; exact absurd hF (by decide)
  refine ⟨hlt, fun hl => ?_⟩
  unfold accS at h ⊢
  rw [hF] at h
  rw [asG, if_pos ⟨by decide, by omega⟩] at h
  by_cases q : codeP le f (tsN le f 1 x) = 44
  · rw [if_pos q] at h; exact h
  · rw [if_neg q] at h; exact absurd rfl h
theorem acc_op {le : Nat} {f : Nat → Int32} {r x : Nat} (h : accS le f r x) (ho : ¬ tsO le f x < 0) : tsO le f x = nI (tsO le f x).toNatClampNeg ∧ (tsO le f x).toNatClampNeg < 7 := by
  have hF := acc_F h
  unfold tsF at hF
  unfold tsO at ho ⊢
  by_cases q : codeP le f x = 101
  · rw [if_pos q] at ho; exact absurd (by decide) ho
  · rw [if_neg q] at hF ⊢
    by_cases q2 : ¬ (1 : Int32) = 0 ∧ (¬ codeP le f x - 48 < 0 ∧ ¬ 6 < codeP le f x - 48)
    · obtain ⟨k, hk, e⟩ := ej_in6 q2.2
      rw [e, nI_clamp (by omega)]
      exact ⟨rfl, hk⟩
    · rw [if_neg q2] at hF; exact absurd hF (by decide)
/-! ===== a run of shots, as the model goes ===== -/
abbrev SmS : Type := Nat × Int32 × Int32 × Int32 × Pn × Tr × Int32 × (Nat → Int32)
def smT (t : Pn) (u : Tr) (o h : Int32) : Int32 := if o < 0 then 10 + T_le (empU u) else shR t u o.toNatClampNeg h
def smP (t : Pn) (u : Tr) (o h : Int32) : Pn := if o < 0 then t else shP t u o.toNatClampNeg h
def smU (t : Pn) (u : Tr) (o h : Int32) : Tr := if o < 0 then empU u else shU t u o.toNatClampNeg h
def smB (t : Pn) (u : Tr) (be o h : Int32) : Int32 := if o < 0 then be else if 0 < T_le u then P_ri (rollT t o.toNatClampNeg h 5).1 - P_ri t else be
def smG (le : Nat) (f : Nat → Int32) : Nat → Nat → Int32 → Int32 → Int32 → Nat → Pn → Tr → Int32 → (Nat → Int32) → SmS
  | 0, x, o, h, s, _, t, u, b, z => (x, o, h, s, t, u, b, z)
  | r + 1, x, o, h, s, n, t, u, b, z =>
    if s = 0 ∧ x < le then
      (if 10 ≤ smT t u (tsO le f x) (tsH le f 1 x)
       then smG le f r (tsN le f 1 x + 1) (tsO le f x) (tsH le f 1 x) s (n + 1) (smP t u (tsO le f x) (tsH le f 1 x)) (smU t u (tsO le f x) (tsH le f 1 x)) (smB t u b (tsO le f x) (tsH le f 1 x)) z
       else smG le f r (tsN le f 1 x + 1) (tsO le f x) (tsH le f 1 x) 1 (n + 1) (smP t u (tsO le f x) (tsH le f 1 x)) (smU t u (tsO le f x) (tsH le f 1 x)) (smB t u b (tsO le f x) (tsH le f 1 x)) (upd (upd (upd z 0 (smT t u (tsO le f x) (tsH le f 1 x))) 1 (nI n)) 2 (nI x)))
    else (x, o, h, s, t, u, b, z)
theorem smP_til {t : Pn} (u : Tr) (o h : Int32) (q : tilOK t) : tilOK (smP t u o h) := by
  unfold smP
  split
  · exact q
  · exact shP_til _ _ _ q
theorem smP_out {t : Pn} (u : Tr) (o h : Int32) (q : outOK t) : outOK (smP t u o h) := by
  unfold smP
  split
  · exact q
  · exact shP_out _ _ _ q
theorem smU_ok {t : Pn} {u : Tr} (o h : Int32) (hc : ¬ o < 0 → o.toNatClampNeg < 7) (q : okU u) : okU (smU t u o h) := by
  unfold smU
  by_cases w : o < 0
  · rw [if_pos w]; exact okU_emp q
  · rw [if_neg w]; exact okU_sh h (hc w) q
theorem smG_done {le : Nat} {f : Nat → Int32} {r x n : Nat} {o h s b : Int32} {t : Pn} {u : Tr} {z : Nat → Int32} (q : ¬ (s = 0 ∧ x < le)) : smG le f r x o h s n t u b z = (x, o, h, s, t, u, b, z) := by
  cases r with
  | zero => rfl
  | succ r => rw [smG, if_neg q]
/-! ===== ways, as the model counts them ===== -/
def zeG (g : Nat → Int32) (i : Nat) (v : Int32) : Nat → Int32 := fun j => if j < i then v else g j
theorem zeG_0 (g : Nat → Int32) (v : Int32) : g = zeG g 0 v := by
  funext j
  unfold zeG
  rw [if_neg (by omega)]
theorem zeG_s (g : Nat → Int32) (i : Nat) (v : Int32) : upd (zeG g i v) i v = zeG g (i + 1) v := by
  funext j
  unfold upd zeG
  by_cases h : j = i
  · subst h
    rw [if_pos rfl, if_pos (by omega)]
  · rw [if_neg h]
    by_cases h2 : j < i
    · rw [if_pos h2, if_pos (by omega)]
    · rw [if_neg h2, if_neg (by omega)]
theorem cpS_s (f g : Nat → Int32) (i : Nat) : upd (cpyG f g 0 0 i) i (f i) = cpyG f g 0 0 (i + 1) := by
  have h := cpyG_s f g 0 0 i
  rw [Nat.zero_add] at h
  exact h
def aU (g : Nat → Int32) (c : Nat) (w : Int32) : Nat → Int32 := upd g c (g c + w)
def spG (t : Pn) (r : Nat) (m : Nat → Int32) : Nat → (Nat → Int32)
  | 0 => fun _ => 0
  | c + 1 => if P_ou t (7 * r + c) = 0 ∧ leanT t (7 * r + c) = 0 then aU (aU (spG t r m c) (bes c (-1)) (m c)) (bes c 1) (m c)
    else aU (aU (spG t r m c) (bes c (if P_ou t (7 * r + c) = 0 then leanT t (7 * r + c) else 0)) (m c)) (bes c 1) 0
def wmG (t : Pn) : Nat → (Nat → Int32)
  | 0 => fun _ => 1
  | r + 1 => spG t r (wmG t r) 7
/-! ===== trying, as the model goes ===== -/
def tbG (t : Pn) (u : Tr) (k : Nat) (h be : Int32) : Nat → Int32
  | 0 => be
  | j + 1 => if 0 < T_le (ifG t u k h j).2 then P_ri (rollT (ifG t u k h j).1 k h 5).1 - P_ri (ifG t u k h j).1 else tbG t u k h be j
theorem tbG_stop {t : Pn} {u : Tr} {k : Nat} {h be : Int32} {i : Nat} (hs : ¬ 0 < T_le (ifG t u k h i).2) : ∀ c : Nat, tbG t u k h be (i + c) = tbG t u k h be i
  | 0 => rfl
  | c + 1 => by
    rw [show i + (c + 1) = (i + c) + 1 from rfl, tbG, ifG_stop hs c, if_neg hs, tbG_stop hs c]
theorem ifG_out {t : Pn} (u : Tr) (k : Nat) (h : Int32) (ht : outOK t) : ∀ j : Nat, outOK (ifG t u k h j).1
  | 0 => ht
  | j + 1 => by
    rw [ifG]
    split
    · exact shP_out _ _ _ (ifG_out u k h ht j)
    · exact ifG_out u k h ht j
theorem ifG_okU (t : Pn) {u : Tr} {k : Nat} (h : Int32) (hk : k < 7) (hu : okU u) : ∀ j : Nat, okU (ifG t u k h j).2
  | 0 => hu
  | j + 1 => by
    rw [ifG]
    split
    · exact okU_sh h hk (ifG_okU t h hk hu j)
    · exact ifG_okU t h hk hu j
def bmG (t : Pn) (u : Tr) (h : Int32) (k : Nat) : Int32 := 10 * ifR t u (ifG t u k h 1) 0 + nI (popc (fwdM (ifG t u k h 1).1 5))
def bmS (t : Pn) (u : Tr) (h : Int32) : Nat → Nat × Int32
  | 0 => (0, -1)
  | k + 1 => (if (bmS t u h k).2 < bmG t u h k then k else (bmS t u h k).1, if (bmS t u h k).2 < bmG t u h k then bmG t u h k else (bmS t u h k).2)
def bbG (t : Pn) (u : Tr) (h be : Int32) : Nat → Int32
  | 0 => be
  | k + 1 => tbG t u k h (tbG t u k h (bbG t u h be k) 1) 1
theorem asG_01 (le : Nat) (f : Nat → Int32) : ∀ (r x : Nat) (y o h : Int32), (y = 0 ∨ y = 1) → ((asG le f r x y o h).2.1 = 0 ∨ (asG le f r x y o h).2.1 = 1)
  | 0, x, y, o, h, hy => hy
  | r + 1, x, y, o, h, hy => by
    rw [asG]
    split
    · split
      · exact asG_01 le f r _ _ _ _ (tsF_01 (Or.inr rfl))
      · exact Or.inl rfl
    · exact hy
theorem asA_1 {le : Nat} {f : Nat → Int32} (h : ¬ (asA le f).2.1 = 0) : (asA le f).2.1 = 1 := (asG_01 le f le _ _ _ _ (tsF_01 (Or.inr rfl))).resolve_left h
