/-! ===== a shot, told ahead ===== -/
theorem meet_be_off {t : Pn} {k p : Nat} {d h : Int32} (hp : ¬ p = k) : P_be (meetT t k d h) p = P_be t p ∧ P_si (meetT t k d h) p = P_si t p := by
  unfold meetT
  by_cases q : P_ou t k = 0
  · rw [if_pos q]
    refine ⟨?_, ?_⟩
    · show (if ¬ h = 0 ∧ (¬ P_be t k + d < -3 ∧ ¬ 3 < P_be t k + d) then upd (P_be t) k (P_be t k + d) else P_be t) p = P_be t p
      split
      · exact upd_off hp
      · rfl
    · show (if leanT t k = 0 then upd (P_si t) k (1 - P_si t k) else P_si t) p = P_si t p
      split
      · exact upd_off hp
      · rfl
  · rw [if_neg q]; exact ⟨rfl, rfl⟩
theorem roll_later (t : Pn) {c : Nat} (h : Int32) (hc : c < 7) : ∀ r p : Nat, 7 * r ≤ p → P_be (rollT t c h r).1 p = P_be t p ∧ P_si (rollT t c h r).1 p = P_si t p
  | 0, _, _ => ⟨rfl, rfl⟩
  | r + 1, p, hp => by
    have hl := rollT_lt t h hc r
    rw [rollT_1]
    obtain ⟨h1, h2⟩ := meet_be_off (t := (rollT t c h r).1) (k := 7 * r + (rollT t c h r).2) (p := p) (d := dirT (rollT t c h r).1 (7 * r + (rollT t c h r).2)) (h := h) (by omega)
    obtain ⟨h3, h4⟩ := roll_later t h hc r p (by omega)
    exact ⟨h1.trans h3, h2.trans h4⟩
theorem dir_sameP {t t' : Pn} {p : Nat} (h1 : P_be t' p = P_be t p) (h2 : P_ou t' = P_ou t) (h3 : P_si t' p = P_si t p) (h4 : P_ti t' = P_ti t) : dirT t' p = dirT t p := by
  unfold dirT leanT
  rw [h1, h2, h3, h4]
theorem pos_rollH (t : Pn) {c : Nat} (h : Int32) (hc : c < 7) : ∀ r : Nat, posT t c r = (rollT t c h r).2
  | 0 => rfl
  | r + 1 => by
    rw [posT, rollT_2, pos_rollH t h hc r]
    congr 1
    have hz := roll_later t h hc r (7 * r + (rollT t c h r).2) (Nat.le_add_right _ _)
    exact (dir_sameP hz.1 (rollT_ou t c h r) hz.2 (rollT_ti t c h r)).symm
/-- 1 if the ball is lost, else 0 -/
def loG (t : Pn) (u : Tr) (c : Nat) (h : Int32) : Int32 := if T_he u (rollT t c h 5).2 < T_fu u then 0 else 1
theorem take_loG (t : Pn) (u : Tr) (c : Nat) (h : Int32) : T_lo (takeT u (rollT t c h 5).2) = T_lo u + loG t u c h := by
  unfold takeT loG
  by_cases q : T_he u (rollT t c h 5).2 < T_fu u
  · rw [if_pos q, if_pos q, Int32.add_zero]
  · rw [if_neg q, if_neg q]
section SH
variable {t : Pn} {u : Tr} {k : Nat} {h : Int32}
theorem sh_le (hl : 0 < T_le u) : T_le (shU t u k h) = T_le u - 1 := by rw [shU_go hl]
theorem sh_po (hl : 0 < T_le u) : T_po (shU t u k h) = T_po u + shG t u k h := by rw [shU_go hl]
theorem sh_lo (hl : 0 < T_le u) : T_lo (shU t u k h) = T_lo u + loG t u k h := by rw [shU_go hl]; exact take_loG t u k h
theorem sh_re (hl : 0 < T_le u) : T_re (shU t u k h) = T_re u := by rw [shU_go hl]
theorem sh_wo : T_wo (shU t u k h) = T_wo u := shU_wo t u k h
theorem sh_en (hl : 0 < T_le u) (hk : k < 7) : T_en (shU t u k h) (posT t k 5) = T_en u (posT t k 5) + 1 := by
  rw [shU_go hl]
  show T_en (takeT u (rollT t k h 5).2) (posT t k 5) = _
  rw [take_en, pos_rollH t h hk 5, upd_at]
theorem if1_po (hl : 0 < T_le u) : T_po (ifG t u k h 1).2 - T_po u = shG t u k h := by
  rw [if_1 hl]
  show T_po (shU t u k h) - T_po u = _
  rw [sh_po hl, i32_ad]
theorem if1_lo (hl : 0 < T_le u) : T_lo (ifG t u k h 1).2 - T_lo u = loG t u k h := by
  rw [if_1 hl]
  show T_lo (shU t u k h) - T_lo u = _
  rw [sh_lo hl, i32_ad]
theorem if1_P (hl : 0 < T_le u) : (ifG t u k h 1).1 = shP t u k h := by rw [if_1 hl]
theorem sh_ri1 (hl : 0 < T_le u) (h1 : loG t u k h = 1) : P_ri (shP t u k h) - P_ri t = shG t u k h - 0 := by
  rw [shP_go hl]
  unfold loG at h1
  have q : ¬ T_he u (rollT t k h 5).2 < T_fu u := fun z => by rw [if_pos z] at h1; exact absurd h1 (by decide)
  unfold shG gainT
  rw [if_neg q, Int32.add_zero, Int32.sub_zero]
theorem sh_ri0 (hl : 0 < T_le u) (hk : k < 7) (h1 : ¬ loG t u k h = 1) : P_ri (shP t u k h) - P_ri t = shG t u k h - T_wo (shU t u k h) (posT t k 5) := by
  rw [shP_go hl, sh_wo, pos_rollH t h hk 5]
  unfold loG at h1
  have q : T_he u (rollT t k h 5).2 < T_fu u := Decidable.byContradiction fun z => h1 (if_neg z)
  unfold shG gainT
  rw [if_pos q, Int32.add_sub_cancel]
end SH
/-! ===== the bends together ===== -/
def bN (t : Pn) (p : Nat) : Nat := (P_be t p + 3).toNatClampNeg
def aN (t : Pn) (p : Nat) : Nat := (bN t p - 3) + (3 - bN t p)
theorem bN_of {t : Pn} {p b : Nat} (hb : b ≤ 6) (h : P_be t p + 3 = nI b) : bN t p = b := by unfold bN; rw [h, nI_clamp (by omega)]
theorem abs_b {x : Int32} {b : Nat} (hb : b ≤ 6) (h : x + 3 = nI b) : (if 0 ≤ x then x else 0 - x) = nI ((b - 3) + (3 - b)) := by
  have h2 := be_of h
  subst h2
  rcases (show b = 0 ∨ b = 1 ∨ b = 2 ∨ b = 3 ∨ b = 4 ∨ b = 5 ∨ b = 6 by omega) with h | h | h | h | h | h | h <;> subst h <;> decide
theorem bnd_nat {t : Pn} (hr : rngT t) : bndS t = nI (sumN (aN t) 35) ∧ sumN (aN t) 35 ≤ 105 := by
  have h : ∀ p : Nat, p < 35 → (if 0 ≤ P_be t p then P_be t p else 0 - P_be t p) = nI (aN t p) ∧ aN t p ≤ 3 := by
    intro p hp
    obtain ⟨b, hb, e⟩ := hr.1 p hp
    have eb := bN_of hb e
    unfold aN
    rw [eb]
    exact ⟨abs_b hb e, by omega⟩
  exact ⟨sumI_nat 35 (fun p hp => (h p hp).1), sumN_le 35 (fun p hp => (h p hp).2)⟩
theorem sumN_one {g g' : Nat → Nat} {k : Nat} (h1 : ∀ p : Nat, ¬ p = k → g' p = g p) (h2 : g' k ≤ g k + 1) : ∀ n : Nat, sumN g' n ≤ sumN g n + 1 ∧ (n ≤ k → sumN g' n = sumN g n)
  | 0 => ⟨Nat.zero_le _, fun _ => rfl⟩
  | n + 1 => by
    obtain ⟨a, b⟩ := sumN_one h1 h2 n
    rw [sumN, sumN]
    by_cases q : n = k
    · subst q
      have := b (Nat.le_refl _)
      exact ⟨by omega, fun z => by omega⟩
    · have := h1 n q
      refine ⟨by omega, fun z => ?_⟩
      have := b (by omega)
      omega
theorem step_b {x d : Int32} {b b' : Nat} (hb : b ≤ 6) (hx : x + 3 = nI b) (hd : dOK d) (hb' : b' ≤ 6) (hx' : x + d + 3 = nI b') : b' ≤ b + 1 ∧ b ≤ b' + 1 := by
  rcases hd with rfl | rfl | rfl
  · have e : nI (b' + 1) = nI b := by
      rw [← nI_1, ← hx', ← hx, Int32.add_assoc, Int32.add_assoc]
      congr 1
    have := (nI_eq (by omega) (by omega)).mp e
    omega
  · have e : nI b' = nI b := by rw [← hx', ← hx, Int32.add_zero]
    have := (nI_eq (by omega) (by omega)).mp e
    omega
  · have e : nI b' = nI (b + 1) := by
      rw [← nI_1, ← hx', ← hx, Int32.add_assoc, Int32.add_assoc]
      congr 1
    have := (nI_eq (by omega) (by omega)).mp e
    omega
theorem meet_aN {t : Pn} {k : Nat} {d h : Int32} (hk : k < 35) (hd : dOK d) (hr : rngT t) : sumN (aN (meetT t k d h)) 35 ≤ sumN (aN t) 35 + 1 := by
  refine (sumN_one (k := k) (fun p hp => ?_) ?_ 35).1
  · unfold aN bN
    rw [(meet_be_off hp).1]
  · obtain ⟨b, hb, e⟩ := hr.1 k hk
    obtain ⟨b', hb', e'⟩ := (meet_rng (h := h) hk hd hr).1 k hk
    have e1 := bN_of hb e
    have e2 := bN_of hb' e'
    unfold aN
    rw [e1, e2]
    have hz : P_be (meetT t k d h) k = P_be t k + d ∨ P_be (meetT t k d h) k = P_be t k := by
      unfold meetT
      by_cases q : P_ou t k = 0
      · rw [if_pos q]
        show (if ¬ h = 0 ∧ (¬ P_be t k + d < -3 ∧ ¬ 3 < P_be t k + d) then upd (P_be t) k (P_be t k + d) else P_be t) k = P_be t k + d ∨ (if ¬ h = 0 ∧ (¬ P_be t k + d < -3 ∧ ¬ 3 < P_be t k + d) then upd (P_be t) k (P_be t k + d) else P_be t) k = P_be t k
        split
        · exact Or.inl (upd_at _ _ _)
        · exact Or.inr rfl
      · rw [if_neg q]; exact Or.inr rfl
    rcases hz with z | z
    · rw [z] at e'
      have := step_b hb e hd hb' e'
      omega
    · rw [z, e] at e'
      have := (nI_eq (by omega) (by omega)).mp e'
      omega
theorem roll_aN {t : Pn} {c : Nat} (h : Int32) (hc : c < 7) (ht : tilOK t) (hr : rngT t) : ∀ r : Nat, r ≤ 5 → sumN (aN (rollT t c h r).1) 35 ≤ sumN (aN t) 35 + r
  | 0, _ => by
    have e : (rollT t c h 0).1 = t := rfl
    rw [e]
    exact Nat.le_add_right _ 0
  | r + 1, q => by
    have hl := rollT_lt t h hc r
    have h1 := roll_aN h hc ht hr r (by omega)
    have h2 := meet_aN (h := h) (show 7 * r + (rollT t c h r).2 < 35 by omega) (dirT_ok (rollT_til c h r ht) (7 * r + (rollT t c h r).2)) (roll_rng h hc ht hr r (by omega))
    rw [rollT_1]
    omega
theorem bnd_hard {t : Pn} {u : Tr} {k : Nat} (h : Int32) (hk : k < 7) (hl : 0 < T_le u) (ht : tilOK t) (hr : rngT t) : ¬ (bndS t + 5 < bndS (shP t u k h)) := by
  rw [shP_go hl]
  obtain ⟨e1, l1⟩ := bnd_nat hr
  obtain ⟨e2, l2⟩ := bnd_nat (roll_rng h hk ht hr 5 (Nat.le_refl _))
  have h5 := roll_aN h hk ht hr 5 (Nat.le_refl _)
  rw [e1, e2, show (5 : Int32) = nI 5 from rfl, nI_add]
  exact ej_nlt (by omega) (by omega)
theorem bnd_soft {t : Pn} {u : Tr} {k : Nat} {h : Int32} (h0 : h = 0) (hk : k < 7) (hl : 0 < T_le u) : bndS (shP t u k h) = bndS t := by
  subst h0
  rw [shP_go hl]
  unfold bndS
  rw [(roll_soft t hk 5).1]
