/-! ===== bends by hand, pins pulled, bells ===== -/
theorem i32_3535 (s : Int32) : 35 - (35 - s) = s := by
  have h := Int32.sub_add_cancel (35 : Int32) s
  have h2 : 35 - (35 - s) = (35 - s + s) - (35 - s) := by rw [h]
  rw [h2]
  exact i32_ad _ _
theorem dOK_ite (h : Int32) : dOK (if h = 0 then -1 else 1) := by
  split
  · exact dOK_m
  · exact dOK_p
section HB
variable {t : Pn} {u : Tr} {k b c : Nat} {d : Int32}
theorem bh_out (ho : P_ou t k = 1) : bhR t k d = 2 ∧ bhP t k d = t ∧ T_re (bhU t u k d) = T_re u + 1 := by
  have hn : ¬ P_ou t k = 0 := by rw [ho]; decide
  unfold bhR bhP bhU
  rw [if_neg hn, if_neg hn, if_neg hn]
  exact ⟨rfl, rfl, rfl⟩
theorem bh_no (ho : P_ou t k = 0) (hq : ¬ (¬ P_be t k + d < -3 ∧ ¬ 3 < P_be t k + d)) : bhR t k d = 3 ∧ bhP t k d = t ∧ T_re (bhU t u k d) = T_re u + 1 := by
  unfold bhR bhP bhU
  rw [if_pos ho, if_pos ho, if_pos ho, if_neg hq, if_neg hq, if_neg hq]
  exact ⟨rfl, rfl, rfl⟩
theorem bh_rng {x : Int32} (hc : c ≤ 6) (h : x + 3 = nI c) : ¬ x < -3 ∧ ¬ 3 < x := by
  have h2 := be_of h
  subst h2
  rcases (show c = 0 ∨ c = 1 ∨ c = 2 ∨ c = 3 ∨ c = 4 ∨ c = 5 ∨ c = 6 by omega) with h | h | h | h | h | h | h <;> subst h <;> decide
theorem bh_go (ho : P_ou t k = 0) (hc : c ≤ 6) (h : P_be t k + d + 3 = nI c) : bhR t k d = nI (10 + c) ∧ (P_ou (bhP t k d) k = 0 ∧ P_be (bhP t k d) k + 3 = nI c) ∧ T_re (bhU t u k d) = T_re u := by
  have hq := bh_rng hc h
  unfold bhR bhP bhU
  rw [if_pos ho, if_pos ho, if_pos ho, if_pos hq, if_pos hq, if_pos hq]
  refine ⟨?_, ⟨ho, ?_⟩, rfl⟩
  · rw [Int32.add_assoc, h]; exact nI_add 10 c
  · show upd (P_be t) k (P_be t k + d) k + 3 = nI c
    rw [upd_at, h]
theorem be_left (hbe : P_be t k + 3 = nI b) (hb : 0 < b) : P_be t k + (-1) + 3 = nI (b - 1) := by
  obtain ⟨c, rfl⟩ : ∃ c : Nat, b = c + 1 := ⟨b - 1, by omega⟩
  rw [Int32.add_assoc, Int32.add_comm (-1) 3, ← Int32.add_assoc, hbe]
  exact pk_m1 c
theorem be_right (hbe : P_be t k + 3 = nI b) : P_be t k + 1 + 3 = nI (b + 1) := by
  rw [Int32.add_assoc, Int32.add_comm 1 3, ← Int32.add_assoc, hbe]
  exact nI_add b 1
theorem be_left0 (hbe : P_be t k + 3 = nI b) (hb : b = 0) : ¬ (¬ P_be t k + (-1) < -3 ∧ ¬ 3 < P_be t k + (-1)) := by
  rw [be_of hbe, hb]; decide
theorem be_right6 (hbe : P_be t k + 3 = nI b) (hb : b = 6) : ¬ (¬ P_be t k + 1 < -3 ∧ ¬ 3 < P_be t k + 1) := by
  rw [be_of hbe, hb]; decide
theorem pr_pin {t' : Pn} (ho : P_ou t' k = 0) (h : P_be t' k + 3 = nI c) : (if P_ou t' k = 0 then P_be t' k + 3 else -4) = nI c := (if_pos ho).trans h
theorem pr_none {t' : Pn} (ho : P_ou t' k = 1) : (if P_ou t' k = 0 then P_be t' k + 3 else -4) = -4 := if_neg (by rw [ho]; decide)
theorem pl_ou1 (ho : P_ou t k = 0) : P_ou (plT t k) k = 1 := by
  show upd (P_ou t) k (1 - P_ou t k) k = 1
  rw [upd_at, ho]; rfl
theorem pl_ou0 (ho : P_ou t k = 1) : P_ou (plT t k) k = 0 ∧ P_be (plT t k) k + 3 = nI 3 ∧ P_si (plT t k) k = 0 := by
  refine ⟨?_, ?_, ?_⟩
  · show upd (P_ou t) k (1 - P_ou t k) k = 0
    rw [upd_at, ho]; rfl
  · show upd (P_be t) k 0 k + 3 = nI 3
    rw [upd_at]; rfl
  · show upd (P_si t) k 0 k = 0
    rw [upd_at]
theorem bl_at : P_bl (blT t k) k = 1 - P_bl t k := upd_at _ _ _
end HB
