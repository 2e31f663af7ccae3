/-! ===== the model: its row s, of pins and a table ===== -/
def flatS (t : Pn) (u : Tr) : Nat → Int32 := fun k => if k = 0 then T_po u else if k = 1 then T_le u else if k = 2 then T_lo u else if k = 3 then T_sh u else if k = 4 then T_ha u else if k = 5 then P_ri t else if k = 6 then P_bb t else if k = 7 then T_re u else if k = 8 then P_ti t else if k = 9 then T_fu u else if k < 185 then (if (k - 10) % 5 = 0 then P_be t ((k - 10) / 5) else if (k - 10) % 5 = 1 then P_ou t ((k - 10) / 5) else if (k - 10) % 5 = 2 then P_bl t ((k - 10) / 5) else if (k - 10) % 5 = 3 then P_si t ((k - 10) / 5) else P_vi t ((k - 10) / 5)) else (if (k - 185) % 3 = 0 then T_wo u ((k - 185) / 3) else if (k - 185) % 3 = 1 then T_he u ((k - 185) / 3) else T_en u ((k - 185) / 3))
theorem flS_pin (t : Pn) (u : Tr) {k w : Nat} (hk : k < 35) (hw : w < 5) : flatS t u (10 + 5 * k + w) = if w = 0 then P_be t k else if w = 1 then P_ou t k else if w = 2 then P_bl t k else if w = 3 then P_si t k else P_vi t k := by
  have e1 : (10 + 5 * k + w - 10) % 5 = w := by omega
  have e2 : (10 + 5 * k + w - 10) / 5 = k := by omega
  unfold flatS
  simp only [e1, e2]
  rw [if_neg (by omega), if_neg (by omega), if_neg (by omega), if_neg (by omega), if_neg (by omega), if_neg (by omega), if_neg (by omega), if_neg (by omega), if_neg (by omega), if_neg (by omega), if_pos (by omega)]
theorem flS_0 (t : Pn) (u : Tr) {k : Nat} (hk : k < 35) : flatS t u (10 + 5 * k + 0) = P_be t k := (flS_pin t u hk (by decide)).trans rfl
theorem flS_1 (t : Pn) (u : Tr) {k : Nat} (hk : k < 35) : flatS t u (10 + 5 * k + 1) = P_ou t k := (flS_pin t u hk (by decide)).trans rfl
theorem flS_2 (t : Pn) (u : Tr) {k : Nat} (hk : k < 35) : flatS t u (10 + 5 * k + 2) = P_bl t k := (flS_pin t u hk (by decide)).trans rfl
theorem flS_3 (t : Pn) (u : Tr) {k : Nat} (hk : k < 35) : flatS t u (10 + 5 * k + 3) = P_si t k := (flS_pin t u hk (by decide)).trans rfl
theorem flS_4 (t : Pn) (u : Tr) {k : Nat} (hk : k < 35) : flatS t u (10 + 5 * k + 4) = P_vi t k := (flS_pin t u hk (by decide)).trans rfl
theorem flS_poc (t : Pn) (u : Tr) {k w : Nat} (hw : w < 3) : flatS t u (185 + 3 * k + w) = if w = 0 then T_wo u k else if w = 1 then T_he u k else T_en u k := by
  have e1 : (185 + 3 * k + w - 185) % 3 = w := by omega
  have e2 : (185 + 3 * k + w - 185) / 3 = k := by omega
  unfold flatS
  simp only [e1, e2]
  rw [if_neg (by omega), if_neg (by omega), if_neg (by omega), if_neg (by omega), if_neg (by omega), if_neg (by omega), if_neg (by omega), if_neg (by omega), if_neg (by omega), if_neg (by omega), if_neg (by omega)]
theorem flP_0 (t : Pn) (u : Tr) (k : Nat) : flatS t u (185 + 3 * k + 0) = T_wo u k := (flS_poc t u (by decide)).trans rfl
theorem flP_1 (t : Pn) (u : Tr) (k : Nat) : flatS t u (185 + 3 * k + 1) = T_he u k := (flS_poc t u (by decide)).trans rfl
theorem flP_2 (t : Pn) (u : Tr) (k : Nat) : flatS t u (185 + 3 * k + 2) = T_en u k := (flS_poc t u (by decide)).trans rfl
theorem flC_0 (t : Pn) (u : Tr) (v : Int32) : upd (flatS t u) 0 v = flatS t (T_wo u, T_he u, T_en u, T_fu u, T_le u, T_lo u, v, T_sh u, T_ha u, T_re u) := by
  funext j
  unfold upd flatS
  by_cases h : j = 0
  · subst h; rfl
  · rw [if_neg h]
    simp only [h, if_false]
theorem flC_1 (t : Pn) (u : Tr) (v : Int32) : upd (flatS t u) 1 v = flatS t (T_wo u, T_he u, T_en u, T_fu u, v, T_lo u, T_po u, T_sh u, T_ha u, T_re u) := by
  funext j
  unfold upd flatS
  by_cases h : j = 1
  · subst h; rfl
  · rw [if_neg h]
    simp only [h, if_false]
theorem flC_2 (t : Pn) (u : Tr) (v : Int32) : upd (flatS t u) 2 v = flatS t (T_wo u, T_he u, T_en u, T_fu u, T_le u, v, T_po u, T_sh u, T_ha u, T_re u) := by
  funext j
  unfold upd flatS
  by_cases h : j = 2
  · subst h; rfl
  · rw [if_neg h]
    simp only [h, if_false]
theorem flC_3 (t : Pn) (u : Tr) (v : Int32) : upd (flatS t u) 3 v = flatS t (T_wo u, T_he u, T_en u, T_fu u, T_le u, T_lo u, T_po u, v, T_ha u, T_re u) := by
  funext j
  unfold upd flatS
  by_cases h : j = 3
  · subst h; rfl
  · rw [if_neg h]
    simp only [h, if_false]
theorem flC_4 (t : Pn) (u : Tr) (v : Int32) : upd (flatS t u) 4 v = flatS t (T_wo u, T_he u, T_en u, T_fu u, T_le u, T_lo u, T_po u, T_sh u, v, T_re u) := by
  funext j
  unfold upd flatS
  by_cases h : j = 4
  · subst h; rfl
  · rw [if_neg h]
    simp only [h, if_false]
theorem flC_5 (t : Pn) (u : Tr) (v : Int32) : upd (flatS t u) 5 v = flatS (P_be t, P_ou t, P_bl t, P_si t, P_vi t, P_ti t, v, P_bb t) u := by
  funext j
  unfold upd flatS
  by_cases h : j = 5
  · subst h; rfl
  · rw [if_neg h]
    simp only [h, if_false]
theorem flC_6 (t : Pn) (u : Tr) (v : Int32) : upd (flatS t u) 6 v = flatS (P_be t, P_ou t, P_bl t, P_si t, P_vi t, P_ti t, P_ri t, v) u := by
  funext j
  unfold upd flatS
  by_cases h : j = 6
  · subst h; rfl
  · rw [if_neg h]
    simp only [h, if_false]
theorem flC_7 (t : Pn) (u : Tr) (v : Int32) : upd (flatS t u) 7 v = flatS t (T_wo u, T_he u, T_en u, T_fu u, T_le u, T_lo u, T_po u, T_sh u, T_ha u, v) := by
  funext j
  unfold upd flatS
  by_cases h : j = 7
  · subst h; rfl
  · rw [if_neg h]
    simp only [h, if_false]
theorem flC_8 (t : Pn) (u : Tr) (v : Int32) : upd (flatS t u) 8 v = flatS (P_be t, P_ou t, P_bl t, P_si t, P_vi t, v, P_ri t, P_bb t) u := by
  funext j
  unfold upd flatS
  by_cases h : j = 8
  · subst h; rfl
  · rw [if_neg h]
    simp only [h, if_false]
theorem flC_9 (t : Pn) (u : Tr) (v : Int32) : upd (flatS t u) 9 v = flatS t (T_wo u, T_he u, T_en u, v, T_le u, T_lo u, T_po u, T_sh u, T_ha u, T_re u) := by
  funext j
  unfold upd flatS
  by_cases h : j = 9
  · subst h; rfl
  · rw [if_neg h]
    simp only [h, if_false]
theorem fl_cases (j : Nat) : j < 10 ∨ (∃ k w : Nat, k < 35 ∧ w < 5 ∧ j = 10 + 5 * k + w) ∨ ∃ k w : Nat, w < 3 ∧ j = 185 + 3 * k + w := by
  by_cases h : j < 10
  · exact .inl h
  · by_cases h2 : j < 185
    · exact .inr (.inl ⟨(j - 10) / 5, (j - 10) % 5, by omega, by omega, by omega⟩)
    · exact .inr (.inr ⟨(j - 185) / 3, (j - 185) % 3, by omega, by omega⟩)
theorem upd_at (f : Nat → Int32) (k : Nat) (v : Int32) : upd f k v k = v := if_pos rfl
theorem upd_off {f : Nat → Int32} {k j : Nat} {v : Int32} (h : ¬ j = k) : upd f k v j = f j := if_neg h
theorem flU_0 (t : Pn) (u : Tr) (k : Nat) (v : Int32) (hk : k < 35) : upd (flatS t u) (10 + 5 * k + 0) v = flatS (upd (P_be t) k v, P_ou t, P_bl t, P_si t, P_vi t, P_ti t, P_ri t, P_bb t) u := by
  funext j
  rcases fl_cases j with q | ⟨k2, w2, hk2, hw2, q⟩ | ⟨k2, w2, hw2, q⟩
  · rw [upd_off (by omega)]
    rcases (show j = 0 ∨ j = 1 ∨ j = 2 ∨ j = 3 ∨ j = 4 ∨ j = 5 ∨ j = 6 ∨ j = 7 ∨ j = 8 ∨ j = 9 by omega) with q | q | q | q | q | q | q | q | q | q <;> subst q <;> rfl
  · rcases (show w2 = 0 ∨ w2 = 1 ∨ w2 = 2 ∨ w2 = 3 ∨ w2 = 4 by omega) with q2 | q2 | q2 | q2 | q2
    · subst q2; subst q
      rw [flS_0 _ u hk2]
      by_cases h : k2 = k
      · subst h; rw [upd_at]; exact (upd_at (P_be t) k2 v).symm
      · rw [upd_off (by omega), flS_0 t u hk2]; exact (upd_off (f := P_be t) h).symm
    · subst q2; subst q
      rw [upd_off (by omega), flS_1 t u hk2, flS_1 _ u hk2]
    · subst q2; subst q
      rw [upd_off (by omega), flS_2 t u hk2, flS_2 _ u hk2]
    · subst q2; subst q
      rw [upd_off (by omega), flS_3 t u hk2, flS_3 _ u hk2]
    · subst q2; subst q
      rw [upd_off (by omega), flS_4 t u hk2, flS_4 _ u hk2]
  · subst q; rw [upd_off (by omega), flS_poc t u hw2, flS_poc _ u hw2]
theorem flU_1 (t : Pn) (u : Tr) (k : Nat) (v : Int32) (hk : k < 35) : upd (flatS t u) (10 + 5 * k + 1) v = flatS (P_be t, upd (P_ou t) k v, P_bl t, P_si t, P_vi t, P_ti t, P_ri t, P_bb t) u := by
  funext j
  rcases fl_cases j with q | ⟨k2, w2, hk2, hw2, q⟩ | ⟨k2, w2, hw2, q⟩
  · rw [upd_off (by omega)]
    rcases (show j = 0 ∨ j = 1 ∨ j = 2 ∨ j = 3 ∨ j = 4 ∨ j = 5 ∨ j = 6 ∨ j = 7 ∨ j = 8 ∨ j = 9 by omega) with q | q | q | q | q | q | q | q | q | q <;> subst q <;> rfl
  · rcases (show w2 = 0 ∨ w2 = 1 ∨ w2 = 2 ∨ w2 = 3 ∨ w2 = 4 by omega) with q2 | q2 | q2 | q2 | q2
    · subst q2; subst q
      rw [upd_off (by omega), flS_0 t u hk2, flS_0 _ u hk2]
    · subst q2; subst q
      rw [flS_1 _ u hk2]
      by_cases h : k2 = k
      · subst h; rw [upd_at]; exact (upd_at (P_ou t) k2 v).symm
      · rw [upd_off (by omega), flS_1 t u hk2]; exact (upd_off (f := P_ou t) h).symm
    · subst q2; subst q
      rw [upd_off (by omega), flS_2 t u hk2, flS_2 _ u hk2]
    · subst q2; subst q
      rw [upd_off (by omega), flS_3 t u hk2, flS_3 _ u hk2]
    · subst q2; subst q
      rw [upd_off (by omega), flS_4 t u hk2, flS_4 _ u hk2]
  · subst q; rw [upd_off (by omega), flS_poc t u hw2, flS_poc _ u hw2]
theorem flU_2 (t : Pn) (u : Tr) (k : Nat) (v : Int32) (hk : k < 35) : upd (flatS t u) (10 + 5 * k + 2) v = flatS (P_be t, P_ou t, upd (P_bl t) k v, P_si t, P_vi t, P_ti t, P_ri t, P_bb t) u := by
  funext j
  rcases fl_cases j with q | ⟨k2, w2, hk2, hw2, q⟩ | ⟨k2, w2, hw2, q⟩
  · rw [upd_off (by omega)]
    rcases (show j = 0 ∨ j = 1 ∨ j = 2 ∨ j = 3 ∨ j = 4 ∨ j = 5 ∨ j = 6 ∨ j = 7 ∨ j = 8 ∨ j = 9 by omega) with q | q | q | q | q | q | q | q | q | q <;> subst q <;> rfl
  · rcases (show w2 = 0 ∨ w2 = 1 ∨ w2 = 2 ∨ w2 = 3 ∨ w2 = 4 by omega) with q2 | q2 | q2 | q2 | q2
    · subst q2; subst q
      rw [upd_off (by omega), flS_0 t u hk2, flS_0 _ u hk2]
    · subst q2; subst q
      rw [upd_off (by omega), flS_1 t u hk2, flS_1 _ u hk2]
    · subst q2; subst q
      rw [flS_2 _ u hk2]
      by_cases h : k2 = k
      · subst h; rw [upd_at]; exact (upd_at (P_bl t) k2 v).symm
      · rw [upd_off (by omega), flS_2 t u hk2]; exact (upd_off (f := P_bl t) h).symm
    · subst q2; subst q
      rw [upd_off (by omega), flS_3 t u hk2, flS_3 _ u hk2]
    · subst q2; subst q
      rw [upd_off (by omega), flS_4 t u hk2, flS_4 _ u hk2]
  · subst q; rw [upd_off (by omega), flS_poc t u hw2, flS_poc _ u hw2]
theorem flU_3 (t : Pn) (u : Tr) (k : Nat) (v : Int32) (hk : k < 35) : upd (flatS t u) (10 + 5 * k + 3) v = flatS (P_be t, P_ou t, P_bl t, upd (P_si t) k v, P_vi t, P_ti t, P_ri t, P_bb t) u := by
  funext j
  rcases fl_cases j with q | ⟨k2, w2, hk2, hw2, q⟩ | ⟨k2, w2, hw2, q⟩
  · rw [upd_off (by omega)]
    rcases (show j = 0 ∨ j = 1 ∨ j = 2 ∨ j = 3 ∨ j = 4 ∨ j = 5 ∨ j = 6 ∨ j = 7 ∨ j = 8 ∨ j = 9 by omega) with q | q | q | q | q | q | q | q | q | q <;> subst q <;> rfl
  · rcases (show w2 = 0 ∨ w2 = 1 ∨ w2 = 2 ∨ w2 = 3 ∨ w2 = 4 by omega) with q2 | q2 | q2 | q2 | q2
    · subst q2; subst q
      rw [upd_off (by omega), flS_0 t u hk2, flS_0 _ u hk2]
    · subst q2; subst q
      rw [upd_off (by omega), flS_1 t u hk2, flS_1 _ u hk2]
    · subst q2; subst q
      rw [upd_off (by omega), flS_2 t u hk2, flS_2 _ u hk2]
    · subst q2; subst q
      rw [flS_3 _ u hk2]
      by_cases h : k2 = k
      · subst h; rw [upd_at]; exact (upd_at (P_si t) k2 v).symm
      · rw [upd_off (by omega), flS_3 t u hk2]; exact (upd_off (f := P_si t) h).symm
    · subst q2; subst q
      rw [upd_off (by omega), flS_4 t u hk2, flS_4 _ u hk2]
  · subst q; rw [upd_off (by omega), flS_poc t u hw2, flS_poc _ u hw2]
theorem flU_4 (t : Pn) (u : Tr) (k : Nat) (v : Int32) (hk : k < 35) : upd (flatS t u) (10 + 5 * k + 4) v = flatS (P_be t, P_ou t, P_bl t, P_si t, upd (P_vi t) k v, P_ti t, P_ri t, P_bb t) u := by
  funext j
  rcases fl_cases j with q | ⟨k2, w2, hk2, hw2, q⟩ | ⟨k2, w2, hw2, q⟩
  · rw [upd_off (by omega)]
    rcases (show j = 0 ∨ j = 1 ∨ j = 2 ∨ j = 3 ∨ j = 4 ∨ j = 5 ∨ j = 6 ∨ j = 7 ∨ j = 8 ∨ j = 9 by omega) with q | q | q | q | q | q | q | q | q | q <;> subst q <;> rfl
  · rcases (show w2 = 0 ∨ w2 = 1 ∨ w2 = 2 ∨ w2 = 3 ∨ w2 = 4 by omega) with q2 | q2 | q2 | q2 | q2
    · subst q2; subst q
      rw [upd_off (by omega), flS_0 t u hk2, flS_0 _ u hk2]
    · subst q2; subst q
      rw [upd_off (by omega), flS_1 t u hk2, flS_1 _ u hk2]
    · subst q2; subst q
      rw [upd_off (by omega), flS_2 t u hk2, flS_2 _ u hk2]
    · subst q2; subst q
      rw [upd_off (by omega), flS_3 t u hk2, flS_3 _ u hk2]
    · subst q2; subst q
      rw [flS_4 _ u hk2]
      by_cases h : k2 = k
      · subst h; rw [upd_at]; exact (upd_at (P_vi t) k2 v).symm
      · rw [upd_off (by omega), flS_4 t u hk2]; exact (upd_off (f := P_vi t) h).symm
  · subst q; rw [upd_off (by omega), flS_poc t u hw2, flS_poc _ u hw2]
theorem flV_0 (t : Pn) (u : Tr) (k : Nat) (v : Int32) : upd (flatS t u) (185 + 3 * k + 0) v = flatS t (upd (T_wo u) k v, T_he u, T_en u, T_fu u, T_le u, T_lo u, T_po u, T_sh u, T_ha u, T_re u) := by
  funext j
  rcases fl_cases j with q | ⟨k2, w2, hk2, hw2, q⟩ | ⟨k2, w2, hw2, q⟩
  · rw [upd_off (by omega)]
    rcases (show j = 0 ∨ j = 1 ∨ j = 2 ∨ j = 3 ∨ j = 4 ∨ j = 5 ∨ j = 6 ∨ j = 7 ∨ j = 8 ∨ j = 9 by omega) with q | q | q | q | q | q | q | q | q | q <;> subst q <;> rfl
  · subst q; rw [upd_off (by omega), flS_pin t u hk2 hw2, flS_pin t _ hk2 hw2]
  · rcases (show w2 = 0 ∨ w2 = 1 ∨ w2 = 2 by omega) with q2 | q2 | q2
    · subst q2; subst q
      rw [flP_0 t _ k2]
      by_cases h : k2 = k
      · subst h; rw [upd_at]; exact (upd_at (T_wo u) k2 v).symm
      · rw [upd_off (by omega), flP_0 t u k2]; exact (upd_off (f := T_wo u) h).symm
    · subst q2; subst q
      rw [upd_off (by omega), flP_1 t u k2, flP_1 t _ k2]
    · subst q2; subst q
      rw [upd_off (by omega), flP_2 t u k2, flP_2 t _ k2]
theorem flA_0 (t : Pn) (u : Tr) (k : Nat) (v : Int32) : upd (flatS t u) (185 + 3 * k + 0) (flatS t u (185 + 3 * k + 0) + v) = flatS t (upd (T_wo u) k (T_wo u k + v), T_he u, T_en u, T_fu u, T_le u, T_lo u, T_po u, T_sh u, T_ha u, T_re u) := by rw [flP_0]; exact flV_0 t u k _
theorem flV_1 (t : Pn) (u : Tr) (k : Nat) (v : Int32) : upd (flatS t u) (185 + 3 * k + 1) v = flatS t (T_wo u, upd (T_he u) k v, T_en u, T_fu u, T_le u, T_lo u, T_po u, T_sh u, T_ha u, T_re u) := by
  funext j
  rcases fl_cases j with q | ⟨k2, w2, hk2, hw2, q⟩ | ⟨k2, w2, hw2, q⟩
  · rw [upd_off (by omega)]
    rcases (show j = 0 ∨ j = 1 ∨ j = 2 ∨ j = 3 ∨ j = 4 ∨ j = 5 ∨ j = 6 ∨ j = 7 ∨ j = 8 ∨ j = 9 by omega) with q | q | q | q | q | q | q | q | q | q <;> subst q <;> rfl
  · subst q; rw [upd_off (by omega), flS_pin t u hk2 hw2, flS_pin t _ hk2 hw2]
  · rcases (show w2 = 0 ∨ w2 = 1 ∨ w2 = 2 by omega) with q2 | q2 | q2
    · subst q2; subst q
      rw [upd_off (by omega), flP_0 t u k2, flP_0 t _ k2]
    · subst q2; subst q
      rw [flP_1 t _ k2]
      by_cases h : k2 = k
      · subst h; rw [upd_at]; exact (upd_at (T_he u) k2 v).symm
      · rw [upd_off (by omega), flP_1 t u k2]; exact (upd_off (f := T_he u) h).symm
    · subst q2; subst q
      rw [upd_off (by omega), flP_2 t u k2, flP_2 t _ k2]
theorem flA_1 (t : Pn) (u : Tr) (k : Nat) (v : Int32) : upd (flatS t u) (185 + 3 * k + 1) (flatS t u (185 + 3 * k + 1) + v) = flatS t (T_wo u, upd (T_he u) k (T_he u k + v), T_en u, T_fu u, T_le u, T_lo u, T_po u, T_sh u, T_ha u, T_re u) := by rw [flP_1]; exact flV_1 t u k _
theorem flV_2 (t : Pn) (u : Tr) (k : Nat) (v : Int32) : upd (flatS t u) (185 + 3 * k + 2) v = flatS t (T_wo u, T_he u, upd (T_en u) k v, T_fu u, T_le u, T_lo u, T_po u, T_sh u, T_ha u, T_re u) := by
  funext j
  rcases fl_cases j with q | ⟨k2, w2, hk2, hw2, q⟩ | ⟨k2, w2, hw2, q⟩
  · rw [upd_off (by omega)]
    rcases (show j = 0 ∨ j = 1 ∨ j = 2 ∨ j = 3 ∨ j = 4 ∨ j = 5 ∨ j = 6 ∨ j = 7 ∨ j = 8 ∨ j = 9 by omega) with q | q | q | q | q | q | q | q | q | q <;> subst q <;> rfl
  · subst q; rw [upd_off (by omega), flS_pin t u hk2 hw2, flS_pin t _ hk2 hw2]
  · rcases (show w2 = 0 ∨ w2 = 1 ∨ w2 = 2 by omega) with q2 | q2 | q2
    · subst q2; subst q
      rw [upd_off (by omega), flP_0 t u k2, flP_0 t _ k2]
    · subst q2; subst q
      rw [upd_off (by omega), flP_1 t u k2, flP_1 t _ k2]
    · subst q2; subst q
      rw [flP_2 t _ k2]
      by_cases h : k2 = k
      · subst h; rw [upd_at]; exact (upd_at (T_en u) k2 v).symm
      · rw [upd_off (by omega), flP_2 t u k2]; exact (upd_off (f := T_en u) h).symm
theorem flA_2 (t : Pn) (u : Tr) (k : Nat) (v : Int32) : upd (flatS t u) (185 + 3 * k + 2) (flatS t u (185 + 3 * k + 2) + v) = flatS t (T_wo u, T_he u, upd (T_en u) k (T_en u k + v), T_fu u, T_le u, T_lo u, T_po u, T_sh u, T_ha u, T_re u) := by rw [flP_2]; exact flV_2 t u k _
def outOK (t : Pn) : Prop := ∀ p : Nat, p < 35 → P_ou t p = 0 ∨ P_ou t p = 1
def riT (t : Pn) (r : Int32) : Pn := (P_be t, P_ou t, P_bl t, P_si t, P_vi t, P_ti t, r, P_bb t)
theorem mv_in {c : Nat} {d : Int32} (hc : c < 7) (hd : dOK d) (h : ¬ nI c + d < 0 ∧ ¬ 6 < nI c + d) : nI c + d = nI (bes c d) := by
  have key : ∀ c : Nat, c < 7 → ∀ d ∈ ([-1, 0, 1] : List Int32), ¬ nI c + d < 0 ∧ ¬ 6 < nI c + d → nI c + d = nI (bes c d) := by decide +kernel
  exact key c hc d (by rcases hd with h | h | h <;> simp [h]) h
theorem mv_out {c : Nat} {d : Int32} (hc : c < 7) (hd : dOK d) (h : ¬ (¬ nI c + d < 0 ∧ ¬ 6 < nI c + d)) : nI c = nI (bes c d) := by
  have key : ∀ c : Nat, c < 7 → ∀ d ∈ ([-1, 0, 1] : List Int32), ¬ (¬ nI c + d < 0 ∧ ¬ 6 < nI c + d) → nI c = nI (bes c d) := by decide +kernel
  exact key c hc d (by rcases hd with h | h | h <;> simp [h]) h
def bndT (t : Pn) (k : Nat) (d : Int32) : Pn := if ¬ P_be t k + d < -3 ∧ ¬ 3 < P_be t k + d then (upd (P_be t) k (P_be t k + d), P_ou t, P_bl t, P_si t, P_vi t, P_ti t, P_ri t, P_bb t + 1) else t
def fallT (t : Pn) (k : Nat) (h : Int32) : Pn := riT (meetT t k (dirT t k) h) (P_ri t)
def cpyG (f g : Nat → Int32) (at_ by_ n : Nat) : Nat → Int32 := fun j => if by_ ≤ j ∧ j < by_ + n then f (at_ + (j - by_)) else g j
theorem cpyG_0 (f g : Nat → Int32) (a b : Nat) : g = cpyG f g a b 0 := by
  funext j
  unfold cpyG
  rw [if_neg (by omega)]
theorem cpyG_s (f g : Nat → Int32) (a b n : Nat) : upd (cpyG f g a b n) (b + n) (f (a + n)) = cpyG f g a b (n + 1) := by
  funext j
  unfold upd cpyG
  by_cases h : j = b + n
  · subst h
    rw [if_pos rfl, if_pos (by omega)]
    congr 1
    omega
  · rw [if_neg h]
    by_cases h2 : b ≤ j ∧ j < b + n
    · rw [if_pos h2, if_pos (by omega)]
    · rw [if_neg h2, if_neg (by omega)]
theorem ones_ok : ∀ m : Nat, m < 128 → sumI (fun k => (nI m >>> (nI k &&& 31)) &&& 1) 7 = nI (popc m) := by decide +kernel
def shfH (ps : Nat → Pn × Tr) : Nat → Pn × Tr := fun i => if i < 3 then ps (i + 1) else ps i
def recS (ps : Nat → Pn × Tr) (n : Nat) (x : Pn × Tr) : Nat → Pn × Tr := if n = 4 then updH (shfH ps) 3 x else updH ps n x
def pastF (ps : Nat → Pn × Tr) : Nat → Int32 := fun j => flatS (ps (j / 206)).1 (ps (j / 206)).2 (j % 206)
theorem pastF_put (ps : Nat → Pn × Tr) (n : Nat) (t : Pn) (u : Tr) (j : Nat) : cpyG (flatS t u) (pastF ps) 0 (206 * n) 206 j = pastF (updH ps n (t, u)) j := by
  unfold cpyG pastF updH
  by_cases h : 206 * n ≤ j ∧ j < 206 * n + 206
  · have e : j / 206 = n := by omega
    rw [if_pos h]
    simp only [e, if_true]
    congr 1
    omega
  · have e : ¬ j / 206 = n := by omega
    rw [if_neg h]
    simp only [e, if_false]
def shiG (f : Nat → Int32) (i : Nat) : Nat → Int32 := fun j => if j < i then f (j + 206) else f j
theorem shiG_0 (f : Nat → Int32) : f = shiG f 0 := by
  funext j
  unfold shiG
  rw [if_neg (by omega)]
theorem shiG_s (f : Nat → Int32) (i : Nat) : upd (shiG f i) i (shiG f i (i + 206)) = shiG f (i + 1) := by
  funext j
  unfold upd shiG
  by_cases h : j = i
  · subst h
    rw [if_pos rfl, if_neg (by omega), if_pos (by omega)]
  · rw [if_neg h]
    by_cases h2 : j < i
    · rw [if_pos h2, if_pos (by omega)]
    · rw [if_neg h2, if_neg (by omega)]
theorem shiG_past (ps : Nat → Pn × Tr) (j : Nat) (hj : j < 824) : shiG (pastF ps) 618 j = pastF (shfH ps) j := by
  unfold shiG pastF shfH
  by_cases h : j < 618
  · rw [if_pos h]
    have e1 : (j + 206) / 206 = j / 206 + 1 := by omega
    have e2 : (j + 206) % 206 = j % 206 := by omega
    have e3 : j / 206 < 3 := by omega
    simp only [e1, e2, e3, if_true]
  · rw [if_neg h]
    have e3 : ¬ j / 206 < 3 := by omega
    simp only [e3, if_false]
theorem bes_0 (c : Nat) : bes c 0 = c := by unfold bes; rw [if_neg (by decide), if_neg (by decide)]
theorem meetT_ou (t : Pn) (k : Nat) (d h : Int32) : P_ou (meetT t k d h) = P_ou t := by unfold meetT; split <;> rfl
theorem rollT_ou (t : Pn) (c : Nat) (h : Int32) : ∀ r : Nat, P_ou (rollT t c h r).1 = P_ou t
  | 0 => rfl
  | r + 1 => by rw [rollT_1, meetT_ou, rollT_ou t c h r]
theorem rollT_out {t : Pn} (c : Nat) (h : Int32) (r : Nat) (x : Int32) (ho : outOK t) : outOK (riT (rollT t c h r).1 x) := by
  show outOK (rollT t c h r).1
  unfold outOK
  rw [rollT_ou]
  exact ho
theorem meetT_ri (t : Pn) (k : Nat) (d h : Int32) : P_ri (meetT t k d h) = P_ri t + (if P_ou t k = 0 then P_bl t k else 0) := by
  unfold meetT
  by_cases q : P_ou t k = 0
  · rw [if_pos q, if_pos q]
  · rw [if_neg q, if_neg q]; exact (Int32.add_zero _).symm
theorem fallT_ri (t : Pn) (r : Int32) (k : Nat) (h : Int32) : fallT (riT t r) k h = riT (meetT t k (dirT t k) h) r := by
  show riT (meetT (riT t r) k (dirT t k) h) r = _
  unfold meetT
  by_cases q : P_ou t k = 0
  · rw [if_pos q, if_pos (show P_ou (riT t r) k = 0 from q)]; rfl
  · rw [if_neg q, if_neg (show ¬ P_ou (riT t r) k = 0 from q)]; rfl
theorem i32_sw (a b x : Int32) : a - b + x = a + x - b := by
  rw [Int32.sub_eq_add_neg, Int32.sub_eq_add_neg, Int32.add_assoc, Int32.add_comm (-b) x, ← Int32.add_assoc]
theorem i32_bk (a b : Int32) : a + (b - a) = b := by
  rw [Int32.sub_eq_add_neg, Int32.add_comm b, ← Int32.add_assoc, ← Int32.sub_eq_add_neg, Int32.sub_self, Int32.zero_add]
theorem sh_pn (R : Pn) (r : Int32) : (P_be (riT R r), P_ou (riT R r), P_bl (riT R r), P_si (riT R r), P_vi (riT R r), P_ti (riT R r), r + (P_ri R - r), P_bb (riT R r)) = R := by
  rw [i32_bk]; rfl
theorem le_pos {x : Int32} (h0 : 0 ≤ x) (h : ¬ x = 0) : 0 < x := by
  rcases Int32.lt_or_eq_of_le h0 with q | q
  · exact q
  · exact absurd q.symm h
theorem rec_A {ps : Nat → Pn × Tr} {t : Pn} {u : Tr} {kn j : Nat} (h : kn = 4) (hj : j < 824) : cpyG (flatS t u) (shiG (pastF ps) 618) 0 (206 * 3) 206 j = pastF (recS ps kn (t, u)) j := by
  rw [recS, if_pos h, ← pastF_put (shfH ps) 3 t u j]
  unfold cpyG
  rw [shiG_past ps j hj]
theorem rec_B {ps : Nat → Pn × Tr} {t : Pn} {u : Tr} {kn j : Nat} (h : ¬ kn = 4) : cpyG (flatS t u) (pastF ps) 0 (206 * kn) 206 j = pastF (recS ps kn (t, u)) j := by
  rw [recS, if_neg h]
  exact pastF_put ps kn t u j
def empS (u : Tr) (i : Nat) : Tr := (T_wo u, upd (T_he u) i (T_he u i + -(T_he u i)), T_en u, T_fu u, T_le u + T_he u i, T_lo u, T_po u, T_sh u, T_ha u, T_re u)
def empG (u : Tr) : Nat → Tr
  | 0 => (T_wo u, T_he u, T_en u, T_fu u, T_le u + T_lo u, 0, T_po u, T_sh u, T_ha u, T_re u)
  | i + 1 => empS (empG u i) i
theorem empG_ok (u : Tr) : ∀ i : Nat, empG u i = (T_wo u, (fun j => if j < i then 0 else T_he u j), T_en u, T_fu u, T_le u + T_lo u + sumI (T_he u) i, 0, T_po u, T_sh u, T_ha u, T_re u)
  | 0 => by
    show (T_wo u, T_he u, T_en u, T_fu u, T_le u + T_lo u, (0 : Int32), T_po u, T_sh u, T_ha u, T_re u) = (T_wo u, (fun j => if j < 0 then 0 else T_he u j), T_en u, T_fu u, T_le u + T_lo u + 0, (0 : Int32), T_po u, T_sh u, T_ha u, T_re u)
    have e : (fun j => if j < 0 then 0 else T_he u j) = T_he u := by funext j; rw [if_neg (Nat.not_lt_zero j)]
    rw [e, Int32.add_zero]
  | i + 1 => by
    rw [empG, empG_ok u i, empS]
    show (T_wo u, upd (fun j => if j < i then 0 else T_he u j) i ((if i < i then 0 else T_he u i) + -(if i < i then 0 else T_he u i)), T_en u, T_fu u, T_le u + T_lo u + sumI (T_he u) i + (if i < i then 0 else T_he u i), (0 : Int32), T_po u, T_sh u, T_ha u, T_re u) = (T_wo u, (fun j => if j < i + 1 then 0 else T_he u j), T_en u, T_fu u, T_le u + T_lo u + (sumI (T_he u) i + T_he u i), (0 : Int32), T_po u, T_sh u, T_ha u, T_re u)
    have e : upd (fun j => if j < i then 0 else T_he u j) i (T_he u i + -(T_he u i)) = (fun j => if j < i + 1 then 0 else T_he u j) := by
      funext j
      unfold upd
      by_cases h : j = i
      · subst h; rw [if_pos rfl, if_pos (Nat.lt_succ_self j), ← Int32.sub_eq_add_neg, Int32.sub_self]
      · rw [if_neg h]
        show (if j < i then 0 else T_he u j) = if j < i + 1 then 0 else T_he u j
        by_cases h2 : j < i
        · rw [if_pos h2, if_pos (by omega)]
        · rw [if_neg h2, if_neg (by omega)]
    rw [if_neg (Nat.lt_irrefl i), e, ← Int32.add_assoc]
theorem empG_le (u : Tr) : T_le (empG u 7) = T_le (empU u) := by
  rw [empG_ok]
  show T_le u + T_lo u + sumI (T_he u) 7 = T_le u + (sumI (T_he u) 7 + T_lo u)
  rw [Int32.add_assoc, Int32.add_comm (T_lo u)]
theorem empG_fl (t : Pn) (u : Tr) {j : Nat} (hj : j < 206) : flatS t (empG u 7) j = flatS t (empU u) j := by
  have h1 := empG_le u
  rcases fl_cases j with q | ⟨k, w, hk, hw, q⟩ | ⟨k, w, hw, q⟩
  · rcases (show j = 0 ∨ j = 1 ∨ j = 2 ∨ j = 3 ∨ j = 4 ∨ j = 5 ∨ j = 6 ∨ j = 7 ∨ j = 8 ∨ j = 9 by omega) with q | q | q | q | q | q | q | q | q | q <;> subst q
    · show T_po (empG u 7) = _; rw [empG_ok]; rfl
    · exact h1
    · show T_lo (empG u 7) = _; rw [empG_ok]; rfl
    · show T_sh (empG u 7) = _; rw [empG_ok]; rfl
    · show T_ha (empG u 7) = _; rw [empG_ok]; rfl
    · rfl
    · rfl
    · show T_re (empG u 7) = _; rw [empG_ok]; rfl
    · rfl
    · show T_fu (empG u 7) = _; rw [empG_ok]; rfl
  · subst q; rw [flS_pin t _ hk hw, flS_pin t _ hk hw]
  · subst q
    rw [flS_poc t _ hw, flS_poc t _ hw, empG_ok]
    show (if w = 0 then T_wo u k else if w = 1 then (if k < 7 then 0 else T_he u k) else T_en u k) = if w = 0 then T_wo u k else if w = 1 then 0 else T_en u k
    rw [if_pos (show k < 7 by omega)]
def bI (n : Nat) (f : Nat → Int32) : Nat → Nat → Nat
  | 0, i => i
  | r + 1, i => if pinS (codeP n f i) then bI n f r (i + 1) else i
theorem ej_in2 {v : Int32} (h : ¬ v < 0 ∧ ¬ 2 < v) : ∃ k : Nat, k < 3 ∧ v = nI k := ej_in 2 2 (by decide) h
def belOK (t : Pn) : Prop := ∀ p : Nat, p < 35 → P_bl t p = 0 ∨ P_bl t p = 1
def cmG (t : Pn) (m : Nat) : Nat → Nat
  | 0 => m
  | r + 1 => belG t r (cmG t m r) 7
theorem cmG_lt (t : Pn) {m : Nat} (hm : m < 128) : ∀ r : Nat, cmG t m r < 128
  | 0 => hm
  | r + 1 => belG_lt t r _ 7
theorem cm_fwd (t : Pn) : ∀ r : Nat, cmG t 127 r = fwdM t r
  | 0 => rfl
  | r + 1 => by rw [cmG, fwdM, cm_fwd t r]
theorem bit_ok : ∀ x : Nat, x < 128 → ∀ j : Nat, j < 7 → (nI x >>> (nI j &&& 31)) &&& 1 = if x.testBit j = true then 1 else 0 := by decide +kernel
theorem pow_ok : ∀ i : Nat, i < 7 → 2 ^ i < 128 := by decide +kernel
theorem ej_p1 {P : Prop} [Decidable P] (h : (if P then (1 : Int32) else 0) = 1) : P := by
  by_cases q : P
  · exact q
  · rw [if_neg q] at h; exact absurd h (by decide)
theorem ej_p0 {P : Prop} [Decidable P] (h : ¬ (if P then (1 : Int32) else 0) = 1) : ¬ P := fun q => h (if_pos q)
theorem cpy_all (f g : Nat → Int32) {j : Nat} (hj : j < 206) : cpyG f g 0 0 206 j = f j := by
  unfold cpyG
  rw [if_pos (by omega)]
  congr 1
  omega
theorem cpy_past (ps : Nat → Pn × Tr) (g : Nat → Int32) (k : Nat) {j : Nat} (hj : j < 206) : cpyG (pastF ps) g (206 * k) 0 206 j = flatS (ps k).1 (ps k).2 j := by
  unfold cpyG pastF
  rw [if_pos (by omega)]
  have e1 : (206 * k + (j - 0)) / 206 = k := by omega
  have e2 : (206 * k + (j - 0)) % 206 = j := by omega
  rw [e1, e2]
def abS (t : Pn) : Int32 := sumI (fun p => if P_ou t p = 0 then (if P_be t p < 0 then -(P_be t p) else P_be t p) else 0) 35
