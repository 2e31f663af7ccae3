/-! ===== settings, worths, emptied pockets ===== -/
theorem inP_9 {w : Nat} (h : w ≤ 9) : inP (nI w) 9 := inP_n (n := 9) (by decide) h
theorem inP_2 {w : Nat} (h : w ≤ 2) : inP (nI w) 2 := inP_n (n := 2) (by decide) h
theorem ninP_2 {w : Nat} (h : 2 < w) (hw : w < 100) : ¬ inP (nI w) 2 := fun z => z.2 (ej_lt (a := 2) (b := w) (by omega) h)
theorem fu_19 {w : Nat} (h0 : 1 ≤ w) (h : w ≤ 9) : ¬ nI w < 1 ∧ ¬ 9 < nI w := ⟨ej_nlt (a := w) (b := 1) (by omega) h0, ej_nlt (a := 9) (b := w) (by decide) h⟩
theorem bad_fu {w : Nat} (h : w = 0 ∨ w = 10) : ¬ (¬ nI w < 1 ∧ ¬ 9 < nI w) := by
  rcases h with h | h <;> subst h <;> decide
theorem wo_at {u : Tr} {k : Nat} {w : Int32} : T_wo (woU u k w) k = w := upd_at _ _ _
theorem he_emp (u : Tr) : sumI (T_he (empU u)) 7 = 0 := sumI_zero 7
theorem ful_emp {u : Tr} (h : fuOK u) : fulS (empU u) = 0 := by
  obtain ⟨F, h1, h9, e⟩ := h
  have h0 : (0 : Int32) < T_fu u := by rw [e]; exact ej_lt (a := 0) (b := F) (by omega) (by omega)
  unfold fulS
  rw [sumI_congr (g := fun _ => 0) 7 (fun k _ => if_neg (fun z => z h0))]
  exact sumI_zero 7
