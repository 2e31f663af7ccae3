/-! ===== the law: its world, and calls in it ===== -/
def CW (cI cT : ClassId) (o aT aB aS g y z : Nat → Nat) (ad : Nat → Nat → Nat) (sk s0 s1 s2 : Int32) (t : Pn) (u : Tr) (tb : Pn) (ub : Tr) (ts : Pn) (us : Tr) (n ro : Nat) (hp : Nat → Pn × Tr) (q : Nat) (f f1 f2 : Nat → Int32) : va_W := [((o 0), .inr (6, [.ref (aT 0), .ref (aB 0), .ref (aS 0), .int sk, .ref (g 0), .ref (y 0), .ref (z 0), .int s0, .int s1, .int s2])), ((aT 0), .inr (5, [.ref (aT 1), .ref (aT 12), .ref (aT 14), .ref (aT 16), .int (T_fu u), .int (T_le u), .int (T_lo u), .int (T_po u), .int (T_sh u), .int (T_ha u), .int (T_re u)])), ((aT 1), .inr (2, [.ref (aT 2), .ref (aT 4), .ref (aT 6), .ref (aT 8), .ref (aT 10), .int (P_ti t), .int (P_ri t), .int (P_bb t)])), ((aT 2), .inr (4, [.ref (aT 3)])), ((aT 3), .inl (cI, 35, .inl (P_be t))), ((aT 4), .inr (4, [.ref (aT 5)])), ((aT 5), .inl (cI, 35, .inl (P_ou t))), ((aT 6), .inr (4, [.ref (aT 7)])), ((aT 7), .inl (cI, 35, .inl (P_bl t))), ((aT 8), .inr (4, [.ref (aT 9)])), ((aT 9), .inl (cI, 35, .inl (P_si t))), ((aT 10), .inr (4, [.ref (aT 11)])), ((aT 11), .inl (cI, 35, .inl (P_vi t))), ((aT 12), .inr (4, [.ref (aT 13)])), ((aT 13), .inl (cI, 7, .inl (T_wo u))), ((aT 14), .inr (4, [.ref (aT 15)])), ((aT 15), .inl (cI, 7, .inl (T_he u))), ((aT 16), .inr (4, [.ref (aT 17)])), ((aT 17), .inl (cI, 7, .inl (T_en u))), ((aB 0), .inr (5, [.ref (aB 1), .ref (aB 12), .ref (aB 14), .ref (aB 16), .int (T_fu ub), .int (T_le ub), .int (T_lo ub), .int (T_po ub), .int (T_sh ub), .int (T_ha ub), .int (T_re ub)])), ((aB 1), .inr (2, [.ref (aB 2), .ref (aB 4), .ref (aB 6), .ref (aB 8), .ref (aB 10), .int (P_ti tb), .int (P_ri tb), .int (P_bb tb)])), ((aB 2), .inr (4, [.ref (aB 3)])), ((aB 3), .inl (cI, 35, .inl (P_be tb))), ((aB 4), .inr (4, [.ref (aB 5)])), ((aB 5), .inl (cI, 35, .inl (P_ou tb))), ((aB 6), .inr (4, [.ref (aB 7)])), ((aB 7), .inl (cI, 35, .inl (P_bl tb))), ((aB 8), .inr (4, [.ref (aB 9)])), ((aB 9), .inl (cI, 35, .inl (P_si tb))), ((aB 10), .inr (4, [.ref (aB 11)])), ((aB 11), .inl (cI, 35, .inl (P_vi tb))), ((aB 12), .inr (4, [.ref (aB 13)])), ((aB 13), .inl (cI, 7, .inl (T_wo ub))), ((aB 14), .inr (4, [.ref (aB 15)])), ((aB 15), .inl (cI, 7, .inl (T_he ub))), ((aB 16), .inr (4, [.ref (aB 17)])), ((aB 17), .inl (cI, 7, .inl (T_en ub))), ((aS 0), .inr (5, [.ref (aS 1), .ref (aS 12), .ref (aS 14), .ref (aS 16), .int (T_fu us), .int (T_le us), .int (T_lo us), .int (T_po us), .int (T_sh us), .int (T_ha us), .int (T_re us)])), ((aS 1), .inr (2, [.ref (aS 2), .ref (aS 4), .ref (aS 6), .ref (aS 8), .ref (aS 10), .int (P_ti ts), .int (P_ri ts), .int (P_bb ts)])), ((aS 2), .inr (4, [.ref (aS 3)])), ((aS 3), .inl (cI, 35, .inl (P_be ts))), ((aS 4), .inr (4, [.ref (aS 5)])), ((aS 5), .inl (cI, 35, .inl (P_ou ts))), ((aS 6), .inr (4, [.ref (aS 7)])), ((aS 7), .inl (cI, 35, .inl (P_bl ts))), ((aS 8), .inr (4, [.ref (aS 9)])), ((aS 9), .inl (cI, 35, .inl (P_si ts))), ((aS 10), .inr (4, [.ref (aS 11)])), ((aS 11), .inl (cI, 35, .inl (P_vi ts))), ((aS 12), .inr (4, [.ref (aS 13)])), ((aS 13), .inl (cI, 7, .inl (T_wo us))), ((aS 14), .inr (4, [.ref (aS 15)])), ((aS 15), .inl (cI, 7, .inl (T_he us))), ((aS 16), .inr (4, [.ref (aS 17)])), ((aS 17), .inl (cI, 7, .inl (T_en us))), ((g 0), .inr (0, [.ref (g 1), .int (nI n)])), ((g 1), .inl (cT, 4, .inr (.inr (.inr (.inr (hisF ad ro)))))), (((ad 0) 0), .inr (5, [.ref ((ad 0) 1), .ref ((ad 0) 12), .ref ((ad 0) 14), .ref ((ad 0) 16), .int (T_fu ((hp 0).2)), .int (T_le ((hp 0).2)), .int (T_lo ((hp 0).2)), .int (T_po ((hp 0).2)), .int (T_sh ((hp 0).2)), .int (T_ha ((hp 0).2)), .int (T_re ((hp 0).2))])), (((ad 0) 1), .inr (2, [.ref ((ad 0) 2), .ref ((ad 0) 4), .ref ((ad 0) 6), .ref ((ad 0) 8), .ref ((ad 0) 10), .int (P_ti ((hp 0).1)), .int (P_ri ((hp 0).1)), .int (P_bb ((hp 0).1))])), (((ad 0) 2), .inr (4, [.ref ((ad 0) 3)])), (((ad 0) 3), .inl (cI, 35, .inl (P_be ((hp 0).1)))), (((ad 0) 4), .inr (4, [.ref ((ad 0) 5)])), (((ad 0) 5), .inl (cI, 35, .inl (P_ou ((hp 0).1)))), (((ad 0) 6), .inr (4, [.ref ((ad 0) 7)])), (((ad 0) 7), .inl (cI, 35, .inl (P_bl ((hp 0).1)))), (((ad 0) 8), .inr (4, [.ref ((ad 0) 9)])), (((ad 0) 9), .inl (cI, 35, .inl (P_si ((hp 0).1)))), (((ad 0) 10), .inr (4, [.ref ((ad 0) 11)])), (((ad 0) 11), .inl (cI, 35, .inl (P_vi ((hp 0).1)))), (((ad 0) 12), .inr (4, [.ref ((ad 0) 13)])), (((ad 0) 13), .inl (cI, 7, .inl (T_wo ((hp 0).2)))), (((ad 0) 14), .inr (4, [.ref ((ad 0) 15)])), (((ad 0) 15), .inl (cI, 7, .inl (T_he ((hp 0).2)))), (((ad 0) 16), .inr (4, [.ref ((ad 0) 17)])), (((ad 0) 17), .inl (cI, 7, .inl (T_en ((hp 0).2)))), (((ad 1) 0), .inr (5, [.ref ((ad 1) 1), .ref ((ad 1) 12), .ref ((ad 1) 14), .ref ((ad 1) 16), .int (T_fu ((hp 1).2)), .int (T_le ((hp 1).2)), .int (T_lo ((hp 1).2)), .int (T_po ((hp 1).2)), .int (T_sh ((hp 1).2)), .int (T_ha ((hp 1).2)), .int (T_re ((hp 1).2))])), (((ad 1) 1), .inr (2, [.ref ((ad 1) 2), .ref ((ad 1) 4), .ref ((ad 1) 6), .ref ((ad 1) 8), .ref ((ad 1) 10), .int (P_ti ((hp 1).1)), .int (P_ri ((hp 1).1)), .int (P_bb ((hp 1).1))])), (((ad 1) 2), .inr (4, [.ref ((ad 1) 3)])), (((ad 1) 3), .inl (cI, 35, .inl (P_be ((hp 1).1)))), (((ad 1) 4), .inr (4, [.ref ((ad 1) 5)])), (((ad 1) 5), .inl (cI, 35, .inl (P_ou ((hp 1).1)))), (((ad 1) 6), .inr (4, [.ref ((ad 1) 7)])), (((ad 1) 7), .inl (cI, 35, .inl (P_bl ((hp 1).1)))), (((ad 1) 8), .inr (4, [.ref ((ad 1) 9)])), (((ad 1) 9), .inl (cI, 35, .inl (P_si ((hp 1).1)))), (((ad 1) 10), .inr (4, [.ref ((ad 1) 11)])), (((ad 1) 11), .inl (cI, 35, .inl (P_vi ((hp 1).1)))), (((ad 1) 12), .inr (4, [.ref ((ad 1) 13)])), (((ad 1) 13), .inl (cI, 7, .inl (T_wo ((hp 1).2)))), (((ad 1) 14), .inr (4, [.ref ((ad 1) 15)])), (((ad 1) 15), .inl (cI, 7, .inl (T_he ((hp 1).2)))), (((ad 1) 16), .inr (4, [.ref ((ad 1) 17)])), (((ad 1) 17), .inl (cI, 7, .inl (T_en ((hp 1).2)))), (((ad 2) 0), .inr (5, [.ref ((ad 2) 1), .ref ((ad 2) 12), .ref ((ad 2) 14), .ref ((ad 2) 16), .int (T_fu ((hp 2).2)), .int (T_le ((hp 2).2)), .int (T_lo ((hp 2).2)), .int (T_po ((hp 2).2)), .int (T_sh ((hp 2).2)), .int (T_ha ((hp 2).2)), .int (T_re ((hp 2).2))])), (((ad 2) 1), .inr (2, [.ref ((ad 2) 2), .ref ((ad 2) 4), .ref ((ad 2) 6), .ref ((ad 2) 8), .ref ((ad 2) 10), .int (P_ti ((hp 2).1)), .int (P_ri ((hp 2).1)), .int (P_bb ((hp 2).1))])), (((ad 2) 2), .inr (4, [.ref ((ad 2) 3)])), (((ad 2) 3), .inl (cI, 35, .inl (P_be ((hp 2).1)))), (((ad 2) 4), .inr (4, [.ref ((ad 2) 5)])), (((ad 2) 5), .inl (cI, 35, .inl (P_ou ((hp 2).1)))), (((ad 2) 6), .inr (4, [.ref ((ad 2) 7)])), (((ad 2) 7), .inl (cI, 35, .inl (P_bl ((hp 2).1)))), (((ad 2) 8), .inr (4, [.ref ((ad 2) 9)])), (((ad 2) 9), .inl (cI, 35, .inl (P_si ((hp 2).1)))), (((ad 2) 10), .inr (4, [.ref ((ad 2) 11)])), (((ad 2) 11), .inl (cI, 35, .inl (P_vi ((hp 2).1)))), (((ad 2) 12), .inr (4, [.ref ((ad 2) 13)])), (((ad 2) 13), .inl (cI, 7, .inl (T_wo ((hp 2).2)))), (((ad 2) 14), .inr (4, [.ref ((ad 2) 15)])), (((ad 2) 15), .inl (cI, 7, .inl (T_he ((hp 2).2)))), (((ad 2) 16), .inr (4, [.ref ((ad 2) 17)])), (((ad 2) 17), .inl (cI, 7, .inl (T_en ((hp 2).2)))), (((ad 3) 0), .inr (5, [.ref ((ad 3) 1), .ref ((ad 3) 12), .ref ((ad 3) 14), .ref ((ad 3) 16), .int (T_fu ((hp 3).2)), .int (T_le ((hp 3).2)), .int (T_lo ((hp 3).2)), .int (T_po ((hp 3).2)), .int (T_sh ((hp 3).2)), .int (T_ha ((hp 3).2)), .int (T_re ((hp 3).2))])), (((ad 3) 1), .inr (2, [.ref ((ad 3) 2), .ref ((ad 3) 4), .ref ((ad 3) 6), .ref ((ad 3) 8), .ref ((ad 3) 10), .int (P_ti ((hp 3).1)), .int (P_ri ((hp 3).1)), .int (P_bb ((hp 3).1))])), (((ad 3) 2), .inr (4, [.ref ((ad 3) 3)])), (((ad 3) 3), .inl (cI, 35, .inl (P_be ((hp 3).1)))), (((ad 3) 4), .inr (4, [.ref ((ad 3) 5)])), (((ad 3) 5), .inl (cI, 35, .inl (P_ou ((hp 3).1)))), (((ad 3) 6), .inr (4, [.ref ((ad 3) 7)])), (((ad 3) 7), .inl (cI, 35, .inl (P_bl ((hp 3).1)))), (((ad 3) 8), .inr (4, [.ref ((ad 3) 9)])), (((ad 3) 9), .inl (cI, 35, .inl (P_si ((hp 3).1)))), (((ad 3) 10), .inr (4, [.ref ((ad 3) 11)])), (((ad 3) 11), .inl (cI, 35, .inl (P_vi ((hp 3).1)))), (((ad 3) 12), .inr (4, [.ref ((ad 3) 13)])), (((ad 3) 13), .inl (cI, 7, .inl (T_wo ((hp 3).2)))), (((ad 3) 14), .inr (4, [.ref ((ad 3) 15)])), (((ad 3) 15), .inl (cI, 7, .inl (T_he ((hp 3).2)))), (((ad 3) 16), .inr (4, [.ref ((ad 3) 17)])), (((ad 3) 17), .inl (cI, 7, .inl (T_en ((hp 3).2)))), ((y 0), .inr (3, [.ref (y 1), .ref (y 3)])), ((y 1), .inr (4, [.ref (y 2)])), ((y 2), .inl (cI, 7, .inl f1)), ((y 3), .inr (4, [.ref (y 4)])), ((y 4), .inl (cI, 7, .inl f2)), ((z 0), .inr (1, [.ref (z 1), .int (nI q)])), ((z 1), .inr (4, [.ref (z 2)])), ((z 2), .inl (cI, 60, .inl f))]
def MW (cI : ClassId) (bm : Nat → Nat) (n q sp : Nat) (sk be fo op ha st : Int32) (t : Pn) (u : Tr) (ga : Nat → Int32) (ps : Nat → Pn × Tr) (tM : Pn) (uM : Tr) (f z3 m7 g8 : Nat → Int32) : va_W := [((bm 0), .inr (7, [.ref (bm 1), .ref (bm 2), .ref (bm 3), .int (nI n), .ref (bm 4), .int sk, .ref (bm 5), .int (nI q), .int be, .int (nI sp), .int fo, .int op, .int ha, .int st, .ref (bm 6), .ref (bm 7), .ref (bm 8)])), ((bm 1), .inl (cI, 206, .inl (flatS t u))), ((bm 2), .inl (cI, 206, .inl ga)), ((bm 3), .inl (cI, 824, .inl (pastF ps))), ((bm 4), .inl (cI, 206, .inl (flatS tM uM))), ((bm 5), .inl (cI, 60, .inl f)), ((bm 6), .inl (cI, 3, .inl z3)), ((bm 7), .inl (cI, 7, .inl m7)), ((bm 8), .inl (cI, 7, .inl g8))]
theorem ej_mapA {wa wb wc : va_W} {is : List Nat} (hC : is.map (fun i => wa[i]?) = wc.map some) : is.map (fun i => (wa ++ wb)[i]?) = wc.map some := by
  rw [← hC]
  apply List.map_congr_left
  intro i hi
  have h1 : wa[i]? ∈ is.map (fun i => wa[i]?) := List.mem_map.mpr ⟨i, hi, rfl⟩
  rw [hC] at h1
  obtain ⟨x, -, h2⟩ := List.mem_map.mp h1
  have hl : i < wa.length := (List.getElem?_eq_some_iff.mp h2.symm).1
  exact List.getElem?_append_left hl
theorem ej_mixA : ∀ (ms : List (Option Nat)) (wa wb w1 : va_W), ms.length ≤ wa.length → ej_mix ms (wa ++ wb) w1 = ej_mix ms wa w1 ++ wb := by
  intro ms
  induction ms with
  | nil => intro wa wb w1 _; rw [ej_mix, ej_mix]
  | cons x ms ih =>
    intro wa wb w1 h
    cases wa with
    | nil => simp at h
    | cons c wa =>
      have h2 : ms.length ≤ wa.length := by simpa using h
      cases x with
      | none =>
        show c :: ej_mix ms (wa ++ wb) w1 = c :: (ej_mix ms wa w1 ++ wb)
        rw [ih wa wb w1 h2]
      | some j =>
        show (w1[j]?).getD c :: ej_mix ms (wa ++ wb) w1 = (w1[j]?).getD c :: (ej_mix ms wa w1 ++ wb)
        rw [ih wa wb w1 h2]
theorem ej_swap {wa wb : va_W} {k : Nat} {x : Nat × va_E} (h : (wb ++ wa)[k]? = some x) : ∃ j : Nat, (wa ++ wb)[j]? = some x ∧ j = (if k < wb.length then wa.length + k else k - wb.length) ∧ k < wb.length + wa.length := by
  have hl : k < (wb ++ wa).length := (List.getElem?_eq_some_iff.mp h).1
  rw [List.length_append] at hl
  by_cases q : k < wb.length
  · rw [List.getElem?_append_left q] at h
    refine ⟨wa.length + k, ?_, by rw [if_pos q], hl⟩
    rw [List.getElem?_append_right (by omega), Nat.add_sub_cancel_left]
    exact h
  · rw [List.getElem?_append_right (by omega)] at h
    refine ⟨k - wb.length, ?_, by rw [if_neg q], hl⟩
    rw [List.getElem?_append_left (by omega)]
    exact h
theorem ej_swapP {D : va_G} {wa wb : va_W} {H : Heap} (h : va_P D vwCl (wa ++ wb) H) : va_P D vwCl (wb ++ wa) H := fun k x hk => by
  obtain ⟨j, hj, -⟩ := ej_swap hk
  exact h j x hj
theorem ej_swapD {A : Nat → Prop} {wa wb : va_W} (h : va_D A (wa ++ wb)) : va_D A (wb ++ wa) := by
  refine ⟨fun i j x y hi hj hxy => ?_, fun k x hk => ?_⟩
  · obtain ⟨i2, h1, e1, l1⟩ := ej_swap hi
    obtain ⟨j2, h2, e2, l2⟩ := ej_swap hj
    have := h.1 i2 j2 x y h1 h2 hxy
    subst this
    rw [e1] at e2
    split at e2 <;> split at e2 <;> omega
  · obtain ⟨j, hj, -⟩ := ej_swap hk
    exact h.2 j x hj
section EL
variable {p : Program} {l : Launch} {e : Env} {R : Room} {s : State} {m : MethodId} {args : Array Value} {below : List Frame} {meth : Method} {c : Code} {H : Heap} {locs : List Loc} {cells slots : Nat} {Q : State → Prop}
variable {pc : Nat} {ls : Array Slot} {rest st : List Value} {A : Nat → Prop} {H0 : Heap} {D : va_G} {tys : eT} {wa wa' wb wc w1 : va_W} {ov : Option Value} {is as : List Nat} {ms : List (Option Nat)}
variable {cc bytes : ByteArray} {nL maxL index n : Nat} {own C : String} {y : MethodName} {ret : Option FieldType} {rm : Room} {wsY Ts : List Cond} {b : Addr} {As : List Value}
/-- a call in the first half of a world -/
theorem ej_VL (S : CallFix p m c cc nL s args Ts own) (hK : va_K D vwCl tys s) (hN : eN s) (hA : ∀ q : Nat, H0.size ≤ q → A q) (hP : va_P D vwCl (wa ++ wb) H) (hD : va_D A (wa ++ wb)) (hS : va_S A H0 H locs) (hM : fc l D tys y wsY rm (.ref b :: As) wc ov w1)
    (cw : CallW R s args own C index y bytes maxL ret wsY rm 0 0 n) (is : List Nat) (ms : List (Option Nat)) (as : List Nat) (hC : is.map (fun i => wa[i]?) = wc.map some) (hnd : va_nd is = true) (ha : w1.map (·.1) = as ∧ wc.map (·.1) = as) (hw' : ej_mix ms wa w1 = wa') (hcov : ej_cov is ms = true) (hml : ms.length ≤ wa.length) (q0 ci : Nat) {T : u_T} {N : Nat} {fs : List Value} (hc : vwCl[ci]? = some (C, T, N)) (he : wa[q0]? = some (b, .inr (ci, fs)))
    (hn : As.length = n) (hst : st = As.reverse ++ .ref b :: rest) (hsz : ls.size = nL) (hW : (rest.map fun v => v.category).sum ≤ 8) (hdg : decode cc pc = .ok (.invokevirtual index, 3)) (hf : cells ≤ R.cells ∧ slots ≤ R.slots)
    (kk : ∀ (H1 : Heap) (locs1 : List Loc), va_P D vwCl (wa' ++ wb) H1 → va_D A (wa' ++ wb) → va_S A H0 H1 locs1 → W p l e R s m args below meth c H1 locs1 cells slots Q (F0 m (pc + 3) ls (ov.toList ++ rest))) : W p l e R s m args below meth c H locs cells slots Q (F0 m pc ls st) := by
  have hl : q0 < wa.length := (List.getElem?_eq_some_iff.mp he).1
  exact ej_V (w := wa ++ wb) (w' := wa' ++ wb) S hK hN hA hP hD hS hM cw is ms as (ej_mapA hC) hnd ha (by rw [ej_mixA ms wa wb w1 hml, hw']) hcov q0 ci hc (by rw [List.getElem?_append_left hl]; exact he) hn hst hsz hW hdg hf kk
/-- a call in the second half of a world -/
theorem ej_VR (S : CallFix p m c cc nL s args Ts own) (hK : va_K D vwCl tys s) (hN : eN s) (hA : ∀ q : Nat, H0.size ≤ q → A q) (hP : va_P D vwCl (wb ++ wa) H) (hD : va_D A (wb ++ wa)) (hS : va_S A H0 H locs) (hM : fc l D tys y wsY rm (.ref b :: As) wc ov w1)
    (cw : CallW R s args own C index y bytes maxL ret wsY rm 0 0 n) (is : List Nat) (ms : List (Option Nat)) (as : List Nat) (hC : is.map (fun i => wa[i]?) = wc.map some) (hnd : va_nd is = true) (ha : w1.map (·.1) = as ∧ wc.map (·.1) = as) (hw' : ej_mix ms wa w1 = wa') (hcov : ej_cov is ms = true) (hml : ms.length ≤ wa.length) (q0 ci : Nat) {T : u_T} {N : Nat} {fs : List Value} (hc : vwCl[ci]? = some (C, T, N)) (he : wa[q0]? = some (b, .inr (ci, fs)))
    (hn : As.length = n) (hst : st = As.reverse ++ .ref b :: rest) (hsz : ls.size = nL) (hW : (rest.map fun v => v.category).sum ≤ 8) (hdg : decode cc pc = .ok (.invokevirtual index, 3)) (hf : cells ≤ R.cells ∧ slots ≤ R.slots)
    (kk : ∀ (H1 : Heap) (locs1 : List Loc), va_P D vwCl (wb ++ wa') H1 → va_D A (wb ++ wa') → va_S A H0 H1 locs1 → W p l e R s m args below meth c H1 locs1 cells slots Q (F0 m (pc + 3) ls (ov.toList ++ rest))) : W p l e R s m args below meth c H locs cells slots Q (F0 m pc ls st) :=
  ej_VL S hK hN hA (ej_swapP hP) (ej_swapD hD) hS hM cw is ms as hC hnd ha hw' hcov hml q0 ci hc he hn hst hsz hW hdg hf (fun H1 locs1 hP1 hD1 hS1 => kk H1 locs1 (ej_swapP hP1) (ej_swapD hD1) hS1)
end EL
/-! ===== the law's invariant ===== -/
def LI (m n ro : Nat) (hp ps : Nat → Pn × Tr) (t : Pn) (u : Tr) (sk : Int32) (ts : Pn) (us : Tr) (tM : Pn) (uM : Tr) (q : Nat) (s0 s1 s2 st : Int32) (z3 : Nat → Int32) : Prop :=
  (okT t ∧ okW u ∧ shN u m) ∧ (n ≤ 4 ∧ ro < 4 ∧ q ≤ 60) ∧ (∀ i : Nat, i < n → hp ((i + ro) % 4) = ps i ∧ okT (ps i).1 ∧ okW (ps i).2 ∧ shN (ps i).2 m) ∧ (¬ sk = 0 → tM = ts ∧ uM = us ∧ okT ts ∧ okW us ∧ shN us m) ∧ ((s0 = 0 ∧ st = 0) ∨ (¬ s0 = 0 ∧ ¬ st = 0 ∧ z3 0 = s0 ∧ z3 1 = s1 ∧ z3 2 = s2))
section ELI
variable {m m' n ro q q' : Nat} {hp ps : Nat → Pn × Tr} {t t' ts ts' tM tM' : Pn} {u u' us us' uM uM' : Tr} {sk s0 s1 s2 st x0 x1 x2 xt : Int32} {z3 zz : Nat → Int32}
theorem LI_up (h : LI m n ro hp ps t u sk ts us tM uM q s0 s1 s2 st z3) (hm : m ≤ m') : LI m' n ro hp ps t u sk ts us tM uM q s0 s1 s2 st z3 := by
  obtain ⟨⟨h1, h2, h3⟩, h4, h5, h6, h7⟩ := h
  refine ⟨⟨h1, h2, shN_up h3 hm⟩, h4, fun i hi => ?_, fun hs => ?_, h7⟩
  · obtain ⟨a, b, c, d⟩ := h5 i hi
    exact ⟨a, b, c, shN_up d hm⟩
  · obtain ⟨a, b, c, d, e⟩ := h6 hs
    exact ⟨a, b, c, d, shN_up e hm⟩
theorem LI_tu (h : LI m n ro hp ps t u sk ts us tM uM q s0 s1 s2 st z3) (ht : okT t') (hu : okW u') (hs : shN u' m) : LI m n ro hp ps t' u' sk ts us tM uM q s0 s1 s2 st z3 := ⟨⟨ht, hu, hs⟩, h.2⟩
theorem LI_q (h : LI m n ro hp ps t u sk ts us tM uM q s0 s1 s2 st z3) (hq : q' ≤ 60) : LI m n ro hp ps t u sk ts us tM uM q' s0 s1 s2 st z3 := by
  obtain ⟨h1, ⟨h2, h3, h4⟩, h5⟩ := h
  exact ⟨h1, ⟨h2, h3, hq⟩, h5⟩
theorem LI_st (h : LI m n ro hp ps t u sk ts us tM uM q s0 s1 s2 st z3) (hs : (x0 = 0 ∧ xt = 0) ∨ (¬ x0 = 0 ∧ ¬ xt = 0 ∧ zz 0 = x0 ∧ zz 1 = x1 ∧ zz 2 = x2)) : LI m n ro hp ps t u sk ts us tM uM q x0 x1 x2 xt zz := by
  obtain ⟨h1, h2, h3, h4, h5⟩ := h
  exact ⟨h1, h2, h3, h4, hs⟩
theorem LI_save (h : LI m n ro hp ps t u sk ts us tM uM q s0 s1 s2 st z3) : LI m n ro hp ps t u 1 t u t u q s0 s1 s2 st z3 := by
  obtain ⟨h1, h2, h3, h4, h5⟩ := h
  exact ⟨h1, h2, h3, fun _ => ⟨rfl, rfl, h1.1, h1.2.1, h1.2.2⟩, h5⟩
theorem LI_hist (h : LI m n ro hp ps t u sk ts us tM uM q s0 s1 s2 st z3) : LI m (recN n) (recR ro n) (updH hp (recI ro n) (t, u)) (recS ps n (t, u)) t u sk ts us tM uM q s0 s1 s2 st z3 := by
  obtain ⟨h1, ⟨h2, h3, h4⟩, h5, h6⟩ := h
  refine ⟨h1, ⟨recN_le h2, recR_lt h3, h4⟩, fun i hi => ⟨ring_rec (t, u) h2 h3 (fun j hj => (h5 j hj).1) i hi, ?_⟩, h6⟩
  have hx : okT (t, u).1 ∧ okW (t, u).2 ∧ shN (t, u).2 m := h1
  unfold recN at hi
  unfold recS
  by_cases z : n = 4
  · rw [if_pos z] at hi ⊢
    unfold updH
    by_cases y : i = 3
    · rw [if_pos y]; exact hx
    · rw [if_neg y]
      unfold shfH
      rw [if_pos (by omega)]
      exact (h5 (i + 1) (by omega)).2
  · rw [if_neg z] at hi ⊢
    unfold updH
    by_cases y : i = n
    · rw [if_pos y]; exact hx
    · rw [if_neg y]; exact (h5 i (by omega)).2
theorem LI_rec (h : LI m n ro hp ps t u sk ts us tM uM q s0 s1 s2 st z3) (hm : m ≤ m') (ht : okT t') (hu : okW u') (hs : shN u' m') : LI m' (recN n) (recR ro n) (updH hp (recI ro n) (t, u)) (recS ps n (t, u)) t' u' sk ts us tM uM q s0 s1 s2 st z3 := LI_tu (LI_up (LI_hist h) hm) ht hu hs
theorem LI_undo (h : LI m (n + 1) ro hp ps t u sk ts us tM uM q s0 s1 s2 st z3) : LI m n ro hp ps (hp ((n + ro) % 4)).1 (hp ((n + ro) % 4)).2 sk ts us tM uM q s0 s1 s2 st z3 := by
  obtain ⟨h1, ⟨h2, h3, h4⟩, h5, h6⟩ := h
  refine ⟨?_, ⟨by omega, h3, h4⟩, fun i hi => h5 i (by omega), h6⟩
  rw [(h5 n (by omega)).1]
  exact (h5 n (by omega)).2
end ELI
theorem clamp6 {v : Int32} (h : inP v 6) : v.toNatClampNeg < 7 := by
  obtain ⟨k, hk, e⟩ := ej_in6 h
  rw [e, nI_clamp (by omega)]
  exact hk
theorem clamp34 {v : Int32} (h : inP v 34) : v.toNatClampNeg < 35 := by
  obtain ⟨k, hk, e⟩ := ej_in34 h
  rw [e, nI_clamp (by omega)]
  exact hk
theorem in01 {v : Int32} (h : ¬ v < 0 ∧ ¬ 1 < v) : v = 0 ∨ v = 1 := by
  obtain ⟨k, hk, e⟩ := ej_in 1 1 (by decide) h
  subst e
  rcases (show k = 0 ∨ k = 1 by omega) with z | z <;> subst z
  · exact Or.inl rfl
  · exact Or.inr rfl
theorem why_eq {s0 s1 s2 st v : Int32} {z3 : Nat → Int32} (h : (s0 = 0 ∧ st = 0) ∨ (¬ s0 = 0 ∧ ¬ st = 0 ∧ z3 0 = s0 ∧ z3 1 = s1 ∧ z3 2 = s2)) : (if inP v 2 then if s0 = 0 then (-4 : Int32) else if v = 0 then s0 else if v = 1 then s1 else s2 else -1) = (if inP v 2 then if st = 0 then -4 else z3 v.toNatClampNeg else -1) := by
  by_cases q : inP v 2
  · rw [if_pos q, if_pos q]
    rcases h with ⟨a, b⟩ | ⟨a, b, c, d, e⟩
    · rw [if_pos a, if_pos b]
    · rw [if_neg a, if_neg b]
      obtain ⟨k, hk, e2⟩ := ej_in2 q
      subst e2
      rw [nI_clamp (by omega)]
      rcases (show k = 0 ∨ k = 1 ∨ k = 2 by omega) with z | z | z <;> subst z
      · exact c.symm
      · exact d.symm
      · exact e.symm
  · rw [if_neg q, if_neg q]
theorem reach_eq (t : Pn) (v : Int32) : (if v = 0 then nI (fwdM t 5) else if v = 1 then nI (bkG t 7) else -1) = (if ¬ v < 0 ∧ ¬ 1 < v then nI (cmG t 127 5) else -1) := by
  rw [bk_cm, ← cm_fwd]
  by_cases q : ¬ v < 0 ∧ ¬ 1 < v
  · rw [if_pos q]
    rcases in01 q with z | z
    · rw [if_pos z]
    · rw [if_neg (by rw [z]; decide), if_pos z]
  · rw [if_neg q]
    have h0 : ¬ v = 0 := fun z => q (by rw [z]; decide)
    have h1 : ¬ v = 1 := fun z => q (by rw [z]; decide)
    rw [if_neg h0, if_neg h1]
theorem ways_eq (t : Pn) (v w : Int32) : (if inP v 6 then if w = 0 then whG t 5 v.toNatClampNeg else if w = 1 then sumI (fun c => wfG t v.toNatClampNeg 5 0 c) 7 else -1 else -1) = (if inP v 6 ∧ inP w 1 then wmG t 5 v.toNatClampNeg else -1) := by
  by_cases q : inP v 6
  · rw [if_pos q]
    by_cases q2 : inP w 1
    · have hb : inP v 6 ∧ inP w 1 := ⟨q, q2⟩
      rw [if_pos hb]
      rcases in01 q2 with z | z
      · rw [if_pos z, wh_wm]
      · have h0 : ¬ w = 0 := by rw [z]; decide
        rw [if_neg h0, if_pos z, wf_wm t (clamp6 q)]
    · have h0 : ¬ w = 0 := fun z => q2 (by rw [z]; decide)
      have h1 : ¬ w = 1 := fun z => q2 (by rw [z]; decide)
      have hb : ¬ (inP v 6 ∧ inP w 1) := fun z => q2 z.2
      rw [if_neg h0, if_neg h1, if_neg hb]
  · have hb : ¬ (inP v 6 ∧ inP w 1) := fun z => q z.1
    rw [if_neg q, if_neg hb]
theorem ends_eq (t : Pn) (v : Int32) : (if inP v 6 then nI (posT t v.toNatClampNeg 5) else -1) = (if inP v 6 then nI (rollT t v.toNatClampNeg 0 5).2 else -1) := by
  by_cases q : inP v 6
  · rw [if_pos q, if_pos q, pos_roll t (clamp6 q)]
  · rw [if_neg q, if_neg q]
theorem best_fin {t : Pn} {u : Tr} (h : Int32) (ht : okT t) (hu : okW u) : (if 0 < T_le u then nI (bstG t u h 7).1 else -2) = (if ¬ T_le u = 0 then nI (bmS t u h 7).1 else -2) := by
  have h0 := okU_le hu.1
  by_cases q : T_le u = 0
  · have hn : ¬ 0 < T_le u := by rw [q]; decide
    rw [if_neg hn, if_neg (fun z => z q)]
  · rw [if_pos (le_pos h0 q), if_pos q, (best_eq h ht hu (le_pos h0 q) 7 (Nat.le_refl 7)).1]
theorem mean_fin {u : Tr} {m : Nat} (h : shN u m) (hm : m < 2 ^ 31) (a : UInt64) : (if 0 < T_sh u then a else 0) = (if ¬ T_sh u = 0 then a else 0) := by
  have e := mean_iff h hm
  by_cases q : 0 < T_sh u
  · rw [if_pos q, if_pos (e ▸ q)]
  · rw [if_neg q, if_neg (e ▸ q)]
theorem shN_bh {t : Pn} {u : Tr} {k m : Nat} {d : Int32} (h : shN u m) : shN (bhU t u k d) m := by
  unfold bhU
  split
  · split
    · exact h
    · exact h
  · exact h
/-- what comes behind a call of the script: the machine at 862, in a state that keeps the invariant -/
def LK (p : Program) (l : Launch) (e : Env) (s : State) (m : MethodId) (args : Array Value) (below : List Frame) (meth : Method) (c : Code) (D : va_G) (A : Nat → Prop) (H0 : Heap) (Q : State → Prop) (cI cT : ClassId) (o aT aB aS g y z : Nat → Nat) (ad : Nat → Nat → Nat) (bm : Nat → Nat) (bs i : Nat) : Prop :=
  ∀ (sk s0 s1 s2 : Int32) (t : Pn) (u : Tr) (tb : Pn) (ub : Tr) (ts : Pn) (us : Tr) (n ro : Nat) (hp : Nat → Pn × Tr) (q : Nat) (f f1 f2 : Nat → Int32) (sp : Nat) (be fo op ha st : Int32) (ga : Nat → Int32) (ps : Nat → Pn × Tr) (tM : Pn) (uM : Tr) (z3 m7 g8 : Nat → Int32) (H : Heap) (locs : List Loc) (ls : Array Slot), LI (12 * (i + 5)) n ro hp ps t u sk ts us tM uM q s0 s1 s2 st z3 → va_P D vwCl (CW cI cT o aT aB aS g y z ad sk s0 s1 s2 t u tb ub ts us n ro hp q f f1 f2 ++ MW cI bm n q sp sk be fo op ha st t u ga ps tM uM f z3 m7 g8) H → va_D A (CW cI cT o aT aB aS g y z ad sk s0 s1 s2 t u tb ub ts us n ro hp q f f1 f2 ++ MW cI bm n q sp sk be fo op ha st t u ga ps tM uM f z3 m7 g8) → va_S A H0 H locs → lv_has ls 8 [(0, .ref bs), (1, .ref (o 0)), (2, .ref (bm 0)), (3, .int (nI i))] → W p l e room_1 s m args below meth c H locs 146 3194 Q (F0 m 862 ls [])

