/-! ===== the law's world ===== -/
def CW (cI cT : ClassId) (o aT aB aS g y z : Nat → Nat) (ad : Nat → Nat → Nat) (sk s0 s1 s2 : Int32) (t : Pn) (u : Tr) (tb : Pn) (ub : Tr) (ts : Pn) (us : Tr) (n ro : Nat) (hp : Nat → Pn × Tr) (q : Nat) (f f1 f2 : Nat → Int32) : va_W := [((o 0), .inr (6, [.ref (aT 0), .ref (aB 0), .ref (aS 0), .int sk, .ref (g 0), .ref (y 0), .ref (z 0), .int s0, .int s1, .int s2])), ((aT 0), .inr (5, [.ref (aT 1), .ref (aT 12), .ref (aT 14), .ref (aT 16), .int (T_fu u), .int (T_le u), .int (T_lo u), .int (T_po u), .int (T_sh u), .int (T_ha u), .int (T_re u)])), ((aT 1), .inr (2, [.ref (aT 2), .ref (aT 4), .ref (aT 6), .ref (aT 8), .ref (aT 10), .int (P_ti t), .int (P_ri t), .int (P_bb t)])), ((aT 2), .inr (4, [.ref (aT 3)])), ((aT 3), .inl (cI, 35, .inl (P_be t))), ((aT 4), .inr (4, [.ref (aT 5)])), ((aT 5), .inl (cI, 35, .inl (P_ou t))), ((aT 6), .inr (4, [.ref (aT 7)])), ((aT 7), .inl (cI, 35, .inl (P_bl t))), ((aT 8), .inr (4, [.ref (aT 9)])), ((aT 9), .inl (cI, 35, .inl (P_si t))), ((aT 10), .inr (4, [.ref (aT 11)])), ((aT 11), .inl (cI, 35, .inl (P_vi t))), ((aT 12), .inr (4, [.ref (aT 13)])), ((aT 13), .inl (cI, 7, .inl (T_wo u))), ((aT 14), .inr (4, [.ref (aT 15)])), ((aT 15), .inl (cI, 7, .inl (T_he u))), ((aT 16), .inr (4, [.ref (aT 17)])), ((aT 17), .inl (cI, 7, .inl (T_en u))), ((aB 0), .inr (5, [.ref (aB 1), .ref (aB 12), .ref (aB 14), .ref (aB 16), .int (T_fu ub), .int (T_le ub), .int (T_lo ub), .int (T_po ub), .int (T_sh ub), .int (T_ha ub), .int (T_re ub)])), ((aB 1), .inr (2, [.ref (aB 2), .ref (aB 4), .ref (aB 6), .ref (aB 8), .ref (aB 10), .int (P_ti tb), .int (P_ri tb), .int (P_bb tb)])), ((aB 2), .inr (4, [.ref (aB 3)])), ((aB 3), .inl (cI, 35, .inl (P_be tb))), ((aB 4), .inr (4, [.ref (aB 5)])), ((aB 5), .inl (cI, 35, .inl (P_ou tb))), ((aB 6), .inr (4, [.ref (aB 7)])), ((aB 7), .inl (cI, 35, .inl (P_bl tb))), ((aB 8), .inr (4, [.ref (aB 9)])), ((aB 9), .inl (cI, 35, .inl (P_si tb))), ((aB 10), .inr (4, [.ref (aB 11)])), ((aB 11), .inl (cI, 35, .inl (P_vi tb))), ((aB 12), .inr (4, [.ref (aB 13)])), ((aB 13), .inl (cI, 7, .inl (T_wo ub))), ((aB 14), .inr (4, [.ref (aB 15)])), ((aB 15), .inl (cI, 7, .inl (T_he ub))), ((aB 16), .inr (4, [.ref (aB 17)])), ((aB 17), .inl (cI, 7, .inl (T_en ub))), ((aS 0), .inr (5, [.ref (aS 1), .ref (aS 12), .ref (aS 14), .ref (aS 16), .int (T_fu us), .int (T_le us), .int (T_lo us), .int (T_po us), .int (T_sh us), .int (T_ha us), .int (T_re us)])), ((aS 1), .inr (2, [.ref (aS 2), .ref (aS 4), .ref (aS 6), .ref (aS 8), .ref (aS 10), .int (P_ti ts), .int (P_ri ts), .int (P_bb ts)])), ((aS 2), .inr (4, [.ref (aS 3)])), ((aS 3), .inl (cI, 35, .inl (P_be ts))), ((aS 4), .inr (4, [.ref (aS 5)])), ((aS 5), .inl (cI, 35, .inl (P_ou ts))), ((aS 6), .inr (4, [.ref (aS 7)])), ((aS 7), .inl (cI, 35, .inl (P_bl ts))), ((aS 8), .inr (4, [.ref (aS 9)])), ((aS 9), .inl (cI, 35, .inl (P_si ts))), ((aS 10), .inr (4, [.ref (aS 11)])), ((aS 11), .inl (cI, 35, .inl (P_vi ts))), ((aS 12), .inr (4, [.ref (aS 13)])), ((aS 13), .inl (cI, 7, .inl (T_wo us))), ((aS 14), .inr (4, [.ref (aS 15)])), ((aS 15), .inl (cI, 7, .inl (T_he us))), ((aS 16), .inr (4, [.ref (aS 17)])), ((aS 17), .inl (cI, 7, .inl (T_en us))), ((g 0), .inr (0, [.ref (g 1), .int (nI n)])), ((g 1), .inl (cT, 4, .inr (.inr (.inr (.inr (hisF ad ro)))))), (((ad 0) 0), .inr (5, [.ref ((ad 0) 1), .ref ((ad 0) 12), .ref ((ad 0) 14), .ref ((ad 0) 16), .int (T_fu ((hp 0).2)), .int (T_le ((hp 0).2)), .int (T_lo ((hp 0).2)), .int (T_po ((hp 0).2)), .int (T_sh ((hp 0).2)), .int (T_ha ((hp 0).2)), .int (T_re ((hp 0).2))])), (((ad 0) 1), .inr (2, [.ref ((ad 0) 2), .ref ((ad 0) 4), .ref ((ad 0) 6), .ref ((ad 0) 8), .ref ((ad 0) 10), .int (P_ti ((hp 0).1)), .int (P_ri ((hp 0).1)), .int (P_bb ((hp 0).1))])), (((ad 0) 2), .inr (4, [.ref ((ad 0) 3)])), (((ad 0) 3), .inl (cI, 35, .inl (P_be ((hp 0).1)))), (((ad 0) 4), .inr (4, [.ref ((ad 0) 5)])), (((ad 0) 5), .inl (cI, 35, .inl (P_ou ((hp 0).1)))), (((ad 0) 6), .inr (4, [.ref ((ad 0) 7)])), (((ad 0) 7), .inl (cI, 35, .inl (P_bl ((hp 0).1)))), (((ad 0) 8), .inr (4, [.ref ((ad 0) 9)])), (((ad 0) 9), .inl (cI, 35, .inl (P_si ((hp 0).1)))), (((ad 0) 10), .inr (4, [.ref ((ad 0) 11)])), (((ad 0) 11), .inl (cI, 35, .inl (P_vi ((hp 0).1)))), (((ad 0) 12), .inr (4, [.ref ((ad 0) 13)])), (((ad 0) 13), .inl (cI, 7, .inl (T_wo ((hp 0).2)))), (((ad 0) 14), .inr (4, [.ref ((ad 0) 15)])), (((ad 0) 15), .inl (cI, 7, .inl (T_he ((hp 0).2)))), (((ad 0) 16), .inr (4, [.ref ((ad 0) 17)])), (((ad 0) 17), .inl (cI, 7, .inl (T_en ((hp 0).2)))), (((ad 1) 0), .inr (5, [.ref ((ad 1) 1), .ref ((ad 1) 12), .ref ((ad 1) 14), .ref ((ad 1) 16), .int (T_fu ((hp 1).2)), .int (T_le ((hp 1).2)), .int (T_lo ((hp 1).2)), .int (T_po ((hp 1).2)), .int (T_sh ((hp 1).2)), .int (T_ha ((hp 1).2)), .int (T_re ((hp 1).2))])), (((ad 1) 1), .inr (2, [.ref ((ad 1) 2), .ref ((ad 1) 4), .ref ((ad 1) 6), .ref ((ad 1) 8), .ref ((ad 1) 10), .int (P_ti ((hp 1).1)), .int (P_ri ((hp 1).1)), .int (P_bb ((hp 1).1))])), (((ad 1) 2), .inr (4, [.ref ((ad 1) 3)])), (((ad 1) 3), .inl (cI, 35, .inl (P_be ((hp 1).1)))), (((ad 1) 4), .inr (4, [.ref ((ad 1) 5)])), (((ad 1) 5), .inl (cI, 35, .inl (P_ou ((hp 1).1)))), (((ad 1) 6), .inr (4, [.ref ((ad 1) 7)])), (((ad 1) 7), .inl (cI, 35, .inl (P_bl ((hp 1).1)))), (((ad 1) 8), .inr (4, [.ref ((ad 1) 9)])), (((ad 1) 9), .inl (cI, 35, .inl (P_si ((hp 1).1)))), (((ad 1) 10), .inr (4, [.ref ((ad 1) 11)])), (((ad 1) 11), .inl (cI, 35, .inl (P_vi ((hp 1).1)))), (((ad 1) 12), .inr (4, [.ref ((ad 1) 13)])), (((ad 1) 13), .inl (cI, 7, .inl (T_wo ((hp 1).2)))), (((ad 1) 14), .inr (4, [.ref ((ad 1) 15)])), (((ad 1) 15), .inl (cI, 7, .inl (T_he ((hp 1).2)))), (((ad 1) 16), .inr (4, [.ref ((ad 1) 17)])), (((ad 1) 17), .inl (cI, 7, .inl (T_en ((hp 1).2)))), (((ad 2) 0), .inr (5, [.ref ((ad 2) 1), .ref ((ad 2) 12), .ref ((ad 2) 14), .ref ((ad 2) 16), .int (T_fu ((hp 2).2)), .int (T_le ((hp 2).2)), .int (T_lo ((hp 2).2)), .int (T_po ((hp 2).2)), .int (T_sh ((hp 2).2)), .int (T_ha ((hp 2).2)), .int (T_re ((hp 2).2))])), (((ad 2) 1), .inr (2, [.ref ((ad 2) 2), .ref ((ad 2) 4), .ref ((ad 2) 6), .ref ((ad 2) 8), .ref ((ad 2) 10), .int (P_ti ((hp 2).1)), .int (P_ri ((hp 2).1)), .int (P_bb ((hp 2).1))])), (((ad 2) 2), .inr (4, [.ref ((ad 2) 3)])), (((ad 2) 3), .inl (cI, 35, .inl (P_be ((hp 2).1)))), (((ad 2) 4), .inr (4, [.ref ((ad 2) 5)])), (((ad 2) 5), .inl (cI, 35, .inl (P_ou ((hp 2).1)))), (((ad 2) 6), .inr (4, [.ref ((ad 2) 7)])), (((ad 2) 7), .inl (cI, 35, .inl (P_bl ((hp 2).1)))), (((ad 2) 8), .inr (4, [.ref ((ad 2) 9)])), (((ad 2) 9), .inl (cI, 35, .inl (P_si ((hp 2).1)))), (((ad 2) 10), .inr (4, [.ref ((ad 2) 11)])), (((ad 2) 11), .inl (cI, 35, .inl (P_vi ((hp 2).1)))), (((ad 2) 12), .inr (4, [.ref ((ad 2) 13)])), (((ad 2) 13), .inl (cI, 7, .inl (T_wo ((hp 2).2)))), (((ad 2) 14), .inr (4, [.ref ((ad 2) 15)])), (((ad 2) 15), .inl (cI, 7, .inl (T_he ((hp 2).2)))), (((ad 2) 16), .inr (4, [.ref ((ad 2) 17)])), (((ad 2) 17), .inl (cI, 7, .inl (T_en ((hp 2).2)))), (((ad 3) 0), .inr (5, [.ref ((ad 3) 1), .ref ((ad 3) 12), .ref ((ad 3) 14), .ref ((ad 3) 16), .int (T_fu ((hp 3).2)), .int (T_le ((hp 3).2)), .int (T_lo ((hp 3).2)), .int (T_po ((hp 3).2)), .int (T_sh ((hp 3).2)), .int (T_ha ((hp 3).2)), .int (T_re ((hp 3).2))])), (((ad 3) 1), .inr (2, [.ref ((ad 3) 2), .ref ((ad 3) 4), .ref ((ad 3) 6), .ref ((ad 3) 8), .ref ((ad 3) 10), .int (P_ti ((hp 3).1)), .int (P_ri ((hp 3).1)), .int (P_bb ((hp 3).1))])), (((ad 3) 2), .inr (4, [.ref ((ad 3) 3)])), (((ad 3) 3), .inl (cI, 35, .inl (P_be ((hp 3).1)))), (((ad 3) 4), .inr (4, [.ref ((ad 3) 5)])), (((ad 3) 5), .inl (cI, 35, .inl (P_ou ((hp 3).1)))), (((ad 3) 6), .inr (4, [.ref ((ad 3) 7)])), (((ad 3) 7), .inl (cI, 35, .inl (P_bl ((hp 3).1)))), (((ad 3) 8), .inr (4, [.ref ((ad 3) 9)])), (((ad 3) 9), .inl (cI, 35, .inl (P_si ((hp 3).1)))), (((ad 3) 10), .inr (4, [.ref ((ad 3) 11)])), (((ad 3) 11), .inl (cI, 35, .inl (P_vi ((hp 3).1)))), (((ad 3) 12), .inr (4, [.ref ((ad 3) 13)])), (((ad 3) 13), .inl (cI, 7, .inl (T_wo ((hp 3).2)))), (((ad 3) 14), .inr (4, [.ref ((ad 3) 15)])), (((ad 3) 15), .inl (cI, 7, .inl (T_he ((hp 3).2)))), (((ad 3) 16), .inr (4, [.ref ((ad 3) 17)])), (((ad 3) 17), .inl (cI, 7, .inl (T_en ((hp 3).2)))), ((y 0), .inr (3, [.ref (y 1), .ref (y 3)])), ((y 1), .inr (4, [.ref (y 2)])), ((y 2), .inl (cI, 7, .inl f1)), ((y 3), .inr (4, [.ref (y 4)])), ((y 4), .inl (cI, 7, .inl f2)), ((z 0), .inr (1, [.ref (z 1), .int (nI q)])), ((z 1), .inr (4, [.ref (z 2)])), ((z 2), .inl (cI, 60, .inl f))]
def CK (o aT aB aS g y z : Nat → Nat) (ad : Nat → Nat → Nat) : List Nat := [(o 0), (aT 0), (aT 1), (aT 2), (aT 3), (aT 4), (aT 5), (aT 6), (aT 7), (aT 8), (aT 9), (aT 10), (aT 11), (aT 12), (aT 13), (aT 14), (aT 15), (aT 16), (aT 17), (aB 0), (aB 1), (aB 2), (aB 3), (aB 4), (aB 5), (aB 6), (aB 7), (aB 8), (aB 9), (aB 10), (aB 11), (aB 12), (aB 13), (aB 14), (aB 15), (aB 16), (aB 17), (aS 0), (aS 1), (aS 2), (aS 3), (aS 4), (aS 5), (aS 6), (aS 7), (aS 8), (aS 9), (aS 10), (aS 11), (aS 12), (aS 13), (aS 14), (aS 15), (aS 16), (aS 17), (g 0), (g 1), ((ad 0) 0), ((ad 0) 1), ((ad 0) 2), ((ad 0) 3), ((ad 0) 4), ((ad 0) 5), ((ad 0) 6), ((ad 0) 7), ((ad 0) 8), ((ad 0) 9), ((ad 0) 10), ((ad 0) 11), ((ad 0) 12), ((ad 0) 13), ((ad 0) 14), ((ad 0) 15), ((ad 0) 16), ((ad 0) 17), ((ad 1) 0), ((ad 1) 1), ((ad 1) 2), ((ad 1) 3), ((ad 1) 4), ((ad 1) 5), ((ad 1) 6), ((ad 1) 7), ((ad 1) 8), ((ad 1) 9), ((ad 1) 10), ((ad 1) 11), ((ad 1) 12), ((ad 1) 13), ((ad 1) 14), ((ad 1) 15), ((ad 1) 16), ((ad 1) 17), ((ad 2) 0), ((ad 2) 1), ((ad 2) 2), ((ad 2) 3), ((ad 2) 4), ((ad 2) 5), ((ad 2) 6), ((ad 2) 7), ((ad 2) 8), ((ad 2) 9), ((ad 2) 10), ((ad 2) 11), ((ad 2) 12), ((ad 2) 13), ((ad 2) 14), ((ad 2) 15), ((ad 2) 16), ((ad 2) 17), ((ad 3) 0), ((ad 3) 1), ((ad 3) 2), ((ad 3) 3), ((ad 3) 4), ((ad 3) 5), ((ad 3) 6), ((ad 3) 7), ((ad 3) 8), ((ad 3) 9), ((ad 3) 10), ((ad 3) 11), ((ad 3) 12), ((ad 3) 13), ((ad 3) 14), ((ad 3) 15), ((ad 3) 16), ((ad 3) 17), (y 0), (y 1), (y 2), (y 3), (y 4), (z 0), (z 1), (z 2)]
def tzL : Pn := (fun _ => 0, fun _ => 0, fun _ => 0, fun _ => 0, fun _ => 0, 0, 0, 0)
def uzL : Tr := (fun _ => 0, fun _ => 0, fun _ => 0, 0, 0, 0, 0, 0, 0, 0)
def CWz (cI cT : ClassId) (o aT aB aS g y z : Nat → Nat) (ad : Nat → Nat → Nat) : va_W := CW cI cT o aT aB aS g y z ad 0 0 0 0 tzL uzL tzL uzL tzL uzL 0 0 (fun _ => (tzL, uzL)) 0 (fun _ => 0) (fun _ => 0) (fun _ => 0)
set_option maxRecDepth 100000 in
theorem CW_key (cI cT : ClassId) (o aT aB aS g y z : Nat → Nat) (ad : Nat → Nat → Nat) (sk s0 s1 s2 : Int32) (t : Pn) (u : Tr) (tb : Pn) (ub : Tr) (ts : Pn) (us : Tr) (n ro : Nat) (hp : Nat → Pn × Tr) (q : Nat) (f f1 f2 : Nat → Int32) : (CW cI cT o aT aB aS g y z ad sk s0 s1 s2 t u tb ub ts us n ro hp q f f1 f2).map (fun x => x.1) = CK o aT aB aS g y z ad := rfl
theorem CW_keyz (cI cT : ClassId) (o aT aB aS g y z : Nat → Nat) (ad : Nat → Nat → Nat) (sk s0 s1 s2 : Int32) (t : Pn) (u : Tr) (tb : Pn) (ub : Tr) (ts : Pn) (us : Tr) (n ro : Nat) (hp : Nat → Pn × Tr) (q : Nat) (f f1 f2 : Nat → Int32) : (CW cI cT o aT aB aS g y z ad sk s0 s1 s2 t u tb ub ts us n ro hp q f f1 f2).map (fun x => x.1) = (CWz cI cT o aT aB aS g y z ad).map (fun x => x.1) := (CW_key cI cT o aT aB aS g y z ad sk s0 s1 s2 t u tb ub ts us n ro hp q f f1 f2).trans (CW_key cI cT o aT aB aS g y z ad 0 0 0 0 tzL uzL tzL uzL tzL uzL 0 0 (fun _ => (tzL, uzL)) 0 (fun _ => 0) (fun _ => 0) (fun _ => 0)).symm
theorem lw_keyAt {w w' : va_W} (h : w.map (fun x => x.1) = w'.map (fun x => x.1)) {k : Nat} {x : Nat × va_E} (hx : w[k]? = some x) : ∃ e, w'[k]? = some (x.1, e) := by
  have h1 : (w.map (fun x => x.1))[k]? = some x.1 := by rw [List.getElem?_map, hx]; rfl
  rw [h, List.getElem?_map] at h1
  cases hq : w'[k]? with
  | none => rw [hq] at h1; cases h1
  | some z =>
    rw [hq] at h1
    have e : z.1 = x.1 := Option.some.inj h1
    exact ⟨z.2, by rw [← e]⟩
theorem va_D_key {A : Nat → Prop} {w w' : va_W} (h : w.map (fun x => x.1) = w'.map (fun x => x.1)) (hD : va_D A w') : va_D A w := by
  refine ⟨fun i j x y hi hj hxy => ?_, fun k x hk => ?_⟩
  · obtain ⟨e1, h1⟩ := lw_keyAt h hi
    obtain ⟨e2, h2⟩ := lw_keyAt h hj
    exact hD.1 i j _ _ h1 h2 hxy
  · obtain ⟨e1, h1⟩ := lw_keyAt h hk
    exact hD.2 k (x.1, e1) h1
theorem va_A_key {w w' : va_W} (h : w.map (fun x => x.1) = w'.map (fun x => x.1)) (sz : Nat) : va_A w sz = va_A w' sz := by
  funext q
  refine propext ⟨fun z => ?_, fun z => ?_⟩
  · rcases z with ⟨k, e, z⟩ | z
    · obtain ⟨e1, h1⟩ := lw_keyAt h z
      exact Or.inl ⟨k, e1, h1⟩
    · exact Or.inr z
  · rcases z with ⟨k, e, z⟩ | z
    · obtain ⟨e1, h1⟩ := lw_keyAt h.symm z
      exact Or.inl ⟨k, e1, h1⟩
    · exact Or.inr z
/-! ===== the class's state, as the law sees it ===== -/
/-- the object's cells hold: table t u, the states hs of the history (the oldest first), the snapshot sn, the pad, the latest stop -/
def SW (D : va_G) (cI cT : ClassId) (o aT aB aS g y z : Nat → Nat) (ad : Nat → Nat → Nat) (t : Pn) (u : Tr) (hs : List (Pn × Tr)) (sn : Option (Pn × Tr)) (q : Nat) (f : Nat → Int32) (s0 s1 s2 : Int32) (H : Heap) : Prop :=
  ∃ (sk : Int32) (tb : Pn) (ub : Tr) (ts : Pn) (us : Tr) (ro : Nat) (hp : Nat → Pn × Tr) (f1 f2 : Nat → Int32), (ro < 4 ∧ hs.length ≤ 4 ∧ q ≤ 60) ∧ (∀ i : Nat, i < hs.length → hs[i]? = some (hp ((i + ro) % 4))) ∧ ((sk = 0 ∧ sn = none) ∨ (¬ sk = 0 ∧ sn = some (ts, us))) ∧ va_P D vwCl (CW cI cT o aT aB aS g y z ad sk s0 s1 s2 t u tb ub ts us hs.length ro hp q f f1 f2) H
def recL (hs : List (Pn × Tr)) (x : Pn × Tr) : List (Pn × Tr) := (if hs.length = 4 then hs.drop 1 else hs) ++ [x]
theorem recL_len {hs : List (Pn × Tr)} (x : Pn × Tr) (h : hs.length ≤ 4) : (recL hs x).length = recN hs.length := by
  unfold recL recN
  rw [List.length_append]
  by_cases q : hs.length = 4
  · rw [if_pos q, if_pos q, List.length_drop, q]; rfl
  · rw [if_neg q, if_neg q]; rfl
theorem recN_le4 {n : Nat} (h : n ≤ 4) : recN n ≤ 4 := by unfold recN; split <;> omega
theorem recR_lt4 {ro n : Nat} (h : ro < 4) : recR ro n < 4 := by unfold recR; split <;> omega
theorem recL_ring {hs : List (Pn × Tr)} {hp : Nat → Pn × Tr} {ro : Nat} (x : Pn × Tr) (hn : hs.length ≤ 4) (hr : ro < 4) (h : ∀ i : Nat, i < hs.length → hs[i]? = some (hp ((i + ro) % 4))) : ∀ i : Nat, i < (recL hs x).length → (recL hs x)[i]? = some (updH hp (recI ro hs.length) x ((i + recR ro hs.length) % 4)) := by
  intro i hi
  rw [recL_len x hn] at hi
  unfold recN at hi
  unfold recL updH recI recR
  by_cases q : hs.length = 4
  · rw [if_pos q] at hi
    simp only [q, if_true]
    by_cases w : i = 3
    · subst w
      rw [List.getElem?_append_right (by rw [List.length_drop, q]; omega), List.length_drop, q, if_pos (by omega)]
      rfl
    · rw [List.getElem?_append_left (by rw [List.length_drop, q]; omega), List.getElem?_drop, if_neg (show ¬ (i + (ro + 1) % 4) % 4 = ro by omega), h (1 + i) (by omega)]
      congr 2
      omega
  · rw [if_neg q] at hi
    simp only [q, if_false]
    by_cases w : i = hs.length
    · subst w
      rw [List.getElem?_append_right (Nat.le_refl _), Nat.sub_self, if_pos rfl]
      rfl
    · rw [List.getElem?_append_left (by omega), if_neg (show ¬ (i + ro) % 4 = (hs.length + ro) % 4 by omega)]
      exact h i (by omega)
theorem inP_n {k n : Nat} (hn : n < 2 ^ 31) (h : k ≤ n) : inP (nI k) (nI n) := ⟨nI_pos (by omega), ej_nlt hn h⟩
theorem inP_6 {k : Nat} (h : k < 7) : inP (nI k) 6 := inP_n (n := 6) (by decide) (by omega)
theorem inP_34 {k : Nat} (h : k < 35) : inP (nI k) 34 := inP_n (n := 34) (by decide) (by omega)
theorem set_no {α : Type} {v w : Int32} {a b c : α} (h1 : ¬ (v = 0 ∧ inP w 2)) (h2 : ¬ (v = 1 ∧ (¬ w < 1 ∧ ¬ 9 < w))) : (if v = 0 then (if inP w 2 then a else c) else if v = 1 then (if ¬ w < 1 ∧ ¬ 9 < w then b else c) else c) = c := by
  by_cases q : v = 0
  · rw [if_pos q, if_neg (fun z => h1 ⟨q, z⟩)]
  · rw [if_neg q]
    by_cases q2 : v = 1
    · rw [if_pos q2, if_neg (fun z => h2 ⟨q2, z⟩)]
    · rw [if_neg q2]
theorem ones_20 {j : Nat} (h0 : 0 < j) (h : j ≤ 20) : ¬ nI j < 1 ∧ ¬ 20 < nI j := ⟨ej_nlt (a := j) (b := 1) (by omega) h0, ej_nlt (a := 20) (b := j) (by decide) h⟩
theorem snap_one {sn : Option (Pn × Tr)} {sk : Int32} {ts : Pn} {us : Tr} {x : Pn × Tr} (h : (sk = 0 ∧ sn = none) ∨ (¬ sk = 0 ∧ sn = some (ts, us))) (hx : sn = some x) : ¬ sk = 0 ∧ x.1 = ts ∧ x.2 = us := by
  rcases h with ⟨_, h⟩ | ⟨h0, h⟩
  · rw [h] at hx; cases hx
  · rw [h] at hx; cases hx; exact ⟨h0, rfl, rfl⟩
theorem snap_no {sn : Option (Pn × Tr)} {sk : Int32} {ts : Pn} {us : Tr} (h : (sk = 0 ∧ sn = none) ∨ (¬ sk = 0 ∧ sn = some (ts, us))) (hx : sn = none) : sk = 0 := by
  rcases h with ⟨h, _⟩ | ⟨h0, h⟩
  · exact h
  · rw [h] at hx; cases hx
/-! ===== contracts of the law's methods over the whole object ===== -/
abbrev PoL : Type := Value → Pn → Tr → List (Pn × Tr) → Nat → (Nat → Int32) → Int32 → Int32 → Int32 → Prop
def lcP (D : va_G) (tys : eT) (cI cT : ClassId) (o aT aB aS g y z : Nat → Nat) (ad : Nat → Nat → Nat) (t : Pn) (u : Tr) (hs : List (Pn × Tr)) (sn : Option (Pn × Tr)) (q : Nat) (f : Nat → Int32) (s0 s1 s2 : Int32) (sz : Nat) : State → Prop := fun U => U.heap.size = sz ∧ SW D cI cT o aT aB aS g y z ad t u hs sn q f s0 s1 s2 U.heap ∧ va_K D vwCl tys U ∧ eN U ∧ va_D (fun _ => True) (CWz cI cT o aT aB aS g y z ad)
def lcQ (D : va_G) (cI cT : ClassId) (o aT aB aS g y z : Nat → Nat) (ad : Nat → Nat → Nat) (sn : Option (Pn × Tr)) (Po : PoL) (sz : Nat) : Array Value → State → Outcome → State → Prop := fun _ st oc T => ∃ (v : Value) (t : Pn) (u : Tr) (hs : List (Pn × Tr)) (q : Nat) (f : Nat → Int32) (s0 s1 s2 : Int32), oc = .returned (some v) ∧ Po v t u hs q f s0 s1 s2 ∧ SW D cI cT o aT aB aS g y z ad t u hs sn q f s0 s1 s2 T.heap ∧ va_F (va_A (CWz cI cT o aT aB aS g y z ad) sz) st T
/-- the method y of the law, with the arguments av, over the object's cells: it returns a value and leaves a state as Po says -/
def lc (l : Launch) (D : va_G) (tys : eT) (cI cT : ClassId) (o aT aB aS g y z : Nat → Nat) (ad : Nat → Nat → Nat) (yy : MethodName) (ws : List Cond) (rm : Room) (av : List Value) (t : Pn) (u : Tr) (hs : List (Pn × Tr)) (sn : Option (Pn × Tr)) (q : Nat) (f : Nat → Int32) (s0 s1 s2 : Int32) (Po : PoL) : Prop :=
  ∀ sz : Nat, Met l yy ws rm (va_Pc av (lcP D tys cI cT o aT aB aS g y z ad t u hs sn q f s0 s1 s2 sz)) (lcQ D cI cT o aT aB aS g y z ad sn Po sz) 0 0 (va_A (CWz cI cT o aT aB aS g y z ad) sz)
section LB
variable {l : Launch} {D : va_G} {tys : eT} {cI cT : ClassId} {o aT aB aS g y9 z : Nat → Nat} {ad : Nat → Nat → Nat} {y : MethodName} {ws ws' : List Cond} {rm : Room} {av : List Value} {t : Pn} {u : Tr} {hs : List (Pn × Tr)} {sn : Option (Pn × Tr)} {q : Nat} {f : Nat → Int32} {s0 s1 s2 : Int32} {Po : PoL}
theorem lcP_blind {sz : Nat} : FrameBlind (va_Pc av (lcP D tys cI cT o aT aB aS g y9 z ad t u hs sn q f s0 s1 s2 sz)) := fun a U g mk q => by
  obtain ⟨q0, q1, qW, qK, qN, qD⟩ := q
  exact ⟨q0, q1, qW, va_K.moved (u := U) (U := U.calling g mk a) (Vm.Alike.refl U.vm) qK, eN.same rfl qN, qD⟩
theorem lcP_at {H : Heap} {s : State} (hW : SW D cI cT o aT aB aS g y9 z ad t u hs sn q f s0 s1 s2 H) (hK : va_K D vwCl tys s) (hN : eN s) (hD : va_D (fun _ => True) (CWz cI cT o aT aB aS g y9 z ad)) : ∀ U : State, U.heap = H → s.WarmedH U.vm → va_Pc av (lcP D tys cI cT o aT aB aS g y9 z ad t u hs sn q f s0 s1 s2 H.size) av.toArray U := fun U hU hW9 =>
  ⟨rfl, by rw [hU], by rw [hU]; exact hW, va_K.moved hW9.alike hK, eN.warm hW9 hN, hD⟩
theorem lc_int {ty : FieldType} (cc : ByteArray) (nL : Nat) (hpl : plainName y.cls = true) (hw : ws = Cond.code y cc nL (some ty) :: ws') (hlen : (lg_sl av).length ≤ nL)
    (body : ∀ (p : Program) (e : Env) (s : State) (m : MethodId) (args : Array Value) (below : List Frame) (meth : Method) (c : Code) (H : Heap) (A : Nat → Prop) (Q : State → Prop) (ls : Array Slot),
      CallFix p m c cc nL s args ws y.cls → va_K D vwCl tys s → eN s → (∀ q : Nat, H.size ≤ q → A q) → va_D A (CWz cI cT o aT aB aS g y9 z ad) → SW D cI cT o aT aB aS g y9 z ad t u hs sn q f s0 s1 s2 H → va_S A H H [] → lv_has ls nL (lv_args 0 av) →
      (∀ (pc : Nat) (H1 : Heap) (locs : List Loc) (ls1 : Array Slot) (r : Int32) (t1 : Pn) (u1 : Tr) (hs1 : List (Pn × Tr)) (q1 : Nat) (f1 : Nat → Int32) (x0 x1 x2 : Int32), decode cc pc = .ok (.ireturn, 1) → narrow ty (.int r) = .int r → Po (.int r) t1 u1 hs1 q1 f1 x0 x1 x2 → SW D cI cT o aT aB aS g y9 z ad t1 u1 hs1 sn q1 f1 x0 x1 x2 H1 → va_S A H H1 locs → W p l e rm s m args below meth c H1 locs 0 0 Q (F0 m pc ls1 [.int r])) →
      W p l e rm s m args below meth c H [] 0 0 Q (F0 m 0 ls [])) : lc l D tys cI cT o aT aB aS g y9 z ad y ws rm av t u hs sn q f s0 s1 s2 Po := by
  intro sz
  refine Met.ofW (cc := cc) (maxL := nL) (ret := some ty) hpl hw ?_
  intro p e s m args below meth c s₁ B hml hv
  obtain ⟨rfl, hsz, hW, hK, hN, hD0⟩ := hv
  have hx := B.exec
  have hb := B.bytes
  have hr := B.returns
  have hts := atoms_spec (ws := ws) B.pre
  have hown : s.vm.findClass y.cls = some m.cls := findClass_of_methodNamed B.named
  have hlocks := B.notSynchronized
  subst hsz
  have hl := lv_entry av (n := nL) hlen
  rw [lg_entry_eq]
  refine body p e s m av.toArray below meth c s.heap (va_A (CWz cI cT o aT aB aS g y9 z ad) s.heap.size) _ _ ⟨hx, hb, hml, hown, hts⟩ hK hN (fun q h => Or.inr h) hD0.self hW va_S.rf hl ?_
  intro pc H1 locs ls1 r t1 u1 hs1 q1 f1 x0 x1 x2 hd hn hpo hW1 hS1
  exact W.zret (ty := ty) hx hb hr hn (fun T ht hW9 => ⟨_, t1, u1, hs1, q1, f1, x0, x1, x2, rfl, hpo, by rw [ht]; exact hW1, hS1.F ht⟩) hS1.2.2 hd
theorem lc_long (cc : ByteArray) (nL : Nat) (hpl : plainName y.cls = true) (hw : ws = Cond.code y cc nL (some .long) :: ws') (hlen : (lg_sl av).length ≤ nL)
    (body : ∀ (p : Program) (e : Env) (s : State) (m : MethodId) (args : Array Value) (below : List Frame) (meth : Method) (c : Code) (H : Heap) (A : Nat → Prop) (Q : State → Prop) (ls : Array Slot),
      CallFix p m c cc nL s args ws y.cls → va_K D vwCl tys s → eN s → (∀ q : Nat, H.size ≤ q → A q) → va_D A (CWz cI cT o aT aB aS g y9 z ad) → SW D cI cT o aT aB aS g y9 z ad t u hs sn q f s0 s1 s2 H → va_S A H H [] → lv_has ls nL (lv_args 0 av) →
      (∀ (pc : Nat) (H1 : Heap) (locs : List Loc) (ls1 : Array Slot) (r : Int64) (t1 : Pn) (u1 : Tr) (hs1 : List (Pn × Tr)) (q1 : Nat) (f1 : Nat → Int32) (x0 x1 x2 : Int32), decode cc pc = .ok (.lreturn, 1) → Po (.long r) t1 u1 hs1 q1 f1 x0 x1 x2 → SW D cI cT o aT aB aS g y9 z ad t1 u1 hs1 sn q1 f1 x0 x1 x2 H1 → va_S A H H1 locs → W p l e rm s m args below meth c H1 locs 0 0 Q (F0 m pc ls1 [.long r])) →
      W p l e rm s m args below meth c H [] 0 0 Q (F0 m 0 ls [])) : lc l D tys cI cT o aT aB aS g y9 z ad y ws rm av t u hs sn q f s0 s1 s2 Po := by
  intro sz
  refine Met.ofW (cc := cc) (maxL := nL) (ret := some .long) hpl hw ?_
  intro p e s m args below meth c s₁ B hml hv
  obtain ⟨rfl, hsz, hW, hK, hN, hD0⟩ := hv
  have hx := B.exec
  have hb := B.bytes
  have hr := B.returns
  have hts := atoms_spec (ws := ws) B.pre
  have hown : s.vm.findClass y.cls = some m.cls := findClass_of_methodNamed B.named
  have hlocks := B.notSynchronized
  subst hsz
  have hl := lv_entry av (n := nL) hlen
  rw [lg_entry_eq]
  refine body p e s m av.toArray below meth c s.heap (va_A (CWz cI cT o aT aB aS g y9 z ad) s.heap.size) _ _ ⟨hx, hb, hml, hown, hts⟩ hK hN (fun q h => Or.inr h) hD0.self hW va_S.rf hl ?_
  intro pc H1 locs ls1 r t1 u1 hs1 q1 f1 x0 x1 x2 hd hpo hW1 hS1
  exact W.lret hx hb hr (fun T ht hW9 => ⟨_, t1, u1, hs1, q1, f1, x0, x1, x2, rfl, hpo, by rw [ht]; exact hW1, hS1.F ht⟩) hS1.2.2 hd
end LB
section LC
variable {p : Program} {l : Launch} {e : Env} {R : Room} {s : State} {m : MethodId} {args : Array Value} {below : List Frame} {meth : Method} {c : Code} {H : Heap} {locs : List Loc} {cells slots : Nat} {Q : State → Prop}
variable {pc : Nat} {ls : Array Slot} {rest st : List Value} {A : Nat → Prop} {H0 : Heap} {D : va_G} {tys : eT} {cI cT : ClassId} {o aT aB aS g y9 z : Nat → Nat} {ad : Nat → Nat → Nat}
variable {cc bytes : ByteArray} {nL maxL index n : Nat} {own : String} {y : MethodName} {ret : Option FieldType} {rm : Room} {wsY Ts : List Cond} {As : List Value}
variable {t : Pn} {u : Tr} {hs : List (Pn × Tr)} {sn : Option (Pn × Tr)} {q : Nat} {f : Nat → Int32} {s0 s1 s2 : Int32} {Po : PoL}
/-- a call of one of the law's methods -/
theorem ej_L (S : CallFix p m c cc nL s args Ts own) (hK : va_K D vwCl tys s) (hN : eN s) (hA : ∀ q : Nat, H0.size ≤ q → A q) (hD : va_D A (CWz cI cT o aT aB aS g y9 z ad)) (hW : SW D cI cT o aT aB aS g y9 z ad t u hs sn q f s0 s1 s2 H) (hS : va_S A H0 H locs) (hM : lc l D tys cI cT o aT aB aS g y9 z ad y wsY rm As t u hs sn q f s0 s1 s2 Po)
    (cw : CallB R s args own index y bytes maxL ret wsY rm 0 0 n ∧ (Cond.static y).before args s = true)
    (hn : As.length = n) (hst : st = As.reverse ++ rest) (hsz : ls.size = nL) (hWc : (rest.map fun v => v.category).sum ≤ 8) (hdg : decode cc pc = .ok (.invokestatic index, 3)) (hf : cells ≤ R.cells ∧ slots ≤ R.slots)
    (kk : ∀ (v : Value) (t1 : Pn) (u1 : Tr) (hs1 : List (Pn × Tr)) (q1 : Nat) (f1 : Nat → Int32) (x0 x1 x2 : Int32) (H1 : Heap) (locs1 : List Loc), Po v t1 u1 hs1 q1 f1 x0 x1 x2 → SW D cI cT o aT aB aS g y9 z ad t1 u1 hs1 sn q1 f1 x0 x1 x2 H1 → va_S A H0 H1 locs1 → W p l e R s m args below meth c H1 locs1 cells slots Q (F0 m (pc + 3) ls (v :: rest))) : W p l e R s m args below meth c H locs cells slots Q (F0 m pc ls st) := by
  subst hst
  have hr := va_runS (e := e) (R := R) (below := below) (meth := meth) (H := H) (locs := locs) (cells := cells) (slots := slots) (g := F0 m pc ls (As.reverse ++ rest)) (As := As) (rest := rest) S (hM H.size) cw ⟨lcP_blind, lcP_at hW hK hN (hD.weaken (fun _ _ _ _ => trivial))⟩ rfl hn hsz rfl (lv_room hWc) hdg hf
  intro T hT X
  obtain ⟨v, st₀, T9, T', L, h0, X', hL, e1, e2, ⟨v1, t1, u1, hs1, q1, f1, x0, x1, x2, hv, hpo, hW1, hz, hk⟩, stp⟩ := hr T hT X
  cases hv
  rw [h0] at hz hk
  have hF : ∀ q, va_A (CWz cI cT o aT aB aS g y9 z ad) H.size q → A q := fun q h => by
    rcases h with ⟨k, e, h⟩ | h
    · exact hD.2 k (q, e) h
    · exact hA q (Nat.le_trans hS.1 h)
  obtain ⟨t2, a1, b1⟩ := kk v1 t1 u1 hs1 q1 f1 x0 x1 x2 T'.heap (locs ++ L) hpo (by rw [e1]; exact hW1)
    ⟨Nat.le_trans hS.1 (by rw [e1]; exact hz), fun q h1 h2 => by rw [e1, hk q (Nat.lt_of_lt_of_le h1 hS.1) (fun z => h2 (hF q z))]; exact hS.2.1 q h1 h2, fun q hq => by
      rcases List.mem_append.mp hq with h | h
      · exact hS.2.2 q h
      · exact hF _ (hL q h)⟩ T' rfl X'
  exact ⟨t2, stp t2 a1, b1⟩
/-- a call of a method that needs no cells -/
theorem ej_L0 {ov : Option Value} (S : CallFix p m c cc nL s args Ts own) (hK : va_K D vwCl tys s) (hN : eN s) (hA : ∀ q : Nat, H0.size ≤ q → A q) (hD : va_D A (CWz cI cT o aT aB aS g y9 z ad)) (hW : SW D cI cT o aT aB aS g y9 z ad t u hs sn q f s0 s1 s2 H) (hS : va_S A H0 H locs) (hM : fc l D tys y wsY rm As [] ov [])
    (cw : CallB R s args own index y bytes maxL ret wsY rm 0 0 n ∧ (Cond.static y).before args s = true)
    (hn : As.length = n) (hst : st = As.reverse ++ rest) (hsz : ls.size = nL) (hWc : (rest.map fun v => v.category).sum ≤ 8) (hdg : decode cc pc = .ok (.invokestatic index, 3)) (hf : cells ≤ R.cells ∧ slots ≤ R.slots)
    (kk : ∀ (H1 : Heap) (locs1 : List Loc), SW D cI cT o aT aB aS g y9 z ad t u hs sn q f s0 s1 s2 H1 → va_S A H0 H1 locs1 → W p l e R s m args below meth c H1 locs1 cells slots Q (F0 m (pc + 3) ls (ov.toList ++ rest))) : W p l e R s m args below meth c H locs cells slots Q (F0 m pc ls st) := by
  obtain ⟨sk, tb, ub, ts, us, ro, hp, f1, f2, h1, h2, h3, hP⟩ := hW
  exact ej_S (w' := CW cI cT o aT aB aS g y9 z ad sk s0 s1 s2 t u tb ub ts us hs.length ro hp q f f1 f2) S hK hN hA hP (va_D_key (CW_keyz cI cT o aT aB aS g y9 z ad sk s0 s1 s2 t u tb ub ts us hs.length ro hp q f f1 f2) hD) hS hM cw [] [] [] rfl rfl ⟨rfl, rfl⟩ rfl rfl hn hst hsz hWc hdg hf (fun H1 l1 hP1 _ hS1 => kk H1 l1 ⟨sk, tb, ub, ts, us, ro, hp, f1, f2, h1, h2, h3, hP1⟩ hS1)
theorem SW_len (hW : SW D cI cT o aT aB aS g y9 z ad t u hs sn q f s0 s1 s2 H) : hs.length ≤ 4 := by
  obtain ⟨sk, tb, ub, ts, us, ro, hp, f1, f2, h1, h2, h3, hP⟩ := hW
  exact h1.2.1
theorem SW_q (hW : SW D cI cT o aT aB aS g y9 z ad t u hs sn q f s0 s1 s2 H) : q ≤ 60 := by
  obtain ⟨sk, tb, ub, ts, us, ro, hp, f1, f2, h1, h2, h3, hP⟩ := hW
  exact h1.2.2
end LC
