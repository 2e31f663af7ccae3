/-! ===== lot: a number of the script, or one of its own ===== -/
def ltP (bs L : Nat) (xs : Nat → Int32) (sz : Nat) : State → Prop := fun U => U.heap.size = sz ∧ va_X bs L xs U U.heap ∧ bs < sz
def ltQ (sz : Nat) : Array Value → State → Outcome → State → Prop := fun _ st oc T => ∃ r : Int32, oc = .returned (some (.int r)) ∧ va_F (fun q => sz ≤ q) st T
theorem c_lot (l : Launch) (bs L k : Nat) (xs : Nat → Int32) (hL : L ≤ 260) (hk : k < 1000) (sz : Nat) : Met l yL_lot wsL_lot (eR 1 60) (va_Pc [.ref bs, .int (nI k)] (ltP bs L xs sz)) (ltQ sz) 0 0 (fun q => sz ≤ q) := by
  refine Met.ofW (cc := cL_lot) (maxL := 2) (ret := some .int) (by decide +kernel) rfl ?_
  intro p e s m args below meth c s₁ B hml hv
  obtain ⟨rfl, hsz, hX, hbl⟩ := hv
  have hx := B.exec
  have hb : c.code = cL_lot := B.bytes
  have hr := B.returns
  have hts := atoms_spec (ws := wsL_lot) B.pre
  have hown : s.vm.findClass RL = some m.cls := findClass_of_methodNamed B.named
  have hlocks := B.notSynchronized
  subst hsz
  have hbA : ¬ (fun q => s.heap.size ≤ q) bs := Nat.not_le.mpr hbl
  have hS : va_S (fun q => s.heap.size ≤ q) s.heap s.heap [] := va_S.rf
  have hl := lv_entry ([.ref bs, .int (nI k)]) (n := 2) (Nat.le_of_ble_eq_true rfl)
  rw [lg_entry_eq]
  generalize (lg_sl ([.ref bs, .int (nI k)]) ++ List.replicate (2 - (lg_sl ([.ref bs, .int (nI k)])).length) Slot.unset).toArray = ls at hl ⊢
  have hl : lv_has ls 2 [(0, .ref bs), (1, .int (nI k))] := hl
  refine lv_iload_n hx hb dL_lot_0 rfl (lv_at hl 1 rfl) ?_
  refine lv_aload_n hx hb dL_lot_1 rfl (lv_at hl 0 rfl) ?_
  refine va_slen hx hb hX hbl hbA hS dL_lot_2 ?_
  refine lv_icmp_ge (tgt := 12) hx hb dL_lot_3 (by decide) (fun c_3 => ?_) (fun c_3 => ?_)
  · refine lv_ldc (v := 622726765) hx hb hown (hts (.constant RL 7 (622726765)) (List.mem_of_getElem? (i := 1) rfl)) dL_lot_12 ?_
    refine lv_iload_n hx hb dL_lot_14 rfl (lv_at hl 1 rfl) ?_
    refine lv_sipush (v := 4801) hx hb dL_lot_15 (by decide) ?_
    refine lv_iadd hx hb dL_lot_18 ?_
    refine lv_imul hx hb dL_lot_19 ?_
    refine lv_sipush (v := 4591) hx hb dL_lot_20 (by decide) ?_
    refine lv_iadd hx hb dL_lot_23 ?_
    exact W.zret (ty := .int) hx hb hr rfl (fun T ht hW => ⟨_, rfl, hS.F ht⟩) hS.2.2 dL_lot_24
  · have n_3 : k < L := ej_tnle (a := L) (b := k) (by omega) (by omega) c_3
    refine lv_aload_n hx hb dL_lot_6 rfl (lv_at hl 0 rfl) ?_
    refine lv_iload_n hx hb dL_lot_7 rfl (lv_at hl 1 rfl) ?_
    refine va_sld hx hb hX hbl hbA hS (vp_in_nI (n := k) (N := L) n_3 (by omega)) dL_lot_8 ?_
    refine lv_goto (tgt := 24) hx hb dL_lot_9 (by decide) ?_
    exact W.zret (ty := .int) hx hb hr rfl (fun T ht hW => ⟨_, rfl, hS.F ht⟩) hS.2.2 dL_lot_24
theorem ltP_blind {bs L sz : Nat} {xs : Nat → Int32} {av : List Value} : FrameBlind (va_Pc av (ltP bs L xs sz)) := fun a U g mk q => by
  obtain ⟨q0, q1, qX, ql⟩ := q
  exact ⟨q0, q1, va_X.moved (u := U) (U := U.calling g mk a) (Vm.Alike.refl U.vm) qX, ql⟩
section LT
variable {p : Program} {l : Launch} {e : Env} {R : Room} {s : State} {m : MethodId} {args : Array Value} {below : List Frame} {meth : Method} {c : Code} {H : Heap} {locs : List Loc} {cells slots : Nat} {Q : State → Prop}
variable {pc : Nat} {ls : Array Slot} {rest st : List Value} {A : Nat → Prop} {H0 : Heap} {D : va_G} {tys : eT} {cI cT : ClassId} {o aT aB aS g y9 z : Nat → Nat} {ad : Nat → Nat → Nat}
variable {cc bytes : ByteArray} {nL maxL index n : Nat} {own : String} {ret : Option FieldType} {Ts : List Cond}
variable {t : Pn} {u : Tr} {hs : List (Pn × Tr)} {sn : Option (Pn × Tr)} {q : Nat} {f : Nat → Int32} {s0 s1 s2 : Int32}
theorem SW_keep {H1 : Heap} (hW : SW D cI cT o aT aB aS g y9 z ad t u hs sn q f s0 s1 s2 H) (hk : ∀ q : Nat, q < H.size → H1[q]? = H[q]?) : SW D cI cT o aT aB aS g y9 z ad t u hs sn q f s0 s1 s2 H1 := by
  obtain ⟨sk, tb, ub, ts, us, ro, hp, f1, f2, h1, h2, h3, hP⟩ := hW
  exact ⟨sk, tb, ub, ts, us, ro, hp, f1, f2, h1, h2, h3, fun k x hx => (hP k x hx).kept (hk x.1 (hP k x hx).lt)⟩
theorem ej_lot {bs L k : Nat} {xs : Nat → Int32} (S : CallFix p m c cc nL s args Ts own) (hA : ∀ q : Nat, H0.size ≤ q → A q) (hX : va_X bs L xs s H0) (hbl : bs < H0.size) (hbA : ¬ A bs) (hL : L ≤ 260) (hk9 : k < 1000) (hW : SW D cI cT o aT aB aS g y9 z ad t u hs sn q f s0 s1 s2 H) (hS : va_S A H0 H locs)
    (cw : CallB R s args own index yL_lot bytes maxL ret wsL_lot (eR 1 60) 0 0 n ∧ (Cond.static yL_lot).before args s = true)
    (hn : 2 = n) (hst : st = [.int (nI k), .ref bs] ++ rest) (hsz : ls.size = nL) (hWc : (rest.map fun v => v.category).sum ≤ 8) (hdg : decode cc pc = .ok (.invokestatic index, 3)) (hf : cells ≤ R.cells ∧ slots ≤ R.slots)
    (kk : ∀ (r : Int32) (H1 : Heap) (locs1 : List Loc), SW D cI cT o aT aB aS g y9 z ad t u hs sn q f s0 s1 s2 H1 → va_S A H0 H1 locs1 → W p l e R s m args below meth c H1 locs1 cells slots Q (F0 m (pc + 3) ls (.int r :: rest))) : W p l e R s m args below meth c H locs cells slots Q (F0 m pc ls st) := by
  subst hst
  have hr := va_runS (e := e) (R := R) (below := below) (meth := meth) (H := H) (locs := locs) (cells := cells) (slots := slots) (g := F0 m pc ls ([.int (nI k), .ref bs] ++ rest)) (As := [.ref bs, .int (nI k)]) (rest := rest) S (c_lot l bs L k xs hL hk9 H.size) cw ⟨ltP_blind, fun U hU hW9 => ⟨rfl, by rw [hU], by rw [hU]; exact (hX.kept (hS.2.1 bs hbl hbA)).moved hW9.alike, Nat.lt_of_lt_of_le hbl hS.1⟩⟩ rfl hn hsz rfl (lv_room hWc) hdg hf
  intro T hT X
  obtain ⟨v, st₀, T9, T', L9, h0, X', hL9, e1, e2, ⟨r, hv, hz, hk⟩, stp⟩ := hr T hT X
  cases hv
  rw [h0] at hz hk
  have hF : ∀ q, H.size ≤ q → A q := fun q h => hA q (Nat.le_trans hS.1 h)
  obtain ⟨t2, a1, b1⟩ := kk r T'.heap (locs ++ L9) (SW_keep hW (fun q h => by rw [e1]; exact hk q h (Nat.not_le.mpr h)))
    ⟨Nat.le_trans hS.1 (by rw [e1]; exact hz), fun q h1 h2 => by rw [e1, hk q (Nat.lt_of_lt_of_le h1 hS.1) (fun z => h2 (hF q z))]; exact hS.2.1 q h1 h2, fun q hq => by
      rcases List.mem_append.mp hq with h | h
      · exact hS.2.2 q h
      · exact hF _ (hL9 q h)⟩ T' rfl X'
  exact ⟨t2, stp t2 a1, b1⟩
end LT
/-! ===== the law's invariant ===== -/
/-- bounds of the table, of the states of the history, and of the snapshot -/
def LJ (m : Nat) (t : Pn) (u : Tr) (hs : List (Pn × Tr)) (x : Pn × Tr) : Prop := okS m t u ∧ (∀ y : Pn × Tr, y ∈ hs → okS m y.1 y.2) ∧ okS m x.1 x.2
theorem LJ_up {m m' : Nat} {t : Pn} {u : Tr} {hs : List (Pn × Tr)} {x : Pn × Tr} (h : LJ m t u hs x) (hm : m ≤ m') : LJ m' t u hs x := ⟨okS_up h.1 hm, fun y hy => okS_up (h.2.1 y hy) hm, okS_up h.2.2 hm⟩
theorem LJ_rec {m : Nat} {t t1 : Pn} {u u1 : Tr} {hs : List (Pn × Tr)} {x : Pn × Tr} (h : LJ m t u hs x) (h1 : okS m t1 u1) : LJ m t1 u1 (recL hs (t, u)) x := by
  refine ⟨h1, fun y hy => ?_, h.2.2⟩
  unfold recL at hy
  rcases List.mem_append.mp hy with z | z
  · split at z
    · exact h.2.1 y (List.mem_of_mem_drop z)
    · exact h.2.1 y z
  · rw [List.mem_singleton.mp z]; exact h.1
theorem LJ_drop {m : Nat} {t : Pn} {u : Tr} {hs : List (Pn × Tr)} {x : Pn × Tr} (h : LJ m t u hs x) : LJ m t u (if hs.length = 4 then hs.drop 1 else hs) (t, u) := by
  refine ⟨h.1, fun y hy => ?_, h.1⟩
  split at hy
  · exact h.2.1 y (List.mem_of_mem_drop hy)
  · exact h.2.1 y hy
theorem LJ_undo {m : Nat} {t : Pn} {u : Tr} {hs hs0 : List (Pn × Tr)} {x y : Pn × Tr} (h : LJ m t u hs x) (he : hs = hs0 ++ [y]) : LJ m y.1 y.2 hs0 x := by
  subst he
  exact ⟨h.2.1 y (List.mem_append.mpr (Or.inr (List.mem_singleton.mpr rfl))), fun w hw => h.2.1 w (List.mem_append.mpr (Or.inl hw)), h.2.2⟩
theorem okS_00 : okS 0 t00 u00 := by
  refine ⟨⟨Or.inr (Or.inl rfl), fun _ _ => Or.inl rfl, fun _ _ => Or.inl rfl, fun _ _ _ => rfl⟩, ⟨⟨20, fun _ => 0, 0, rfl, fun _ _ => rfl, rfl, rfl⟩, fun k hk => ?_⟩, ⟨fun p _ => ⟨3, by decide, rfl⟩, fun p _ => Or.inl rfl⟩, ⟨3, by decide, by decide, rfl⟩, ⟨0, 0, 0, 0, by decide, by decide, by decide, by decide, rfl, rfl, rfl, rfl⟩, fun r _ => rfl, rfl, fun k _ => ⟨0, Nat.le_refl _, rfl⟩⟩
  rcases (show k = 0 ∨ k = 1 ∨ k = 2 ∨ k = 3 ∨ k = 4 ∨ k = 5 ∨ k = 6 by omega) with h | h | h | h | h | h | h <;> subst h
  · exact ⟨4, by decide, rfl⟩
  · exact ⟨3, by decide, rfl⟩
  · exact ⟨2, by decide, rfl⟩
  · exact ⟨1, by decide, rfl⟩
  · exact ⟨2, by decide, rfl⟩
  · exact ⟨3, by decide, rfl⟩
  · exact ⟨4, by decide, rfl⟩
theorem rec_len_lt {hs : List (Pn × Tr)} (x : Pn × Tr) (hn : ¬ hs.length = 4) : recL hs x = hs ++ [x] := by unfold recL; rw [if_neg hn]
theorem rec_drop_len {hs : List (Pn × Tr)} (h : hs.length ≤ 4) : (if hs.length = 4 then hs.drop 1 else hs).length ≤ 4 := by
  split
  · rw [List.length_drop]; omega
  · exact h
theorem snoc_cases (hs : List (Pn × Tr)) : hs = [] ∨ ∃ (hs0 : List (Pn × Tr)) (y : Pn × Tr), hs = hs0 ++ [y] := by
  rcases List.eq_nil_or_concat hs with h | ⟨l, y, h⟩
  · exact Or.inl h
  · exact Or.inr ⟨l, y, by rw [h, List.concat_eq_append]⟩
