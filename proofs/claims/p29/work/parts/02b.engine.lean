/-! ===== contracts of methods that answer a value told by their cells, and write cells told by their cells ===== -/
/-- what the tables say of members that nest mates call, and of rows of tables -/
def eN (U : State) : Prop := va_Nw (.methodLinkNest RX5 11 yX2_init RX6) U ∧ va_Nw (.methodLinkNest RX6 35 yX3_init RX6) U ∧ va_Nw (.methodLinkNest RX6 42 yX1_init RX6) U ∧ va_Nw (.methodLinkNest RX2 87 yX6_pinAt RX6) U ∧ va_Nw (.methodLinkNest RX2 70 yX6_isWithin RX6) U ∧ va_Nw (.methodLinkNest RX2 83 yX6_placeBeside RX6) U ∧ va_Nw (.methodLinkNest RX1 43 yX6_isWithin RX6) U ∧ va_Nw (.methodLinkNest RX3 34 yX6_isIn RX6) U ∧ va_Nw (.methodLinkNest RX3 42 yX6_pinAt RX6) U ∧ va_Nw (.methodLinkNest RX2 77 yX6_bit RX6) U ∧ va_Nw (.methodLinkNest RX3 30 yX6_bit RX6) U ∧ va_AO RX5 U
theorem eN.warm {s U : State} (hW : s.WarmedH U.vm) (h : eN s) : eN U := by
  obtain ⟨h1, h2, h3, h4, h5, h6, h7, h8, h9, h10, h11, h12⟩ := h
  exact ⟨va_Nw.warmM hW h1, va_Nw.warmM hW h2, va_Nw.warmM hW h3, va_Nw.warmM hW h4, va_Nw.warmM hW h5, va_Nw.warmM hW h6, va_Nw.warmM hW h7, va_Nw.warmM hW h8, va_Nw.warmM hW h9, va_Nw.warmM hW h10, va_Nw.warmM hW h11, va_AO.moved hW.alike h12⟩
theorem eN.same {u U : State} (h : u.vm = U.vm) (hN : eN u) : eN U := by
  obtain ⟨h1, h2, h3, h4, h5, h6, h7, h8, h9, h10, h11, h12⟩ := hN
  exact ⟨va_Nw.same rfl h h1, va_Nw.same rfl h h2, va_Nw.same rfl h h3, va_Nw.same rfl h h4, va_Nw.same rfl h h5, va_Nw.same rfl h h6, va_Nw.same rfl h h7, va_Nw.same rfl h h8, va_Nw.same rfl h h9, va_Nw.same rfl h h10, va_Nw.same rfl h h11, va_AO.moved (by rw [h]; exact Vm.Alike.refl _) h12⟩
abbrev eR (f k : Nat) : Room := { frames := f, cells := 0, slots := 0, locals := k }
abbrev eT : Type := List (ClassId × FieldType)
def fcP (D : va_G) (tys : eT) (wc : va_W) (sz : Nat) : State → Prop := fun U => U.heap.size = sz ∧ va_P D vwCl wc U.heap ∧ va_K D vwCl tys U ∧ eN U ∧ va_D (fun _ => True) wc
def fcQ (D : va_G) (wc : va_W) (sz : Nat) (ov : Option Value) (w1 : va_W) : Array Value → State → Outcome → State → Prop := fun _ st oc t => oc = .returned ov ∧ va_P D vwCl w1 t.heap ∧ va_F (va_A wc sz) st t
/-- the method y, with the arguments av and its cells wc, returns ov, and its cells are w1 then; nothing else is changed -/
def fc (l : Launch) (D : va_G) (tys : eT) (y : MethodName) (ws : List Cond) (rm : Room) (av : List Value) (wc : va_W) (ov : Option Value) (w1 : va_W) : Prop :=
  ∀ sz : Nat, Met l y ws rm (va_Pc av (fcP D tys wc sz)) (fcQ D wc sz ov w1) 0 0 (va_A wc sz)
theorem fcP_blind {D : va_G} {tys : eT} {wc : va_W} {sz : Nat} {av : List Value} : FrameBlind (va_Pc av (fcP D tys wc sz)) := fun a U g mk q => by
  obtain ⟨q0, q1, qP, qK, qN, qD⟩ := q
  exact ⟨q0, q1, qP, va_K.moved (u := U) (U := U.calling g mk a) (Vm.Alike.refl U.vm) qK, eN.same rfl qN, qD⟩
theorem fcP_at {D : va_G} {tys : eT} {wc : va_W} {H : Heap} {s : State} {av : List Value} (hP : va_P D vwCl wc H) (hK : va_K D vwCl tys s) (hN : eN s) (hD : va_D (fun _ => True) wc) : ∀ U : State, U.heap = H → s.WarmedH U.vm → va_Pc av (fcP D tys wc H.size) av.toArray U := fun U hU hW =>
  ⟨rfl, by rw [hU], by rw [hU]; exact hP, va_K.moved hW.alike hK, eN.warm hW hN, hD⟩
section EO
variable {l : Launch} {D : va_G} {tys : eT} {y : MethodName} {ws ws' : List Cond} {rm : Room} {av : List Value} {wc w1 : va_W}
theorem fc_int {v : Int32} {ty : FieldType} (cc : ByteArray) (nL : Nat) (hpl : plainName y.cls = true) (hw : ws = Cond.code y cc nL (some ty) :: ws') (hn : narrow ty (.int v) = .int v) (hlen : (lg_sl av).length ≤ nL)
    (body : ∀ (p : Program) (e : Env) (s : State) (m : MethodId) (args : Array Value) (below : List Frame) (meth : Method) (c : Code) (H : Heap) (A : Nat → Prop) (Q : State → Prop) (ls : Array Slot),
      CallFix p m c cc nL s args ws y.cls → va_K D vwCl tys s → eN s → (∀ q : Nat, H.size ≤ q → A q) → va_P D vwCl wc H → va_D A wc → va_S A H H [] → lv_has ls nL (lv_args 0 av) →
      (∀ (pc : Nat) (H1 : Heap) (locs : List Loc) (ls1 : Array Slot) (r : Int32) (w : va_W), decode cc pc = .ok (.ireturn, 1) → r = v → w = w1 → va_P D vwCl w H1 → va_S A H H1 locs → W p l e rm s m args below meth c H1 locs 0 0 Q (F0 m pc ls1 [.int r])) →
      W p l e rm s m args below meth c H [] 0 0 Q (F0 m 0 ls [])) : fc l D tys y ws rm av wc (some (.int v)) w1 := by
  intro sz
  refine Met.ofW (cc := cc) (maxL := nL) (ret := some ty) hpl hw ?_
  intro p e s m args below meth c s₁ B hml hv
  obtain ⟨rfl, hsz, hP, hK, hN, hD0⟩ := hv
  have hx := B.exec
  have hb := B.bytes
  have hr := B.returns
  have hts := atoms_spec (ws := ws) B.pre
  have hown : s.vm.findClass y.cls = some m.cls := findClass_of_methodNamed B.named
  have hlocks := B.notSynchronized
  subst hsz
  have hl := lv_entry av (n := nL) hlen
  rw [lg_entry_eq]
  refine body p e s m av.toArray below meth c s.heap (va_A wc s.heap.size) _ _ ⟨hx, hb, hml, hown, hts⟩ hK hN (fun q h => Or.inr h) hP (hD0.self) va_S.rf hl ?_
  intro pc H1 locs ls1 r w hd hrv hww hP1 hS1
  subst hrv
  subst hww
  exact W.zret (ty := ty) hx hb hr hn (fun t ht hW => ⟨rfl, by rw [ht]; exact hP1, hS1.F ht⟩) hS1.2.2 hd
theorem fc_void (cc : ByteArray) (nL : Nat) (hpl : plainName y.cls = true) (hw : ws = Cond.code y cc nL none :: ws') (hlen : (lg_sl av).length ≤ nL)
    (body : ∀ (p : Program) (e : Env) (s : State) (m : MethodId) (args : Array Value) (below : List Frame) (meth : Method) (c : Code) (H : Heap) (A : Nat → Prop) (Q : State → Prop) (ls : Array Slot),
      CallFix p m c cc nL s args ws y.cls → va_K D vwCl tys s → eN s → (∀ q : Nat, H.size ≤ q → A q) → va_P D vwCl wc H → va_D A wc → va_S A H H [] → lv_has ls nL (lv_args 0 av) →
      (∀ (pc : Nat) (H1 : Heap) (locs : List Loc) (ls1 : Array Slot) (w : va_W), decode cc pc = .ok (.return_, 1) → w = w1 → va_P D vwCl w H1 → va_S A H H1 locs → W p l e rm s m args below meth c H1 locs 0 0 Q (F0 m pc ls1 [])) →
      W p l e rm s m args below meth c H [] 0 0 Q (F0 m 0 ls [])) : fc l D tys y ws rm av wc none w1 := by
  intro sz
  refine Met.ofW (cc := cc) (maxL := nL) (ret := none) hpl hw ?_
  intro p e s m args below meth c s₁ B hml hv
  obtain ⟨rfl, hsz, hP, hK, hN, hD0⟩ := hv
  have hx := B.exec
  have hb := B.bytes
  have hr := B.returns
  have hts := atoms_spec (ws := ws) B.pre
  have hown : s.vm.findClass y.cls = some m.cls := findClass_of_methodNamed B.named
  have hlocks := B.notSynchronized
  subst hsz
  have hl := lv_entry av (n := nL) hlen
  rw [lg_entry_eq]
  refine body p e s m av.toArray below meth c s.heap (va_A wc s.heap.size) _ _ ⟨hx, hb, hml, hown, hts⟩ hK hN (fun q h => Or.inr h) hP (hD0.self) va_S.rf hl ?_
  intro pc H1 locs ls1 w hd hww hP1 hS1
  subst hww
  exact W.vret hx hb hr (fun t ht hW => ⟨rfl, by rw [ht]; exact hP1, hS1.F ht⟩) hS1.2.2 hd
theorem fc_ref {a : Nat} {ty : FieldType} (cc : ByteArray) (nL : Nat) (hpl : plainName y.cls = true) (hw : ws = Cond.code y cc nL (some ty) :: ws') (hrt : ∃ n, ty = .object n) (hlen : (lg_sl av).length ≤ nL)
    (body : ∀ (p : Program) (e : Env) (s : State) (m : MethodId) (args : Array Value) (below : List Frame) (meth : Method) (c : Code) (H : Heap) (A : Nat → Prop) (Q : State → Prop) (ls : Array Slot),
      CallFix p m c cc nL s args ws y.cls → va_K D vwCl tys s → eN s → (∀ q : Nat, H.size ≤ q → A q) → va_P D vwCl wc H → va_D A wc → va_S A H H [] → lv_has ls nL (lv_args 0 av) →
      (∀ (pc : Nat) (H1 : Heap) (locs : List Loc) (ls1 : Array Slot) (r : Nat) (w : va_W), decode cc pc = .ok (.areturn, 1) → r = a → w = w1 → va_P D vwCl w H1 → va_S A H H1 locs → W p l e rm s m args below meth c H1 locs 0 0 Q (F0 m pc ls1 [.ref r])) →
      W p l e rm s m args below meth c H [] 0 0 Q (F0 m 0 ls [])) : fc l D tys y ws rm av wc (some (.ref a)) w1 := by
  intro sz
  refine Met.ofW (cc := cc) (maxL := nL) (ret := some ty) hpl hw ?_
  intro p e s m args below meth c s₁ B hml hv
  obtain ⟨rfl, hsz, hP, hK, hN, hD0⟩ := hv
  have hx := B.exec
  have hb := B.bytes
  have hr := B.returns
  have hts := atoms_spec (ws := ws) B.pre
  have hown : s.vm.findClass y.cls = some m.cls := findClass_of_methodNamed B.named
  have hlocks := B.notSynchronized
  subst hsz
  have hl := lv_entry av (n := nL) hlen
  rw [lg_entry_eq]
  refine body p e s m av.toArray below meth c s.heap (va_A wc s.heap.size) _ _ ⟨hx, hb, hml, hown, hts⟩ hK hN (fun q h => Or.inr h) hP (hD0.self) va_S.rf hl ?_
  intro pc H1 locs ls1 r w hd hrv hww hP1 hS1
  subst hrv
  subst hww
  exact W.aret (v := .ref r) hx hb hr (Or.inl hrt) (Or.inr ⟨_, rfl⟩) (fun t ht hW => ⟨rfl, by rw [ht]; exact hP1, hS1.F ht⟩) hS1.2.2 hd
theorem fc_dbl {v : UInt64} (cc : ByteArray) (nL : Nat) (hpl : plainName y.cls = true) (hw : ws = Cond.code y cc nL (some .double) :: ws') (hlen : (lg_sl av).length ≤ nL)
    (body : ∀ (p : Program) (e : Env) (s : State) (m : MethodId) (args : Array Value) (below : List Frame) (meth : Method) (c : Code) (H : Heap) (A : Nat → Prop) (Q : State → Prop) (ls : Array Slot),
      CallFix p m c cc nL s args ws y.cls → va_K D vwCl tys s → eN s → (∀ q : Nat, H.size ≤ q → A q) → va_P D vwCl wc H → va_D A wc → va_S A H H [] → lv_has ls nL (lv_args 0 av) →
      (∀ (pc : Nat) (H1 : Heap) (locs : List Loc) (ls1 : Array Slot) (r : UInt64) (w : va_W), decode cc pc = .ok (.dreturn, 1) → r = v → w = w1 → va_P D vwCl w H1 → va_S A H H1 locs → W p l e rm s m args below meth c H1 locs 0 0 Q (F0 m pc ls1 [.double r])) →
      W p l e rm s m args below meth c H [] 0 0 Q (F0 m 0 ls [])) : fc l D tys y ws rm av wc (some (.double v)) w1 := by
  intro sz
  refine Met.ofW (cc := cc) (maxL := nL) (ret := some .double) hpl hw ?_
  intro p e s m args below meth c s₁ B hml hv
  obtain ⟨rfl, hsz, hP, hK, hN, hD0⟩ := hv
  have hx := B.exec
  have hb := B.bytes
  have hr := B.returns
  have hts := atoms_spec (ws := ws) B.pre
  have hown : s.vm.findClass y.cls = some m.cls := findClass_of_methodNamed B.named
  have hlocks := B.notSynchronized
  subst hsz
  have hl := lv_entry av (n := nL) hlen
  rw [lg_entry_eq]
  refine body p e s m av.toArray below meth c s.heap (va_A wc s.heap.size) _ _ ⟨hx, hb, hml, hown, hts⟩ hK hN (fun q h => Or.inr h) hP (hD0.self) va_S.rf hl ?_
  intro pc H1 locs ls1 r w hd hrv hww hP1 hS1
  subst hrv
  subst hww
  exact W.dret hx hb hr (fun t ht hW => ⟨rfl, by rw [ht]; exact hP1, hS1.F ht⟩) hS1.2.2 hd
end EO
theorem ej_pick {ws wc : va_W} {is : List Nat} (hC : is.map (fun i => ws[i]?) = wc.map some) (k : Nat) (q : Nat × va_E) (hq : wc[k]? = some q) : ∃ i, is[k]? = some i ∧ ws[i]? = some q := by
  have h1 : (is.map (fun i => ws[i]?))[k]? = some (some q) := by rw [hC, List.getElem?_map, hq]; rfl
  rw [List.getElem?_map] at h1
  cases hi : is[k]? with
  | none => rw [hi] at h1; cases h1
  | some i => rw [hi] at h1; exact ⟨i, rfl, Option.some.inj h1⟩
theorem ej_pick' {ws wc : va_W} {is : List Nat} (hC : is.map (fun i => ws[i]?) = wc.map some) (k i : Nat) (hi : is[k]? = some i) : ∃ q, wc[k]? = some q ∧ ws[i]? = some q := by
  have h1 : (is.map (fun i => ws[i]?))[k]? = some (ws[i]?) := by rw [List.getElem?_map, hi]; rfl
  rw [hC, List.getElem?_map] at h1
  cases hq : wc[k]? with
  | none => rw [hq] at h1; cases h1
  | some q => rw [hq] at h1; exact ⟨q, rfl, (Option.some.inj h1).symm⟩
theorem ej_len {ws wc : va_W} {is : List Nat} (hC : is.map (fun i => ws[i]?) = wc.map some) : is.length = wc.length := by
  have h := congrArg List.length hC
  simpa using h
/-- the cells of w, where the list ms says none, else those of w1 at the place that it says -/
def ej_mix : List (Option Nat) → va_W → va_W → va_W
  | [], w, _ => w
  | _ :: _, [], _ => []
  | none :: ms, c :: w, w1 => c :: ej_mix ms w w1
  | some j :: ms, c :: w, w1 => (w1[j]?).getD c :: ej_mix ms w w1
/-- ms and the places is say the same -/
def ej_cov (is : List Nat) (ms : List (Option Nat)) : Bool := (is.all (fun k => decide (k < ms.length))) && (List.range ms.length).all (fun k => match ms[k]? with
  | some (some j) => decide (is[j]? = some k)
  | _ => decide (k ∉ is))
theorem ej_mix_at : ∀ (ms : List (Option Nat)) (w w1 : va_W) (k : Nat) (q : Nat × va_E), (ej_mix ms w w1)[k]? = some q → w[k]? = some q ∧ (ms[k]? = some none ∨ ms.length ≤ k) ∨ ∃ j : Nat, ms[k]? = some (some j) ∧ (w1[j]? = some q ∨ (w1[j]? = none ∧ w[k]? = some q)) := by
  intro ms
  induction ms with
  | nil =>
    intro w w1 k q h
    rw [ej_mix] at h
    exact Or.inl ⟨h, Or.inr (Nat.zero_le _)⟩
  | cons x ms ih =>
    intro w w1 k q h
    cases w with
    | nil =>
      cases x <;> simp [ej_mix] at h
    | cons c w =>
      cases x with
      | none =>
        rw [ej_mix] at h
        cases k with
        | zero => exact Or.inl ⟨h, Or.inl rfl⟩
        | succ k =>
          rcases ih w w1 k q (by simpa using h) with ⟨h1, h2⟩ | ⟨j, h1, h2⟩
          · exact Or.inl ⟨by simpa using h1, by simpa using h2⟩
          · exact Or.inr ⟨j, by simpa using h1, by simpa using h2⟩
      | some j =>
        rw [ej_mix] at h
        cases k with
        | zero =>
          refine Or.inr ⟨j, rfl, ?_⟩
          cases hj : w1[j]? with
          | none =>
            rw [hj] at h
            exact Or.inr ⟨rfl, h⟩
          | some z =>
            rw [hj] at h
            exact Or.inl h
        | succ k =>
          rcases ih w w1 k q (by simpa using h) with ⟨h1, h2⟩ | ⟨j, h1, h2⟩
          · exact Or.inl ⟨by simpa using h1, by simpa using h2⟩
          · exact Or.inr ⟨j, by simpa using h1, by simpa using h2⟩
theorem ej_at {w w' w1 wc : va_W} {is : List Nat} {ms : List (Option Nat)} {as : List Nat} (hC : is.map (fun i => w[i]?) = wc.map some) (ha : w1.map (·.1) = as ∧ wc.map (·.1) = as) (hw : ej_mix ms w w1 = w') (hcov : ej_cov is ms = true) (k : Nat) (q : Nat × va_E) (h : w'[k]? = some q) : (k ∉ is ∧ w[k]? = some q) ∨ ∃ j : Nat, is[j]? = some k ∧ w1[j]? = some q := by
  subst hw
  have hl1 : w1.length = wc.length := by have := congrArg List.length (ha.1.trans ha.2.symm); simpa using this
  rw [ej_cov, Bool.and_eq_true] at hcov
  obtain ⟨hv1, hv2⟩ := hcov
  rcases ej_mix_at ms w w1 k q h with ⟨h1, h2⟩ | ⟨j, h1, h2⟩
  · left
    refine ⟨fun hm => ?_, h1⟩
    rcases h2 with h2 | h2
    · have hk : k < ms.length := (List.getElem?_eq_some_iff.mp h2).1
      have := List.all_eq_true.mp hv2 k (List.mem_range.mpr hk)
      rw [h2] at this
      exact of_decide_eq_true this hm
    · have := of_decide_eq_true (List.all_eq_true.mp hv1 k hm)
      omega
  · right
    have hk : k < ms.length := (List.getElem?_eq_some_iff.mp h1).1
    have h3 := List.all_eq_true.mp hv2 k (List.mem_range.mpr hk)
    rw [h1] at h3
    have h4 : is[j]? = some k := of_decide_eq_true h3
    refine ⟨j, h4, ?_⟩
    rcases h2 with h2 | ⟨h2, h5⟩
    · exact h2
    · obtain ⟨x, e1, e2⟩ := ej_pick' hC j k h4
      have l1 : j < wc.length := (List.getElem?_eq_some_iff.mp e1).1
      have l2 : w1.length ≤ j := List.getElem?_eq_none_iff.mp h2
      omega
theorem ej_key {w w' wc w1 : va_W} {is as : List Nat} {ms : List (Option Nat)} (hC : is.map (fun i => w[i]?) = wc.map some) (ha : w1.map (·.1) = as ∧ wc.map (·.1) = as) (hw : ej_mix ms w w1 = w') (hcov : ej_cov is ms = true) (k : Nat) (q : Nat × va_E) (h : w'[k]? = some q) : ∃ e, w[k]? = some (q.1, e) := by
  rcases ej_at hC ha hw hcov k q h with ⟨_, h2⟩ | ⟨j, h1, h2⟩
  · exact ⟨q.2, h2⟩
  · obtain ⟨x, h3, h4⟩ := ej_pick' hC j k h1
    have h5 : (w1.map (·.1))[j]? = some q.1 := by rw [List.getElem?_map, h2]; rfl
    rw [ha.1, ← ha.2, List.getElem?_map, h3] at h5
    have h6 : x.1 = q.1 := Option.some.inj h5
    exact ⟨x.2, by rw [← h6]; exact h4⟩
theorem ej_D {A : Nat → Prop} {w w' wc w1 : va_W} {is as : List Nat} {ms : List (Option Nat)} (hD : va_D A w) (hC : is.map (fun i => w[i]?) = wc.map some) (ha : w1.map (·.1) = as ∧ wc.map (·.1) = as) (hw : ej_mix ms w w1 = w') (hcov : ej_cov is ms = true) : va_D A w' := by
  refine ⟨fun i j x y hi hj hxy => ?_, fun k q hk => ?_⟩
  · obtain ⟨e1, h1⟩ := ej_key hC ha hw hcov i x hi
    obtain ⟨e2, h2⟩ := ej_key hC ha hw hcov j y hj
    exact hD.1 i j _ _ h1 h2 hxy
  · obtain ⟨e1, h1⟩ := ej_key hC ha hw hcov k q hk
    exact hD.2 k (q.1, e1) h1
theorem ej_P {D : va_G} {A : Nat → Prop} {w w' wc w1 : va_W} {is as : List Nat} {ms : List (Option Nat)} {H H1 : Heap} (hP : va_P D vwCl w H) (hD : va_D A w) (hC : is.map (fun i => w[i]?) = wc.map some) (ha : w1.map (·.1) = as ∧ wc.map (·.1) = as) (hw : ej_mix ms w w1 = w') (hcov : ej_cov is ms = true) (hk : ∀ q : Nat, q < H.size → ¬ va_A wc H.size q → H1[q]? = H[q]?) (hP1 : va_P D vwCl w1 H1) : va_P D vwCl w' H1 := by
  intro k q h
  rcases ej_at hC ha hw hcov k q h with ⟨h1, h2⟩ | ⟨j, h1, h2⟩
  · have hlt := (hP k q h2).lt
    refine (hP k q h2).kept (hk q.1 hlt fun z => ?_)
    rcases z with ⟨k2, e, z⟩ | z
    · obtain ⟨i, h3, h4⟩ := ej_pick hC k2 (q.1, e) z
      have := hD.1 k i q (q.1, e) h2 h4 rfl
      subst this
      exact h1 (List.mem_of_getElem? h3)
    · omega
  · exact hP1 j q h2
theorem ej_cut {D : va_G} {ws wc : va_W} {is : List Nat} {H : Heap} (hP : va_P D vwCl ws H) (hC : is.map (fun i => ws[i]?) = wc.map some) : va_P D vwCl wc H := fun k q hq => by
  obtain ⟨i, _, h⟩ := ej_pick hC k q hq
  exact hP i q h
section EC
variable {p : Program} {l : Launch} {e : Env} {R : Room} {s : State} {m : MethodId} {args : Array Value} {below : List Frame} {meth : Method} {c : Code} {H : Heap} {locs : List Loc} {cells slots : Nat} {Q : State → Prop}
variable {pc : Nat} {ls : Array Slot} {rest st : List Value} {A : Nat → Prop} {H0 : Heap} {D : va_G} {tys : eT} {w wc w1 w' : va_W} {ov : Option Value} {a : Array Value} {is as : List Nat} {ms : List (Option Nat)}
theorem ej_call (hr : va_Run p l e R s m args below meth c H locs cells slots 0 0 (F0 m pc ls st) rest (fcQ D wc H.size ov w1 a) (va_A wc H.size)) (hA : ∀ q : Nat, H0.size ≤ q → A q) (hP : va_P D vwCl w H) (hD : va_D A w) (hS : va_S A H0 H locs)
    (hC : is.map (fun i => w[i]?) = wc.map some) (ha : w1.map (·.1) = as ∧ wc.map (·.1) = as) (hw' : ej_mix ms w w1 = w') (hcov : ej_cov is ms = true)
    (kk : ∀ (H1 : Heap) (locs1 : List Loc), va_P D vwCl w' H1 → va_D A w' → va_S A H0 H1 locs1 → W p l e R s m args below meth c H1 locs1 cells slots Q (F0 m (pc + 3) ls (ov.toList ++ rest))) : W p l e R s m args below meth c H locs cells slots Q (F0 m pc ls st) := by
  intro T hT X
  obtain ⟨v, st₀, t, T', L, h0, X', hL, e1, e2, ⟨hv, hP1, hz, hk⟩, stp⟩ := hr T hT X
  cases hv
  rw [h0] at hz hk
  have hF : ∀ q, va_A wc H.size q → A q := va_free hD hS hA is hC
  obtain ⟨t2, a1, b1⟩ := kk T'.heap (locs ++ L) (ej_P hP hD hC ha hw' hcov (fun q h1 h2 => by rw [e1]; exact hk q h1 h2) (by rw [e1]; exact hP1)) (ej_D hD hC ha hw' hcov)
    ⟨Nat.le_trans hS.1 (by rw [e1]; exact hz), fun q h1 h2 => by rw [e1, hk q (Nat.lt_of_lt_of_le h1 hS.1) (fun z => h2 (hF q z))]; exact hS.2.1 q h1 h2, fun q hq => by
      rcases List.mem_append.mp hq with h | h
      · exact hS.2.2 q h
      · exact hF _ (hL q h)⟩ T' rfl X'
  exact ⟨t2, stp t2 a1, b1⟩
variable {cc bytes : ByteArray} {nL maxL index n : Nat} {own C host : String} {y : MethodName} {ret : Option FieldType} {rm : Room} {wsY Ts : List Cond} {b : Addr} {As : List Value}
theorem ej_V (S : CallFix p m c cc nL s args Ts own) (hK : va_K D vwCl tys s) (hN : eN s) (hA : ∀ q : Nat, H0.size ≤ q → A q) (hP : va_P D vwCl w H) (hD : va_D A w) (hS : va_S A H0 H locs) (hM : fc l D tys y wsY rm (.ref b :: As) wc ov w1)
    (cw : CallW R s args own C index y bytes maxL ret wsY rm 0 0 n) (is : List Nat) (ms : List (Option Nat)) (as : List Nat) (hC : is.map (fun i => w[i]?) = wc.map some) (hnd : va_nd is = true) (ha : w1.map (·.1) = as ∧ wc.map (·.1) = as) (hw' : ej_mix ms w w1 = w') (hcov : ej_cov is ms = true) (q0 ci : Nat) {T : u_T} {N : Nat} {fs : List Value} (hc : vwCl[ci]? = some (C, T, N)) (he : w[q0]? = some (b, .inr (ci, fs)))
    (hn : As.length = n) (hst : st = As.reverse ++ .ref b :: rest) (hsz : ls.size = nL) (hW : (rest.map fun v => v.category).sum ≤ 8) (hdg : decode cc pc = .ok (.invokevirtual index, 3)) (hf : cells ≤ R.cells ∧ slots ≤ R.slots)
    (kk : ∀ (H1 : Heap) (locs1 : List Loc), va_P D vwCl w' H1 → va_D A w' → va_S A H0 H1 locs1 → W p l e R s m args below meth c H1 locs1 cells slots Q (F0 m (pc + 3) ls (ov.toList ++ rest))) : W p l e R s m args below meth c H locs cells slots Q (F0 m pc ls st) := by
  subst hst
  exact ej_call (va_runV (As := As) (rest := rest) S (hM H.size) cw ⟨fcP_blind, va_recv hK hP hc he, fcP_at (ej_cut hP hC) hK hN ((hD.sub is hnd hC).weaken (fun _ _ _ _ => trivial))⟩ rfl hn hsz rfl (lv_room hW) hdg hf) hA hP hD hS hC ha hw' hcov kk
theorem ej_S (S : CallFix p m c cc nL s args Ts own) (hK : va_K D vwCl tys s) (hN : eN s) (hA : ∀ q : Nat, H0.size ≤ q → A q) (hP : va_P D vwCl w H) (hD : va_D A w) (hS : va_S A H0 H locs) (hM : fc l D tys y wsY rm As wc ov w1)
    (cw : CallB R s args own index y bytes maxL ret wsY rm 0 0 n ∧ (Cond.static y).before args s = true) (is : List Nat) (ms : List (Option Nat)) (as : List Nat) (hC : is.map (fun i => w[i]?) = wc.map some) (hnd : va_nd is = true) (ha : w1.map (·.1) = as ∧ wc.map (·.1) = as) (hw' : ej_mix ms w w1 = w') (hcov : ej_cov is ms = true)
    (hn : As.length = n) (hst : st = As.reverse ++ rest) (hsz : ls.size = nL) (hW : (rest.map fun v => v.category).sum ≤ 8) (hdg : decode cc pc = .ok (.invokestatic index, 3)) (hf : cells ≤ R.cells ∧ slots ≤ R.slots)
    (kk : ∀ (H1 : Heap) (locs1 : List Loc), va_P D vwCl w' H1 → va_D A w' → va_S A H0 H1 locs1 → W p l e R s m args below meth c H1 locs1 cells slots Q (F0 m (pc + 3) ls (ov.toList ++ rest))) : W p l e R s m args below meth c H locs cells slots Q (F0 m pc ls st) := by
  subst hst
  exact ej_call (va_runS (As := As) (rest := rest) S (hM H.size) cw ⟨fcP_blind, fcP_at (ej_cut hP hC) hK hN ((hD.sub is hnd hC).weaken (fun _ _ _ _ => trivial))⟩ rfl hn hsz rfl (lv_room hW) hdg hf) hA hP hD hS hC ha hw' hcov kk
theorem ej_SN (S : CallFix p m c cc nL s args Ts own) (hK : va_K D vwCl tys s) (hN : eN s) (hA : ∀ q : Nat, H0.size ≤ q → A q) (hP : va_P D vwCl w H) (hD : va_D A w) (hS : va_S A H0 H locs) (hM : fc l D tys y wsY rm As wc ov w1)
    (cw : va_CN R s args own index y host bytes maxL ret wsY rm 0 0 n ∧ (Cond.static y).before args s = true ∧ True) (is : List Nat) (ms : List (Option Nat)) (as : List Nat) (hC : is.map (fun i => w[i]?) = wc.map some) (hnd : va_nd is = true) (ha : w1.map (·.1) = as ∧ wc.map (·.1) = as) (hw' : ej_mix ms w w1 = w') (hcov : ej_cov is ms = true)
    (hn : As.length = n) (hst : st = As.reverse ++ rest) (hsz : ls.size = nL) (hW : (rest.map fun v => v.category).sum ≤ 8) (hdg : decode cc pc = .ok (.invokestatic index, 3)) (hf : cells ≤ R.cells ∧ slots ≤ R.slots)
    (kk : ∀ (H1 : Heap) (locs1 : List Loc), va_P D vwCl w' H1 → va_D A w' → va_S A H0 H1 locs1 → W p l e R s m args below meth c H1 locs1 cells slots Q (F0 m (pc + 3) ls (ov.toList ++ rest))) : W p l e R s m args below meth c H locs cells slots Q (F0 m pc ls st) := by
  subst hst
  exact ej_call (va_runSN (As := As) (rest := rest) S (hM H.size) cw ⟨fcP_blind, fcP_at (ej_cut hP hC) hK hN ((hD.sub is hnd hC).weaken (fun _ _ _ _ => trivial))⟩ rfl hn hsz rfl (lv_room hW) hdg hf) hA hP hD hS hC ha hw' hcov kk
/-- a value on top, by another name -/
theorem ej_top {v v' : Value} (h : v = v') (k : W p l e R s m args below meth c H locs cells slots Q (F0 m pc ls (v' :: rest))) : W p l e R s m args below meth c H locs cells slots Q (F0 m pc ls (v :: rest)) := h ▸ k
theorem ej_topi {x x' : Int32} (h : x = x') (k : W p l e R s m args below meth c H locs cells slots Q (F0 m pc ls (.int x' :: rest))) : W p l e R s m args below meth c H locs cells slots Q (F0 m pc ls (.int x :: rest)) := h ▸ k
end EC
/-- a row's numbers, by other words that agree on its places -/
theorem ej_row {D : va_G} {w : va_W} {H : Heap} {q a : Nat} {cI : ClassId} {n : Nat} {f : Nat → Int32} (g : Nat → Int32) (hP : va_P D vwCl w H) (hq : w[q]? = some (a, .inl (cI, n, .inl f))) (h : ∀ k : Nat, k < n → f k = g k) : va_P D vwCl (w.set q (a, .inl (cI, n, .inl g))) H := by
  have hl := (List.getElem?_eq_some_iff.mp hq).1
  have e : vp_cell cI (n, .inl f) = vp_cell cI (n, .inl g) := by
    rw [vp_cell_i, vp_cell_i]
    unfold arrV
    congr 1
    apply Array.ext
    · simp
    · intro i h1 h2
      simp at h1
      simp [h i h1]
  intro k x hk
  by_cases hkq : k = q
  · subst hkq
    rw [List.getElem?_set_self hl] at hk
    cases hk
    have h1 := hP k _ hq
    show H[a]? = some (vp_cell cI (n, .inl g))
    rw [← e]
    exact h1
  · rw [List.getElem?_set_ne (Ne.symm hkq)] at hk
    exact hP k x hk
theorem ej_rowD {A : Nat → Prop} {w : va_W} {q a : Nat} {cI : ClassId} {n : Nat} {f : Nat → Int32} (g : Nat → Int32) (hD : va_D A w) (hq : w[q]? = some (a, .inl (cI, n, .inl f))) : va_D A (w.set q (a, .inl (cI, n, .inl g))) := hD.set hq
theorem ej_ge {a b : Nat} (hb : b < 2 ^ 31) (h : a < b) : ¬ nI b ≤ nI a := nI_ge h hb
theorem ej_le {a b : Nat} (hb : b < 2 ^ 31) (h : a ≤ b) : nI a ≤ nI b := nI_le h hb
theorem ej_lt {a b : Nat} (hb : b < 2 ^ 31) (h : a < b) : nI a < nI b := nI_lt h hb
theorem ej_nlt {a b : Nat} (ha : a < 2 ^ 31) (h : b ≤ a) : ¬ nI a < nI b := nI_nlt h ha
theorem ej_ne {a b : Nat} (ha : a < 2 ^ 31) (hb : b < 2 ^ 31) (h : a ≠ b) : ¬ nI a = nI b := fun q => h ((nI_eq ha hb).mp q)
theorem ej_tle {a b : Nat} (ha : a < 2 ^ 31) (hb : b < 2 ^ 31) (h : nI a ≤ nI b) : a ≤ b := (nI_leI ha hb).mp h
theorem ej_tlt {a b : Nat} (ha : a < 2 ^ 31) (hb : b < 2 ^ 31) (h : nI a < nI b) : a < b := (nI_ltI ha hb).mp h
theorem ej_tnle {a b : Nat} (ha : a < 2 ^ 31) (hb : b < 2 ^ 31) (h : ¬ nI a ≤ nI b) : b < a := Nat.not_le.mp fun q => h ((nI_leI ha hb).mpr q)
theorem ej_tnlt {a b : Nat} (ha : a < 2 ^ 31) (hb : b < 2 ^ 31) (h : ¬ nI a < nI b) : b ≤ a := Nat.not_lt.mp fun q => h ((nI_ltI ha hb).mpr q)
theorem ej_teq {a b : Nat} (ha : a < 2 ^ 31) (hb : b < 2 ^ 31) (h : nI a = nI b) : a = b := (nI_eq ha hb).mp h
theorem ej_tne {a b : Nat} (ha : a < 2 ^ 31) (hb : b < 2 ^ 31) (h : ¬ nI a = nI b) : a ≠ b := fun q => h (by rw [q])
theorem ej_b0 {P : Prop} {_ : Decidable P} (h : (if P then (1 : Int32) else 0) = 0) : ¬ P := fun q => by rw [if_pos q] at h; exact absurd h (by decide)
theorem ej_b1 {P : Prop} {_ : Decidable P} (h : ¬ (if P then (1 : Int32) else 0) = 0) : P := Decidable.byContradiction fun q => h (if_neg q)
theorem ej_narB (P : Prop) {_ : Decidable P} : narrow .boolean (.int (if P then (1 : Int32) else 0)) = .int (if P then (1 : Int32) else 0) := by
  by_cases h : P
  · rw [if_pos h]; rfl
  · rw [if_neg h]; rfl
theorem ej_fitB (P : Prop) {_ : Decidable P} : fits .boolean (.int (if P then (1 : Int32) else 0)) = true := by
  by_cases h : P
  · rw [if_pos h]; rfl
  · rw [if_neg h]; rfl
theorem eN_1 {U : State} (h : eN U) : va_Nw (.methodLinkNest RX5 11 yX2_init RX6) U := h.1
theorem eN_2 {U : State} (h : eN U) : va_Nw (.methodLinkNest RX6 35 yX3_init RX6) U := h.2.1
theorem eN_3 {U : State} (h : eN U) : va_Nw (.methodLinkNest RX6 42 yX1_init RX6) U := h.2.2.1
theorem eN_4 {U : State} (h : eN U) : va_Nw (.methodLinkNest RX2 87 yX6_pinAt RX6) U := h.2.2.2.1
theorem eN_5 {U : State} (h : eN U) : va_Nw (.methodLinkNest RX2 70 yX6_isWithin RX6) U := h.2.2.2.2.1
theorem eN_6 {U : State} (h : eN U) : va_Nw (.methodLinkNest RX2 83 yX6_placeBeside RX6) U := h.2.2.2.2.2.1
theorem eN_7 {U : State} (h : eN U) : va_Nw (.methodLinkNest RX1 43 yX6_isWithin RX6) U := h.2.2.2.2.2.2.1
theorem eN_8 {U : State} (h : eN U) : va_Nw (.methodLinkNest RX3 34 yX6_isIn RX6) U := h.2.2.2.2.2.2.2.1
theorem eN_9 {U : State} (h : eN U) : va_Nw (.methodLinkNest RX3 42 yX6_pinAt RX6) U := h.2.2.2.2.2.2.2.2.1
theorem eN_10 {U : State} (h : eN U) : va_Nw (.methodLinkNest RX2 77 yX6_bit RX6) U := h.2.2.2.2.2.2.2.2.2.1
theorem eN_11 {U : State} (h : eN U) : va_Nw (.methodLinkNest RX3 30 yX6_bit RX6) U := h.2.2.2.2.2.2.2.2.2.2.1
theorem eN_12 {U : State} (h : eN U) : va_AO RX5 U := h.2.2.2.2.2.2.2.2.2.2.2
