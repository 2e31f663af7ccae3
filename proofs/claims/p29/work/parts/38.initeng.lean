/-! ===== constructors: contracts of methods that make cells ===== -/
abbrev eRm (f k mc ms : Nat) : Room := { frames := f, cells := mc, slots := ms, locals := k }
/-- the constructor y fills the cells wc; its world then, by the addresses a of what it made -/
def fcN (l : Launch) (D : va_G) (tys : eT) (y : MethodName) (ws : List Cond) (rm : Room) (av : List Value) (wc : va_W) (mc ms : Nat) (Wd : (Nat → Nat) → va_W) : Prop :=
  ∀ sz : Nat, Met l y ws rm (va_Pc av (fcP D tys wc sz)) (va_Qv (fun _ : Nat → Nat => True) (fun a t => va_P D vwCl (Wd a) t.heap ∧ va_D (va_A wc sz) (Wd a)) (va_A wc sz)) mc ms (va_A wc sz)
theorem fcN_void {l : Launch} {D : va_G} {tys : eT} {y : MethodName} {ws ws' : List Cond} {rm : Room} {av : List Value} {wc : va_W} {mc ms : Nat} {Wd : (Nat → Nat) → va_W} (cc : ByteArray) (nL : Nat) (hpl : plainName y.cls = true) (hw : ws = Cond.code y cc nL none :: ws') (hlen : (lg_sl av).length ≤ nL) (hnm : y.name = "<init>")
    (body : ∀ (p : Program) (e : Env) (s : State) (m : MethodId) (args : Array Value) (below : List Frame) (meth : Method) (c : Code) (H : Heap) (A : Nat → Prop) (Q : State → Prop) (ls : Array Slot),
      CallFix p m c cc nL s args ws y.cls → meth.name = "<init>" → va_K D vwCl tys s → eN s → (∀ q : Nat, H.size ≤ q → A q) → va_P D vwCl wc H → va_D A wc → va_S A H H [] → lv_has ls nL (lv_args 0 av) →
      (∀ (pc : Nat) (H1 : Heap) (locs : List Loc) (ls1 : Array Slot) (a : Nat → Nat), decode cc pc = .ok (.return_, 1) → va_P D vwCl (Wd a) H1 → va_D A (Wd a) → va_S A H H1 locs → W p l e rm s m args below meth c H1 locs mc ms Q (F0 m pc ls1 [])) →
      W p l e rm s m args below meth c H [] 0 0 Q (F0 m 0 ls [])) : fcN l D tys y ws rm av wc mc ms Wd := by
  intro sz
  refine Met.ofW (cc := cc) (maxL := nL) (ret := none) hpl hw ?_
  intro p e s m args below meth c s₁ B hml hv
  obtain ⟨rfl, hsz, hP, hK, hN, hD0⟩ := hv
  have hx := B.exec
  have hb := B.bytes
  have hr := B.returns
  have hts := atoms_spec (ws := ws) B.pre
  have hown : s.vm.findClass y.cls = some m.cls := findClass_of_methodNamed B.named
  have hlocks := B.notSynchronized
  have hin : meth.name = y.name := (name_of_methodNamed B.named B.method).1
  subst hsz
  have hl := lv_entry av (n := nL) hlen
  rw [lg_entry_eq]
  refine body p e s m av.toArray below meth c s.heap (va_A wc s.heap.size) _ _ ⟨hx, hb, hml, hown, hts⟩ (hin.trans hnm) hK hN (fun q h => Or.inr h) hP (hD0.self) va_S.rf hl ?_
  intro pc H1 locs ls1 a hd hP1 hD1 hS1
  exact W.vret hx hb hr (fun t ht hW => ⟨⟨a, rfl, trivial, by rw [ht]; exact hP1, hD1⟩, hS1.F ht⟩) hS1.2.2 hd
section EI
variable {p : Program} {l : Launch} {e : Env} {R : Room} {s : State} {m : MethodId} {args : Array Value} {below : List Frame} {meth : Method} {c : Code} {H : Heap} {locs : List Loc} {cells slots : Nat} {Q : State → Prop}
variable {pc : Nat} {ls : Array Slot} {rest st : List Value} {A : Nat → Prop} {H0 : Heap} {D : va_G} {tys : eT} {w wc wr : va_W} {mc ms : Nat} {Wd : (Nat → Nat) → va_W}
variable {cc bytes : ByteArray} {nL maxL index n : Nat} {own host : String} {y : MethodName} {rm : Room} {wsY Ts : List Cond} {b : Addr} {As : List Value}
theorem ej_I (S : CallFix p m c cc nL s args Ts own) (hK : va_K D vwCl tys s) (hN : eN s) (hA : ∀ q : Nat, H0.size ≤ q → A q) (hP : va_P D vwCl w H) (hD : va_D A w) (hS : va_S A H0 H locs) (hM : fcN l D tys y wsY rm (.ref b :: As) wc mc ms Wd)
    (cw : CallB R s args own index y bytes maxL none wsY rm mc ms n ∧ y.name = "<init>" ∧ (Cond.instanceMethod y).before args s = true) (isC isR : List Nat) (hC : isC.map (fun i => w[i]?) = wc.map some) (hR : isR.map (fun i => w[i]?) = wr.map some) (hnC : va_nd isC = true) (hnR : va_nd isR = true) (hdis : ∀ i ∈ isR, i ∉ isC)
    (hn : As.length = n) (hst : st = As.reverse ++ .ref b :: rest) (hsz : ls.size = nL) (hW : (rest.map fun v => v.category).sum ≤ 8) (hdg : decode cc pc = .ok (.invokespecial index, 3)) (hf : cells + mc ≤ R.cells ∧ slots + ms ≤ R.slots)
    (kk : ∀ (a : Nat → Nat) (H1 : Heap) (locs1 : List Loc), va_P D vwCl (wr ++ Wd a) H1 → va_D A (wr ++ Wd a) → va_S A H0 H1 locs1 → W p l e R s m args below meth c H1 locs1 (cells + mc) (slots + ms) Q (F0 m (pc + 3) ls rest)) : W p l e R s m args below meth c H locs cells slots Q (F0 m pc ls st) := by
  subst hst
  have hFc := va_free (wc := wc) hD hS hA isC hC
  refine va_callv (va_runI (As := As) (rest := rest) S (hM H.size) cw ⟨fcP_blind, fcP_at (ej_cut hP hC) hK hN ((hD.sub isC hnC hC).weaken (fun _ _ _ _ => trivial))⟩ rfl hn hsz rfl (lv_room hW) hdg hf) hS (fun q _ h => hFc q h) hFc (fun a t H1 locs1 ht hvm _ hB hz hk hS1 => ?_)
  obtain ⟨hP1, hD1⟩ := hB
  rw [ht] at hP1
  obtain ⟨hP2, hD2⟩ := va_join hP hD isC isR hC hR hnR hdis hk hFc hP1 hD1
  exact kk a H1 locs1 hP2 hD2 hS1
theorem ej_IN (S : CallFix p m c cc nL s args Ts own) (hK : va_K D vwCl tys s) (hN : eN s) (hA : ∀ q : Nat, H0.size ≤ q → A q) (hP : va_P D vwCl w H) (hD : va_D A w) (hS : va_S A H0 H locs) (hM : fcN l D tys y wsY rm (.ref b :: As) wc mc ms Wd)
    (cw : va_CN R s args own index y host bytes maxL none wsY rm mc ms n ∧ y.name = "<init>" ∧ (Cond.instanceMethod y).before args s = true) (isC isR : List Nat) (hC : isC.map (fun i => w[i]?) = wc.map some) (hR : isR.map (fun i => w[i]?) = wr.map some) (hnC : va_nd isC = true) (hnR : va_nd isR = true) (hdis : ∀ i ∈ isR, i ∉ isC)
    (hn : As.length = n) (hst : st = As.reverse ++ .ref b :: rest) (hsz : ls.size = nL) (hW : (rest.map fun v => v.category).sum ≤ 8) (hdg : decode cc pc = .ok (.invokespecial index, 3)) (hf : cells + mc ≤ R.cells ∧ slots + ms ≤ R.slots)
    (kk : ∀ (a : Nat → Nat) (H1 : Heap) (locs1 : List Loc), va_P D vwCl (wr ++ Wd a) H1 → va_D A (wr ++ Wd a) → va_S A H0 H1 locs1 → W p l e R s m args below meth c H1 locs1 (cells + mc) (slots + ms) Q (F0 m (pc + 3) ls rest)) : W p l e R s m args below meth c H locs cells slots Q (F0 m pc ls st) := by
  subst hst
  have hFc := va_free (wc := wc) hD hS hA isC hC
  refine va_callv (va_runIN (As := As) (rest := rest) S (hM H.size) cw ⟨fcP_blind, fcP_at (ej_cut hP hC) hK hN ((hD.sub isC hnC hC).weaken (fun _ _ _ _ => trivial))⟩ rfl hn hsz rfl (lv_room hW) hdg hf) hS (fun q _ h => hFc q h) hFc (fun a t H1 locs1 ht hvm _ hB hz hk hS1 => ?_)
  obtain ⟨hP1, hD1⟩ := hB
  rw [ht] at hP1
  obtain ⟨hP2, hD2⟩ := va_join hP hD isC isR hC hR hnR hdis hk hFc hP1 hD1
  exact kk a H1 locs1 hP2 hD2 hS1
theorem ej_newa (hexec : p.tables.exec = Jvm.exec) (hb : c.code = cc) {cI : ClassId} (harr : (Cond.arrayClass .int).before args s = true) (hK : va_K D vwCl tys s) (ht0 : tys[0]? = some (cI, .int)) (hP : va_P D vwCl w H) (hD : va_D A w) (hS : va_S A H0 H locs) (hA : ∀ q : Nat, H0.size ≤ q → A q)
    {n : Int32} {N : Nat} (hn : ¬ n < 0) (hN : n.toNatClampNeg = N) (hbytes : N * 4 ≤ 536870912) (hcells : cells + 1 ≤ R.cells) (hslots : slots + N ≤ R.slots) (hdg : decode cc pc = .ok (.newarray .int, 2))
    (kk : ∀ (q : Nat) (H1 : Heap), va_P D vwCl (w ++ [(q, .inl (cI, N, .inl (fun _ => 0)))]) H1 → va_D A (w ++ [(q, .inl (cI, N, .inl (fun _ => 0)))]) → va_S A H0 H1 locs → W p l e R s m args below meth c H1 locs (cells + 1) (slots + N) Q (F0 m (pc + 2) ls (.ref q :: rest))) : W p l e R s m args below meth c H locs cells slots Q (F0 m pc ls (.int n :: rest)) := by
  refine va_newa (atype := .int) hexec hb harr (ty := .int) rfl hK hP hD hS hA (a0 := (N, .inl (fun _ => 0))) (fun cA => rfl) hn hN hbytes hcells hslots hdg (fun q cA H1 hK1 hP1 hD1 hS1 => ?_)
  have h1 := (hK1.2 tys.length (cA, .int) (by simp)).2
  have h2 := (hK.2 0 _ ht0).2
  have e9 : cA = cI := Option.some.inj (h1.symm.trans h2)
  subst e9
  exact kk q H1 hP1 hD1 hS1
theorem ej_newq (hexec : p.tables.exec = Jvm.exec) (hb : c.code = cc) {own C : String} {index : Nat} {cT : ClassId} (hown : s.vm.findClass own = some m.cls) (hclink : (Cond.classLink own index C).before args s = true) (hover : va_AO C s) (hK : va_K D vwCl tys s) (ht1 : tys[1]? = some (cT, .object C)) (hP : va_P D vwCl w H) (hD : va_D A w) (hS : va_S A H0 H locs) (hA : ∀ q : Nat, H0.size ≤ q → A q)
    {n : Int32} {N : Nat} (hn : ¬ n < 0) (hN : n.toNatClampNeg = N) (hbytes : N * 4 ≤ 536870912) (hcells : cells + 1 ≤ R.cells) (hslots : slots + N ≤ R.slots) (hdg : decode cc pc = .ok (.anewarray index, 3))
    (kk : ∀ (q : Nat) (H1 : Heap), va_P D vwCl (w ++ [(q, .inl (cT, N, .inr (.inr (.inr (.inr (fun _ => none))))))]) H1 → va_D A (w ++ [(q, .inl (cT, N, .inr (.inr (.inr (.inr (fun _ => none))))))]) → va_S A H0 H1 locs → W p l e R s m args below meth c H1 locs (cells + 1) (slots + N) Q (F0 m (pc + 3) ls (.ref q :: rest))) : W p l e R s m args below meth c H locs cells slots Q (F0 m pc ls (.int n :: rest)) := by
  refine va_newq hexec hb hown hclink hover hK hP hD hS hA hn hN hbytes hcells hslots hdg (fun q cA H1 hK1 hP1 hD1 hS1 => ?_)
  obtain ⟨_, _, _, _, _, h1⟩ := (hK1.2 tys.length (cA, .object C) (by simp)).2
  obtain ⟨_, _, _, _, _, h2⟩ := (hK.2 1 _ ht1).2
  have e9 : cA = cT := Option.some.inj (h1.symm.trans h2)
  subst e9
  exact kk q H1 hP1 hD1 hS1
end EI
def ad1 (h : Nat) (x : Nat) : Nat → Nat
  | 0 => h
  | _ => x
/-- the pins, and the rest, of a new table -/
def t00 : Pn := (fun _ => 0, fun _ => 0, fun _ => 0, fun _ => 0, fun _ => 0, 1, 0, 0)
def wo0 : Nat → Int32 := fun k => if k = 0 then 4 else if k = 1 then 3 else if k = 2 then 2 else if k = 3 then 1 else if k = 4 then 2 else if k = 5 then 3 else 4
def u00 : Tr := (wo0, fun _ => 0, fun _ => 0, 3, 20, 0, 0, 0, 0, 0)
theorem wo0_ok (z : Nat → Int32) {j : Nat} (hj : j < 7) : upd (upd (upd (upd (upd (upd (upd z 0 4) 1 3) 2 2) 3 1) 4 2) 5 3) 6 4 j = wo0 j := by
  rcases (show j = 0 ∨ j = 1 ∨ j = 2 ∨ j = 3 ∨ j = 4 ∨ j = 5 ∨ j = 6 by omega) with h | h | h | h | h | h | h <;> subst h <;> rfl
