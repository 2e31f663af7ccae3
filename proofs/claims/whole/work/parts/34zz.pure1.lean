/-! ===== the class's answers are the model's: numbers ===== -/
theorem nI_ne4 {x : Nat} (h : x < 100) : ¬ nI x = -4 := by
  intro e
  have h1 := congrArg Int32.toInt e
  rw [nI_toInt (by omega)] at h1
  have e4 : (-4 : Int32).toInt = -4 := by decide
  omega
theorem pp_plc {c : Int32} (h : ¬ c - 48 < 0 ∧ ¬ 6 < c - 48) : plc c := by
  obtain ⟨k, hk, e⟩ := ej_in6 h
  have e2 : c = nI (k + 48) := by
    rw [← nI_add, ← e]
    show c = c - 48 + 48
    rw [Int32.sub_add_cancel]
  subst e2
  exact ⟨ej_nlt (a := k + 48) (b := 48) (by omega) (by omega), ej_nlt (a := 54) (b := k + 48) (by omega) (by omega)⟩
theorem plc_pp {c : Int32} (h : plc c) : ¬ c - 48 < 0 ∧ ¬ 6 < c - 48 := by
  obtain ⟨e, hk⟩ := plc_nat h
  rw [e]
  exact ⟨nI_pos (by omega), ej_nlt (a := 6) (b := (c - 48).toNatClampNeg) (by omega) (by omega)⟩
/-! ===== faults ===== -/
theorem fb_eq (n : Nat) (f : Nat → Int32) : ∀ (d i : Nat), i + d = 35 → i ≤ n → fbG n f (n - i) i = if bI n f d i = 35 ∧ n = 35 then -4 else nI (bI n f d i)
  | 0, i, hd, hn => by
    have e : i = 35 := by omega
    subst e
    rw [bI]
    by_cases q : n = 35
    · subst q
      rw [if_pos ⟨rfl, rfl⟩]
      show fbG 35 f 0 35 = -4
      rw [fbG, if_neg (by decide)]
    · rw [if_neg (fun z => q z.2), show n - 35 = (n - 36) + 1 by omega, fbG, if_neg (fun z => absurd z.1 (Nat.lt_irrefl _))]
  | d + 1, i, hd, hn => by
    rcases Nat.lt_or_ge i n with q | q
    · rw [show n - i = (n - (i + 1)) + 1 by omega, fbG, bI]
      by_cases w : pinS (codeP n f i)
      · rw [if_pos ⟨by omega, w⟩, if_pos w]
        exact fb_eq n f d (i + 1) (by omega) (by omega)
      · rw [if_neg (fun z => w z.2), if_neg w, if_neg (fun z => by omega)]
    · have e : i = n := by omega
      subst e
      have w : ¬ pinS (codeP i f i) := by rw [codeP_ge (Nat.le_refl i)]; decide
      rw [Nat.sub_self, fbG, bI, if_neg w, if_pos (by omega), if_neg (fun z => by omega)]
def fsR (X : AsS) : Int32 := if ¬ X.2.1 = 0 then -4 else nI X.1
theorem fs_tail {n : Nat} {f : Nat → Int32} {r y : Nat} {b O H : Int32} (hy : y ≤ n) (hr : n ≤ y + r) (hb : ¬ b = 44) (h33 : ¬ (codeP n f y = 33 ∧ plc b)) (ih : ∀ r' : Nat, n ≤ y + 1 + r' → y + 1 ≤ n → fsG n f (n - (y + 1)) (y + 1) 44 = fsR (asG n f r' (tsN n f 1 (y + 1)) (tsF n f 1 (y + 1)) (tsO n f (y + 1)) (tsH n f 1 (y + 1)))) : fsG n f (n - y) y b = fsR (asG n f r y 1 O H) := by
  rcases Nat.lt_or_ge y n with q | q
  · obtain ⟨r0, rfl⟩ : ∃ z : Nat, r = z + 1 := ⟨r - 1, by omega⟩
    rw [show n - y = (n - (y + 1)) + 1 by omega, fsG]
    by_cases c44 : codeP n f y = 44
    · rw [if_pos (Or.inr ⟨hb, Or.inl c44⟩), c44, asG, if_pos ⟨by decide, q⟩, if_pos c44]
      exact ih r0 (by omega) (by omega)
    · rw [if_neg (fun z => z.elim (fun z => hb z.1) (fun z => z.2.elim c44 h33)), asG, if_pos ⟨by decide, q⟩, if_neg c44]
      exact (if_neg (fun z => z rfl)).symm
  · have e : y = n := by omega
    subst e
    rw [Nat.sub_self, fsG, if_neg hb, asG_done (Nat.le_refl _)]
    exact (if_pos (show ¬ (1 : Int32) = 0 by decide)).symm
theorem ts_end (n : Nat) (f : Nat → Int32) : tsF n f 1 n = 0 ∧ tsN n f 1 n = n := by
  have h0 := codeP_ge (f := f) (Nat.le_refl n)
  have h1 : ¬ codeP n f n = 101 := by rw [h0]; decide
  have h2 : ¬ (¬ (1 : Int32) = 0 ∧ (¬ codeP n f n - 48 < 0 ∧ ¬ 6 < codeP n f n - 48)) := by rw [h0]; decide
  refine ⟨?_, ?_⟩
  · unfold tsF; rw [if_neg h1, if_neg h2]
  · unfold tsN; rw [if_neg h1, if_neg h2]
theorem fs_eq (n : Nat) (f : Nat → Int32) : ∀ (d x r : Nat), n ≤ x + d → x ≤ n → n ≤ x + r → fsG n f (n - x) x 44 = fsR (asG n f r (tsN n f 1 x) (tsF n f 1 x) (tsO n f x) (tsH n f 1 x)) := by
  intro d
  have hend : ∀ r : Nat, fsG n f (n - n) n 44 = fsR (asG n f r (tsN n f 1 n) (tsF n f 1 n) (tsO n f n) (tsH n f 1 n)) := by
    intro r
    rw [Nat.sub_self, fsG, if_pos rfl, (ts_end n f).1, (ts_end n f).2, asG_y0]
    exact (if_neg (fun q => q rfl)).symm
  induction d with
  | zero =>
    intro x r hd hx hr
    have e : x = n := by omega
    subst e
    exact hend r
  | succ d ih =>
    intro x r hd hx hr
    rcases Nat.lt_or_ge x n with hl | hl
    · rw [show n - x = (n - (x + 1)) + 1 by omega, fsG]
      by_cases q : codeP n f x = 101
      · have hF : tsF n f 1 x = 1 := if_pos q
        have hN : tsN n f 1 x = x + 1 := if_pos q
        rw [if_pos (Or.inl ⟨rfl, Or.inr q⟩), q, hF, hN]
        exact fs_tail (by omega) (by omega) (by decide) (fun z => z.2.2 (by decide)) (fun r' h1 h2 => ih (x + 1 + 1) r' (by omega) h2 h1)
      · by_cases p : plc (codeP n f x)
        · have pp := plc_pp p
          have hF : tsF n f 1 x = 1 := by unfold tsF; rw [if_neg q, if_pos ⟨by decide, pp⟩]
          have p44 : ¬ codeP n f x = 44 := fun e => by rw [e] at p; exact p.1 (by decide)
          rw [if_pos (Or.inl ⟨rfl, Or.inl p⟩), hF]
          by_cases w : codeP n f (x + 1) = 33
          · have hN : tsN n f 1 x = x + 2 := by unfold tsN; rw [if_neg q, if_pos ⟨by decide, pp⟩, if_pos w]
            have hx1 : x + 1 < n := by
              rcases Nat.lt_or_ge (x + 1) n with z | z
              · exact z
              · rw [codeP_ge z] at w; exact absurd w (by decide)
            rw [hN, show n - (x + 1) = (n - (x + 2)) + 1 by omega, fsG, if_pos (Or.inr ⟨p44, Or.inr ⟨w, p⟩⟩), w]
            exact fs_tail (by omega) (by omega) (by decide) (fun z => z.2.1 (by decide)) (fun r' h1 h2 => ih (x + 2 + 1) r' (by omega) h2 h1)
          · have hN : tsN n f 1 x = x + 1 := by unfold tsN; rw [if_neg q, if_pos ⟨by decide, pp⟩, if_neg w]
            rw [hN]
            exact fs_tail (by omega) (by omega) p44 (fun z => w z.1) (fun r' h1 h2 => ih (x + 1 + 1) r' (by omega) h2 h1)
        · have np : ¬ (¬ (1 : Int32) = 0 ∧ (¬ codeP n f x - 48 < 0 ∧ ¬ 6 < codeP n f x - 48)) := fun z => p (pp_plc z.2)
          have hF : tsF n f 1 x = 0 := by unfold tsF; rw [if_neg q, if_neg np]
          have hN : tsN n f 1 x = x := by unfold tsN; rw [if_neg q, if_neg np]
          rw [if_neg (fun z => z.elim (fun z => z.2.elim p q) (fun z => z.1 rfl)), hF, hN, asG_y0]
          exact (if_neg (fun q => q rfl)).symm
    · have e : x = n := by omega
      subst e
      exact hend r
theorem fs_asA (n : Nat) (f : Nat → Int32) : fsG n f n 0 44 = if ¬ (asA n f).2.1 = 0 then -4 else nI (asA n f).1 := fs_eq n f n 0 n (by omega) (by omega) (by omega)
theorem fb_bI (n : Nat) (f : Nat → Int32) : fbG n f n 0 = if bI n f 35 0 = 35 ∧ n = 35 then -4 else nI (bI n f 35 0) := fb_eq n f 35 0 rfl (Nat.zero_le _)
theorem bI_le (n : Nat) (f : Nat → Int32) : ∀ (d i : Nat), i + d = 35 → bI n f d i ≤ 35
  | 0, i, h => by rw [bI]; omega
  | d + 1, i, h => by
    rw [bI]
    split
    · exact bI_le n f d (i + 1) (by omega)
    · omega
theorem fb_iff {n : Nat} {f : Nat → Int32} : (fbG n f n 0 = -4) = (bI n f 35 0 = 35 ∧ n = 35) := by
  have h := bI_le n f 35 0 rfl
  rw [fb_bI]
  by_cases q : bI n f 35 0 = 35 ∧ n = 35
  · rw [if_pos q]; exact propext ⟨fun _ => q, fun _ => rfl⟩
  · rw [if_neg q]; exact propext ⟨fun z => absurd z (nI_ne4 (by omega)), fun z => absurd z q⟩
theorem fs_iff {n : Nat} {f : Nat → Int32} (hn : n ≤ 60) : (fsG n f n 0 44 = -4) = (¬ (asA n f).2.1 = 0) := by
  have h := asA_le n f
  rw [fs_asA]
  by_cases q : ¬ (asA n f).2.1 = 0
  · rw [if_pos q]; exact propext ⟨fun _ => q, fun _ => rfl⟩
  · rw [if_neg q]; exact propext ⟨fun z => absurd z (nI_ne4 (by omega)), fun z => absurd z q⟩
/-! ===== what holds of a board and of a table ===== -/
def benOK (t : Pn) : Prop := ∀ p : Nat, p < 35 → P_ou t p = 1 → P_be t p = 0
def okT (t : Pn) : Prop := tilOK t ∧ outOK t ∧ belOK t ∧ benOK t
def okW (u : Tr) : Prop := okU u ∧ ∀ k : Nat, k < 7 → ∃ m : Nat, m ≤ 9 ∧ T_wo u k = nI m
theorem meetT_bl (t : Pn) (k : Nat) (d h : Int32) : P_bl (meetT t k d h) = P_bl t := by unfold meetT; split <;> rfl
theorem meetT_ben {t : Pn} {k : Nat} (d h : Int32) (hb : benOK t) : benOK (meetT t k d h) := by
  intro p hp ho
  rw [meetT_ou] at ho
  unfold meetT
  by_cases q : P_ou t k = 0
  · rw [if_pos q]
    show (if ¬ h = 0 ∧ (¬ P_be t k + d < -3 ∧ ¬ 3 < P_be t k + d) then upd (P_be t) k (P_be t k + d) else P_be t) p = 0
    split
    · unfold upd
      by_cases z : p = k
      · rw [z, q] at ho; exact absurd ho (by decide)
      · rw [if_neg z]; exact hb p hp ho
    · exact hb p hp ho
  · rw [if_neg q]; exact hb p hp ho
theorem rollT_ben {t : Pn} (c : Nat) (h : Int32) (hb : benOK t) : ∀ r : Nat, benOK (rollT t c h r).1
  | 0 => hb
  | r + 1 => by rw [rollT_1]; exact meetT_ben _ _ (rollT_ben c h hb r)
theorem rollT_bl (t : Pn) (c : Nat) (h : Int32) : ∀ r : Nat, P_bl (rollT t c h r).1 = P_bl t
  | 0 => rfl
  | r + 1 => by rw [rollT_1, meetT_bl, rollT_bl t c h r]
theorem okT_sh {t : Pn} (u : Tr) (c : Nat) (h : Int32) (ht : okT t) : okT (shP t u c h) := by
  refine ⟨shP_til u c h ht.1, shP_out u c h ht.2.1, ?_, ?_⟩
  · unfold shP
    split
    · unfold belOK; rw [rollT_bl]; exact ht.2.2.1
    · exact ht.2.2.1
  · unfold shP
    split
    · exact rollT_ben c h ht.2.2.2 5
    · exact ht.2.2.2
theorem rollT_rings {t : Pn} {c : Nat} (h : Int32) (hc : c < 7) (ht : okT t) : ∀ r : Nat, r ≤ 5 → ∃ m : Nat, m ≤ r ∧ P_ri (rollT t c h r).1 = P_ri t + nI m
  | 0, _ => ⟨0, Nat.le_refl _, (Int32.add_zero _).symm⟩
  | r + 1, hr => by
    obtain ⟨m, hm, e⟩ := rollT_rings h hc ht r (by omega)
    rw [rollT_1, meetT_ri, e]
    have hk : 7 * r + (rollT t c h r).2 < 35 := by have := rollT_lt t h hc r; omega
    split
    · rw [rollT_bl]
      rcases ht.2.2.1 _ hk with z | z
      · rw [z, Int32.add_zero]; exact ⟨m, by omega, rfl⟩
      · rw [z, Int32.add_assoc]; exact ⟨m + 1, by omega, congrArg _ (nI_add m 1)⟩
    · rw [Int32.add_zero]; exact ⟨m, by omega, rfl⟩
theorem i32_ad (a b : Int32) : a + b - a = b := by
  rw [Int32.add_comm, Int32.add_sub_cancel]
theorem shG_rng {t : Pn} {u : Tr} {c : Nat} (h : Int32) (hc : c < 7) (ht : okT t) (hu : okW u) : ∃ m : Nat, m ≤ 14 ∧ shG t u c h = nI m := by
  obtain ⟨m, hm, e⟩ := rollT_rings h hc ht 5 (Nat.le_refl _)
  unfold shG gainT
  rw [e, i32_ad]
  split
  · obtain ⟨w, hw, e2⟩ := hu.2 _ (rollT_lt t h hc 5)
    rw [e2, nI_add]
    exact ⟨m + w, by omega, rfl⟩
  · rw [Int32.add_zero]; exact ⟨m, by omega, rfl⟩
theorem shR_10 {t : Pn} {u : Tr} {c : Nat} (h : Int32) (hc : c < 7) (ht : okT t) (hu : okW u) (hl : 0 < T_le u) : 10 ≤ shR t u c h := by
  obtain ⟨m, hm, e⟩ := shG_rng h hc ht hu
  unfold shR
  rw [if_pos hl, e]
  show (10 : Int32) ≤ nI 10 + nI m
  rw [nI_add]
  exact ej_le (a := 10) (b := 10 + m) (by omega) (by omega)
theorem takeT_wo (u : Tr) (k : Nat) : T_wo (takeT u k) = T_wo u := by unfold takeT; split <;> rfl
theorem shU_wo (t : Pn) (u : Tr) (c : Nat) (h : Int32) : T_wo (shU t u c h) = T_wo u := by unfold shU; split <;> rfl
theorem okW_sh {t : Pn} {u : Tr} {c : Nat} (h : Int32) (hc : c < 7) (hu : okW u) : okW (shU t u c h) := by
  refine ⟨okU_sh h hc hu.1, ?_⟩
  rw [shU_wo]
  exact hu.2
theorem okW_emp {u : Tr} (hu : okW u) : okW (empU u) := ⟨okU_emp hu.1, hu.2⟩
theorem okW_wo {u : Tr} {k : Nat} {w : Int32} (hw : inP w 9) (hu : okW u) : okW (woU u k w) := by
  refine ⟨hu.1, fun j hj => ?_⟩
  show ∃ m : Nat, m ≤ 9 ∧ upd (T_wo u) k w j = nI m
  unfold upd
  split
  · obtain ⟨m, hm, e⟩ := ej_in 9 9 (by decide) hw
    exact ⟨m, by omega, e⟩
  · exact hu.2 j hj
theorem okW_fu {u : Tr} (w : Int32) (hu : okW u) : okW (fuU u w) := hu
theorem okW_bh {t : Pn} {u : Tr} (k : Nat) (d : Int32) (hu : okW u) : okW (bhU t u k d) := by
  unfold bhU
  split
  · split
    · exact hu
    · exact hu
  · exact hu
theorem okT_bh {t : Pn} (k : Nat) (d : Int32) (ht : okT t) : okT (bhP t k d) := by
  unfold bhP
  by_cases q : P_ou t k = 0
  · rw [if_pos q]
    split
    · refine ⟨ht.1, ht.2.1, ht.2.2.1, fun p hp ho => ?_⟩
      show upd (P_be t) k (P_be t k + d) p = 0
      unfold upd
      by_cases z : p = k
      · rw [z] at ho; exact absurd (q.symm.trans ho) (by decide)
      · rw [if_neg z]; exact ht.2.2.2 p hp ho
    · exact ht
  · rw [if_neg q]; exact ht
theorem flip01 {x : Int32} (h : x = 0 ∨ x = 1) : 1 - x = 0 ∨ 1 - x = 1 := by
  rcases h with h | h <;> rw [h] <;> decide
theorem okT_pl {t : Pn} {k : Nat} (ht : okT t) (hk : k < 35) : okT (plT t k) := by
  refine ⟨ht.1, fun p hp => ?_, ht.2.2.1, fun p hp ho => ?_⟩
  · show upd (P_ou t) k (1 - P_ou t k) p = 0 ∨ upd (P_ou t) k (1 - P_ou t k) p = 1
    unfold upd
    split
    · exact flip01 (ht.2.1 k hk)
    · exact ht.2.1 p hp
  · show upd (P_be t) k 0 p = 0
    have ho : upd (P_ou t) k (1 - P_ou t k) p = 1 := ho
    unfold upd at ho ⊢
    by_cases z : p = k
    · rw [if_pos z]
    · rw [if_neg z] at ho ⊢; exact ht.2.2.2 p hp ho
theorem okT_bl {t : Pn} {k : Nat} (ht : okT t) (hk : k < 35) : okT (blT t k) := by
  refine ⟨ht.1, ht.2.1, fun p hp => ?_, ht.2.2.2⟩
  show upd (P_bl t) k (1 - P_bl t k) p = 0 ∨ upd (P_bl t) k (1 - P_bl t k) p = 1
  unfold upd
  split
  · exact flip01 (ht.2.2.1 k hk)
  · exact ht.2.2.1 p hp
theorem okT_ti {t : Pn} {w : Int32} (ht : okT t) (hw : inP w 2) : okT (tiT t w) := by
  refine ⟨?_, ht.2.1, ht.2.2.1, ht.2.2.2⟩
  obtain ⟨m, hm, e⟩ := ej_in 2 2 (by decide) hw
  subst e
  show nI m = 0 ∨ nI m = 1 ∨ nI m = 2
  rcases (show m = 0 ∨ m = 1 ∨ m = 2 by omega) with h | h | h <;> subst h
  · exact Or.inl rfl
  · exact Or.inr (Or.inl rfl)
  · exact Or.inr (Or.inr rfl)
theorem okT_rd {t : Pn} (k : Nat) (c : Int32) (ht : okT t) : okT (readT t k c) := by
  refine ⟨ht.1, fun p hp => ?_, fun p hp => ?_, fun p hp ho => ?_⟩
  · show upd (P_ou t) k (if c = 46 then 1 else 0) p = 0 ∨ upd (P_ou t) k (if c = 46 then 1 else 0) p = 1
    unfold upd
    split
    · split
      · exact Or.inr rfl
      · exact Or.inl rfl
    · exact ht.2.1 p hp
  · show upd (P_bl t) k (if c = 111 then 1 else 0) p = 0 ∨ upd (P_bl t) k (if c = 111 then 1 else 0) p = 1
    unfold upd
    split
    · split
      · exact Or.inr rfl
      · exact Or.inl rfl
    · exact ht.2.2.1 p hp
  · show upd (P_be t) k (if c = 60 then -1 else if c = 62 then 1 else 0) p = 0
    have ho : upd (P_ou t) k (if c = 46 then 1 else 0) p = 1 := ho
    unfold upd at ho ⊢
    by_cases z : p = k
    · rw [if_pos z] at ho ⊢
      by_cases y : c = 46
      · subst y; rfl
      · rw [if_neg y] at ho; exact absurd ho (by decide)
    · rw [if_neg z] at ho ⊢; exact ht.2.2.2 p hp ho
theorem okT_brd {t : Pn} (n : Nat) (f : Nat → Int32) (ht : okT t) : ∀ k : Nat, okT (brdT t n f k)
  | 0 => ht
  | k + 1 => okT_rd k _ (okT_brd n f ht k)
