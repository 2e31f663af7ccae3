/-! ===== what the cells are: a row, the pins, a table ===== -/
def sumI (f : Nat → Int32) : Nat → Int32
  | 0 => 0
  | n + 1 => sumI f n + f n
/-- the pins: bends, pulled out, bells, sides, balls that came; tilt, rings, bends by balls -/
abbrev Pn : Type := (Nat → Int32) × (Nat → Int32) × (Nat → Int32) × (Nat → Int32) × (Nat → Int32) × Int32 × Int32 × Int32
abbrev P_be (t : Pn) : Nat → Int32 := t.1
abbrev P_ou (t : Pn) : Nat → Int32 := t.2.1
abbrev P_bl (t : Pn) : Nat → Int32 := t.2.2.1
abbrev P_si (t : Pn) : Nat → Int32 := t.2.2.2.1
abbrev P_vi (t : Pn) : Nat → Int32 := t.2.2.2.2.1
abbrev P_ti (t : Pn) : Int32 := t.2.2.2.2.2.1
abbrev P_ri (t : Pn) : Int32 := t.2.2.2.2.2.2.1
abbrev P_bb (t : Pn) : Int32 := t.2.2.2.2.2.2.2
/-- the rest of a table: worths, balls in pockets, balls that ended; full, left, lost, points, shots, hard shots, refusals -/
abbrev Tr : Type := (Nat → Int32) × (Nat → Int32) × (Nat → Int32) × Int32 × Int32 × Int32 × Int32 × Int32 × Int32 × Int32
abbrev T_wo (u : Tr) : Nat → Int32 := u.1
abbrev T_he (u : Tr) : Nat → Int32 := u.2.1
abbrev T_en (u : Tr) : Nat → Int32 := u.2.2.1
abbrev T_fu (u : Tr) : Int32 := u.2.2.2.1
abbrev T_le (u : Tr) : Int32 := u.2.2.2.2.1
abbrev T_lo (u : Tr) : Int32 := u.2.2.2.2.2.1
abbrev T_po (u : Tr) : Int32 := u.2.2.2.2.2.2.1
abbrev T_sh (u : Tr) : Int32 := u.2.2.2.2.2.2.2.1
abbrev T_ha (u : Tr) : Int32 := u.2.2.2.2.2.2.2.2.1
abbrev T_re (u : Tr) : Int32 := u.2.2.2.2.2.2.2.2.2
abbrev pinW (cI : ClassId) (a : Nat → Nat) (t : Pn) : va_W := [(a 1, .inr (2, [.ref (a 2), .ref (a 4), .ref (a 6), .ref (a 8), .ref (a 10), .int (P_ti t), .int (P_ri t), .int (P_bb t)])), (a 2, .inr (4, [.ref (a 3)])), (a 3, .inl (cI, 35, .inl (P_be t))), (a 4, .inr (4, [.ref (a 5)])), (a 5, .inl (cI, 35, .inl (P_ou t))), (a 6, .inr (4, [.ref (a 7)])), (a 7, .inl (cI, 35, .inl (P_bl t))), (a 8, .inr (4, [.ref (a 9)])), (a 9, .inl (cI, 35, .inl (P_si t))), (a 10, .inr (4, [.ref (a 11)])), (a 11, .inl (cI, 35, .inl (P_vi t)))]
abbrev tabW (cI : ClassId) (a : Nat → Nat) (t : Pn) (u : Tr) : va_W := (a 0, .inr (5, [.ref (a 1), .ref (a 12), .ref (a 14), .ref (a 16), .int (T_fu u), .int (T_le u), .int (T_lo u), .int (T_po u), .int (T_sh u), .int (T_ha u), .int (T_re u)])) :: (a 1, .inr (2, [.ref (a 2), .ref (a 4), .ref (a 6), .ref (a 8), .ref (a 10), .int (P_ti t), .int (P_ri t), .int (P_bb t)])) :: (a 2, .inr (4, [.ref (a 3)])) :: (a 3, .inl (cI, 35, .inl (P_be t))) :: (a 4, .inr (4, [.ref (a 5)])) :: (a 5, .inl (cI, 35, .inl (P_ou t))) :: (a 6, .inr (4, [.ref (a 7)])) :: (a 7, .inl (cI, 35, .inl (P_bl t))) :: (a 8, .inr (4, [.ref (a 9)])) :: (a 9, .inl (cI, 35, .inl (P_si t))) :: (a 10, .inr (4, [.ref (a 11)])) :: (a 11, .inl (cI, 35, .inl (P_vi t))) :: [(a 12, .inr (4, [.ref (a 13)])), (a 13, .inl (cI, 7, .inl (T_wo u))), (a 14, .inr (4, [.ref (a 15)])), (a 15, .inl (cI, 7, .inl (T_he u))), (a 16, .inr (4, [.ref (a 17)])), (a 17, .inl (cI, 7, .inl (T_en u)))]
