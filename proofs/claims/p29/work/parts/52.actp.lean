/-- what an act of the law leaves: a state that keeps its bounds; either the old one, or one change more -/
def actP (m : Nat) (t : Pn) (u : Tr) (hs : List (Pn × Tr)) : PoL := fun v t1 u1 hs1 q1 f1 x0 x1 x2 => v = .int 1 ∧ okS (m + 60) t1 u1 ∧ ((t = t1 ∧ u = u1 ∧ hs = hs1) ∨ hs1 = recL hs (t, u))
