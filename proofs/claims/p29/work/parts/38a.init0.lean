def adL : List Nat → Nat → Nat
  | [], _ => 0
  | x :: _, 0 => x
  | _ :: l, i + 1 => adL l i
def tz0 : Pn := (fun _ => 0, fun _ => 0, fun _ => 0, fun _ => 0, fun _ => 0, 0, 0, 0)
def uz0 : Tr := (fun _ => 0, fun _ => 0, fun _ => 0, 0, 0, 0, 0, 0, 0, 0)
theorem z0_ok (j : Nat) : flatS tz0 uz0 j = 0 := by
  unfold flatS
  simp [tz0, uz0]
theorem m0_all : ∀ j : Nat, j < 206 → upd (upd (upd (upd (upd (upd (upd (upd (upd (upd (fun _ => 0) 1 20) 8 1) 9 3) 185 4) 188 3) 191 2) 194 1) 197 2) 200 3) 203 4 j = flatS t00 u00 j := by decide +kernel
theorem m0_ok {j : Nat} (hj : j < 206) : upd (upd (upd (upd (upd (upd (upd (upd (upd (upd (fun _ => 0) 1 20) 8 1) 9 3) 185 4) 188 3) 191 2) 194 1) 197 2) 200 3) 203 4 j = flatS t00 u00 j := m0_all j hj
