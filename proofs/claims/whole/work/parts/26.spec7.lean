/-! the class's own arithmetic, and when it is the reference's -/
def abI (x y : Int32) : Int32 := if 0 ≤ x - y then x - y else 0 - (x - y)
/-- the distances of the feeders from the head -/
def ABF (z : Nat → Int32) : Prop := ∀ f, f < 8 → (if 0 ≤ z (12 + 8 * f + 0) - z 9 then z (12 + 8 * f + 0) - z 9 else 0 - (z (12 + 8 * f + 0) - z 9)) = ap (z (12 + 8 * f + 0)) (z 9)
def nxI (s : Int32) : Int32 := (1103515245 * s.toInt64 + 12345 - (1103515245 * s.toInt64 + 12345) / 2147483648 * 2147483648).toInt32
theorem tM_eq {z : Nat → Int32} {n f : Nat} {d v : Int32} (h : v = cl (z (216 + 8 * n + f) + d)) : upd z (216 + 8 * n + f) v = tM z n f d := by rw [tM, h]
