theorem mn_eq {x y : Int32} : (if y < x then y else x) = (if x ≤ y then x else y) := by
  by_cases h : y < x
  · rw [if_pos h, if_neg (Int32.not_le.mpr h)]
  · rw [if_neg h, if_pos (Int32.not_lt.mp h)]
theorem mx_eq {x y : Int32} : (if x < y then y else x) = (if y ≤ x then x else y) := by
  by_cases h : x < y
  · rw [if_pos h, if_neg (Int32.not_le.mpr h)]
  · rw [if_neg h, if_pos (Int32.not_lt.mp h)]
/-- the kinds that feeders hold, as a mask -/
def skF (z : Nat → Int32) (i : Nat) (m : Int32) : Int32 := if z (12 + 8 * i + 2) ≤ 0 then m else m ||| (1 <<< (z (12 + 8 * i + 1) &&& 31))
noncomputable def skM (z : Nat → Int32) : Int32 := fu (skF z) 0 (nf z) 0
/-- a new feeder, as the class lays it -/
def nfA (z : Nat → Int32) (x k p m t : Int32) : Nat → Int32 := upd (upd (upd (upd (upd z (12 + 8 * nf z + 0) x) (12 + 8 * nf z + 1) k) (12 + 8 * nf z + 2) p) (12 + 8 * nf z + 3) m) (12 + 8 * nf z + 4) t
noncomputable def nfB (z : Nat → Int32) (x k p m t : Int32) : Nat → Int32 := fu (afT (nf z)) 0 4 (nfA z x k p m t)
noncomputable def nfI (z : Nat → Int32) (x k p m t : Int32) : Nat → Int32 := upd (nfB z x k p m t) 5 (nfB z x k p m t 5 + 1)
theorem cpy_sg {z y : Nat → Int32} {o n : Nat} : va_cpy (sg z o n) (sg y o n) 0 0 n = sg z o n := by
  funext k
  unfold va_cpy sg
  by_cases h : k < n
  · rw [if_pos ⟨Nat.zero_le _, by omega⟩, show 0 + (k - 0) = k by omega]
  · rw [if_neg (by omega), if_neg h, if_neg h]
