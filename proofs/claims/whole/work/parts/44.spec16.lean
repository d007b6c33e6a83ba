/-! the class's aims, by masks -/
def faP (z : Nat → Int32) (m t : Int32) (p : Nat) : Bool := decide (z (76 + 5 * p + 2) = 0) && (decide ((t >>> (nI p &&& 31)) &&& 1 = 0) && decide ((m >>> (z (76 + 5 * p + 1) &&& 31)) &&& 1 = 1))
def fa (z : Nat → Int32) (m t : Int32) : Option Nat := ff (faP z m t) 0 (np z)
theorem ff_s {p : Nat → Bool} {i k : Nat} : ff p i (k + 1) = if p i then some i else ff p (i + 1) k := rfl
theorem ff_0 {p : Nat → Bool} {i : Nat} : ff p i 0 = none := rfl
