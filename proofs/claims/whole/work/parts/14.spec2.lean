/-! feeders and places that come, fills, sums: raw -/
theorem wi_nat {v hi : Int32} {n : Nat} (h : wi v 0 hi = true) (hh : hi = nI n - 1) (h0 : 0 < n) (hn : n < 1000) : ∃ j : Nat, j < n ∧ v = nI j := by
  simp only [wi, Bool.and_eq_true, Bool.not_eq_true', decide_eq_false_iff_not] at h
  obtain ⟨h1, h2⟩ := h
  obtain ⟨j, hj, rfl⟩ := nI_of h1
  refine ⟨j, ?_, rfl⟩
  rcases Nat.lt_or_ge j n with q | q
  · exact q
  · exfalso
    refine h2 ?_
    rw [hh, show (1 : Int32) = nI 1 from rfl, pk_sub (by omega)]
    exact nI_lt (by omega) hj
theorem wi_none {v hi : Int32} (hh : hi = nI 0 - 1) : wi v 0 hi = false := by
  subst hh
  have e : (nI 0 - 1 : Int32) = -1 := by decide
  rw [e]
  unfold wi
  by_cases h : v < 0
  · simp [h]
  · have : (-1 : Int32) < v := by
      obtain ⟨j, hj, rfl⟩ := nI_of h
      have h1 := nI_pos' (n := j) hj
      rw [Int32.lt_iff_toInt_lt]
      rw [nI_toInt hj]
      have : (-1 : Int32).toInt = -1 := by decide
      omega
    simp [h, this]
def afA (z : Nat → Int32) (x k p m t : Int32) : Nat → Int32 := upd (upd (upd (upd (upd (upd z 5 (z 5 + 1)) (12 + 8 * nf z + 0) x) (12 + 8 * nf z + 1) k) (12 + 8 * nf z + 2) p) (12 + 8 * nf z + 3) m) (12 + 8 * nf z + 4) t
def afG (F w : Nat) (y : Nat → Int32) : Nat → Int32 := upd y (12 + 8 * F + w) 0
def afT (F n : Nat) (y : Nat → Int32) : Nat → Int32 := upd y (216 + 8 * n + F) 50
noncomputable def afB (z : Nat → Int32) (x k p m t : Int32) : Nat → Int32 := fu (afG (nf z)) 5 3 (afA z x k p m t)
noncomputable def afC (z : Nat → Int32) (x k p m t : Int32) : Nat → Int32 := fu (afT (nf z)) 0 4 (afB z x k p m t)
def apA (z : Nat → Int32) (x k : Int32) : Nat → Int32 := upd (upd (upd (upd (upd (upd z 6 (z 6 + 1)) (76 + 5 * np z + 0) x) (76 + 5 * np z + 1) k) (76 + 5 * np z + 2) 0) (76 + 5 * np z + 3) (-1)) (76 + 5 * np z + 4) (-1)
noncomputable def clZ (z : Nat → Int32) : Nat → Int32 := fu (fun p y => emz y p) 0 (np z) z
def gre (n : Nat) : Int32 := if n = 0 then 5 else if n = 1 ∨ n = 2 then 50 else 100
def sNF (z : Nat → Int32) (k n : Nat) (c : Int32) : Int32 := c + z (196 + 5 * n + k)
noncomputable def sN (z : Nat → Int32) (k : Nat) : Int32 := fu (sNF z k) 0 4 0
def aPF (z : Nat → Int32) (f : Nat) (c : Int32) : Int32 := c + z (12 + 8 * f + 2)
noncomputable def aP (z : Nat → Int32) : Int32 := fu (aPF z) 0 (nf z) 0
def tSF (z : Nat → Int32) (f n : Nat) (c : Int32) : Int32 := c + z (216 + 8 * n + f)
noncomputable def tS (z : Nat → Int32) (f : Nat) : Int32 := fu (tSF z f) 0 4 0
/-- a feeder's property -/
noncomputable def fN (z : Nat → Int32) (f k : Nat) : Int32 := if k < 8 then z (12 + 8 * f + k) else tS z f
/-- a count -/
noncomputable def ctd (z : Nat → Int32) (sn k : Nat) : Int32 :=
  if k < 6 then z (5 + k) else if k < 9 then pT z (nI (k - 6)) else if k = 9 then sN z 2 else if k = 10 then sN z 4 else if k = 11 then z 11 else if k = 12 then aP z else nI sn
/-- discord of the nozzles over a feeder -/
def dcF (z : Nat → Int32) (f n : Nat) (s : Int32 × Int32) : Int32 × Int32 := (if z (216 + 8 * n + f) ≤ s.1 then s.1 else z (216 + 8 * n + f), if s.2 ≤ z (216 + 8 * n + f) then s.2 else z (216 + 8 * n + f))
noncomputable def dcS (z : Nat → Int32) (f : Nat) : Int32 × Int32 := fu (dcF z f) 1 3 (z (216 + 8 * 0 + f), z (216 + 8 * 0 + f))
noncomputable def dc (z : Nat → Int32) (f : Nat) : Int32 := (dcS z f).1 - (dcS z f).2
noncomputable def rmF (z : Nat → Int32) (f : Nat) (o : Option Nat) : Option Nat := match o with
  | none => some f
  | some b => if dc z f ≤ dc z b then some b else some f
noncomputable def rmd (z : Nat → Int32) : Option Nat := fu (rmF z) 0 (nf z) none
/-! undo, raw -/
def udF (m : Nat) (hi : Nat → Int32) (k : Nat) (y : Nat → Int32) : Nat → Int32 := upd y k (hi (248 * m + k))
noncomputable def udZ (m : Nat) (hi z : Nat → Int32) : Nat → Int32 := fu (udF m hi) 0 248 z
