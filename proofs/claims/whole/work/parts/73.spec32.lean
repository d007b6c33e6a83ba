/-! the law's world -/
abbrev rmL_law : Room := { frames := 12, cells := 601024, slots := 7293034, locals := 436 }
def SCW (g : GT) (sa L : Nat) (sc : Nat → Int32) : va_W := [(sa, .inl (g.2.2 0, L, .inl sc))]
def LI (K : Nat) (z : Nat → Int32) (n : Nat) (sv : SV) (hi tx : Nat → Int32) (len : Nat) (s : BS) : Prop := IV K z ∧ HI K n sv hi ∧ len ≤ 60 ∧ TXT tx len ∧ s.2.2.1 ≤ 60
theorem gre_eq {j : Nat} (h : j < 5) : gre j = gsT j := by
  rcases (show j = 0 ∨ j = 1 ∨ j = 2 ∨ j = 3 ∨ j = 4 by omega) with rfl | rfl | rfl | rfl | rfl <;> rfl
theorem pvL {O w1 G S M : va_W} (hw : w1.Perm G) : ((O ++ w1) ++ (S ++ M)).Perm (((S ++ O) ++ G) ++ M) := by
  have h : ((O ++ G) ++ (S ++ M)).Perm (((S ++ O) ++ G) ++ M) := by
    rw [← List.append_assoc]
    refine List.Perm.append_right _ ?_
    refine List.perm_append_comm.trans ?_
    rw [← List.append_assoc]
  exact (List.Perm.append_right _ (List.Perm.append_left _ hw)).trans h
theorem pvW {O G S M : va_W} : (((S ++ O) ++ G) ++ M).Perm ((O ++ G) ++ (S ++ M)) := (pvL (List.Perm.refl G)).symm
theorem pvM {O G S M : va_W} : (((S ++ O) ++ G) ++ M).Perm (M ++ ((S ++ O) ++ G)) := List.perm_append_comm
theorem pvG {O G S M : va_W} : (((S ++ O) ++ G) ++ M).Perm (G ++ ((S ++ O) ++ M)) := by
  refine (List.Perm.append_right _ List.perm_append_comm).trans ?_
  rw [List.append_assoc]
theorem pvH {O w1 G S M : va_W} (hw : w1.Perm G) : (w1 ++ ((S ++ O) ++ M)).Perm (((S ++ O) ++ G) ++ M) := (List.Perm.append_right _ hw).trans pvG.symm
theorem MWm {g : GT} {a : Nat → Nat} {z hi tx ai pa tu pt ke z' hi' tx' ai' pa' tu' pt' ke' : Nat → Int32} {st le th re nu du st' le' th' re' nu' du' : Int32} {ha ha' : Int64} : (MW g a z' hi' tx' ai' pa' tu' pt' ke' st' le' th' re' nu' du' ha').map Prod.fst = (MW g a z hi tx ai pa tu pt ke st le th re nu du ha).map Prod.fst := rfl
theorem cmp_0 (x : Int64) : lg_cmp x x = 0 := by
  unfold lg_cmp
  simp
