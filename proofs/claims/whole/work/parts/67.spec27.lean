/-! the law's wrappers: what they answer and leave -/
def OB (g : GT) (ob : Nat) (f : Nat → Int64) : va_W := [(ob, .inl (g.2.2 3, 1, .inr (.inl f)))]
def LQ (g : GT) (ob : Nat) (f : Nat → Int64) (Q : Option Value → va_W → Prop) (XX : String → va_W → Prop) (cd : String → Int32) : Option Value → va_W → Prop := fun v w =>
  (∃ (r : Int32) (w1 : va_W), Q (some (.int r)) w1 ∧ v = some (.int 0) ∧ w = OB g ob (vp_updL f 0 r.toInt64) ++ w1) ∨ ∃ (E : String) (w1 : va_W), XX E w1 ∧ v = some (.int (cd E)) ∧ w = OB g ob f ++ w1
theorem FST.cons {W0 w : va_W} {x y : Nat × va_E} (h : FST W0 w) (e : x.1 = y.1) : FST (x :: W0) (y :: w) := by
  unfold FST at *
  rw [List.length_cons, List.take_succ_cons, List.map_cons, List.map_cons, h, e]
theorem LQ.fst {g : GT} {ob : Nat} {f : Nat → Int64} {Q : Option Value → va_W → Prop} {XX : String → va_W → Prop} {cd : String → Int32} {W0 : va_W} (hQ : ∀ v w, Q v w → FST W0 w) (hX : ∀ E w, XX E w → FST W0 w) : ∀ v w, LQ g ob f Q XX cd v w → FST (OB g ob f ++ W0) w := by
  intro v w h
  rcases h with ⟨r, w1, h1, _, rfl⟩ | ⟨E, w1, h1, _, rfl⟩
  · exact (hQ _ _ h1).cons rfl
  · exact (hX _ _ h1).cons rfl
def cd2 (a b : String) (E : String) : Int32 := if E = a then 1 else if E = b then 2 else 3
