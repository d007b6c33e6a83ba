/-! the class: the parts of a text, laid -/
def apB (s : BS) (z : Nat → Int32) : Bool := if s.2.2.2 then decide (nf z < 8) else decide (np z < 24)
noncomputable def apZ (s : BS) (z : Nat → Int32) : Nat → Int32 := if apB s z then (if s.2.2.2 then nfI z (s.1 0) (s.1 1) (s.1 2) 0 0 else apA z (s.1 0) (s.1 1)) else z
theorem nfB_lo {z : Nat → Int32} {x k p m t : Int32} {j : Nat} (hj : j < 12) : nfB z x k p m t j = z j := by
  rw [nfB, fu_4]
  unfold afT nfA
  rw [upd_ne (by omega), upd_ne (by omega), upd_ne (by omega), upd_ne (by omega), upd_ne (by omega), upd_ne (by omega), upd_ne (by omega), upd_ne (by omega), upd_ne (by omega)]
theorem nfI_5 {z : Nat → Int32} {x k p m t : Int32} : nfI z x k p m t 5 = z 5 + 1 := by rw [nfI, upd_eq, nfB_lo (by omega)]
theorem nfI_lo {z : Nat → Int32} {x k p m t : Int32} {j : Nat} (hj : j < 12) (h5 : j ≠ 5) : nfI z x k p m t j = z j := by rw [nfI, upd_ne h5, nfB_lo hj]
theorem CN.nfI {z : Nat → Int32} {x k p m t : Int32} (h : CN z) (h8 : nf z < 8) : CN (nfI z x k p m t) ∧ nf (nfI z x k p m t) = nf z + 1 := by
  obtain ⟨h1, h2, h3, h4⟩ := h
  have e5 : _root_.Jvm.Pilot.CGossipHeadLaw_law_r8652_253339.nfI z x k p m t 5 = nI (nf z + 1) := by rw [nfI_5, h1]; exact nI_1 _
  have en : nf (_root_.Jvm.Pilot.CGossipHeadLaw_law_r8652_253339.nfI z x k p m t) = nf z + 1 := by unfold nf; rw [e5, nI_clamp (by omega)]; rfl
  have e6 : _root_.Jvm.Pilot.CGossipHeadLaw_law_r8652_253339.nfI z x k p m t 6 = z 6 := nfI_lo (by omega) (by omega)
  have enp : np (_root_.Jvm.Pilot.CGossipHeadLaw_law_r8652_253339.nfI z x k p m t) = np z := np_eq e6
  exact ⟨⟨by rw [e5, en], by omega, by rw [e6, enp]; exact h3, by omega⟩, en⟩
theorem CN.apZ {s : BS} {z : Nat → Int32} (h : CN z) : CN (apZ s z) := by
  unfold _root_.Jvm.Pilot.CGossipHeadLaw_law_r8652_253339.apZ
  by_cases hb : apB s z = true
  · rw [if_pos hb]
    unfold apB at hb
    by_cases hp : s.2.2.2 = true
    · rw [if_pos hp] at hb ⊢
      exact (h.nfI (of_decide_eq_true hb)).1
    · rw [if_neg hp] at hb ⊢
      exact (h.ap (of_decide_eq_true hb)).1
  · rw [if_neg hb]
    exact h
/-- a second pass over the text: how many parts are laid, the state, the reader -/
abbrev AS : Type := Nat × (Nat → Int32) × BS
def pe (t : Nat → Int32) (len i : Nat) : Bool := decide (i = len) || decide (t i = 59)
def nxS (t : Nat → Int32) (len i : Nat) (s : BS) : BS := if i < len then baS (t i) s else s
noncomputable def acL (t : Nat → Int32) (len : Nat) : Nat → Nat → AS → AS
  | 0, _, q => q
  | m + 1, i, q => if pe t len i then (if apB q.2.2 q.2.1 then acL t len m (i + 1) (q.1 + 1, apZ q.2.2 q.2.1, nxS t len i q.2.2) else q) else acL t len m (i + 1) (q.1, q.2.1, nxS t len i q.2.2)
theorem acL_0 {t : Nat → Int32} {len i : Nat} {q : AS} : acL t len 0 i q = q := rfl
theorem acL_s {t : Nat → Int32} {len m i : Nat} {q : AS} : acL t len (m + 1) i q = if pe t len i then (if apB q.2.2 q.2.1 then acL t len m (i + 1) (q.1 + 1, apZ q.2.2 q.2.1, nxS t len i q.2.2) else q) else acL t len m (i + 1) (q.1, q.2.1, nxS t len i q.2.2) := rfl
noncomputable def acA (t : Nat → Int32) (len : Nat) (z : Nat → Int32) (s : BS) : AS := acL t len (len + 1) 0 (0, z, (s.1, none, s.2.2.1, s.2.2.2))
theorem BV.nxS {t : Nat → Int32} {len i : Nat} {s : BS} (h : BV i s) (hl : len ≤ 60) : BV (i + 1) (nxS t len i s) := by
  unfold _root_.Jvm.Pilot.CGossipHeadLaw_law_r8652_253339.nxS
  by_cases q : i < len
  · rw [if_pos q]; exact h.st (by omega)
  · rw [if_neg q]; exact ⟨fun j hj => by have := h.1 j hj; exact ⟨this.1, by omega⟩, h.2⟩
