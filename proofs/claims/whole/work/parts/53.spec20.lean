/-! the class: a board's text and its reader -/
def BW (g : GT) (x : Nat → Nat) (tx : Nat → Int32) (ln : Int32) (nu : Nat → Int32) (co di fe : Int32) : va_W := [(x 0, .inr (0, [.ref (x 1), .int ln, .ref (x 2), .int co, .int di, .int fe])), (x 1, .inl (g.2.2 0, 60, .inl tx)), (x 2, .inl (g.2.2 0, 3, .inl nu))]
theorem BWf {g : GT} {x : Nat → Nat} {tx nu tx' nu' : Nat → Int32} {ln co di fe ln' co' di' fe' : Int32} : ((BW g x tx ln nu co di fe).take [0, 1, 2].length).map Prod.fst = (BW g x tx' ln' nu' co' di' fe').map Prod.fst := rfl
theorem BWm {g : GT} {x : Nat → Nat} {tx nu tx' nu' : Nat → Int32} {ln co di fe ln' co' di' fe' : Int32} : (BW g x tx ln nu co di fe).map Prod.fst = (BW g x tx' ln' nu' co' di' fe').map Prod.fst := rfl
/-- the reader: its numbers, the column that is read, its digits, is it a feeder -/
abbrev BS : Type := (Nat → Int32) × Option Nat × Nat × Bool
def nE (j : Nat) (f : Bool) : Int32 := if j = 0 then 58 else if j = 1 ∧ f = true then 42 else 59
def bdg (c : Int32) : Bool := decide (48 ≤ c) && decide (c ≤ 57)
theorem bdg_1 {c : Int32} (h1 : 48 ≤ c) (h2 : c ≤ 57) : bdg c = true := by rw [bdg, decide_eq_true h1, decide_eq_true h2]; rfl
theorem bdg_2 {c : Int32} (h : bdg c = true) : 48 ≤ c ∧ c ≤ 57 := by rw [bdg, Bool.and_eq_true] at h; exact ⟨of_decide_eq_true h.1, of_decide_eq_true h.2⟩
def bdB (nu : Nat → Int32) (j D : Nat) (d : Int32) : Bool := !(decide (0 < D) && decide (nu j = 0)) && !(decide (gnT j < 10 * nu j + d))
def baB (c : Int32) (s : BS) : Bool := match s.2.1 with
  | none => decide (c = 112) || decide (c = 102)
  | some j => if bdg c then bdB s.1 j s.2.2.1 (c - 48) else !(decide (s.2.2.1 = 0)) && decide (c = nE j s.2.2.2)
def baS (c : Int32) (s : BS) : BS := if baB c s then (match s.2.1 with
  | none => (upd s.1 0 0, some 0, 0, decide (c = 102))
  | some j => if bdg c then (upd s.1 j (10 * s.1 j + (c - 48)), some j, s.2.2.1 + 1, s.2.2.2) else if c = 59 then (s.1, none, s.2.2.1, s.2.2.2) else (upd s.1 (j + 1) 0, some (j + 1), 0, s.2.2.2)) else s
def BWs (g : GT) (x : Nat → Nat) (tx : Nat → Int32) (ln : Int32) (s : BS) : va_W := BW g x tx ln s.1 (en s.2.1) (nI s.2.2.1) (bi s.2.2.2)
/-- columns are 0, 1, 2; k characters have been read -/
def BV (k : Nat) (s : BS) : Prop := (∀ j, s.2.1 = some j → j < 3 ∧ s.2.2.1 ≤ k) ∧ s.2.2.1 ≤ 60
theorem nE_2 {f : Bool} : nE 2 f = 59 := rfl
theorem baS_no {c : Int32} {s : BS} (h : baB c s = false) : baS c s = s := by unfold baS; rw [h]; rfl
theorem BV.st {k : Nat} {c : Int32} {s : BS} (h : BV k s) (hk : k < 60) : BV (k + 1) (baS c s) := by
  obtain ⟨nu, co, di, fe⟩ := s
  obtain ⟨h1, h2⟩ := h
  have h2 : di ≤ 60 := h2
  cases hb : baB c (nu, co, di, fe) with
  | false => rw [baS_no hb]; exact ⟨fun j hj => by have := h1 j hj; exact ⟨this.1, Nat.le_succ_of_le this.2⟩, h2⟩
  | true =>
    unfold baS
    rw [if_pos hb]
    cases co with
    | none => exact ⟨fun j hj => by cases hj; exact ⟨by omega, Nat.zero_le _⟩, Nat.zero_le _⟩
    | some j =>
      obtain ⟨hj, hd⟩ : j < 3 ∧ di ≤ k := h1 j rfl
      show BV (k + 1) (if bdg c then _ else _)
      by_cases q : bdg c = true
      · rw [if_pos q]; exact ⟨fun i hi => by cases hi; exact ⟨hj, by show di + 1 ≤ k + 1; omega⟩, by show di + 1 ≤ 60; omega⟩
      · rw [if_neg q]
        by_cases e : c = 59
        · rw [if_pos e]; exact ⟨fun i hi => (by cases hi), h2⟩
        · rw [if_neg e]
          refine ⟨fun i hi => ?_, Nat.zero_le _⟩
          cases hi
          have hb : (if bdg c then _ else !(decide (di = 0)) && decide (c = nE j fe)) = true := hb
          rw [if_neg q, Bool.and_eq_true] at hb
          have e2 := of_decide_eq_true hb.2
          by_cases e3 : j = 2
          · subst e3; exact absurd e2 e
          · exact ⟨by show j + 1 < 3; omega, Nat.zero_le _⟩
/-- the text up to: how far its characters are taken -/
def beL (t : Nat → Int32) : Nat → Nat → BS → Nat × BS
  | 0, k, s => (k, s)
  | m + 1, k, s => if baB (t k) s then beL t m (k + 1) (baS (t k) s) else (k, s)
theorem beL_0 {t : Nat → Int32} {k : Nat} {s : BS} : beL t 0 k s = (k, s) := rfl
theorem beL_s {t : Nat → Int32} {m k : Nat} {s : BS} : beL t (m + 1) k s = if baB (t k) s then beL t m (k + 1) (baS (t k) s) else (k, s) := rfl
def beA (t : Nat → Int32) (len : Nat) (s : BS) : Nat × BS := beL t len 0 (s.1, none, s.2.2.1, s.2.2.2)
theorem beL_le (t : Nat → Int32) : ∀ (m k : Nat) (s : BS), (beL t m k s).1 ≤ k + m
  | 0, k, s => Nat.le_refl _
  | m + 1, k, s => by
    unfold beL
    split
    · have := beL_le t m (k + 1) (baS (t k) s); omega
    · show k ≤ k + (m + 1); omega
theorem beL_BV (t : Nat → Int32) : ∀ (m k : Nat) (s : BS), k + m ≤ 60 → BV k s → BV (k + m) (beL t m k s).2
  | 0, k, s, _, h => h
  | m + 1, k, s, hm, h => by
    unfold beL
    split
    · have := beL_BV t m (k + 1) _ (by omega) (h.st (c := t k) (by omega)); rw [show k + (m + 1) = k + 1 + m by omega]; exact this
    · exact ⟨fun j hj => by have := h.1 j hj; exact ⟨this.1, by show s.2.2.1 ≤ k + (m + 1); omega⟩, h.2⟩
theorem beA_BV {t : Nat → Int32} {len : Nat} {s : BS} (hl : len ≤ 60) (h : s.2.2.1 ≤ 60) : BV len (beA t len s).2 := by
  have := beL_BV t len 0 (s.1, none, s.2.2.1, s.2.2.2) (by omega) ⟨fun j hj => (by cases hj), h⟩
  rw [Nat.zero_add] at this
  exact this
def ibB (len : Nat) (q : Nat × BS) : Bool := decide (q.1 = len) && (match q.2.2.1 with
  | none => false
  | some j => decide (0 < q.2.2.2.1) && decide (nE j q.2.2.2.2 = 59))
