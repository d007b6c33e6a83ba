/-! the reference's reader: raw -/
abbrev TS : Type := (Nat → Int32) × Nat × Int32 × Nat
def pdV (nu d : Int32) : Int32 := if nu = -1 then d else 10 * nu + d
def pdM (dn : Nat) : Int32 := if dn = 1 then 99 else 500
def pdO (dn : Nat) : Nat := if dn = 1 then 1 else 3
def pdB (dn : Nat) (nu d : Int32) : Bool := wi d 0 9 && !(decide (nu = 0)) && !(decide (pdM dn < pdV nu d))
def pdN (dn : Nat) (nu d : Int32) : Int32 := if pdB dn nu d then pdV nu d else nu
def pdP (pt : Nat → Int32) (rn dn : Nat) (nu d : Int32) : Nat → Int32 := upd pt (4 * rn + pdO dn) (pdN dn nu d)
/-- a character: is it taken, and the reader's numbers behind it -/
def tkB (c : Int32) (s : TS) : Bool := match s.2.2.2 with
  | 0 => decide (c = 112) || decide (c = 102)
  | 1 => if c = 58 ∧ ¬ s.2.2.1 = -1 then true else pdB 1 s.2.2.1 (c - 48)
  | 2 => wi (c - 48) 0 5
  | 3 => decide (c = 42)
  | 4 => if c = 59 ∧ ¬ s.2.2.1 = -1 then true else pdB 4 s.2.2.1 (c - 48)
  | _ => decide (c = 59)
def tkS (c : Int32) (s : TS) : TS := match s.2.2.2 with
  | 0 => (upd s.1 (4 * s.2.1) (if c = 102 then 1 else 0), s.2.1, -1, 1)
  | 1 => if c = 58 ∧ ¬ s.2.2.1 = -1 then (s.1, s.2.1, s.2.2.1, 2) else (pdP s.1 s.2.1 1 s.2.2.1 (c - 48), s.2.1, pdN 1 s.2.2.1 (c - 48), 1)
  | 2 => (upd s.1 (4 * s.2.1 + 2) (c - 48), s.2.1, -1, if upd s.1 (4 * s.2.1 + 2) (c - 48) (4 * s.2.1) = 1 then 3 else 5)
  | 3 => (s.1, s.2.1, s.2.2.1, 4)
  | 4 => if c = 59 ∧ ¬ s.2.2.1 = -1 then (s.1, s.2.1 + 1, s.2.2.1, 0) else (pdP s.1 s.2.1 4 s.2.2.1 (c - 48), s.2.1, pdN 4 s.2.2.1 (c - 48), 4)
  | _ => if c = 59 then (s.1, s.2.1 + 1, s.2.2.1, 0) else s
theorem tkB_0 {c : Int32} {pt : Nat → Int32} {rn : Nat} {nu : Int32} : tkB c (pt, rn, nu, 0) = (decide (c = 112) || decide (c = 102)) := rfl
theorem tkB_1 {c : Int32} {pt : Nat → Int32} {rn : Nat} {nu : Int32} : tkB c (pt, rn, nu, 1) = (if c = 58 ∧ ¬ nu = -1 then true else pdB 1 nu (c - 48)) := rfl
theorem tkB_3 {c : Int32} {pt : Nat → Int32} {rn : Nat} {nu : Int32} : tkB c (pt, rn, nu, 3) = decide (c = 42) := rfl
theorem tkB_4 {c : Int32} {pt : Nat → Int32} {rn : Nat} {nu : Int32} : tkB c (pt, rn, nu, 4) = (if c = 59 ∧ ¬ nu = -1 then true else pdB 4 nu (c - 48)) := rfl
theorem tkB_5 {c : Int32} {pt : Nat → Int32} {rn : Nat} {nu : Int32} : tkB c (pt, rn, nu, 5) = decide (c = 59) := rfl
theorem tkS_1 {c : Int32} {pt : Nat → Int32} {rn : Nat} {nu : Int32} : tkS c (pt, rn, nu, 1) = (if c = 58 ∧ ¬ nu = -1 then (pt, rn, nu, 2) else (pdP pt rn 1 nu (c - 48), rn, pdN 1 nu (c - 48), 1)) := rfl
theorem tkS_2 {c : Int32} {pt : Nat → Int32} {rn : Nat} {nu : Int32} : tkS c (pt, rn, nu, 2) = (upd pt (4 * rn + 2) (c - 48), rn, -1, if upd pt (4 * rn + 2) (c - 48) (4 * rn) = 1 then 3 else 5) := rfl
theorem tkS_4 {c : Int32} {pt : Nat → Int32} {rn : Nat} {nu : Int32} : tkS c (pt, rn, nu, 4) = (if c = 59 ∧ ¬ nu = -1 then (pt, rn + 1, nu, 0) else (pdP pt rn 4 nu (c - 48), rn, pdN 4 nu (c - 48), 4)) := rfl
theorem tkS_5 {c : Int32} {pt : Nat → Int32} {rn : Nat} {nu : Int32} : tkS c (pt, rn, nu, 5) = (if c = 59 then (pt, rn + 1, nu, 0) else (pt, rn, nu, 5)) := rfl
/-- how many characters a part has at least had -/
def twt (s : TS) : Nat := match s.2.2.2 with
  | 0 => 0
  | 1 => if s.2.2.1 = -1 then 1 else 2
  | 2 => 3
  | 3 => 4
  | 4 => 5
  | _ => 4
def TI (s : TS) (k : Nat) : Prop := s.2.2.2 ≤ 5 ∧ 5 * s.2.1 + twt s ≤ k
theorem TI.step {s : TS} {k : Nat} {c : Int32} (h : TI s k) (hb : tkB c s = true) : TI (tkS c s) (k + 1) := by
  obtain ⟨pt, rn, nu, dn⟩ := s
  obtain ⟨h1, h2⟩ := h
  have h1 : dn ≤ 5 := h1
  rcases (show dn = 0 ∨ dn = 1 ∨ dn = 2 ∨ dn = 3 ∨ dn = 4 ∨ dn = 5 by omega) with rfl | rfl | rfl | rfl | rfl | rfl
  · have h2 : 5 * rn + 0 ≤ k := h2
    refine ⟨Nat.le_of_ble_eq_true rfl, ?_⟩
    show 5 * rn + 1 ≤ k + 1
    omega
  · have h2 : 5 * rn + (if nu = -1 then 1 else 2) ≤ k := h2
    have e : tkS c (pt, rn, nu, 1) = if c = 58 ∧ ¬ nu = -1 then (pt, rn, nu, 2) else (pdP pt rn 1 nu (c - 48), rn, pdN 1 nu (c - 48), 1) := rfl
    rw [e]
    by_cases hc : c = 58 ∧ ¬ nu = -1
    · rw [if_pos hc]
      rw [if_neg hc.2] at h2
      refine ⟨Nat.le_of_ble_eq_true rfl, ?_⟩
      show 5 * rn + 3 ≤ k + 1
      omega
    · rw [if_neg hc]
      refine ⟨Nat.le_of_ble_eq_true rfl, ?_⟩
      show 5 * rn + (if pdN 1 nu (c - 48) = -1 then 1 else 2) ≤ k + 1
      split at h2 <;> split <;> omega
  · have h2 : 5 * rn + 3 ≤ k := h2
    refine ⟨?_, ?_⟩
    · show (if upd pt (4 * rn + 2) (c - 48) (4 * rn) = 1 then 3 else 5) ≤ 5
      split <;> omega
    · unfold twt tkS
      show 5 * rn + (match (if upd pt (4 * rn + 2) (c - 48) (4 * rn) = 1 then 3 else 5) with | 0 => 0 | 1 => if (-1 : Int32) = -1 then 1 else 2 | 2 => 3 | 3 => 4 | 4 => 5 | _ => 4) ≤ k + 1
      split <;> rename_i he <;> split at he <;> omega
  · have h2 : 5 * rn + 4 ≤ k := h2
    refine ⟨Nat.le_of_ble_eq_true rfl, ?_⟩
    show 5 * rn + 5 ≤ k + 1
    omega
  · have h2 : 5 * rn + 5 ≤ k := h2
    have e : tkS c (pt, rn, nu, 4) = if c = 59 ∧ ¬ nu = -1 then (pt, rn + 1, nu, 0) else (pdP pt rn 4 nu (c - 48), rn, pdN 4 nu (c - 48), 4) := rfl
    rw [e]
    by_cases hc : c = 59 ∧ ¬ nu = -1
    · rw [if_pos hc]
      refine ⟨Nat.le_of_ble_eq_true rfl, ?_⟩
      show 5 * (rn + 1) + 0 ≤ k + 1
      omega
    · rw [if_neg hc]
      refine ⟨Nat.le_of_ble_eq_true rfl, ?_⟩
      show 5 * rn + 5 ≤ k + 1
      omega
  · have h2 : 5 * rn + 4 ≤ k := h2
    have hc : c = 59 := of_decide_eq_true hb
    have e : tkS c (pt, rn, nu, 5) = if c = 59 then (pt, rn + 1, nu, 0) else (pt, rn, nu, 5) := rfl
    rw [e, if_pos hc]
    refine ⟨Nat.le_of_ble_eq_true rfl, ?_⟩
    show 5 * (rn + 1) + 0 ≤ k + 1
    omega
/-- right up to: how far the characters t are taken, from k on, m of them -/
noncomputable def ruL (t : Nat → Int32) : Nat → Nat → TS → Nat × TS
  | 0, k, s => (k, s)
  | m + 1, k, s => if tkB (t k) s then ruL t m (k + 1) (tkS (t k) s) else (k, tkS (t k) s)
theorem ruL_0 {t : Nat → Int32} {k : Nat} {s : TS} : ruL t 0 k s = (k, s) := rfl
theorem ruL_s {t : Nat → Int32} {m k : Nat} {s : TS} : ruL t (m + 1) k s = if tkB (t k) s then ruL t m (k + 1) (tkS (t k) s) else (k, tkS (t k) s) := rfl
noncomputable def ruA (t : Nat → Int32) (len : Nat) (pt : Nat → Int32) (nu : Int32) : Nat × TS := ruL t len 0 (pt, 0, nu, 0)
theorem ruL_le (t : Nat → Int32) : ∀ (m k : Nat) (s : TS), (ruL t m k s).1 ≤ k + m
  | 0, k, s => Nat.le_refl _
  | m + 1, k, s => by
    unfold ruL
    split
    · have := ruL_le t m (k + 1) (tkS (t k) s); omega
    · show k ≤ k + (m + 1); omega
theorem ruL_TI (t : Nat → Int32) : ∀ (m k : Nat) (s : TS), TI s k → (ruL t m k s).1 = k + m → TI (ruL t m k s).2 (k + m)
  | 0, k, s, h, _ => h
  | m + 1, k, s, h, e => by
    by_cases hb : tkB (t k) s = true
    · have e1 : ruL t (m + 1) k s = ruL t m (k + 1) (tkS (t k) s) := if_pos hb
      rw [e1] at e ⊢
      have := ruL_TI t m (k + 1) (tkS (t k) s) (h.step hb) (by rw [e]; omega)
      rw [show k + (m + 1) = k + 1 + m by omega]
      exact this
    · have e1 : ruL t (m + 1) k s = (k, tkS (t k) s) := if_neg hb
      rw [e1] at e
      exact absurd (show k = k + (m + 1) from e) (by omega)
/-- the text is a whole board -/
def rbd (len : Nat) (q : Nat × TS) : Bool := decide (q.1 = len) && (decide (q.2.2.2.2 = 5) || (decide (q.2.2.2.2 = 4) && !(decide (q.2.2.2.1 = -1))))
/-- a part of those that were read -/
def adB (pt z : Nat → Int32) (q : Nat) : Bool := if pt (4 * q) = 1 then decide (nf z < 8) else decide (np z < 24)
noncomputable def adZ (pt z : Nat → Int32) (q : Nat) : Nat → Int32 := if adB pt z q then (if pt (4 * q) = 1 then afC z (pt (4 * q + 1)) (pt (4 * q + 2)) (pt (4 * q + 3)) 0 0 else apA z (pt (4 * q + 1)) (pt (4 * q + 2))) else z
noncomputable def rdL (pt : Nat → Int32) : Nat → Nat → (Nat → Int32) → Nat × (Nat → Int32)
  | 0, q, z => (q, z)
  | m + 1, q, z => if adB pt z q then rdL pt m (q + 1) (adZ pt z q) else (q, z)
theorem rdL_0 {pt z : Nat → Int32} {q : Nat} : rdL pt 0 q z = (q, z) := rfl
theorem rdL_s {pt z : Nat → Int32} {m q : Nat} : rdL pt (m + 1) q z = if adB pt z q then rdL pt m (q + 1) (adZ pt z q) else (q, z) := rfl
theorem afC_5 {z : Nat → Int32} {x k p m t : Int32} : afC z x k p m t 5 = z 5 + 1 := by
  have h1 : ∀ (w i : Nat) (y : Nat → Int32), fu (afG (nf z)) i w y 5 = y 5 := by
    intro w
    induction w with
    | zero => intro i y; rw [fu_0]
    | succ w ih => intro i y; rw [fu_s, ih, afG, upd_ne (by omega)]
  have h2 : ∀ (w i : Nat) (y : Nat → Int32), fu (afT (nf z)) i w y 5 = y 5 := by
    intro w
    induction w with
    | zero => intro i y; rw [fu_0]
    | succ w ih => intro i y; rw [fu_s, ih, afT, upd_ne (by omega)]
  rw [afC, h2, afB, h1, afA, upd_ne (by omega), upd_ne (by omega), upd_ne (by omega), upd_ne (by omega), upd_ne (by omega), upd_eq]
theorem afC_lo {z : Nat → Int32} {x k p m t : Int32} {j : Nat} (hj : j < 12) (h5 : j ≠ 5) : afC z x k p m t j = z j := by
  have h1 : ∀ (w i : Nat) (y : Nat → Int32), fu (afG (nf z)) i w y j = y j := by
    intro w
    induction w with
    | zero => intro i y; rw [fu_0]
    | succ w ih => intro i y; rw [fu_s, ih, afG, upd_ne (by omega)]
  have h2 : ∀ (w i : Nat) (y : Nat → Int32), fu (afT (nf z)) i w y j = y j := by
    intro w
    induction w with
    | zero => intro i y; rw [fu_0]
    | succ w ih => intro i y; rw [fu_s, ih, afT, upd_ne (by omega)]
  rw [afC, h2, afB, h1, afA, upd_ne (by omega), upd_ne (by omega), upd_ne (by omega), upd_ne (by omega), upd_ne (by omega), upd_ne h5]
theorem apA_6 {z : Nat → Int32} {x k : Int32} : apA z x k 6 = z 6 + 1 := by
  rw [apA, upd_ne (by omega), upd_ne (by omega), upd_ne (by omega), upd_ne (by omega), upd_ne (by omega), upd_eq]
theorem apA_lo {z : Nat → Int32} {x k : Int32} {j : Nat} (hj : j < 12) (h6 : j ≠ 6) : apA z x k j = z j := by
  rw [apA, upd_ne (by omega), upd_ne (by omega), upd_ne (by omega), upd_ne (by omega), upd_ne (by omega), upd_ne h6]
/-- the counts of feeders and places are in range -/
def CN (z : Nat → Int32) : Prop := z 5 = nI (nf z) ∧ nf z ≤ 8 ∧ z 6 = nI (np z) ∧ np z ≤ 24
theorem CN.af {z : Nat → Int32} {x k p m t : Int32} (h : CN z) (h8 : nf z < 8) : CN (afC z x k p m t) ∧ nf (afC z x k p m t) = nf z + 1 := by
  obtain ⟨h1, h2, h3, h4⟩ := h
  have e5 : afC z x k p m t 5 = nI (nf z + 1) := by rw [afC_5, h1]; exact nI_1 _
  have en : nf (afC z x k p m t) = nf z + 1 := by unfold nf; rw [e5, nI_clamp (by omega)]; rfl
  have e6 : afC z x k p m t 6 = z 6 := afC_lo (by omega) (by omega)
  have enp : np (afC z x k p m t) = np z := np_eq e6
  exact ⟨⟨by rw [e5, en], by omega, by rw [e6, enp]; exact h3, by omega⟩, en⟩
theorem CN.ap {z : Nat → Int32} {x k : Int32} (h : CN z) (h24 : np z < 24) : CN (apA z x k) ∧ np (apA z x k) = np z + 1 := by
  obtain ⟨h1, h2, h3, h4⟩ := h
  have e6 : apA z x k 6 = nI (np z + 1) := by rw [apA_6, h3]; exact nI_1 _
  have en : np (apA z x k) = np z + 1 := by unfold np; rw [e6, nI_clamp (by omega)]; rfl
  have e5 : apA z x k 5 = z 5 := apA_lo (by omega) (by omega)
  have enf : nf (apA z x k) = nf z := nf_eq e5
  exact ⟨⟨by rw [e5, enf]; exact h1, by omega, by rw [e6, en], by omega⟩, en⟩
theorem CN.ad {pt z : Nat → Int32} {q : Nat} (h : CN z) : CN (adZ pt z q) := by
  unfold adZ
  by_cases hb : adB pt z q = true
  · rw [if_pos hb]
    unfold adB at hb
    by_cases hp : pt (4 * q) = 1
    · rw [if_pos hp] at hb ⊢
      exact (h.af (of_decide_eq_true hb)).1
    · rw [if_neg hp] at hb ⊢
      exact (h.ap (of_decide_eq_true hb)).1
  · rw [if_neg hb]
    exact h
