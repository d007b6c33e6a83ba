/-! a checked number, as a Nat; a new place of the class is the reference's -/
theorem wi_f {v : Int32} {m : Nat} (hm : m ≤ 24) (h : wi v 0 (nI m - 1) = true) : ∃ j : Nat, j < m ∧ v = nI j := by
  rw [wi_ct hm, Bool.and_eq_true] at h
  have h1 : ¬ v < 0 := by intro q; rw [decide_eq_true q] at h; exact absurd h.1 (by decide)
  have h2 : ¬ nI m ≤ v := by intro q; rw [decide_eq_true q] at h; exact absurd h.2 (by decide)
  have e1 : (nI m).toInt = m := nI_toInt (by omega)
  have h3 : 0 ≤ v.toInt := by have := Int32.not_lt.mp h1; rw [le_t] at this; exact this
  have h4 : v.toInt < m := by have := Int32.not_le.mp h2; rw [lt_t, e1] at this; exact this
  refine ⟨v.toInt.toNat, by omega, Int32.toInt_inj.mp ?_⟩
  rw [nI_toInt (by omega)]; omega
theorem nI_lt' {a b : Nat} (ha : a < 2 ^ 31) (h : nI a < nI b) : a < b := Nat.not_le.mp (fun q => nI_nlt (a := a) (b := b) q ha h)
theorem apI_eq {z : Nat → Int32} {x k : Int32} : upd (emz (upd (upd z (76 + 5 * np z + 0) x) (76 + 5 * np z + 1) k) (np z)) 6 (emz (upd (upd z (76 + 5 * np z + 0) x) (76 + 5 * np z + 1) k) (np z) 6 + 1) = apA z x k := by
  rw [emz_lo (by decide), upd_ne (by omega), upd_ne (by omega), emz, apA]
  rw [upd_comm (i := 76 + 5 * np z + 4) (j := 6) (by omega), upd_comm (i := 76 + 5 * np z + 3) (j := 6) (by omega), upd_comm (i := 76 + 5 * np z + 2) (j := 6) (by omega), upd_comm (i := 76 + 5 * np z + 1) (j := 6) (by omega), upd_comm (i := 76 + 5 * np z + 0) (j := 6) (by omega)]
theorem wi_t {v : Int32} (h : wi v 1 20 = true) : ∃ j : Nat, 1 ≤ j ∧ j ≤ 20 ∧ v = nI j := by
  unfold wi at h
  rw [Bool.and_eq_true] at h
  have h1 : ¬ v < 1 := by intro q; rw [decide_eq_true q] at h; exact absurd h.1 (by decide)
  have h2 : ¬ 20 < v := by intro q; rw [decide_eq_true q] at h; exact absurd h.2 (by decide)
  have e1 : (1 : Int32).toInt = 1 := rfl
  have e2 : (20 : Int32).toInt = 20 := rfl
  have h3 : 1 ≤ v.toInt := by have := Int32.not_lt.mp h1; rw [le_t, e1] at this; exact this
  have h4 : v.toInt ≤ 20 := by have := Int32.not_lt.mp h2; rw [le_t, e2] at this; exact this
  refine ⟨v.toInt.toNat, by omega, by omega, Int32.toInt_inj.mp ?_⟩
  rw [nI_toInt (by omega)]; omega
