/-! ranges, and where the class's arithmetic is the reference's -/
theorem i32_sub {a b : Int32} (h1 : -1000000000 ≤ a.toInt) (h2 : a.toInt ≤ 1000000000) (h3 : -1000000000 ≤ b.toInt) (h4 : b.toInt ≤ 1000000000) : (a - b).toInt = a.toInt - b.toInt := by
  rw [Int32.toInt_sub]
  exact Int.bmod_eq_of_le (by omega) (by omega)
theorem i32_add {a b : Int32} (h1 : -1000000000 ≤ a.toInt) (h2 : a.toInt ≤ 1000000000) (h3 : -1000000000 ≤ b.toInt) (h4 : b.toInt ≤ 1000000000) : (a + b).toInt = a.toInt + b.toInt := by
  rw [Int32.toInt_add]
  exact Int.bmod_eq_of_le (by omega) (by omega)
theorem le_t {a b : Int32} : a ≤ b ↔ a.toInt ≤ b.toInt := Int32.le_iff_toInt_le
theorem lt_t {a b : Int32} : a < b ↔ a.toInt < b.toInt := Int32.lt_iff_toInt_lt
theorem t0 : (0 : Int32).toInt = 0 := rfl
theorem t99 : (99 : Int32).toInt = 99 := rfl
theorem t100 : (100 : Int32).toInt = 100 := rfl
/-- lo ≤ x ≤ hi -/
def IN (x : Int32) (lo hi : Int) : Prop := lo ≤ x.toInt ∧ x.toInt ≤ hi
theorem cl_rg (x : Int32) : IN (cl x) 0 100 := by
  unfold cl
  split
  · rename_i h
    split
    · rename_i h2
      exact ⟨by have := le_t.mp h; rw [t0] at this; exact this, by have := le_t.mp h2; rw [t100] at this; exact this⟩
    · exact ⟨by decide, by decide⟩
  · exact ⟨by decide, by decide⟩
theorem bl_eq {T s : Int32} (h : IN T 0 100) (hs : IN s 0 100) : (if T - s < 0 then 0 else T - s) = cl (T + -s) := by
  have e := i32_sub (a := T) (b := s) (by have := h.1; omega) (by have := h.2; omega) (by have := hs.1; omega) (by have := hs.2; omega)
  rw [← Int32.sub_eq_add_neg, cl]
  by_cases q : T - s < 0
  · rw [if_pos q, if_neg (Int32.not_le.mpr q)]
  · have q2 : T - s ≤ 100 := by rw [le_t, e, t100]; have := h.2; have := hs.1; omega
    rw [if_neg q, if_pos (Int32.not_lt.mp q), if_pos q2]
theorem pr_eq {T s : Int32} (h : IN T 0 100) (hs : IN s 0 100) : (if 100 < T + s then 100 else T + s) = cl (T + s) := by
  have e := i32_add (a := T) (b := s) (by have := h.1; omega) (by have := h.2; omega) (by have := hs.1; omega) (by have := hs.2; omega)
  have q0 : 0 ≤ T + s := by rw [le_t, e, t0]; have := h.1; have := hs.1; omega
  rw [cl, if_pos q0]
  by_cases q : 100 < T + s
  · rw [if_pos q, if_neg (Int32.not_le.mpr q)]
  · rw [if_neg q, if_pos (Int32.not_lt.mp q)]
theorem ab_eq {x y : Int32} (h : IN x 0 99) (hs : IN y 0 99) : (if 0 ≤ x - y then x - y else 0 - (x - y)) = ap x y := by
  have e := i32_sub (a := x) (b := y) (by have := h.1; omega) (by have := h.2; omega) (by have := hs.1; omega) (by have := hs.2; omega)
  have e2 := i32_sub (a := y) (b := x) (by have := hs.1; omega) (by have := hs.2; omega) (by have := h.1; omega) (by have := h.2; omega)
  have e3 := i32_sub (a := 0) (b := x - y) (by decide) (by decide) (by rw [e]; have := h.1; have := hs.2; omega) (by rw [e]; have := h.2; have := hs.1; omega)
  rw [ap]
  by_cases q : y ≤ x
  · have q0 : 0 ≤ x - y := by rw [le_t, e, t0]; have := le_t.mp q; omega
    rw [if_pos q0, if_pos q]
  · have q0 : ¬ 0 ≤ x - y := by rw [le_t, e, t0]; have := mt le_t.mpr q; omega
    rw [if_neg q0, if_neg q]
    exact Int32.toInt_inj.mp (by rw [e3, e2, e, t0]; omega)
theorem ap_comm {x y : Int32} : ap x y = ap y x := by
  unfold ap
  by_cases q : y ≤ x
  · by_cases q2 : x ≤ y
    · have : x = y := Int32.toInt_inj.mp (by have := le_t.mp q; have := le_t.mp q2; omega)
      subst this; rfl
    · rw [if_pos q, if_neg q2]
  · have q2 : x ≤ y := by rw [le_t]; have := mt le_t.mpr q; omega
    rw [if_neg q, if_pos q2]
/-! the seed's step: a rest by 2^31 of what is not negative is its low 31 bits -/
theorem rem_and {X : Int64} (h : X.toBitVec.msb = false) : X - X / 2147483648 * 2147483648 = X &&& 2147483647 := by
  refine Int64.toBitVec_inj.mp ?_
  rw [Int64.toBitVec_sub, Int64.toBitVec_mul, Int64.toBitVec_div, Int64.toBitVec_and]
  have e : X.toBitVec.sdiv (2147483648 : Int64).toBitVec = X.toBitVec / (2147483648 : Int64).toBitVec := by
    rw [BitVec.sdiv_eq, h, show (2147483648 : Int64).toBitVec.msb = false from by decide]
    rfl
  rw [e]
  apply BitVec.eq_of_toNat_eq
  rw [BitVec.toNat_sub, BitVec.toNat_mul, BitVec.toNat_and]
  have e1 : (X.toBitVec / (2147483648 : Int64).toBitVec).toNat = X.toBitVec.toNat / 2147483648 := BitVec.toNat_udiv
  have e2 : (2147483648 : Int64).toBitVec.toNat = 2147483648 := by decide
  have e3 : (2147483647 : Int64).toBitVec.toNat = 2 ^ 31 - 1 := by decide
  rw [e1, e2, e3, Nat.and_two_pow_sub_one_eq_mod]
  have hl := X.toBitVec.isLt
  omega
theorem nx_eq {s : Int32} (h : 0 ≤ s.toInt) : nxI s = nx s := by
  have hl := Int32.toInt_lt s
  have e : (1103515245 * s.toInt64 + 12345).toInt = 1103515245 * s.toInt + 12345 := by
    rw [Int64.toInt_add, Int64.toInt_mul, Int32.toInt_toInt64, show (1103515245 : Int64).toInt = 1103515245 from by decide, show (12345 : Int64).toInt = 12345 from by decide, Int.bmod_eq_of_le (n := 1103515245 * s.toInt) (by omega) (by omega)]
    exact Int.bmod_eq_of_le (by omega) (by omega)
  have hm : (1103515245 * s.toInt64 + 12345).toBitVec.msb = false := by
    rw [BitVec.msb_eq_toInt]
    exact decide_eq_false (by rw [show (1103515245 * s.toInt64 + 12345).toBitVec.toInt = (1103515245 * s.toInt64 + 12345).toInt from rfl, e]; omega)
  unfold nxI nx
  rw [rem_and hm]
def RT (z : Nat → Int32) : Prop := (∀ j, j < 32 → IN (z (216 + j)) 0 100) ∧ IN (z 1) 0 100 ∧ IN (z 2) 0 100
theorem RT.tm {z : Nat → Int32} (h : RT z) {n f : Nat} {d : Int32} : RT (tM z n f d) := by
  refine ⟨fun j hj => ?_, by rw [tM, upd_ne (by omega)]; exact h.2.1, by rw [tM, upd_ne (by omega)]; exact h.2.2⟩
  by_cases e : 216 + j = 216 + 8 * n + f
  · rw [e, tM, upd_eq]; exact cl_rg _
  · rw [tM, upd_ne e]; exact h.1 j hj
theorem RT.of {y z : Nat → Int32} (h : RT z) (e : ∀ j, (j < 3 ∨ 216 ≤ j) → y j = z j) : RT y :=
  ⟨fun j hj => by rw [e _ (Or.inr (by omega))]; exact h.1 j hj, by rw [e _ (Or.inl (by omega))]; exact h.2.1, by rw [e _ (Or.inl (by omega))]; exact h.2.2⟩
theorem RT.em {z : Nat → Int32} (h : RT z) {p : Nat} (hp : p < 24) : RT (emz z p) := h.of (fun j hj => by rw [emz, upd_ne (by omega), upd_ne (by omega), upd_ne (by omega)])
theorem RT.t {z : Nat → Int32} (h : RT z) {n f : Nat} (hn : n < 4) (hf : f < 8) : IN (z (216 + 8 * n + f)) 0 100 := by
  have := h.1 (8 * n + f) (by omega)
  rwa [← Nat.add_assoc] at this
theorem inF_RT {p : Nat} {s : (Nat → Int32) × Int32} (h : RT s.1) (hp : p < 24) : RT (inF p s).1 := by
  unfold inF
  by_cases q : s.1 (76 + 5 * p + 2) = 2
  · rw [if_pos q]; exact h.tm.em hp
  · rw [if_neg q]; exact h
