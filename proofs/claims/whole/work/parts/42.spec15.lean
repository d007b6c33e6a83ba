theorem gs_rg {T T' s : Int32} (h : IN T 0 100) (h' : IN T' 0 100) (hs : IN s 0 100) : ((T' - T) * s / 200).toInt = ((T'.toInt - T.toInt) * s.toInt).tdiv 200 := by
  have e := i32_sub (a := T') (b := T) (by have := h'.1; omega) (by have := h'.2; omega) (by have := h.1; omega) (by have := h.2; omega)
  have hb : -10000 ≤ (T'.toInt - T.toInt) * s.toInt ∧ (T'.toInt - T.toInt) * s.toInt ≤ 10000 := by
    obtain ⟨a1, a2⟩ := h; obtain ⟨b1, b2⟩ := h'; obtain ⟨c1, c2⟩ := hs
    generalize T.toInt = t at *; generalize T'.toInt = t' at *; generalize s.toInt = w at *
    constructor
    · have h1 : (-100) * w ≤ (t' - t) * w := Int.mul_le_mul_of_nonneg_right (by omega) c1
      omega
    · have h1 : (t' - t) * w ≤ 100 * w := Int.mul_le_mul_of_nonneg_right (by omega) c1
      omega
  have em : ((T' - T) * s).toInt = (T'.toInt - T.toInt) * s.toInt := by
    rw [Int32.toInt_mul, e]
    exact Int.bmod_eq_of_le (by omega) (by omega)
  rw [Int32.toInt_div_of_ne_right _ _ (by decide), em]
  rfl
theorem gs_b {t t' w : Int} (h0 : 0 ≤ t) (h1 : t ≤ 100) (h2 : 0 ≤ t') (h3 : t' ≤ 100) (h4 : 0 ≤ w) (h5 : w ≤ 100) : -50 ≤ ((t' - t) * w).tdiv 200 ∧ ((t' - t) * w).tdiv 200 ≤ 50 ∧ 0 ≤ t + ((t' - t) * w).tdiv 200 ∧ t + ((t' - t) * w).tdiv 200 ≤ 100 ∧ 0 ≤ t' - ((t' - t) * w).tdiv 200 ∧ t' - ((t' - t) * w).tdiv 200 ≤ 100 := by
  by_cases q : t ≤ t'
  · have p1 : 0 ≤ (t' - t) * w := Int.mul_nonneg (by omega) h4
    have p2 : (t' - t) * w ≤ (t' - t) * 100 := Int.mul_le_mul_of_nonneg_left h5 (by omega)
    rw [Int.tdiv_eq_ediv_of_nonneg p1]
    generalize (t' - t) * w = P at *
    omega
  · have p1 : 0 ≤ (t - t') * w := Int.mul_nonneg (by omega) h4
    have p2 : (t - t') * w ≤ (t - t') * 100 := Int.mul_le_mul_of_nonneg_left h5 (by omega)
    rw [show (t' - t) * w = -((t - t') * w) by rw [← Int.neg_mul]; congr 1; omega, Int.neg_tdiv, Int.tdiv_eq_ediv_of_nonneg p1]
    generalize (t - t') * w = P at *
    omega
theorem cl_id {x : Int32} (h : IN x 0 100) : cl x = x := by
  have a : 0 ≤ x := by rw [le_t, t0]; exact h.1
  have b : x ≤ 100 := by rw [le_t, t100]; exact h.2
  rw [cl, if_pos a, if_pos b]
theorem gs_1 {T T' s : Int32} (h : IN T 0 100) (h' : IN T' 0 100) (hs : IN s 0 100) : cl (T + (T' - T) * s / 200) = T + (T' - T) * s / 200 := by
  have e := gs_rg h h' hs
  have b := gs_b h.1 h.2 h'.1 h'.2 hs.1 hs.2
  apply cl_id
  unfold IN
  rw [i32_add (by have := h.1; omega) (by have := h.2; omega) (by omega) (by omega), e]
  omega
theorem gs_2 {T T' s : Int32} (h : IN T 0 100) (h' : IN T' 0 100) (hs : IN s 0 100) : cl (T' + -((T' - T) * s / 200)) = T' + -((T' - T) * s / 200) := by
  have e := gs_rg h h' hs
  have b := gs_b h.1 h.2 h'.1 h'.2 hs.1 hs.2
  apply cl_id
  unfold IN
  rw [← Int32.sub_eq_add_neg, i32_sub (by have := h'.1; omega) (by have := h'.2; omega) (by omega) (by omega), e]
  omega
