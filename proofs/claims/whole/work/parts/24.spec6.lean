/-! the class: a state, seen through the flat row -/
def sg (z : Nat → Int32) (o n : Nat) : Nat → Int32 := fun k => if k < n then z (o + k) else 0
theorem sg_out {z : Nat → Int32} {o n i : Nat} {v : Int32} (h : i < o ∨ o + n ≤ i) : sg (upd z i v) o n = sg z o n := by
  funext k
  unfold sg
  by_cases hk : k < n
  · rw [if_pos hk, if_pos hk, upd_ne (by omega)]
  · rw [if_neg hk, if_neg hk]
theorem sg_in {z : Nat → Int32} {o n j : Nat} {v : Int32} (h : j < n) : upd (sg z o n) j v = sg (upd z (o + j) v) o n := by
  funext k
  unfold sg
  by_cases hk : k < n
  · rw [if_pos hk]
    by_cases e : k = j
    · subst e; rw [upd_eq, upd_eq]
    · rw [upd_ne e, upd_ne (by omega), if_pos hk]
  · rw [if_neg hk, upd_ne (by omega), if_neg hk]
theorem sg_r {z : Nat → Int32} {o n r C k : Nat} (h : r * C + k < n) : sg z o n (r * C + k) = z (o + C * r + k) := by
  unfold sg
  rw [if_pos h, Nat.mul_comm r C, ← Nat.add_assoc]
def SWx (g : GT) (b : Nat → Nat) (x5 x6 x7 x8 x9 x10 x11 : Int32) (c0 c1 c2 c3 c4 : Nat → Int32) : va_W := [(b 0, .inr (2, [.int x5, .int x6, .int x7, .int x8, .int x9, .int x10, .int x11, .ref (b 1), .ref (b 2), .ref (b 4), .ref (b 6), .ref (b 8)])), (b 1, .inl (g.2.2 0, 5, .inl c0)), (b 2, .inr (3, [.ref (b 3), .int (nI 8)])), (b 3, .inl (g.2.2 0, 64, .inl c1)), (b 4, .inr (3, [.ref (b 5), .int (nI 5)])), (b 5, .inl (g.2.2 0, 120, .inl c2)), (b 6, .inr (3, [.ref (b 7), .int (nI 5)])), (b 7, .inl (g.2.2 0, 20, .inl c3)), (b 8, .inr (3, [.ref (b 9), .int (nI 8)])), (b 9, .inl (g.2.2 0, 32, .inl c4))]
def SW (g : GT) (b : Nat → Nat) (z : Nat → Int32) : va_W := SWx g b (z 5) (z 6) (z 7) (z 8) (z 9) (z 10) (z 11) (sg z 0 5) (sg z 12 64) (sg z 76 120) (sg z 196 20) (sg z 216 32)
theorem SWf {g : GT} {b : Nat → Nat} {z z' : Nat → Int32} : ((SW g b z).take [0, 1, 2, 3, 4, 5, 6, 7, 8, 9].length).map Prod.fst = (SW g b z').map Prod.fst := rfl
section SWL
variable {g : GT} {b : Nat → Nat} {z : Nat → Int32} {v : Int32}
theorem SW_5 : SWx g b v (z 6) (z 7) (z 8) (z 9) (z 10) (z 11) (sg z 0 5) (sg z 12 64) (sg z 76 120) (sg z 196 20) (sg z 216 32) = SW g b (upd z 5 v) := by
  unfold SW; rw [upd_eq, upd_ne (by decide), upd_ne (by decide), upd_ne (by decide), upd_ne (by decide), upd_ne (by decide), upd_ne (by decide), sg_out (by decide), sg_out (by decide), sg_out (by decide), sg_out (by decide), sg_out (by decide)]
theorem SW_6 : SWx g b (z 5) v (z 7) (z 8) (z 9) (z 10) (z 11) (sg z 0 5) (sg z 12 64) (sg z 76 120) (sg z 196 20) (sg z 216 32) = SW g b (upd z 6 v) := by
  unfold SW; rw [upd_eq, upd_ne (by decide), upd_ne (by decide), upd_ne (by decide), upd_ne (by decide), upd_ne (by decide), upd_ne (by decide), sg_out (by decide), sg_out (by decide), sg_out (by decide), sg_out (by decide), sg_out (by decide)]
theorem SW_7 : SWx g b (z 5) (z 6) v (z 8) (z 9) (z 10) (z 11) (sg z 0 5) (sg z 12 64) (sg z 76 120) (sg z 196 20) (sg z 216 32) = SW g b (upd z 7 v) := by
  unfold SW; rw [upd_eq, upd_ne (by decide), upd_ne (by decide), upd_ne (by decide), upd_ne (by decide), upd_ne (by decide), upd_ne (by decide), sg_out (by decide), sg_out (by decide), sg_out (by decide), sg_out (by decide), sg_out (by decide)]
theorem SW_8 : SWx g b (z 5) (z 6) (z 7) v (z 9) (z 10) (z 11) (sg z 0 5) (sg z 12 64) (sg z 76 120) (sg z 196 20) (sg z 216 32) = SW g b (upd z 8 v) := by
  unfold SW; rw [upd_eq, upd_ne (by decide), upd_ne (by decide), upd_ne (by decide), upd_ne (by decide), upd_ne (by decide), upd_ne (by decide), sg_out (by decide), sg_out (by decide), sg_out (by decide), sg_out (by decide), sg_out (by decide)]
theorem SW_9 : SWx g b (z 5) (z 6) (z 7) (z 8) v (z 10) (z 11) (sg z 0 5) (sg z 12 64) (sg z 76 120) (sg z 196 20) (sg z 216 32) = SW g b (upd z 9 v) := by
  unfold SW; rw [upd_eq, upd_ne (by decide), upd_ne (by decide), upd_ne (by decide), upd_ne (by decide), upd_ne (by decide), upd_ne (by decide), sg_out (by decide), sg_out (by decide), sg_out (by decide), sg_out (by decide), sg_out (by decide)]
theorem SW_10 : SWx g b (z 5) (z 6) (z 7) (z 8) (z 9) v (z 11) (sg z 0 5) (sg z 12 64) (sg z 76 120) (sg z 196 20) (sg z 216 32) = SW g b (upd z 10 v) := by
  unfold SW; rw [upd_eq, upd_ne (by decide), upd_ne (by decide), upd_ne (by decide), upd_ne (by decide), upd_ne (by decide), upd_ne (by decide), sg_out (by decide), sg_out (by decide), sg_out (by decide), sg_out (by decide), sg_out (by decide)]
theorem SW_11 : SWx g b (z 5) (z 6) (z 7) (z 8) (z 9) (z 10) v (sg z 0 5) (sg z 12 64) (sg z 76 120) (sg z 196 20) (sg z 216 32) = SW g b (upd z 11 v) := by
  unfold SW; rw [upd_eq, upd_ne (by decide), upd_ne (by decide), upd_ne (by decide), upd_ne (by decide), upd_ne (by decide), upd_ne (by decide), sg_out (by decide), sg_out (by decide), sg_out (by decide), sg_out (by decide), sg_out (by decide)]
theorem SW_s {j : Nat} (h : j < 5) : SWx g b (z 5) (z 6) (z 7) (z 8) (z 9) (z 10) (z 11) (upd (sg z 0 5) j v) (sg z 12 64) (sg z 76 120) (sg z 196 20) (sg z 216 32) = SW g b (upd z (0 + j) v) := by
  unfold SW; rw [sg_in h, upd_ne (by omega), upd_ne (by omega), upd_ne (by omega), upd_ne (by omega), upd_ne (by omega), upd_ne (by omega), upd_ne (by omega), sg_out (o := 12) (by omega), sg_out (o := 76) (by omega), sg_out (o := 196) (by omega), sg_out (o := 216) (by omega)]
theorem SW_f {r k : Nat} (h : r * 8 + k < 64) : SWx g b (z 5) (z 6) (z 7) (z 8) (z 9) (z 10) (z 11) (sg z 0 5) (upd (sg z 12 64) (r * 8 + k) v) (sg z 76 120) (sg z 196 20) (sg z 216 32) = SW g b (upd z (12 + 8 * r + k) v) := by
  unfold SW; rw [sg_in h, show 12 + (r * 8 + k) = 12 + 8 * r + k by omega, upd_ne (by omega), upd_ne (by omega), upd_ne (by omega), upd_ne (by omega), upd_ne (by omega), upd_ne (by omega), upd_ne (by omega), sg_out (o := 0) (by omega), sg_out (o := 76) (by omega), sg_out (o := 196) (by omega), sg_out (o := 216) (by omega)]
theorem SW_p {r k : Nat} (h : r * 5 + k < 120) : SWx g b (z 5) (z 6) (z 7) (z 8) (z 9) (z 10) (z 11) (sg z 0 5) (sg z 12 64) (upd (sg z 76 120) (r * 5 + k) v) (sg z 196 20) (sg z 216 32) = SW g b (upd z (76 + 5 * r + k) v) := by
  unfold SW; rw [sg_in h, show 76 + (r * 5 + k) = 76 + 5 * r + k by omega, upd_ne (by omega), upd_ne (by omega), upd_ne (by omega), upd_ne (by omega), upd_ne (by omega), upd_ne (by omega), upd_ne (by omega), sg_out (o := 0) (by omega), sg_out (o := 12) (by omega), sg_out (o := 196) (by omega), sg_out (o := 216) (by omega)]
theorem SW_n {r k : Nat} (h : r * 5 + k < 20) : SWx g b (z 5) (z 6) (z 7) (z 8) (z 9) (z 10) (z 11) (sg z 0 5) (sg z 12 64) (sg z 76 120) (upd (sg z 196 20) (r * 5 + k) v) (sg z 216 32) = SW g b (upd z (196 + 5 * r + k) v) := by
  unfold SW; rw [sg_in h, show 196 + (r * 5 + k) = 196 + 5 * r + k by omega, upd_ne (by omega), upd_ne (by omega), upd_ne (by omega), upd_ne (by omega), upd_ne (by omega), upd_ne (by omega), upd_ne (by omega), sg_out (o := 0) (by omega), sg_out (o := 12) (by omega), sg_out (o := 76) (by omega), sg_out (o := 216) (by omega)]
theorem SW_t {r k : Nat} (h : r * 8 + k < 32) : SWx g b (z 5) (z 6) (z 7) (z 8) (z 9) (z 10) (z 11) (sg z 0 5) (sg z 12 64) (sg z 76 120) (sg z 196 20) (upd (sg z 216 32) (r * 8 + k) v) = SW g b (upd z (216 + 8 * r + k) v) := by
  unfold SW; rw [sg_in h, show 216 + (r * 8 + k) = 216 + 8 * r + k by omega, upd_ne (by omega), upd_ne (by omega), upd_ne (by omega), upd_ne (by omega), upd_ne (by omega), upd_ne (by omega), upd_ne (by omega), sg_out (o := 0) (by omega), sg_out (o := 12) (by omega), sg_out (o := 76) (by omega), sg_out (o := 196) (by omega)]
end SWL
theorem sg_a {z : Nat → Int32} {o n j : Nat} (h : j < n) : sg z o n j = z (o + j) := by
  unfold sg; rw [if_pos h]
theorem fu_congr {σ : Type} {F G : Nat → σ → σ} : ∀ (k i : Nat) (x : σ), (∀ j y, i ≤ j → j < i + k → F j y = G j y) → fu F i k x = fu G i k x
  | 0, i, x, _ => by rw [fu_0, fu_0]
  | k + 1, i, x, h => by rw [fu_s, fu_s, h i x (Nat.le_refl _) (by omega), fu_congr k (i + 1) (G i x) (fun j y h1 h2 => h j y (by omega) (by omega))]
theorem ts_sN {z : Nat → Int32} {k : Nat} (hk : k < 5) : fu (tsF (sg z 196 20) 5 k) 0 4 0 = sN z k := by
  unfold sN
  exact fu_congr 4 0 0 (fun j y _ h2 => by rw [tsF, sNF, sg_r (by omega)])
