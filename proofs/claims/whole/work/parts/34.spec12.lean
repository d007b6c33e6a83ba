/-! what keeps walks of the class and of the reference together: positions, the seed, trusts -/
theorem nx_nn (s : Int32) : 0 ≤ (nx s).toInt := by
  unfold nx
  generalize 1103515245 * s.toInt64 + 12345 = X
  have e3 : (2147483647 : Int64).toBitVec.toNat = 2 ^ 31 - 1 := by decide
  have e : ((X &&& 2147483647).toInt32).toBitVec.toNat < 2147483648 := by
    rw [Int64.toBitVec_toInt32, BitVec.signExtend_eq_setWidth_of_le _ (by decide), BitVec.toNat_setWidth, Int64.toBitVec_and, BitVec.toNat_and, e3, Nat.and_two_pow_sub_one_eq_mod]
    omega
  show 0 ≤ ((X &&& 2147483647).toInt32).toBitVec.toInt
  rw [BitVec.toInt_eq_toNat_of_lt (by omega)]
  omega
def IX (z : Nat → Int32) : Prop := (∀ f, f < 8 → IN (z (12 + 8 * f + 0)) 0 99) ∧ (∀ p, p < 24 → IN (z (76 + 5 * p + 0)) 0 99) ∧ IN (z 9) 0 99 ∧ 0 ≤ (z 8).toInt ∧ RT z
theorem IX.up {z : Nat → Int32} (h : IX z) {i : Nat} {v : Int32} (h1 : i ≠ 1) (h2 : i ≠ 2) (h8 : i ≠ 8) (h9 : i ≠ 9) (hf : ∀ f, f < 8 → i ≠ 12 + 8 * f + 0) (hp : ∀ p, p < 24 → i ≠ 76 + 5 * p + 0) (ht : i < 216) : IX (upd z i v) := by
  obtain ⟨a, b, c, d, e⟩ := h
  refine ⟨fun f q => by rw [upd_ne (Ne.symm (hf f q))]; exact a f q, fun p q => by rw [upd_ne (Ne.symm (hp p q))]; exact b p q, by rw [upd_ne (Ne.symm h9)]; exact c, by rw [upd_ne (Ne.symm h8)]; exact d, ⟨fun j hj => ?_, by rw [upd_ne (Ne.symm h1)]; exact e.2.1, by rw [upd_ne (Ne.symm h2)]; exact e.2.2⟩⟩
  rw [upd_ne (by omega)]; exact e.1 j hj
theorem IX.tm {z : Nat → Int32} (h : IX z) {n f : Nat} {d : Int32} : IX (tM z n f d) := by
  obtain ⟨a, b, c, d, e⟩ := h
  exact ⟨fun f q => by rw [tM_lo (by omega)]; exact a f q, fun p q => by rw [tM_lo (by omega)]; exact b p q, by rw [tM_lo (by omega)]; exact c, by rw [tM_lo (by omega)]; exact d, e.tm⟩
theorem IX.gz {z : Nat → Int32} (h : IX z) {x m : Int32} (hx : IN x 0 99) : IX (gz z x m) := by
  obtain ⟨a, b, c, d, e⟩ := h
  refine ⟨fun f q => by rw [gz_lo (by omega) (by omega)]; exact a f q, fun p q => by rw [gz_lo (by omega) (by omega)]; exact b p q, by rw [_root_.Jvm.Pilot.CGossipHeadLaw_law_r8652_253339.gz, upd_eq]; exact hx, by rw [gz_lo (by omega) (by omega)]; exact d, e.of (fun j hj => gz_lo (by omega) (by omega))⟩
theorem IX.dz {z : Nat → Int32} (h : IX z) : IX (dz z) := by
  obtain ⟨a, b, c, d, e⟩ := h
  refine ⟨fun f q => by rw [dz_lo (by omega)]; exact a f q, fun p q => by rw [dz_lo (by omega)]; exact b p q, by rw [dz_lo (by omega)]; exact c, ?_, e.of (fun j hj => dz_lo (by omega))⟩
  show 0 ≤ (upd z 8 (nx (z 8)) 8).toInt
  rw [upd_eq]; exact nx_nn _
theorem u3 {d : Nat → Int32} {A B T : Nat} {a b t : Int32} (h1 : A ≠ T) (h2 : B ≠ T) : upd (upd (upd d A a) B b) T t = upd (upd (upd d T t) A a) B b := by
  rw [upd_comm (i := B) (j := T) h2, upd_comm (i := A) (j := T) h1]
/-- a miss: the class counts first, the reference blames first -/
theorem trm_eq {z : Nat → Int32} {n f : Nat} (hn : n < 4) (hf : f < 8) : tM (upd (upd (td z n f) (12 + 8 * f + 6) (td z n f (12 + 8 * f + 6) + 1)) (196 + 5 * n + 2) (upd (td z n f) (12 + 8 * f + 6) (td z n f (12 + 8 * f + 6) + 1) (196 + 5 * n + 2) + 1)) n f (-(upd (upd (td z n f) (12 + 8 * f + 6) (td z n f (12 + 8 * f + 6) + 1)) (196 + 5 * n + 2) (upd (td z n f) (12 + 8 * f + 6) (td z n f (12 + 8 * f + 6) + 1) (196 + 5 * n + 2) + 1) 1)) = thZ z n f := by
  rw [thZ, tg, te]
  generalize td z n f = d
  unfold tM
  rw [u3 (by omega) (by omega)]
  repeat rw [upd_ne (f := d) (by omega)]
  repeat rw [upd_ne (k := 196 + 5 * n + 2) (by omega)]
  repeat rw [upd_ne (k := 12 + 8 * f + 6) (by omega)]
  repeat rw [upd_ne (k := 216 + 8 * n + f) (by omega)]
